def F_X9_within (n : Nat) (x0 : Int32) (x1 : Int32) (x2 : Int32) (d : DD) (dl : LL) (Q : Int32 → DD → LL → Prop) : Prop := (x0 < x1 → Q 0 d dl) ∧ (¬ x0 < x1 → (x2 < x0 → Q 0 d dl) ∧ (¬ x2 < x0 → Q 1 d dl))
set_option maxHeartbeats 4000000 in
set_option maxRecDepth 100000 in
theorem m_X9_within {g : Ex} {n : Nat} {x0 : Int32} {x1 : Int32} {x2 : Int32} {d : DD} {dl : LL} {Q : Int32 → DD → LL → Prop} (hw : F_X9_within n x0 x1 x2 d dl Q) : Mi g yX9_within cX9_within 3 (some .boolean) 0 0 [.int x0, .int x1, .int x2] d dl Q := by
  refine Mi.of (by decide) (Nat.le_of_ble_eq_true rfl) (fun x C0 hZ => ?_)
  have C0 : Cx g x cX9_within 3 (some .boolean) RX9 0 0 := C0
  refine f_iload_n C0 dX9_within_0 rfl 0 rfl ?_
  refine f_iload_n C0 dX9_within_1 rfl 1 rfl ?_
  refine f_icmp_lt (tgt := 14) C0 dX9_within_2 (by decide) (fun h1 => ?_) (fun h1 => ?_)
  · have hw := hw.1 h1
    refine f_iconst (v := 0) C0 dX9_within_14 rfl ?_
    exact f_zret C0 hZ (by decide) hw dX9_within_15
  · have hw := hw.2 h1
    refine f_iload_n C0 dX9_within_5 rfl 0 rfl ?_
    refine f_iload_n C0 dX9_within_6 rfl 2 rfl ?_
    refine f_icmp_gt (tgt := 14) C0 dX9_within_7 (by decide) (fun h2 => ?_) (fun h2 => ?_)
    · have hw := hw.1 h2
      refine f_iconst (v := 0) C0 dX9_within_14 rfl ?_
      exact f_zret C0 hZ (by decide) hw dX9_within_15
    · have hw := hw.2 h2
      refine f_iconst (v := 1) C0 dX9_within_10 rfl ?_
      refine f_goto (tgt := 15) C0 dX9_within_11 (by decide) ?_
      exact f_zret C0 hZ (by decide) hw dX9_within_15
def F_X4_add (n : Nat) (x1 : Int32) (x2 : Int32) (x3 : Int32) (x4 : Int32) (x5 : Int32) (d : DD) (dl : LL) (Q : Int32 → DD → LL → Prop) : Prop := vp_in (d 1 0) 40 ∧ ∀ d2 : DD, d2 = u2 d 2 (d 1 0).toNatClampNeg x1 → vp_in (d2 1 0) 40 ∧ ∀ d4 : DD, d4 = u2 d2 3 (d2 1 0).toNatClampNeg x2 → vp_in (d4 1 0) 40 ∧ ∀ d6 : DD, d6 = u2 d4 4 (d4 1 0).toNatClampNeg x3 → vp_in (d6 1 0) 40 ∧ ∀ d8 : DD, d8 = u2 d6 5 (d6 1 0).toNatClampNeg x4 → vp_in (d8 1 0) 40 ∧ ∀ d10 : DD, d10 = u2 d8 6 (d8 1 0).toNatClampNeg x5 → ∀ d11 : DD, d11 = u2 d10 1 0 ((d10 1 0) + 1) → Q ((d11 1 0) - 1) d11 dl
set_option maxHeartbeats 4000000 in
set_option maxRecDepth 100000 in
theorem m_X4_add {g : Ex} {n : Nat} {x1 : Int32} {x2 : Int32} {x3 : Int32} {x4 : Int32} {x5 : Int32} {d : DD} {dl : LL} {Q : Int32 → DD → LL → Prop} (hw : F_X4_add n x1 x2 x3 x4 x5 d dl Q) : Mi g yX4_add cX4_add 6 (some .int) 0 0 [rf g 1, .int x1, .int x2, .int x3, .int x4, .int x5] d dl Q := by
  refine Mi.of (by decide) (Nat.le_of_ble_eq_true rfl) (fun x C0 hZ => ?_)
  have C0 : Cx g x cX4_add 6 (some .int) RX4 0 0 := C0
  refine f_aload_n C0 dX4_add_0 rfl 0 rfl ⟨_, rfl⟩ ?_
  refine gf_4_1 (r := 2) C0 rfl kn_1 mw_80 dX4_add_1 ?_
  refine f_aload_n C0 dX4_add_4 rfl 0 rfl ⟨_, rfl⟩ ?_
  refine gf_4_0 C0 kn_1 mw_78 dX4_add_5 ?_
  refine f_iload_n C0 dX4_add_8 rfl 1 rfl ?_
  obtain ⟨h1, hw⟩ := hw
  refine f_iast C0 kn_2 h1 dX4_add_9 (fun d2 ed2 => ?_)
  have hw := hw d2 ed2
  refine f_aload_n C0 dX4_add_10 rfl 0 rfl ⟨_, rfl⟩ ?_
  refine gf_4_2 (r := 3) C0 rfl kn_1 mw_84 dX4_add_11 ?_
  refine f_aload_n C0 dX4_add_14 rfl 0 rfl ⟨_, rfl⟩ ?_
  refine gf_4_0 C0 kn_1 mw_78 dX4_add_15 ?_
  refine f_iload_n C0 dX4_add_18 rfl 2 rfl ?_
  obtain ⟨h3, hw⟩ := hw
  refine f_iast C0 kn_3 h3 dX4_add_19 (fun d4 ed4 => ?_)
  have hw := hw d4 ed4
  refine f_aload_n C0 dX4_add_20 rfl 0 rfl ⟨_, rfl⟩ ?_
  refine gf_4_3 (r := 4) C0 rfl kn_1 mw_88 dX4_add_21 ?_
  refine f_aload_n C0 dX4_add_24 rfl 0 rfl ⟨_, rfl⟩ ?_
  refine gf_4_0 C0 kn_1 mw_78 dX4_add_25 ?_
  refine f_iload_n C0 dX4_add_28 rfl 3 rfl ?_
  obtain ⟨h5, hw⟩ := hw
  refine f_iast C0 kn_4 h5 dX4_add_29 (fun d6 ed6 => ?_)
  have hw := hw d6 ed6
  refine f_aload_n C0 dX4_add_30 rfl 0 rfl ⟨_, rfl⟩ ?_
  refine gf_4_4 (r := 5) C0 rfl kn_1 mw_90 dX4_add_31 ?_
  refine f_aload_n C0 dX4_add_34 rfl 0 rfl ⟨_, rfl⟩ ?_
  refine gf_4_0 C0 kn_1 mw_78 dX4_add_35 ?_
  refine f_iload C0 dX4_add_38 4 rfl ?_
  obtain ⟨h7, hw⟩ := hw
  refine f_iast C0 kn_5 h7 dX4_add_40 (fun d8 ed8 => ?_)
  have hw := hw d8 ed8
  refine f_aload_n C0 dX4_add_41 rfl 0 rfl ⟨_, rfl⟩ ?_
  refine gf_4_5 (r := 6) C0 rfl kn_1 mw_92 dX4_add_42 ?_
  refine f_aload_n C0 dX4_add_45 rfl 0 rfl ⟨_, rfl⟩ ?_
  refine gf_4_0 C0 kn_1 mw_78 dX4_add_46 ?_
  refine f_iload C0 dX4_add_49 5 rfl ?_
  obtain ⟨h9, hw⟩ := hw
  refine f_iast C0 kn_6 h9 dX4_add_51 (fun d10 ed10 => ?_)
  have hw := hw d10 ed10
  refine f_aload_n C0 dX4_add_52 rfl 0 rfl ⟨_, rfl⟩ ?_
  refine f_dup C0 dX4_add_53 rfl ?_
  refine gf_4_0 C0 kn_1 mw_78 dX4_add_54 ?_
  refine f_iconst (v := 1) C0 dX4_add_57 rfl ?_
  refine f_iadd C0 dX4_add_58 ?_
  refine pf_4_0 C0 kn_1 mw_78 dX4_add_59 (fun d11 ed11 => ?_)
  have hw := hw d11 ed11
  refine f_aload_n C0 dX4_add_62 rfl 0 rfl ⟨_, rfl⟩ ?_
  refine gf_4_0 C0 kn_1 mw_78 dX4_add_63 ?_
  refine f_iconst (v := 1) C0 dX4_add_66 rfl ?_
  refine f_isub C0 dX4_add_67 ?_
  exact f_iret C0 hZ hw dX4_add_68
def F_X9_paddler (n : Nat) (x1 : Int32) (x2 : Int32) (x3 : Int32) (x4 : Int32) (x5 : Int32) (d : DD) (dl : LL) (Q : Int32 → DD → LL → Prop) : Prop := F_X9_within n x1 30 150 d dl (fun r1 d2 l3 => (r1 = 0 → Q (-2) d2 l3) ∧ (¬ r1 = 0 → F_X9_within n x2 1 99 d2 l3 (fun r5 d6 l7 => (r5 = 0 → Q (-2) d6 l7) ∧ (¬ r5 = 0 → F_X9_within n x3 0 2 d6 l7 (fun r9 d10 l11 => (r9 = 0 → Q (-2) d10 l11) ∧ (¬ r9 = 0 → F_X9_within n x4 0 1 d10 l11 (fun r13 d14 l15 => (r13 = 0 → Q (-2) d14 l15) ∧ (¬ r13 = 0 → F_X9_within n x5 10 90 d14 l15 (fun r17 d18 l19 => (¬ r17 = 0 → ((d18 1 0) < 40 → F_X4_add n x1 x2 x3 x4 x5 d18 l19 (fun r22 d23 l24 => Q r22 d23 l24)) ∧ (¬ (d18 1 0) < 40 → Q (-4) d18 l19)) ∧ (r17 = 0 → Q (-2) d18 l19))))))))))
set_option maxHeartbeats 4000000 in
set_option maxRecDepth 100000 in
theorem m_X9_paddler {g : Ex} {n : Nat} {x1 : Int32} {x2 : Int32} {x3 : Int32} {x4 : Int32} {x5 : Int32} {d : DD} {dl : LL} {Q : Int32 → DD → LL → Prop} (hw : F_X9_paddler n x1 x2 x3 x4 x5 d dl Q) : Mi g yX9_paddler cX9_paddler 6 (some .int) 1 25 [rf g 0, .int x1, .int x2, .int x3, .int x4, .int x5] d dl Q := by
  refine Mi.of (by decide) (Nat.le_of_ble_eq_true rfl) (fun x C0 hZ => ?_)
  have C0 : Cx g x cX9_paddler 6 (some .int) RX9 1 25 := C0
  refine f_iload_n C0 dX9_paddler_0 rfl 1 rfl ?_
  refine f_bipush (v := 30) C0 dX9_paddler_1 rfl ?_
  refine f_sipush (v := 150) C0 dX9_paddler_3 rfl ?_
  refine f_callSi (As := [.int x1, .int 30, .int 150]) (rest := []) C0 (m_X9_within hw) cw_X9_97  ⟨(Nat.le_of_ble_eq_true rfl), (Nat.le_of_ble_eq_true rfl)⟩ rfl rfl (Nat.le_of_ble_eq_true rfl) dX9_paddler_6 ?_
  intro r1 d2 l3 hw
  refine f_if_eq (tgt := 53) C0 dX9_paddler_9 (by decide) (fun h4 => ?_) (fun h4 => ?_)
  · have hw := hw.1 h4
    refine f_bipush (v := (-2)) C0 dX9_paddler_53 rfl ?_
    exact f_iret C0 hZ hw dX9_paddler_55
  · have hw := hw.2 h4
    refine f_iload_n C0 dX9_paddler_12 rfl 2 rfl ?_
    refine f_iconst (v := 1) C0 dX9_paddler_13 rfl ?_
    refine f_bipush (v := 99) C0 dX9_paddler_14 rfl ?_
    refine f_callSi (As := [.int x2, .int 1, .int 99]) (rest := []) C0 (m_X9_within hw) cw_X9_97  ⟨(Nat.le_of_ble_eq_true rfl), (Nat.le_of_ble_eq_true rfl)⟩ rfl rfl (Nat.le_of_ble_eq_true rfl) dX9_paddler_16 ?_
    intro r5 d6 l7 hw
    refine f_if_eq (tgt := 53) C0 dX9_paddler_19 (by decide) (fun h8 => ?_) (fun h8 => ?_)
    · have hw := hw.1 h8
      refine f_bipush (v := (-2)) C0 dX9_paddler_53 rfl ?_
      exact f_iret C0 hZ hw dX9_paddler_55
    · have hw := hw.2 h8
      refine f_iload_n C0 dX9_paddler_22 rfl 3 rfl ?_
      refine f_iconst (v := 0) C0 dX9_paddler_23 rfl ?_
      refine f_iconst (v := 2) C0 dX9_paddler_24 rfl ?_
      refine f_callSi (As := [.int x3, .int 0, .int 2]) (rest := []) C0 (m_X9_within hw) cw_X9_97  ⟨(Nat.le_of_ble_eq_true rfl), (Nat.le_of_ble_eq_true rfl)⟩ rfl rfl (Nat.le_of_ble_eq_true rfl) dX9_paddler_25 ?_
      intro r9 d10 l11 hw
      refine f_if_eq (tgt := 53) C0 dX9_paddler_28 (by decide) (fun h12 => ?_) (fun h12 => ?_)
      · have hw := hw.1 h12
        refine f_bipush (v := (-2)) C0 dX9_paddler_53 rfl ?_
        exact f_iret C0 hZ hw dX9_paddler_55
      · have hw := hw.2 h12
        refine f_iload C0 dX9_paddler_31 4 rfl ?_
        refine f_iconst (v := 0) C0 dX9_paddler_33 rfl ?_
        refine f_iconst (v := 1) C0 dX9_paddler_34 rfl ?_
        refine f_callSi (As := [.int x4, .int 0, .int 1]) (rest := []) C0 (m_X9_within hw) cw_X9_97  ⟨(Nat.le_of_ble_eq_true rfl), (Nat.le_of_ble_eq_true rfl)⟩ rfl rfl (Nat.le_of_ble_eq_true rfl) dX9_paddler_35 ?_
        intro r13 d14 l15 hw
        refine f_if_eq (tgt := 53) C0 dX9_paddler_38 (by decide) (fun h16 => ?_) (fun h16 => ?_)
        · have hw := hw.1 h16
          refine f_bipush (v := (-2)) C0 dX9_paddler_53 rfl ?_
          exact f_iret C0 hZ hw dX9_paddler_55
        · have hw := hw.2 h16
          refine f_iload C0 dX9_paddler_41 5 rfl ?_
          refine f_bipush (v := 10) C0 dX9_paddler_43 rfl ?_
          refine f_bipush (v := 90) C0 dX9_paddler_45 rfl ?_
          refine f_callSi (As := [.int x5, .int 10, .int 90]) (rest := []) C0 (m_X9_within hw) cw_X9_97  ⟨(Nat.le_of_ble_eq_true rfl), (Nat.le_of_ble_eq_true rfl)⟩ rfl rfl (Nat.le_of_ble_eq_true rfl) dX9_paddler_47 ?_
          intro r17 d18 l19 hw
          refine f_if_ne (tgt := 56) C0 dX9_paddler_50 (by decide) (fun h20 => ?_) (fun h20 => ?_)
          · have hw := hw.1 h20
            refine f_aload_n C0 dX9_paddler_56 rfl 0 rfl ⟨_, rfl⟩ ?_
            refine gf_9_0 (r := 1) C0 rfl kn_0 mw_368 dX9_paddler_57 ?_
            refine gf_4_0 C0 kn_1 mw_79 dX9_paddler_60 ?_
            refine f_bipush (v := 40) C0 dX9_paddler_63 rfl ?_
            refine f_icmp_lt (tgt := 71) C0 dX9_paddler_65 (by decide) (fun h21 => ?_) (fun h21 => ?_)
            · have hw := hw.1 h21
              refine f_aload_n C0 dX9_paddler_71 rfl 0 rfl ⟨_, rfl⟩ ?_
              refine gf_9_0 (r := 1) C0 rfl kn_0 mw_368 dX9_paddler_72 ?_
              refine f_iload_n C0 dX9_paddler_75 rfl 1 rfl ?_
              refine f_iload_n C0 dX9_paddler_76 rfl 2 rfl ?_
              refine f_iload_n C0 dX9_paddler_77 rfl 3 rfl ?_
              refine f_iload C0 dX9_paddler_78 4 rfl ?_
              refine f_iload C0 dX9_paddler_80 5 rfl ?_
              refine f_callVi (As := [.int x1, .int x2, .int x3, .int x4, .int x5]) (rest := []) C0 (m_X4_add hw) cw_X9_104 kn_1 (by decide) rfl rfl ⟨(Nat.le_of_ble_eq_true rfl), (Nat.le_of_ble_eq_true rfl)⟩ rfl rfl (Nat.le_of_ble_eq_true rfl) dX9_paddler_82 ?_
              intro r22 d23 l24 hw
              exact f_iret C0 hZ hw dX9_paddler_85
            · have hw := hw.2 h21
              refine f_bipush (v := (-4)) C0 dX9_paddler_68 rfl ?_
              exact f_iret C0 hZ hw dX9_paddler_70
          · have hw := hw.2 h20
            refine f_bipush (v := (-2)) C0 dX9_paddler_53 rfl ?_
            exact f_iret C0 hZ hw dX9_paddler_55
def F_X4_has (n : Nat) (x1 : Int32) (d : DD) (dl : LL) (Q : Int32 → DD → LL → Prop) : Prop := F_X9_within n x1 0 ((d 1 0) - 1) d dl (fun r1 d2 l3 => narrow .boolean (.int r1) = .int r1 ∧ Q r1 d2 l3)
set_option maxHeartbeats 4000000 in
set_option maxRecDepth 100000 in
theorem m_X4_has {g : Ex} {n : Nat} {x1 : Int32} {d : DD} {dl : LL} {Q : Int32 → DD → LL → Prop} (hw : F_X4_has n x1 d dl Q) : Mi g yX4_has cX4_has 2 (some .boolean) 1 22 [rf g 1, .int x1] d dl Q := by
  refine Mi.of (by decide) (Nat.le_of_ble_eq_true rfl) (fun x C0 hZ => ?_)
  have C0 : Cx g x cX4_has 2 (some .boolean) RX4 1 22 := C0
  refine f_iload_n C0 dX4_has_0 rfl 1 rfl ?_
  refine f_iconst (v := 0) C0 dX4_has_1 rfl ?_
  refine f_aload_n C0 dX4_has_2 rfl 0 rfl ⟨_, rfl⟩ ?_
  refine gf_4_0 C0 kn_1 mw_78 dX4_has_3 ?_
  refine f_iconst (v := 1) C0 dX4_has_6 rfl ?_
  refine f_isub C0 dX4_has_7 ?_
  refine f_callNi (As := [.int x1, .int 0, .int ((d 1 0) - 1)]) (rest := []) C0 (m_X9_within hw) cw_X4_35 (fun U h => h.1) ⟨(Nat.le_of_ble_eq_true rfl), (Nat.le_of_ble_eq_true rfl)⟩ rfl rfl (Nat.le_of_ble_eq_true rfl) dX4_has_8 ?_
  intro r1 d2 l3 hw
  exact f_zret C0 hZ hw.1 hw.2 dX4_has_11
def F_X4_areFriends (n : Nat) (x1 : Int32) (x2 : Int32) (d : DD) (dl : LL) (Q : Int32 → DD → LL → Prop) : Prop := vp_in x1 40 ∧ ((lg_cmp ((lushr (dl 7 x1.toNatClampNeg) x2) &&& 1) 0) = 0 → Q 0 d dl) ∧ (¬ (lg_cmp ((lushr (dl 7 x1.toNatClampNeg) x2) &&& 1) 0) = 0 → Q 1 d dl)
set_option maxHeartbeats 4000000 in
set_option maxRecDepth 100000 in
theorem m_X4_areFriends {g : Ex} {n : Nat} {x1 : Int32} {x2 : Int32} {d : DD} {dl : LL} {Q : Int32 → DD → LL → Prop} (hw : F_X4_areFriends n x1 x2 d dl Q) : Mi g yX4_areFriends cX4_areFriends 3 (some .boolean) 0 0 [rf g 1, .int x1, .int x2] d dl Q := by
  refine Mi.of (by decide) (Nat.le_of_ble_eq_true rfl) (fun x C0 hZ => ?_)
  have C0 : Cx g x cX4_areFriends 3 (some .boolean) RX4 0 0 := C0
  refine f_aload_n C0 dX4_areFriends_0 rfl 0 rfl ⟨_, rfl⟩ ?_
  refine gf_4_6 (r := 7) C0 rfl kn_1 mw_94 dX4_areFriends_1 ?_
  refine f_iload_n C0 dX4_areFriends_4 rfl 1 rfl ?_
  obtain ⟨h1, hw⟩ := hw
  refine f_lald C0 kn_7 h1 dX4_areFriends_5 ?_
  refine f_iload_n C0 dX4_areFriends_6 rfl 2 rfl ?_
  refine f_lushr C0 dX4_areFriends_7 ?_
  refine f_lconst (v := 1) C0 dX4_areFriends_8 rfl ?_
  refine f_land C0 dX4_areFriends_9 ?_
  refine f_lconst (v := 0) C0 dX4_areFriends_10 rfl ?_
  refine f_lcmp C0 dX4_areFriends_11 ?_
  refine f_if_eq (tgt := 19) C0 dX4_areFriends_12 (by decide) (fun h2 => ?_) (fun h2 => ?_)
  · have hw := hw.1 h2
    refine f_iconst (v := 0) C0 dX4_areFriends_19 rfl ?_
    exact f_zret C0 hZ (by decide) hw dX4_areFriends_20
  · have hw := hw.2 h2
    refine f_iconst (v := 1) C0 dX4_areFriends_15 rfl ?_
    refine f_goto (tgt := 20) C0 dX4_areFriends_16 (by decide) ?_
    exact f_zret C0 hZ (by decide) hw dX4_areFriends_20
def b_X4_setFriends_44 (n : Nat) (Q : DD → LL → Prop) (x2 : Int32) (x3 : Int32) (y4 : Int64) (ys0 : Int64) (xs1 : Int32) (d : DD) (dl : LL) : Prop := vp_in xs1 40 ∧ ∀ l6 : LL, l6 = l2 dl 7 xs1.toNatClampNeg ys0 → (x3 = 0 → vp_in x2 40 ∧ vp_in x2 40 ∧ ∀ l10 : LL, l10 = l2 l6 7 x2.toNatClampNeg ((l6 7 x2.toNatClampNeg) &&& (y4 ^^^ (-1))) → Q d l10) ∧ (¬ x3 = 0 → vp_in x2 40 ∧ vp_in x2 40 ∧ ∀ l13 : LL, l13 = l2 l6 7 x2.toNatClampNeg ((l6 7 x2.toNatClampNeg) ||| y4) → Q d l13)
def F_X4_setFriends (n : Nat) (x1 : Int32) (x2 : Int32) (x3 : Int32) (d : DD) (dl : LL) (Q : DD → LL → Prop) : Prop := ∀ v1 : Int64, v1 = (lshl 1 x1) → ∀ v2 : Int64, v2 = (lshl 1 x2) → (x3 = 0 → vp_in x1 40 ∧ b_X4_setFriends_44 n Q x2 x3 v1 ((dl 7 x1.toNatClampNeg) &&& (v2 ^^^ (-1))) x1 d dl) ∧ (¬ x3 = 0 → vp_in x1 40 ∧ b_X4_setFriends_44 n Q x2 x3 v1 ((dl 7 x1.toNatClampNeg) ||| v2) x1 d dl)
set_option maxHeartbeats 4000000 in
set_option maxRecDepth 100000 in
theorem t_X4_setFriends_44 {g : Ex} {x : Fx} {n : Nat} {Q : DD → LL → Prop} (C0 : Cx g x cX4_setFriends 8 none RX4 0 0) (hZ : Zv g x Q) : ∀ (x2 : Int32) (x3 : Int32) (y4 : Int64) (ys0 : Int64) (xs1 : Int32) (d : DD) (dl : LL), b_X4_setFriends_44 n Q x2 x3 y4 ys0 xs1 d dl → FW g x 8 d dl 44 [(0, rf g 1), (2, .int x2), (3, .int x3), (4, .long y4)] [.long ys0, .int xs1, rf g 7] := by
  intro x2 x3 y4 ys0 xs1 d dl hw
  obtain ⟨h5, hw⟩ := hw
  refine f_last C0 kn_7 h5 dX4_setFriends_44 (fun l6 el6 => ?_)
  have hw := hw l6 el6
  refine f_aload_n C0 dX4_setFriends_45 rfl 0 rfl ⟨_, rfl⟩ ?_
  refine gf_4_6 (r := 7) C0 rfl kn_1 mw_94 dX4_setFriends_46 ?_
  refine f_iload_n C0 dX4_setFriends_49 rfl 1 rfl ?_
  refine f_iload_n C0 dX4_setFriends_50 rfl 2 rfl ?_
  refine f_if_eq (tgt := 66) C0 dX4_setFriends_51 (by decide) (fun h7 => ?_) (fun h7 => ?_)
  · have hw := hw.1 h7
    refine f_aload_n C0 dX4_setFriends_66 rfl 0 rfl ⟨_, rfl⟩ ?_
    refine gf_4_6 (r := 7) C0 rfl kn_1 mw_94 dX4_setFriends_67 ?_
    refine f_iload_n C0 dX4_setFriends_70 rfl 1 rfl ?_
    obtain ⟨h8, hw⟩ := hw
    refine f_lald C0 kn_7 h8 dX4_setFriends_71 ?_
    refine f_lload C0 dX4_setFriends_72 3 rfl ?_
    refine f_ldc2 (v := (-1)) C0 mw_445 dX4_setFriends_74 ?_
    refine f_lxor C0 dX4_setFriends_77 ?_
    refine f_land C0 dX4_setFriends_78 ?_
    obtain ⟨h9, hw⟩ := hw
    refine f_last C0 kn_7 h9 dX4_setFriends_79 (fun l10 el10 => ?_)
    have hw := hw l10 el10
    exact f_vret C0 hZ hw dX4_setFriends_80
  · have hw := hw.2 h7
    refine f_aload_n C0 dX4_setFriends_54 rfl 0 rfl ⟨_, rfl⟩ ?_
    refine gf_4_6 (r := 7) C0 rfl kn_1 mw_94 dX4_setFriends_55 ?_
    refine f_iload_n C0 dX4_setFriends_58 rfl 1 rfl ?_
    obtain ⟨h11, hw⟩ := hw
    refine f_lald C0 kn_7 h11 dX4_setFriends_59 ?_
    refine f_lload C0 dX4_setFriends_60 3 rfl ?_
    refine f_lor C0 dX4_setFriends_62 ?_
    refine f_goto (tgt := 79) C0 dX4_setFriends_63 (by decide) ?_
    obtain ⟨h12, hw⟩ := hw
    refine f_last C0 kn_7 h12 dX4_setFriends_79 (fun l13 el13 => ?_)
    have hw := hw l13 el13
    exact f_vret C0 hZ hw dX4_setFriends_80
set_option maxHeartbeats 4000000 in
set_option maxRecDepth 100000 in
theorem m_X4_setFriends {g : Ex} {n : Nat} {x1 : Int32} {x2 : Int32} {x3 : Int32} {d : DD} {dl : LL} {Q : DD → LL → Prop} (hw : F_X4_setFriends n x1 x2 x3 d dl Q) : Mv g yX4_setFriends cX4_setFriends 8 none 0 0 [rf g 1, .int x1, .int x2, .int x3] d dl Q := by
  refine Mv.of (by decide) (Nat.le_of_ble_eq_true rfl) (fun x C0 hZ => ?_)
  have C0 : Cx g x cX4_setFriends 8 none RX4 0 0 := C0
  refine f_lconst (v := 1) C0 dX4_setFriends_0 rfl ?_
  refine f_iload_n C0 dX4_setFriends_1 rfl 1 rfl ?_
  refine f_lshl C0 dX4_setFriends_2 ?_
  refine f_topl (fun v1 e1 => ?_)
  have hw := hw v1 e1
  refine f_lstore (lo' := [(4, .long v1), (0, rf g 1), (1, .int x1), (2, .int x2), (3, .int x3)]) C0 dX4_setFriends_3 (by decide) rfl ?_
  refine f_lconst (v := 1) C0 dX4_setFriends_5 rfl ?_
  refine f_iload_n C0 dX4_setFriends_6 rfl 3 rfl ?_
  refine f_lshl C0 dX4_setFriends_7 ?_
  refine f_topl (fun v2 e2 => ?_)
  have hw := hw v2 e2
  refine f_lstore (lo' := [(6, .long v2), (4, .long v1), (0, rf g 1), (1, .int x1), (2, .int x2), (3, .int x3)]) C0 dX4_setFriends_8 (by decide) rfl ?_
  refine f_aload_n C0 dX4_setFriends_10 rfl 2 rfl ⟨_, rfl⟩ ?_
  refine gf_4_6 (r := 7) C0 rfl kn_1 mw_94 dX4_setFriends_11 ?_
  refine f_iload_n C0 dX4_setFriends_14 rfl 3 rfl ?_
  refine f_iload_n C0 dX4_setFriends_15 rfl 5 rfl ?_
  refine f_if_eq (tgt := 31) C0 dX4_setFriends_16 (by decide) (fun h3 => ?_) (fun h3 => ?_)
  · have hw := hw.1 h3
    refine f_aload_n C0 dX4_setFriends_31 rfl 2 rfl ⟨_, rfl⟩ ?_
    refine gf_4_6 (r := 7) C0 rfl kn_1 mw_94 dX4_setFriends_32 ?_
    refine f_iload_n C0 dX4_setFriends_35 rfl 3 rfl ?_
    obtain ⟨h4, hw⟩ := hw
    refine f_lald C0 kn_7 h4 dX4_setFriends_36 ?_
    refine f_lload C0 dX4_setFriends_37 0 rfl ?_
    refine f_ldc2 (v := (-1)) C0 mw_445 dX4_setFriends_39 ?_
    refine f_lxor C0 dX4_setFriends_42 ?_
    refine f_land C0 dX4_setFriends_43 ?_
    refine f_sub [2, 4, 5, 1] rfl ?_
    exact t_X4_setFriends_44 C0 hZ _ _ _ _ _ _ _ hw
  · have hw := hw.2 h3
    refine f_aload_n C0 dX4_setFriends_19 rfl 2 rfl ⟨_, rfl⟩ ?_
    refine gf_4_6 (r := 7) C0 rfl kn_1 mw_94 dX4_setFriends_20 ?_
    refine f_iload_n C0 dX4_setFriends_23 rfl 3 rfl ?_
    obtain ⟨h14, hw⟩ := hw
    refine f_lald C0 kn_7 h14 dX4_setFriends_24 ?_
    refine f_lload C0 dX4_setFriends_25 0 rfl ?_
    refine f_lor C0 dX4_setFriends_27 ?_
    refine f_goto (tgt := 44) C0 dX4_setFriends_28 (by decide) ?_
    refine f_sub [2, 4, 5, 1] rfl ?_
    exact t_X4_setFriends_44 C0 hZ _ _ _ _ _ _ _ hw
def b_X9_like_76 (n : Nat) (Q : Int32 → DD → LL → Prop) (x4 : Int32) (xs0 : Int32) (xs1 : Int32) (xs2 : Int32) (d : DD) (dl : LL) : Prop := F_X4_setFriends n xs2 xs1 xs0 d dl (fun d20 l21 => Q x4 d20 l21)
def b_X9_like_58 (n : Nat) (Q : Int32 → DD → LL → Prop) (x1 : Int32) (x2 : Int32) (x3 : Int32) (xs0 : Int32) (d : DD) (dl : LL) : Prop := (¬ x3 = 1 → b_X9_like_76 n Q xs0 0 x2 x1 d dl) ∧ (x3 = 1 → b_X9_like_76 n Q xs0 1 x2 x1 d dl)
def F_X9_like (n : Nat) (x1 : Int32) (x2 : Int32) (x3 : Int32) (d : DD) (dl : LL) (Q : Int32 → DD → LL → Prop) : Prop := F_X4_has n x1 d dl (fun r1 d2 l3 => (r1 = 0 → Q (-1) d2 l3) ∧ (¬ r1 = 0 → F_X4_has n x2 d2 l3 (fun r5 d6 l7 => (¬ r5 = 0 → F_X9_within n x3 0 1 d6 l7 (fun r9 d10 l11 => (r9 = 0 → Q (-2) d10 l11) ∧ (¬ r9 = 0 → (¬ x1 = x2 → F_X4_areFriends n x1 x2 d10 l11 (fun r14 d15 l16 => (r14 = 0 → b_X9_like_58 n Q x1 x2 x3 0 d15 l16) ∧ (¬ r14 = 0 → b_X9_like_58 n Q x1 x2 x3 1 d15 l16))) ∧ (x1 = x2 → Q (-2) d10 l11)))) ∧ (r5 = 0 → Q (-1) d6 l7))))
set_option maxHeartbeats 4000000 in
set_option maxRecDepth 100000 in
theorem t_X9_like_76 {g : Ex} {x : Fx} {n : Nat} {Q : Int32 → DD → LL → Prop} (C0 : Cx g x cX9_like 5 (some .int) RX9 2 43) (hZ : Zi g x Q) : ∀ (x4 : Int32) (xs0 : Int32) (xs1 : Int32) (xs2 : Int32) (d : DD) (dl : LL), b_X9_like_76 n Q x4 xs0 xs1 xs2 d dl → FW g x 5 d dl 76 [(4, .int x4)] [.int xs0, .int xs1, .int xs2, rf g 1] := by
  intro x4 xs0 xs1 xs2 d dl hw
  refine f_callVv (As := [.int xs2, .int xs1, .int xs0]) (rest := []) C0 (m_X4_setFriends hw) cw_X9_116 kn_1 (by decide) rfl rfl ⟨(Nat.le_of_ble_eq_true rfl), (Nat.le_of_ble_eq_true rfl)⟩ rfl rfl (Nat.le_of_ble_eq_true rfl) dX9_like_76 ?_
  intro d20 l21 hw
  refine f_iload C0 dX9_like_79 0 rfl ?_
  exact f_iret C0 hZ hw dX9_like_81
set_option maxHeartbeats 4000000 in
set_option maxRecDepth 100000 in
theorem t_X9_like_58 {g : Ex} {x : Fx} {n : Nat} {Q : Int32 → DD → LL → Prop} (C0 : Cx g x cX9_like 5 (some .int) RX9 2 43) (hZ : Zi g x Q) : ∀ (x1 : Int32) (x2 : Int32) (x3 : Int32) (xs0 : Int32) (d : DD) (dl : LL), b_X9_like_58 n Q x1 x2 x3 xs0 d dl → FW g x 5 d dl 58 [(0, rf g 0), (1, .int x1), (2, .int x2), (3, .int x3)] [.int xs0] := by
  intro x1 x2 x3 xs0 d dl hw
  refine f_istore (lo' := [(4, .int xs0), (0, rf g 0), (1, .int x1), (2, .int x2), (3, .int x3)]) C0 dX9_like_58 (by decide) rfl ?_
  refine f_aload_n C0 dX9_like_60 rfl 1 rfl ⟨_, rfl⟩ ?_
  refine gf_9_0 (r := 1) C0 rfl kn_0 mw_368 dX9_like_61 ?_
  refine f_iload_n C0 dX9_like_64 rfl 2 rfl ?_
  refine f_iload_n C0 dX9_like_65 rfl 3 rfl ?_
  refine f_iload_n C0 dX9_like_66 rfl 4 rfl ?_
  refine f_iconst (v := 1) C0 dX9_like_67 rfl ?_
  refine f_icmp_ne (tgt := 75) C0 dX9_like_68 (by decide) (fun h18 => ?_) (fun h18 => ?_)
  · have hw := hw.1 h18
    refine f_iconst (v := 0) C0 dX9_like_75 rfl ?_
    refine f_sub [0] rfl ?_
    exact t_X9_like_76 C0 hZ _ _ _ _ _ _ hw
  · have hw := hw.2 h18
    refine f_iconst (v := 1) C0 dX9_like_71 rfl ?_
    refine f_goto (tgt := 76) C0 dX9_like_72 (by decide) ?_
    refine f_sub [0] rfl ?_
    exact t_X9_like_76 C0 hZ _ _ _ _ _ _ hw
set_option maxHeartbeats 4000000 in
set_option maxRecDepth 100000 in
theorem m_X9_like {g : Ex} {n : Nat} {x1 : Int32} {x2 : Int32} {x3 : Int32} {d : DD} {dl : LL} {Q : Int32 → DD → LL → Prop} (hw : F_X9_like n x1 x2 x3 d dl Q) : Mi g yX9_like cX9_like 5 (some .int) 2 43 [rf g 0, .int x1, .int x2, .int x3] d dl Q := by
  refine Mi.of (by decide) (Nat.le_of_ble_eq_true rfl) (fun x C0 hZ => ?_)
  have C0 : Cx g x cX9_like 5 (some .int) RX9 2 43 := C0
  refine f_aload_n C0 dX9_like_0 rfl 0 rfl ⟨_, rfl⟩ ?_
  refine gf_9_0 (r := 1) C0 rfl kn_0 mw_368 dX9_like_1 ?_
  refine f_iload_n C0 dX9_like_4 rfl 1 rfl ?_
  refine f_callVi (As := [.int x1]) (rest := []) C0 (m_X4_has hw) cw_X9_108 kn_1 (by decide) rfl rfl ⟨(Nat.le_of_ble_eq_true rfl), (Nat.le_of_ble_eq_true rfl)⟩ rfl rfl (Nat.le_of_ble_eq_true rfl) dX9_like_5 ?_
  intro r1 d2 l3 hw
  refine f_if_eq (tgt := 22) C0 dX9_like_8 (by decide) (fun h4 => ?_) (fun h4 => ?_)
  · have hw := hw.1 h4
    refine f_iconst (v := (-1)) C0 dX9_like_22 rfl ?_
    exact f_iret C0 hZ hw dX9_like_23
  · have hw := hw.2 h4
    refine f_aload_n C0 dX9_like_11 rfl 0 rfl ⟨_, rfl⟩ ?_
    refine gf_9_0 (r := 1) C0 rfl kn_0 mw_368 dX9_like_12 ?_
    refine f_iload_n C0 dX9_like_15 rfl 2 rfl ?_
    refine f_callVi (As := [.int x2]) (rest := []) C0 (m_X4_has hw) cw_X9_108 kn_1 (by decide) rfl rfl ⟨(Nat.le_of_ble_eq_true rfl), (Nat.le_of_ble_eq_true rfl)⟩ rfl rfl (Nat.le_of_ble_eq_true rfl) dX9_like_16 ?_
    intro r5 d6 l7 hw
    refine f_if_ne (tgt := 24) C0 dX9_like_19 (by decide) (fun h8 => ?_) (fun h8 => ?_)
    · have hw := hw.1 h8
      refine f_iload_n C0 dX9_like_24 rfl 3 rfl ?_
      refine f_iconst (v := 0) C0 dX9_like_25 rfl ?_
      refine f_iconst (v := 1) C0 dX9_like_26 rfl ?_
      refine f_callSi (As := [.int x3, .int 0, .int 1]) (rest := []) C0 (m_X9_within hw) cw_X9_97  ⟨(Nat.le_of_ble_eq_true rfl), (Nat.le_of_ble_eq_true rfl)⟩ rfl rfl (Nat.le_of_ble_eq_true rfl) dX9_like_27 ?_
      intro r9 d10 l11 hw
      refine f_if_eq (tgt := 38) C0 dX9_like_30 (by decide) (fun h12 => ?_) (fun h12 => ?_)
      · have hw := hw.1 h12
        refine f_bipush (v := (-2)) C0 dX9_like_38 rfl ?_
        exact f_iret C0 hZ hw dX9_like_40
      · have hw := hw.2 h12
        refine f_iload_n C0 dX9_like_33 rfl 1 rfl ?_
        refine f_iload_n C0 dX9_like_34 rfl 2 rfl ?_
        refine f_icmp_ne (tgt := 41) C0 dX9_like_35 (by decide) (fun h13 => ?_) (fun h13 => ?_)
        · have hw := hw.1 h13
          refine f_aload_n C0 dX9_like_41 rfl 0 rfl ⟨_, rfl⟩ ?_
          refine gf_9_0 (r := 1) C0 rfl kn_0 mw_368 dX9_like_42 ?_
          refine f_iload_n C0 dX9_like_45 rfl 1 rfl ?_
          refine f_iload_n C0 dX9_like_46 rfl 2 rfl ?_
          refine f_callVi (As := [.int x1, .int x2]) (rest := []) C0 (m_X4_areFriends hw) cw_X9_112 kn_1 (by decide) rfl rfl ⟨(Nat.le_of_ble_eq_true rfl), (Nat.le_of_ble_eq_true rfl)⟩ rfl rfl (Nat.le_of_ble_eq_true rfl) dX9_like_47 ?_
          intro r14 d15 l16 hw
          refine f_if_eq (tgt := 57) C0 dX9_like_50 (by decide) (fun h17 => ?_) (fun h17 => ?_)
          · have hw := hw.1 h17
            refine f_iconst (v := 0) C0 dX9_like_57 rfl ?_
            exact t_X9_like_58 C0 hZ _ _ _ _ _ _ hw
          · have hw := hw.2 h17
            refine f_iconst (v := 1) C0 dX9_like_53 rfl ?_
            refine f_goto (tgt := 58) C0 dX9_like_54 (by decide) ?_
            exact t_X9_like_58 C0 hZ _ _ _ _ _ _ hw
        · have hw := hw.2 h13
          refine f_bipush (v := (-2)) C0 dX9_like_38 rfl ?_
          exact f_iret C0 hZ hw dX9_like_40
    · have hw := hw.2 h8
      refine f_iconst (v := (-1)) C0 dX9_like_22 rfl ?_
      exact f_iret C0 hZ hw dX9_like_23
def F_X9_crew (n : Nat) (x1 : Int32) (x2 : Int32) (d : DD) (dl : LL) (Q : Int32 → DD → LL → Prop) : Prop := F_X9_within n x1 2 4 d dl (fun r1 d2 l3 => (r1 = 0 → Q (-2) d2 l3) ∧ (¬ r1 = 0 → F_X9_within n x2 0 150 d2 l3 (fun r5 d6 l7 => (¬ r5 = 0 → ((d6 0 2) < 6 → vp_in (d6 0 2) 6 ∧ ∀ k11 : Nat, k11 = (d6 0 2).toNatClampNeg → ∀ d12 : DD, d12 = u2 d6 (37 + 3 * k11) 0 x1 → vp_in (d12 0 2) 6 ∧ ∀ k14 : Nat, k14 = (d12 0 2).toNatClampNeg → ∀ d15 : DD, d15 = u2 d12 (37 + 3 * k14) 1 x2 → ∀ d16 : DD, d16 = u2 d15 0 2 ((d15 0 2) + 1) → Q ((d16 0 2) - 1) d16 l7) ∧ (¬ (d6 0 2) < 6 → Q (-4) d6 l7)) ∧ (r5 = 0 → Q (-2) d6 l7))))
set_option maxHeartbeats 4000000 in
set_option maxRecDepth 100000 in
theorem m_X9_crew {g : Ex} {n : Nat} {x1 : Int32} {x2 : Int32} {d : DD} {dl : LL} {Q : Int32 → DD → LL → Prop} (hw : F_X9_crew n x1 x2 d dl Q) : Mi g yX9_crew cX9_crew 3 (some .int) 1 22 [rf g 0, .int x1, .int x2] d dl Q := by
  refine Mi.of (by decide) (Nat.le_of_ble_eq_true rfl) (fun x C0 hZ => ?_)
  have C0 : Cx g x cX9_crew 3 (some .int) RX9 1 22 := C0
  refine f_iload_n C0 dX9_crew_0 rfl 1 rfl ?_
  refine f_iconst (v := 2) C0 dX9_crew_1 rfl ?_
  refine f_iconst (v := 4) C0 dX9_crew_2 rfl ?_
  refine f_callSi (As := [.int x1, .int 2, .int 4]) (rest := []) C0 (m_X9_within hw) cw_X9_97  ⟨(Nat.le_of_ble_eq_true rfl), (Nat.le_of_ble_eq_true rfl)⟩ rfl rfl (Nat.le_of_ble_eq_true rfl) dX9_crew_3 ?_
  intro r1 d2 l3 hw
  refine f_if_eq (tgt := 20) C0 dX9_crew_6 (by decide) (fun h4 => ?_) (fun h4 => ?_)
  · have hw := hw.1 h4
    refine f_bipush (v := (-2)) C0 dX9_crew_20 rfl ?_
    exact f_iret C0 hZ hw dX9_crew_22
  · have hw := hw.2 h4
    refine f_iload_n C0 dX9_crew_9 rfl 2 rfl ?_
    refine f_iconst (v := 0) C0 dX9_crew_10 rfl ?_
    refine f_sipush (v := 150) C0 dX9_crew_11 rfl ?_
    refine f_callSi (As := [.int x2, .int 0, .int 150]) (rest := []) C0 (m_X9_within hw) cw_X9_97  ⟨(Nat.le_of_ble_eq_true rfl), (Nat.le_of_ble_eq_true rfl)⟩ rfl rfl (Nat.le_of_ble_eq_true rfl) dX9_crew_14 ?_
    intro r5 d6 l7 hw
    refine f_if_ne (tgt := 23) C0 dX9_crew_17 (by decide) (fun h8 => ?_) (fun h8 => ?_)
    · have hw := hw.1 h8
      refine f_aload_n C0 dX9_crew_23 rfl 0 rfl ⟨_, rfl⟩ ?_
      refine gf_9_2 C0 kn_0 mw_370 dX9_crew_24 ?_
      refine f_bipush (v := 6) C0 dX9_crew_27 rfl ?_
      refine f_icmp_lt (tgt := 35) C0 dX9_crew_29 (by decide) (fun h9 => ?_) (fun h9 => ?_)
      · have hw := hw.1 h9
        refine f_aload_n C0 dX9_crew_35 rfl 0 rfl ⟨_, rfl⟩ ?_
        refine gf_9_1 (r := 8) C0 rfl kn_0 mw_369 dX9_crew_36 ?_
        refine f_aload_n C0 dX9_crew_39 rfl 0 rfl ⟨_, rfl⟩ ?_
        refine gf_9_2 C0 kn_0 mw_370 dX9_crew_40 ?_
        obtain ⟨h10, hw⟩ := hw
        refine f_aald14 C0 kn_8 h10 dX9_crew_43 (fun k11 ek11 hk11 => ?_)
        have hw := hw k11 ek11
        refine f_iload_n C0 dX9_crew_44 rfl 1 rfl ?_
        refine pf_1_0 C0 (kn_crew_0 hk11) mw_265 dX9_crew_45 (fun d12 ed12 => ?_)
        have hw := hw d12 ed12
        refine f_aload_n C0 dX9_crew_48 rfl 0 rfl ⟨_, rfl⟩ ?_
        refine gf_9_1 (r := 8) C0 rfl kn_0 mw_369 dX9_crew_49 ?_
        refine f_aload_n C0 dX9_crew_52 rfl 0 rfl ⟨_, rfl⟩ ?_
        refine gf_9_2 C0 kn_0 mw_370 dX9_crew_53 ?_
        obtain ⟨h13, hw⟩ := hw
        refine f_aald14 C0 kn_8 h13 dX9_crew_56 (fun k14 ek14 hk14 => ?_)
        have hw := hw k14 ek14
        refine f_iload_n C0 dX9_crew_57 rfl 2 rfl ?_
        refine pf_1_1 C0 (kn_crew_0 hk14) mw_267 dX9_crew_58 (fun d15 ed15 => ?_)
        have hw := hw d15 ed15
        refine f_aload_n C0 dX9_crew_61 rfl 0 rfl ⟨_, rfl⟩ ?_
        refine f_dup C0 dX9_crew_62 rfl ?_
        refine gf_9_2 C0 kn_0 mw_370 dX9_crew_63 ?_
        refine f_iconst (v := 1) C0 dX9_crew_66 rfl ?_
        refine f_iadd C0 dX9_crew_67 ?_
        refine pf_9_2 C0 kn_0 mw_370 dX9_crew_68 (fun d16 ed16 => ?_)
        have hw := hw d16 ed16
        refine f_aload_n C0 dX9_crew_71 rfl 0 rfl ⟨_, rfl⟩ ?_
        refine gf_9_2 C0 kn_0 mw_370 dX9_crew_72 ?_
        refine f_iconst (v := 1) C0 dX9_crew_75 rfl ?_
        refine f_isub C0 dX9_crew_76 ?_
        exact f_iret C0 hZ hw dX9_crew_77
      · have hw := hw.2 h9
        refine f_bipush (v := (-4)) C0 dX9_crew_32 rfl ?_
        exact f_iret C0 hZ hw dX9_crew_34
    · have hw := hw.2 h8
      refine f_bipush (v := (-2)) C0 dX9_crew_20 rfl ?_
      exact f_iret C0 hZ hw dX9_crew_22
def F_X9_isCrew (n : Nat) (x1 : Int32) (d : DD) (dl : LL) (Q : Int32 → DD → LL → Prop) : Prop := F_X9_within n x1 0 ((d 0 2) - 1) d dl (fun r1 d2 l3 => narrow .boolean (.int r1) = .int r1 ∧ Q r1 d2 l3)
set_option maxHeartbeats 4000000 in
set_option maxRecDepth 100000 in
theorem m_X9_isCrew {g : Ex} {n : Nat} {x1 : Int32} {d : DD} {dl : LL} {Q : Int32 → DD → LL → Prop} (hw : F_X9_isCrew n x1 d dl Q) : Mi g yX9_isCrew cX9_isCrew 2 (some .boolean) 1 22 [rf g 0, .int x1] d dl Q := by
  refine Mi.of (by decide) (Nat.le_of_ble_eq_true rfl) (fun x C0 hZ => ?_)
  have C0 : Cx g x cX9_isCrew 2 (some .boolean) RX9 1 22 := C0
  refine f_iload_n C0 dX9_isCrew_0 rfl 1 rfl ?_
  refine f_iconst (v := 0) C0 dX9_isCrew_1 rfl ?_
  refine f_aload_n C0 dX9_isCrew_2 rfl 0 rfl ⟨_, rfl⟩ ?_
  refine gf_9_2 C0 kn_0 mw_370 dX9_isCrew_3 ?_
  refine f_iconst (v := 1) C0 dX9_isCrew_6 rfl ?_
  refine f_isub C0 dX9_isCrew_7 ?_
  refine f_callSi (As := [.int x1, .int 0, .int ((d 0 2) - 1)]) (rest := []) C0 (m_X9_within hw) cw_X9_97  ⟨(Nat.le_of_ble_eq_true rfl), (Nat.le_of_ble_eq_true rfl)⟩ rfl rfl (Nat.le_of_ble_eq_true rfl) dX9_isCrew_8 ?_
  intro r1 d2 l3 hw
  exact f_zret C0 hZ hw.1 hw.2 dX9_isCrew_11
def F_X1_hasMember (n : Nat) (k0 : Nat) (x1 : Int32) (d : DD) (dl : LL) (Q : Int32 → DD → LL → Prop) : Prop := ((lg_cmp ((lushr (dl (37 + 3 * k0) 5) x1) &&& 1) 0) = 0 → Q 0 d dl) ∧ (¬ (lg_cmp ((lushr (dl (37 + 3 * k0) 5) x1) &&& 1) 0) = 0 → Q 1 d dl)
set_option maxHeartbeats 4000000 in
set_option maxRecDepth 100000 in
theorem m_X1_hasMember {g : Ex} {n : Nat} {k0 : Nat} {x1 : Int32} {d : DD} {dl : LL} {Q : Int32 → DD → LL → Prop} (hk0 : k0 < 6) (hw : F_X1_hasMember n k0 x1 d dl Q) : Mi g yX1_hasMember cX1_hasMember 2 (some .boolean) 0 0 [rf g (37 + 3 * k0), .int x1] d dl Q := by
  refine Mi.of (by decide) (Nat.le_of_ble_eq_true rfl) (fun x C0 hZ => ?_)
  have C0 : Cx g x cX1_hasMember 2 (some .boolean) RX1 0 0 := C0
  refine f_aload_n C0 dX1_hasMember_0 rfl 0 rfl ⟨_, rfl⟩ ?_
  refine gf_1_5 C0 (kn_crew_0 hk0) mw_276 dX1_hasMember_1 ?_
  refine f_iload_n C0 dX1_hasMember_4 rfl 1 rfl ?_
  refine f_lushr C0 dX1_hasMember_5 ?_
  refine f_lconst (v := 1) C0 dX1_hasMember_6 rfl ?_
  refine f_land C0 dX1_hasMember_7 ?_
  refine f_lconst (v := 0) C0 dX1_hasMember_8 rfl ?_
  refine f_lcmp C0 dX1_hasMember_9 ?_
  refine f_if_eq (tgt := 17) C0 dX1_hasMember_10 (by decide) (fun h1 => ?_) (fun h1 => ?_)
  · have hw := hw.1 h1
    refine f_iconst (v := 0) C0 dX1_hasMember_17 rfl ?_
    exact f_zret C0 hZ (by decide) hw dX1_hasMember_18
  · have hw := hw.2 h1
    refine f_iconst (v := 1) C0 dX1_hasMember_13 rfl ?_
    refine f_goto (tgt := 18) C0 dX1_hasMember_14 (by decide) ?_
    exact f_zret C0 hZ (by decide) hw dX1_hasMember_18
def F_X1_addMember (n : Nat) (k0 : Nat) (x1 : Int32) (d : DD) (dl : LL) (Q : DD → LL → Prop) : Prop := vp_in (d (37 + 3 * k0) 3) 8 ∧ ∀ d2 : DD, d2 = u2 d (38 + 3 * k0) (d (37 + 3 * k0) 3).toNatClampNeg x1 → ∀ d3 : DD, d3 = u2 d2 (37 + 3 * k0) 3 ((d2 (37 + 3 * k0) 3) + 1) → ∀ l4 : LL, l4 = l2 dl (37 + 3 * k0) 5 ((dl (37 + 3 * k0) 5) ||| (lshl 1 x1)) → ∀ d5 : DD, d5 = u2 d3 (37 + 3 * k0) 6 0 → Q d5 l4
set_option maxHeartbeats 4000000 in
set_option maxRecDepth 100000 in
theorem m_X1_addMember {g : Ex} {n : Nat} {k0 : Nat} {x1 : Int32} {d : DD} {dl : LL} {Q : DD → LL → Prop} (hk0 : k0 < 6) (hw : F_X1_addMember n k0 x1 d dl Q) : Mv g yX1_addMember cX1_addMember 2 none 0 0 [rf g (37 + 3 * k0), .int x1] d dl Q := by
  refine Mv.of (by decide) (Nat.le_of_ble_eq_true rfl) (fun x C0 hZ => ?_)
  have C0 : Cx g x cX1_addMember 2 none RX1 0 0 := C0
  refine f_aload_n C0 dX1_addMember_0 rfl 0 rfl ⟨_, rfl⟩ ?_
  refine gf_1_4 (r := (38 + 3 * k0)) C0 (by omega) (kn_crew_0 hk0) mw_274 dX1_addMember_1 ?_
  refine f_aload_n C0 dX1_addMember_4 rfl 0 rfl ⟨_, rfl⟩ ?_
  refine gf_1_3 C0 (kn_crew_0 hk0) mw_271 dX1_addMember_5 ?_
  refine f_iload_n C0 dX1_addMember_8 rfl 1 rfl ?_
  obtain ⟨h1, hw⟩ := hw
  refine f_iast C0 (kn_crew_1 hk0) h1 dX1_addMember_9 (fun d2 ed2 => ?_)
  have hw := hw d2 ed2
  refine f_aload_n C0 dX1_addMember_10 rfl 0 rfl ⟨_, rfl⟩ ?_
  refine f_dup C0 dX1_addMember_11 rfl ?_
  refine gf_1_3 C0 (kn_crew_0 hk0) mw_271 dX1_addMember_12 ?_
  refine f_iconst (v := 1) C0 dX1_addMember_15 rfl ?_
  refine f_iadd C0 dX1_addMember_16 ?_
  refine pf_1_3 C0 (kn_crew_0 hk0) mw_271 dX1_addMember_17 (fun d3 ed3 => ?_)
  have hw := hw d3 ed3
  refine f_aload_n C0 dX1_addMember_20 rfl 0 rfl ⟨_, rfl⟩ ?_
  refine f_dup C0 dX1_addMember_21 rfl ?_
  refine gf_1_5 C0 (kn_crew_0 hk0) mw_276 dX1_addMember_22 ?_
  refine f_lconst (v := 1) C0 dX1_addMember_25 rfl ?_
  refine f_iload_n C0 dX1_addMember_26 rfl 1 rfl ?_
  refine f_lshl C0 dX1_addMember_27 ?_
  refine f_lor C0 dX1_addMember_28 ?_
  refine pf_1_5 C0 (kn_crew_0 hk0) mw_276 dX1_addMember_29 (fun l4 el4 => ?_)
  have hw := hw l4 el4
  refine f_aload_n C0 dX1_addMember_32 rfl 0 rfl ⟨_, rfl⟩ ?_
  refine f_iconst (v := 0) C0 dX1_addMember_33 rfl ?_
  refine pf_1_6 C0 (kn_crew_0 hk0) (by decide) mw_278 dX1_addMember_34 (fun d5 ed5 => ?_)
  have hw := hw d5 ed5
  exact f_vret C0 hZ hw dX1_addMember_37
def F_X9_join (n : Nat) (x1 : Int32) (x2 : Int32) (d : DD) (dl : LL) (Q : Int32 → DD → LL → Prop) : Prop := F_X9_isCrew n x1 d dl (fun r1 d2 l3 => (r1 = 0 → Q (-1) d2 l3) ∧ (¬ r1 = 0 → F_X4_has n x2 d2 l3 (fun r5 d6 l7 => (¬ r5 = 0 → vp_in x1 6 ∧ ∀ k10 : Nat, k10 = x1.toNatClampNeg → F_X1_hasMember n k10 x2 d6 l7 (fun r11 d12 l13 => (r11 = 0 → ((d12 (37 + 3 * k10) 3) < 8 → F_X1_addMember n k10 x2 d12 l13 (fun d17 l18 => Q (d17 (37 + 3 * k10) 3) d17 l18)) ∧ (¬ (d12 (37 + 3 * k10) 3) < 8 → Q (-4) d12 l13)) ∧ (¬ r11 = 0 → Q (-3) d12 l13))) ∧ (r5 = 0 → Q (-1) d6 l7))))
set_option maxHeartbeats 4000000 in
set_option maxRecDepth 100000 in
theorem m_X9_join {g : Ex} {n : Nat} {x1 : Int32} {x2 : Int32} {d : DD} {dl : LL} {Q : Int32 → DD → LL → Prop} (hw : F_X9_join n x1 x2 d dl Q) : Mi g yX9_join cX9_join 4 (some .int) 2 43 [rf g 0, .int x1, .int x2] d dl Q := by
  refine Mi.of (by decide) (Nat.le_of_ble_eq_true rfl) (fun x C0 hZ => ?_)
  have C0 : Cx g x cX9_join 4 (some .int) RX9 2 43 := C0
  refine f_aload_n C0 dX9_join_0 rfl 0 rfl ⟨_, rfl⟩ ?_
  refine f_iload_n C0 dX9_join_1 rfl 1 rfl ?_
  refine f_callVi (As := [.int x1]) (rest := []) C0 (m_X9_isCrew hw) cw_X9_126 kn_0 (by decide) rfl rfl ⟨(Nat.le_of_ble_eq_true rfl), (Nat.le_of_ble_eq_true rfl)⟩ rfl rfl (Nat.le_of_ble_eq_true rfl) dX9_join_2 ?_
  intro r1 d2 l3 hw
  refine f_if_eq (tgt := 19) C0 dX9_join_5 (by decide) (fun h4 => ?_) (fun h4 => ?_)
  · have hw := hw.1 h4
    refine f_iconst (v := (-1)) C0 dX9_join_19 rfl ?_
    exact f_iret C0 hZ hw dX9_join_20
  · have hw := hw.2 h4
    refine f_aload_n C0 dX9_join_8 rfl 0 rfl ⟨_, rfl⟩ ?_
    refine gf_9_0 (r := 1) C0 rfl kn_0 mw_368 dX9_join_9 ?_
    refine f_iload_n C0 dX9_join_12 rfl 2 rfl ?_
    refine f_callVi (As := [.int x2]) (rest := []) C0 (m_X4_has hw) cw_X9_108 kn_1 (by decide) rfl rfl ⟨(Nat.le_of_ble_eq_true rfl), (Nat.le_of_ble_eq_true rfl)⟩ rfl rfl (Nat.le_of_ble_eq_true rfl) dX9_join_13 ?_
    intro r5 d6 l7 hw
    refine f_if_ne (tgt := 21) C0 dX9_join_16 (by decide) (fun h8 => ?_) (fun h8 => ?_)
    · have hw := hw.1 h8
      refine f_aload_n C0 dX9_join_21 rfl 0 rfl ⟨_, rfl⟩ ?_
      refine gf_9_1 (r := 8) C0 rfl kn_0 mw_369 dX9_join_22 ?_
      refine f_iload_n C0 dX9_join_25 rfl 1 rfl ?_
      obtain ⟨h9, hw⟩ := hw
      refine f_aald14 C0 kn_8 h9 dX9_join_26 (fun k10 ek10 hk10 => ?_)
      have hw := hw k10 ek10
      refine f_astore_n (lo' := [(3, rf g (37 + 3 * k10)), (0, rf g 0), (1, .int x1), (2, .int x2)]) C0 dX9_join_27 rfl (by decide) rfl ⟨_, rfl⟩ ?_
      refine f_aload_n C0 dX9_join_28 rfl 0 rfl ⟨_, rfl⟩ ?_
      refine f_iload_n C0 dX9_join_29 rfl 3 rfl ?_
      refine f_callVi (As := [.int x2]) (rest := []) C0 (m_X1_hasMember hk10 hw) cw_X9_129 (kn_crew_0 hk10) (by decide) rfl rfl ⟨(Nat.le_of_ble_eq_true rfl), (Nat.le_of_ble_eq_true rfl)⟩ rfl rfl (Nat.le_of_ble_eq_true rfl) dX9_join_30 ?_
      intro r11 d12 l13 hw
      refine f_if_eq (tgt := 39) C0 dX9_join_33 (by decide) (fun h14 => ?_) (fun h14 => ?_)
      · have hw := hw.1 h14
        refine f_aload_n C0 dX9_join_39 rfl 0 rfl ⟨_, rfl⟩ ?_
        refine gf_1_3 C0 (kn_crew_0 hk10) mw_273 dX9_join_40 ?_
        refine f_bipush (v := 8) C0 dX9_join_43 rfl ?_
        refine f_icmp_lt (tgt := 51) C0 dX9_join_45 (by decide) (fun h15 => ?_) (fun h15 => ?_)
        · have hw := hw.1 h15
          refine f_aload_n C0 dX9_join_51 rfl 0 rfl ⟨_, rfl⟩ ?_
          refine f_iload_n C0 dX9_join_52 rfl 3 rfl ?_
          refine f_callVv (As := [.int x2]) (rest := []) C0 (m_X1_addMember hk10 hw) cw_X9_135 (kn_crew_0 hk10) (by decide) rfl rfl ⟨(Nat.le_of_ble_eq_true rfl), (Nat.le_of_ble_eq_true rfl)⟩ rfl rfl (Nat.le_of_ble_eq_true rfl) dX9_join_53 ?_
          intro d17 l18 hw
          refine f_aload_n C0 dX9_join_56 rfl 0 rfl ⟨_, rfl⟩ ?_
          refine gf_1_3 C0 (kn_crew_0 hk10) mw_273 dX9_join_57 ?_
          exact f_iret C0 hZ hw dX9_join_60
        · have hw := hw.2 h15
          refine f_bipush (v := (-4)) C0 dX9_join_48 rfl ?_
          exact f_iret C0 hZ hw dX9_join_50
      · have hw := hw.2 h14
        refine f_bipush (v := (-3)) C0 dX9_join_36 rfl ?_
        exact f_iret C0 hZ hw dX9_join_38
    · have hw := hw.2 h8
      refine f_iconst (v := (-1)) C0 dX9_join_19 rfl ?_
      exact f_iret C0 hZ hw dX9_join_20
def F_X9_beat (n : Nat) (x1 : Int32) (x2 : Int32) (d : DD) (dl : LL) (Q : Int32 → DD → LL → Prop) : Prop := F_X9_isCrew n x1 d dl (fun r1 d2 l3 => (¬ r1 = 0 → F_X9_within n x2 1 9 d2 l3 (fun r5 d6 l7 => (¬ r5 = 0 → vp_in x1 6 ∧ ∀ k10 : Nat, k10 = x1.toNatClampNeg → ∀ v11 : Int32, v11 = (d6 (37 + 3 * k10) 2) → vp_in x1 6 ∧ ∀ k13 : Nat, k13 = x1.toNatClampNeg → ∀ d14 : DD, d14 = u2 d6 (37 + 3 * k13) 2 x2 → Q v11 d14 l7) ∧ (r5 = 0 → Q (-2) d6 l7))) ∧ (r1 = 0 → Q (-1) d2 l3))
set_option maxHeartbeats 4000000 in
set_option maxRecDepth 100000 in
theorem m_X9_beat {g : Ex} {n : Nat} {x1 : Int32} {x2 : Int32} {d : DD} {dl : LL} {Q : Int32 → DD → LL → Prop} (hw : F_X9_beat n x1 x2 d dl Q) : Mi g yX9_beat cX9_beat 4 (some .int) 2 43 [rf g 0, .int x1, .int x2] d dl Q := by
  refine Mi.of (by decide) (Nat.le_of_ble_eq_true rfl) (fun x C0 hZ => ?_)
  have C0 : Cx g x cX9_beat 4 (some .int) RX9 2 43 := C0
  refine f_aload_n C0 dX9_beat_0 rfl 0 rfl ⟨_, rfl⟩ ?_
  refine f_iload_n C0 dX9_beat_1 rfl 1 rfl ?_
  refine f_callVi (As := [.int x1]) (rest := []) C0 (m_X9_isCrew hw) cw_X9_126 kn_0 (by decide) rfl rfl ⟨(Nat.le_of_ble_eq_true rfl), (Nat.le_of_ble_eq_true rfl)⟩ rfl rfl (Nat.le_of_ble_eq_true rfl) dX9_beat_2 ?_
  intro r1 d2 l3 hw
  refine f_if_ne (tgt := 10) C0 dX9_beat_5 (by decide) (fun h4 => ?_) (fun h4 => ?_)
  · have hw := hw.1 h4
    refine f_iload_n C0 dX9_beat_10 rfl 2 rfl ?_
    refine f_iconst (v := 1) C0 dX9_beat_11 rfl ?_
    refine f_bipush (v := 9) C0 dX9_beat_12 rfl ?_
    refine f_callSi (As := [.int x2, .int 1, .int 9]) (rest := []) C0 (m_X9_within hw) cw_X9_97  ⟨(Nat.le_of_ble_eq_true rfl), (Nat.le_of_ble_eq_true rfl)⟩ rfl rfl (Nat.le_of_ble_eq_true rfl) dX9_beat_14 ?_
    intro r5 d6 l7 hw
    refine f_if_ne (tgt := 23) C0 dX9_beat_17 (by decide) (fun h8 => ?_) (fun h8 => ?_)
    · have hw := hw.1 h8
      refine f_aload_n C0 dX9_beat_23 rfl 0 rfl ⟨_, rfl⟩ ?_
      refine gf_9_1 (r := 8) C0 rfl kn_0 mw_369 dX9_beat_24 ?_
      refine f_iload_n C0 dX9_beat_27 rfl 1 rfl ?_
      obtain ⟨h9, hw⟩ := hw
      refine f_aald14 C0 kn_8 h9 dX9_beat_28 (fun k10 ek10 hk10 => ?_)
      have hw := hw k10 ek10
      refine gf_1_2 C0 (kn_crew_0 hk10) mw_270 dX9_beat_29 ?_
      refine f_topi (fun v11 e11 => ?_)
      have hw := hw v11 e11
      refine f_istore_n (lo' := [(3, .int v11), (0, rf g 0), (1, .int x1), (2, .int x2)]) C0 dX9_beat_32 rfl (by decide) rfl ?_
      refine f_aload_n C0 dX9_beat_33 rfl 1 rfl ⟨_, rfl⟩ ?_
      refine gf_9_1 (r := 8) C0 rfl kn_0 mw_369 dX9_beat_34 ?_
      refine f_iload_n C0 dX9_beat_37 rfl 2 rfl ?_
      obtain ⟨h12, hw⟩ := hw
      refine f_aald14 C0 kn_8 h12 dX9_beat_38 (fun k13 ek13 hk13 => ?_)
      have hw := hw k13 ek13
      refine f_iload_n C0 dX9_beat_39 rfl 3 rfl ?_
      refine pf_1_2 C0 (kn_crew_0 hk13) mw_270 dX9_beat_40 (fun d14 ed14 => ?_)
      have hw := hw d14 ed14
      refine f_iload_n C0 dX9_beat_43 rfl 0 rfl ?_
      exact f_iret C0 hZ hw dX9_beat_44
    · have hw := hw.2 h8
      refine f_bipush (v := (-2)) C0 dX9_beat_20 rfl ?_
      exact f_iret C0 hZ hw dX9_beat_22
  · have hw := hw.2 h4
    refine f_iconst (v := (-1)) C0 dX9_beat_8 rfl ?_
    exact f_iret C0 hZ hw dX9_beat_9
def F_X1_seatCount (n : Nat) (k0 : Nat) (d : DD) (dl : LL) (Q : Int32 → DD → LL → Prop) : Prop := Q ((2 : Int32) * (d (37 + 3 * k0) 0)) d dl
set_option maxHeartbeats 4000000 in
set_option maxRecDepth 100000 in
theorem m_X1_seatCount {g : Ex} {n : Nat} {k0 : Nat} {d : DD} {dl : LL} {Q : Int32 → DD → LL → Prop} (hk0 : k0 < 6) (hw : F_X1_seatCount n k0 d dl Q) : Mi g yX1_seatCount cX1_seatCount 1 (some .int) 0 0 [rf g (37 + 3 * k0)] d dl Q := by
  refine Mi.of (by decide) (Nat.le_of_ble_eq_true rfl) (fun x C0 hZ => ?_)
  have C0 : Cx g x cX1_seatCount 1 (some .int) RX1 0 0 := C0
  refine f_iconst (v := 2) C0 dX1_seatCount_0 rfl ?_
  refine f_aload_n C0 dX1_seatCount_1 rfl 0 rfl ⟨_, rfl⟩ ?_
  refine gf_1_0 C0 (kn_crew_0 hk0) mw_263 dX1_seatCount_2 ?_
  refine f_imul C0 dX1_seatCount_5 ?_
  exact f_iret C0 hZ hw dX1_seatCount_6
def b_X6_loadMembers_67 (n : Nat) (Q : DD → LL → Prop) (K2 : Nat → Int32 → DD → LL → Prop) : Nat → Nat → Int32 → Int32 → Int32 → DD → LL → Prop
  | 0 => fun _ _ _ _ _ _ => False
  | k + 1 => fun k2 x3 x4 x5 d dl => ((d 10 3) ≤ x5 → K2 k2 (x3 + 1) d dl) ∧ (¬ (d 10 3) ≤ x5 → vp_in x5 8 ∧ F_X4_areFriends n x4 (d (38 + 3 * k2) x5.toNatClampNeg) d dl (fun r17 d18 l19 => (r17 = 0 → (b_X6_loadMembers_67 n Q K2 k) k2 x3 x4 (x5 + 1) d18 l19) ∧ (¬ r17 = 0 → vp_in x3 8 ∧ vp_in x3 8 ∧ ∀ d23 : DD, d23 = u2 d18 14 x3.toNatClampNeg ((d18 14 x3.toNatClampNeg) ||| ((1 : Int32) <<< (x5 &&& 31))) → (b_X6_loadMembers_67 n Q K2 k) k2 x3 x4 (x5 + 1) d23 l19)))
def b_X6_loadMembers_2 (n : Nat) (Q : DD → LL → Prop) : Nat → Nat → Int32 → DD → LL → Prop
  | 0 => fun _ _ _ _ => False
  | k + 1 => fun k2 x3 d dl => ((d 10 3) ≤ x3 → Q d dl) ∧ (¬ (d 10 3) ≤ x3 → vp_in x3 8 ∧ ∀ v3 : Int32, v3 = (d (38 + 3 * k2) x3.toNatClampNeg) → vp_in v3 40 ∧ vp_in x3 8 ∧ ∀ d6 : DD, d6 = u2 d 11 x3.toNatClampNeg (d 2 v3.toNatClampNeg) → vp_in v3 40 ∧ vp_in x3 8 ∧ ∀ d9 : DD, d9 = u2 d6 12 x3.toNatClampNeg (d6 3 v3.toNatClampNeg) → vp_in v3 40 ∧ vp_in x3 8 ∧ ∀ d12 : DD, d12 = u2 d9 13 x3.toNatClampNeg (d9 4 v3.toNatClampNeg) → vp_in x3 8 ∧ ∀ d14 : DD, d14 = u2 d12 14 x3.toNatClampNeg 0 → b_X6_loadMembers_67 n Q (b_X6_loadMembers_2 n Q k) n k2 x3 v3 0 d14 dl)
def F_X6_loadMembers (n : Nat) (k2 : Nat) (d : DD) (dl : LL) (Q : DD → LL → Prop) : Prop := b_X6_loadMembers_2 n Q n k2 0 d dl
set_option maxHeartbeats 4000000 in
set_option maxRecDepth 100000 in
theorem t_X6_loadMembers_67 {g : Ex} {x : Fx} {n : Nat} {Q : DD → LL → Prop} (C0 : Cx g x cX6_loadMembers 6 none RX6 1 22) (hZ : Zv g x Q) {K2 : Nat → Int32 → DD → LL → Prop} (hK2 : ∀ (k2 : Nat) (x3 : Int32) (hk2 : k2 < 6) (d : DD) (dl : LL), K2 k2 x3 d dl → FW g x 6 d dl 2 [(0, rf g 10), (1, rf g 1), (2, rf g (37 + 3 * k2)), (3, .int x3)] []) : ∀ (j : Nat) (k2 : Nat) (x3 : Int32) (x4 : Int32) (x5 : Int32) (hk2 : k2 < 6) (d : DD) (dl : LL), b_X6_loadMembers_67 n Q K2 j k2 x3 x4 x5 d dl → FW g x 6 d dl 67 [(0, rf g 10), (1, rf g 1), (2, rf g (37 + 3 * k2)), (3, .int x3), (4, .int x4), (5, .int x5)] [] := by
  intro j
  induction j with
  | zero =>
    intro k2 x3 x4 x5 hk2 d dl hw
    exact hw.elim
  | succ j hK67 =>
    intro k2 x3 x4 x5 hk2 d dl hw
    refine f_iload C0 dX6_loadMembers_67 5 rfl ?_
    refine f_aload_n C0 dX6_loadMembers_69 rfl 0 rfl ⟨_, rfl⟩ ?_
    refine gf_6_3 C0 kn_10 mw_147 dX6_loadMembers_70 ?_
    refine f_icmp_ge (tgt := 111) C0 dX6_loadMembers_73 (by decide) (fun h15 => ?_) (fun h15 => ?_)
    · have hw := hw.1 h15
      refine f_iinc (lo' := [(3, .int (x3 + 1)), (0, rf g 10), (1, rf g 1), (2, rf g (37 + 3 * k2)), (4, .int x4), (5, .int x5)]) C0 dX6_loadMembers_111 3 rfl rfl (by decide) rfl ?_
      refine f_goto (tgt := 2) C0 dX6_loadMembers_114 (by decide) ?_
      refine f_sub [1, 2, 3, 0] rfl ?_
      exact hK2 _ _ hk2 _ _ hw
    · have hw := hw.2 h15
      refine f_aload_n C0 dX6_loadMembers_76 rfl 1 rfl ⟨_, rfl⟩ ?_
      refine f_iload C0 dX6_loadMembers_77 4 rfl ?_
      refine f_aload_n C0 dX6_loadMembers_79 rfl 2 rfl ⟨_, rfl⟩ ?_
      refine gf_1_4 (r := (38 + 3 * k2)) C0 (by omega) (kn_crew_0 hk2) mw_275 dX6_loadMembers_80 ?_
      refine f_iload C0 dX6_loadMembers_83 5 rfl ?_
      obtain ⟨h16, hw⟩ := hw
      refine f_iald C0 (kn_crew_1 hk2) h16 dX6_loadMembers_85 ?_
      refine f_callVi (As := [.int x4, .int (d (38 + 3 * k2) x5.toNatClampNeg)]) (rest := []) C0 (m_X4_areFriends hw) cw_X6_104 kn_1 (by decide) rfl rfl ⟨(Nat.le_of_ble_eq_true rfl), (Nat.le_of_ble_eq_true rfl)⟩ rfl rfl (Nat.le_of_ble_eq_true rfl) dX6_loadMembers_86 ?_
      intro r17 d18 l19 hw
      refine f_if_eq (tgt := 105) C0 dX6_loadMembers_89 (by decide) (fun h20 => ?_) (fun h20 => ?_)
      · have hw := hw.1 h20
        refine f_iinc (lo' := [(5, .int (x5 + 1)), (0, rf g 10), (1, rf g 1), (2, rf g (37 + 3 * k2)), (3, .int x3), (4, .int x4)]) C0 dX6_loadMembers_105 5 rfl rfl (by decide) rfl ?_
        refine f_goto (tgt := 67) C0 dX6_loadMembers_108 (by decide) ?_
        refine f_sub [1, 2, 3, 4, 5, 0] rfl ?_
        exact hK67 _ _ _ _ hk2 _ _ hw
      · have hw := hw.2 h20
        refine f_aload_n C0 dX6_loadMembers_92 rfl 0 rfl ⟨_, rfl⟩ ?_
        refine gf_6_7 (r := 14) C0 rfl kn_10 mw_151 dX6_loadMembers_93 ?_
        refine f_iload_n C0 dX6_loadMembers_96 rfl 3 rfl ?_
        refine f_dup2 C0 dX6_loadMembers_97 rfl rfl ?_
        obtain ⟨h21, hw⟩ := hw
        refine f_iald C0 kn_14 h21 dX6_loadMembers_98 ?_
        refine f_iconst (v := 1) C0 dX6_loadMembers_99 rfl ?_
        refine f_iload C0 dX6_loadMembers_100 5 rfl ?_
        refine f_ishl C0 dX6_loadMembers_102 ?_
        refine f_ior C0 dX6_loadMembers_103 ?_
        obtain ⟨h22, hw⟩ := hw
        refine f_iast C0 kn_14 h22 dX6_loadMembers_104 (fun d23 ed23 => ?_)
        have hw := hw d23 ed23
        refine f_iinc (lo' := [(5, .int (x5 + 1)), (0, rf g 10), (1, rf g 1), (2, rf g (37 + 3 * k2)), (3, .int x3), (4, .int x4)]) C0 dX6_loadMembers_105 5 rfl rfl (by decide) rfl ?_
        refine f_goto (tgt := 67) C0 dX6_loadMembers_108 (by decide) ?_
        refine f_sub [1, 2, 3, 4, 5, 0] rfl ?_
        exact hK67 _ _ _ _ hk2 _ _ hw
set_option maxHeartbeats 4000000 in
set_option maxRecDepth 100000 in
theorem t_X6_loadMembers_2 {g : Ex} {x : Fx} {n : Nat} {Q : DD → LL → Prop} (C0 : Cx g x cX6_loadMembers 6 none RX6 1 22) (hZ : Zv g x Q) : ∀ (j : Nat) (k2 : Nat) (x3 : Int32) (hk2 : k2 < 6) (d : DD) (dl : LL), b_X6_loadMembers_2 n Q j k2 x3 d dl → FW g x 6 d dl 2 [(0, rf g 10), (1, rf g 1), (2, rf g (37 + 3 * k2)), (3, .int x3)] [] := by
  intro j
  induction j with
  | zero =>
    intro k2 x3 hk2 d dl hw
    exact hw.elim
  | succ j hK2 =>
    intro k2 x3 hk2 d dl hw
    refine f_iload_n C0 dX6_loadMembers_2 rfl 3 rfl ?_
    refine f_aload_n C0 dX6_loadMembers_3 rfl 0 rfl ⟨_, rfl⟩ ?_
    refine gf_6_3 C0 kn_10 mw_147 dX6_loadMembers_4 ?_
    refine f_icmp_ge (tgt := 117) C0 dX6_loadMembers_7 (by decide) (fun h1 => ?_) (fun h1 => ?_)
    · have hw := hw.1 h1
      exact f_vret C0 hZ hw dX6_loadMembers_117
    · have hw := hw.2 h1
      refine f_aload_n C0 dX6_loadMembers_10 rfl 2 rfl ⟨_, rfl⟩ ?_
      refine gf_1_4 (r := (38 + 3 * k2)) C0 (by omega) (kn_crew_0 hk2) mw_275 dX6_loadMembers_11 ?_
      refine f_iload_n C0 dX6_loadMembers_14 rfl 3 rfl ?_
      obtain ⟨h2, hw⟩ := hw
      refine f_iald C0 (kn_crew_1 hk2) h2 dX6_loadMembers_15 ?_
      refine f_topi (fun v3 e3 => ?_)
      have hw := hw v3 e3
      refine f_istore (lo' := [(4, .int v3), (0, rf g 10), (1, rf g 1), (2, rf g (37 + 3 * k2)), (3, .int x3)]) C0 dX6_loadMembers_16 (by decide) rfl ?_
      refine f_aload_n C0 dX6_loadMembers_18 rfl 1 rfl ⟨_, rfl⟩ ?_
      refine gf_6_4 (r := 11) C0 rfl kn_10 mw_148 dX6_loadMembers_19 ?_
      refine f_iload_n C0 dX6_loadMembers_22 rfl 4 rfl ?_
      refine f_aload_n C0 dX6_loadMembers_23 rfl 2 rfl ⟨_, rfl⟩ ?_
      refine gf_4_1 (r := 2) C0 rfl kn_1 mw_82 dX6_loadMembers_24 ?_
      refine f_iload C0 dX6_loadMembers_27 0 rfl ?_
      obtain ⟨h4, hw⟩ := hw
      refine f_iald C0 kn_2 h4 dX6_loadMembers_29 ?_
      obtain ⟨h5, hw⟩ := hw
      refine f_iast C0 kn_11 h5 dX6_loadMembers_30 (fun d6 ed6 => ?_)
      have hw := hw d6 ed6
      refine f_aload_n C0 dX6_loadMembers_31 rfl 1 rfl ⟨_, rfl⟩ ?_
      refine gf_6_5 (r := 12) C0 rfl kn_10 mw_149 dX6_loadMembers_32 ?_
      refine f_iload_n C0 dX6_loadMembers_35 rfl 4 rfl ?_
      refine f_aload_n C0 dX6_loadMembers_36 rfl 2 rfl ⟨_, rfl⟩ ?_
      refine gf_4_2 (r := 3) C0 rfl kn_1 mw_87 dX6_loadMembers_37 ?_
      refine f_iload C0 dX6_loadMembers_40 0 rfl ?_
      obtain ⟨h7, hw⟩ := hw
      refine f_iald C0 kn_3 h7 dX6_loadMembers_42 ?_
      obtain ⟨h8, hw⟩ := hw
      refine f_iast C0 kn_12 h8 dX6_loadMembers_43 (fun d9 ed9 => ?_)
      have hw := hw d9 ed9
      refine f_aload_n C0 dX6_loadMembers_44 rfl 1 rfl ⟨_, rfl⟩ ?_
      refine gf_6_6 (r := 13) C0 rfl kn_10 mw_150 dX6_loadMembers_45 ?_
      refine f_iload_n C0 dX6_loadMembers_48 rfl 4 rfl ?_
      refine f_aload_n C0 dX6_loadMembers_49 rfl 2 rfl ⟨_, rfl⟩ ?_
      refine gf_4_3 (r := 4) C0 rfl kn_1 mw_89 dX6_loadMembers_50 ?_
      refine f_iload C0 dX6_loadMembers_53 0 rfl ?_
      obtain ⟨h10, hw⟩ := hw
      refine f_iald C0 kn_4 h10 dX6_loadMembers_55 ?_
      obtain ⟨h11, hw⟩ := hw
      refine f_iast C0 kn_13 h11 dX6_loadMembers_56 (fun d12 ed12 => ?_)
      have hw := hw d12 ed12
      refine f_aload_n C0 dX6_loadMembers_57 rfl 1 rfl ⟨_, rfl⟩ ?_
      refine gf_6_7 (r := 14) C0 rfl kn_10 mw_151 dX6_loadMembers_58 ?_
      refine f_iload_n C0 dX6_loadMembers_61 rfl 4 rfl ?_
      refine f_iconst (v := 0) C0 dX6_loadMembers_62 rfl ?_
      obtain ⟨h13, hw⟩ := hw
      refine f_iast C0 kn_14 h13 dX6_loadMembers_63 (fun d14 ed14 => ?_)
      have hw := hw d14 ed14
      refine f_iconst (v := 0) C0 dX6_loadMembers_64 rfl ?_
      refine f_istore (lo' := [(5, .int 0), (4, .int v3), (0, rf g 10), (1, rf g 1), (2, rf g (37 + 3 * k2)), (3, .int x3)]) C0 dX6_loadMembers_65 (by decide) rfl ?_
      refine f_sub [2, 3, 4, 5, 1, 0] rfl ?_
      exact t_X6_loadMembers_67 C0 hZ hK2 n _ _ _ _ hk2 _ _ hw
set_option maxHeartbeats 4000000 in
set_option maxRecDepth 100000 in
theorem m_X6_loadMembers {g : Ex} {n : Nat} {k2 : Nat} {d : DD} {dl : LL} {Q : DD → LL → Prop} (hk2 : k2 < 6) (hw : F_X6_loadMembers n k2 d dl Q) : Mv g yX6_loadMembers cX6_loadMembers 6 none 1 22 [rf g 10, rf g 1, rf g (37 + 3 * k2)] d dl Q := by
  refine Mv.of (by decide) (Nat.le_of_ble_eq_true rfl) (fun x C0 hZ => ?_)
  have C0 : Cx g x cX6_loadMembers 6 none RX6 1 22 := C0
  refine f_iconst (v := 0) C0 dX6_loadMembers_0 rfl ?_
  refine f_istore_n (lo' := [(3, .int 0), (0, rf g 10), (1, rf g 1), (2, rf g (37 + 3 * k2))]) C0 dX6_loadMembers_1 rfl (by decide) rfl ?_
  refine f_sub [1, 2, 3, 0] rfl ?_
  exact t_X6_loadMembers_2 C0 hZ n _ _ hk2 _ _ hw
def F_X1_pitchFactor (n : Nat) (k0 : Nat) (x1 : Int32) (d : DD) (dl : LL) (Q : Int32 → DD → LL → Prop) : Prop := Q (((2 : Int32) * x1) - ((d (37 + 3 * k0) 0) - 1)) d dl
set_option maxHeartbeats 4000000 in
set_option maxRecDepth 100000 in
theorem m_X1_pitchFactor {g : Ex} {n : Nat} {k0 : Nat} {x1 : Int32} {d : DD} {dl : LL} {Q : Int32 → DD → LL → Prop} (hk0 : k0 < 6) (hw : F_X1_pitchFactor n k0 x1 d dl Q) : Mi g yX1_pitchFactor cX1_pitchFactor 2 (some .int) 0 0 [rf g (37 + 3 * k0), .int x1] d dl Q := by
  refine Mi.of (by decide) (Nat.le_of_ble_eq_true rfl) (fun x C0 hZ => ?_)
  have C0 : Cx g x cX1_pitchFactor 2 (some .int) RX1 0 0 := C0
  refine f_iconst (v := 2) C0 dX1_pitchFactor_0 rfl ?_
  refine f_iload_n C0 dX1_pitchFactor_1 rfl 1 rfl ?_
  refine f_imul C0 dX1_pitchFactor_2 ?_
  refine f_aload_n C0 dX1_pitchFactor_3 rfl 0 rfl ⟨_, rfl⟩ ?_
  refine gf_1_0 C0 (kn_crew_0 hk0) mw_263 dX1_pitchFactor_4 ?_
  refine f_iconst (v := 1) C0 dX1_pitchFactor_7 rfl ?_
  refine f_isub C0 dX1_pitchFactor_8 ?_
  refine f_isub C0 dX1_pitchFactor_9 ?_
  exact f_iret C0 hZ hw dX1_pitchFactor_10
def F_X1_middleFactor (n : Nat) (k0 : Nat) (x1 : Int32) (d : DD) (dl : LL) (Q : Int32 → DD → LL → Prop) : Prop := Q (if (((d (37 + 3 * k0) 0) - 1) - x1) < x1 then (((d (37 + 3 * k0) 0) - 1) - x1) else x1) d dl
set_option maxHeartbeats 4000000 in
set_option maxRecDepth 100000 in
theorem m_X1_middleFactor {g : Ex} {n : Nat} {k0 : Nat} {x1 : Int32} {d : DD} {dl : LL} {Q : Int32 → DD → LL → Prop} (hk0 : k0 < 6) (hw : F_X1_middleFactor n k0 x1 d dl Q) : Mi g yX1_middleFactor cX1_middleFactor 2 (some .int) 1 13 [rf g (37 + 3 * k0), .int x1] d dl Q := by
  refine Mi.of (by decide) (Nat.le_of_ble_eq_true rfl) (fun x C0 hZ => ?_)
  have C0 : Cx g x cX1_middleFactor 2 (some .int) RX1 1 13 := C0
  refine f_iload_n C0 dX1_middleFactor_0 rfl 1 rfl ?_
  refine f_aload_n C0 dX1_middleFactor_1 rfl 0 rfl ⟨_, rfl⟩ ?_
  refine gf_1_0 C0 (kn_crew_0 hk0) mw_263 dX1_middleFactor_2 ?_
  refine f_iconst (v := 1) C0 dX1_middleFactor_5 rfl ?_
  refine f_isub C0 dX1_middleFactor_6 ?_
  refine f_iload_n C0 dX1_middleFactor_7 rfl 1 rfl ?_
  refine f_isub C0 dX1_middleFactor_8 ?_
  refine f_mmin C0 mw_506 mw_484 mw_59 mw_485 ⟨(Nat.le_of_ble_eq_true rfl), (Nat.le_of_ble_eq_true rfl)⟩ dX1_middleFactor_9 ?_
  exact f_iret C0 hZ hw dX1_middleFactor_12
def b_X6_loadBounds_372 (n : Nat) (Q : DD → LL → Prop) (K164 : Nat → Int32 → Int32 → Int32 → Int32 → Int32 → DD → LL → Prop) (k1 : Nat) (x2 : Int32) (x3 : Int32) (x4 : Int32) (x6 : Int32) (x7 : Int32) (xs0 : Int32) (xs1 : Int32) (xs2 : Int32) (d : DD) (dl : LL) : Prop := vp_in xs2 9 ∧ ∀ d53 : DD, d53 = u2 d 23 xs2.toNatClampNeg (xs1 + xs0) → K164 k1 x2 x3 x4 x6 (x7 + (-1)) d53 dl
def b_X6_loadBounds_332 (n : Nat) (Q : DD → LL → Prop) (K164 : Nat → Int32 → Int32 → Int32 → Int32 → Int32 → DD → LL → Prop) (k1 : Nat) (x2 : Int32) (x3 : Int32) (x4 : Int32) (x6 : Int32) (x7 : Int32) (x9 : Int32) (xs0 : Int32) (xs1 : Int32) (xs2 : Int32) (xs3 : Int32) (d : DD) (dl : LL) : Prop := vp_in xs3 9 ∧ ∀ d48 : DD, d48 = u2 d 22 xs3.toNatClampNeg (xs2 + (xs1 * xs0)) → vp_in (x7 + 1) 9 ∧ vp_in x7 8 ∧ (x9 = 0 → b_X6_loadBounds_372 n Q K164 k1 x2 x3 x4 x6 x7 x6 ((d48 23 (x7 + 1).toNatClampNeg) + (x4 * (d48 16 x7.toNatClampNeg))) x7 d48 dl) ∧ (¬ x9 = 0 → b_X6_loadBounds_372 n Q K164 k1 x2 x3 x4 x6 x7 0 ((d48 23 (x7 + 1).toNatClampNeg) + (x4 * (d48 16 x7.toNatClampNeg))) x7 d48 dl)
def b_X6_loadBounds_302 (n : Nat) (Q : DD → LL → Prop) (K164 : Nat → Int32 → Int32 → Int32 → Int32 → Int32 → DD → LL → Prop) (k1 : Nat) (x2 : Int32) (x3 : Int32) (x4 : Int32) (x6 : Int32) (x7 : Int32) (x9 : Int32) (x10 : Int32) (xs0 : Int32) (xs1 : Int32) (xs2 : Int32) (xs3 : Int32) (d : DD) (dl : LL) : Prop := vp_in xs3 9 ∧ ∀ d44 : DD, d44 = u2 d 21 xs3.toNatClampNeg (xs2 + (xs1 * xs0)) → vp_in (x7 + 1) 9 ∧ (0 ≤ x10 → b_X6_loadBounds_332 n Q K164 k1 x2 x3 x4 x6 x7 x9 x3 x10 (d44 22 (x7 + 1).toNatClampNeg) x7 d44 dl) ∧ (¬ 0 ≤ x10 → b_X6_loadBounds_332 n Q K164 k1 x2 x3 x4 x6 x7 x9 x2 x10 (d44 22 (x7 + 1).toNatClampNeg) x7 d44 dl)
def b_X6_loadBounds_273 (n : Nat) (Q : DD → LL → Prop) (K164 : Nat → Int32 → Int32 → Int32 → Int32 → Int32 → DD → LL → Prop) (k1 : Nat) (x2 : Int32) (x3 : Int32) (x4 : Int32) (x6 : Int32) (x7 : Int32) (x9 : Int32) (x10 : Int32) (xs0 : Int32) (xs1 : Int32) (xs2 : Int32) (d : DD) (dl : LL) : Prop := vp_in xs2 9 ∧ ∀ d40 : DD, d40 = u2 d 20 xs2.toNatClampNeg (xs1 + xs0) → vp_in (x7 + 1) 9 ∧ (0 ≤ x10 → b_X6_loadBounds_302 n Q K164 k1 x2 x3 x4 x6 x7 x9 x10 x2 x10 (d40 21 (x7 + 1).toNatClampNeg) x7 d40 dl) ∧ (¬ 0 ≤ x10 → b_X6_loadBounds_302 n Q K164 k1 x2 x3 x4 x6 x7 x9 x10 x3 x10 (d40 21 (x7 + 1).toNatClampNeg) x7 d40 dl)
def b_X6_loadBounds_245 (n : Nat) (Q : DD → LL → Prop) (K164 : Nat → Int32 → Int32 → Int32 → Int32 → Int32 → DD → LL → Prop) (k1 : Nat) (x2 : Int32) (x3 : Int32) (x4 : Int32) (x6 : Int32) (x7 : Int32) (x9 : Int32) (x10 : Int32) (xs0 : Int32) (xs1 : Int32) (xs2 : Int32) (d : DD) (dl : LL) : Prop := vp_in xs2 9 ∧ ∀ d36 : DD, d36 = u2 d 19 xs2.toNatClampNeg (xs1 + xs0) → vp_in (x7 + 1) 9 ∧ (x9 = 0 → b_X6_loadBounds_273 n Q K164 k1 x2 x3 x4 x6 x7 x9 x10 (-x2) (d36 20 (x7 + 1).toNatClampNeg) x7 d36 dl) ∧ (¬ x9 = 0 → b_X6_loadBounds_273 n Q K164 k1 x2 x3 x4 x6 x7 x9 x10 x3 (d36 20 (x7 + 1).toNatClampNeg) x7 d36 dl)
def b_X6_loadBounds_187 (n : Nat) (Q : DD → LL → Prop) (K164 : Nat → Int32 → Int32 → Int32 → Int32 → Int32 → DD → LL → Prop) (k1 : Nat) (x2 : Int32) (x3 : Int32) (x4 : Int32) (x6 : Int32) (x7 : Int32) (x8 : Int32) (xs0 : Int32) (d : DD) (dl : LL) : Prop := F_X1_pitchFactor n k1 x8 d dl (fun r23 d24 l25 => vp_in x7 8 ∧ ∀ d27 : DD, d27 = u2 d24 15 x7.toNatClampNeg r23 → F_X1_middleFactor n k1 x8 d27 l25 (fun r28 d29 l30 => vp_in x7 8 ∧ ∀ d32 : DD, d32 = u2 d29 16 x7.toNatClampNeg r28 → vp_in (x7 + 1) 9 ∧ (xs0 = 0 → b_X6_loadBounds_245 n Q K164 k1 x2 x3 x4 x6 x7 xs0 r23 (-x3) (d32 19 (x7 + 1).toNatClampNeg) x7 d32 l30) ∧ (¬ xs0 = 0 → b_X6_loadBounds_245 n Q K164 k1 x2 x3 x4 x6 x7 xs0 r23 x2 (d32 19 (x7 + 1).toNatClampNeg) x7 d32 l30)))
def b_X6_loadBounds_164 (n : Nat) (Q : DD → LL → Prop) : Nat → Nat → Int32 → Int32 → Int32 → Int32 → Int32 → DD → LL → Prop
  | 0 => fun _ _ _ _ _ _ _ _ => False
  | k + 1 => fun k1 x2 x3 x4 x6 x7 d dl => (x7 < 0 → Q d dl) ∧ (¬ x7 < 0 → ∀ v21 : Int32, v21 = (x7 / 2) → (¬ (irem x7 2) = 0 → b_X6_loadBounds_187 n Q (b_X6_loadBounds_164 n Q k) k1 x2 x3 x4 x6 x7 v21 0 d dl) ∧ ((irem x7 2) = 0 → b_X6_loadBounds_187 n Q (b_X6_loadBounds_164 n Q k) k1 x2 x3 x4 x6 x7 v21 1 d dl))
def b_X6_loadBounds_104 (n : Nat) (Q : DD → LL → Prop) (k1 : Nat) (x2 : Int32) (x3 : Int32) (x4 : Int32) (xs0 : Int32) (d : DD) (dl : LL) : Prop := vp_in (d 10 2) 9 ∧ ∀ d10 : DD, d10 = u2 d 19 (d 10 2).toNatClampNeg 0 → vp_in (d10 10 2) 9 ∧ ∀ d12 : DD, d12 = u2 d10 20 (d10 10 2).toNatClampNeg 0 → vp_in (d12 10 2) 9 ∧ ∀ d14 : DD, d14 = u2 d12 21 (d12 10 2).toNatClampNeg 0 → vp_in (d14 10 2) 9 ∧ ∀ d16 : DD, d16 = u2 d14 22 (d14 10 2).toNatClampNeg 0 → vp_in (d16 10 2) 9 ∧ ∀ d18 : DD, d18 = u2 d16 23 (d16 10 2).toNatClampNeg 0 → ∀ v19 : Int32, v19 = ((d18 10 2) - 1) → b_X6_loadBounds_164 n Q n k1 x2 x3 x4 xs0 v19 d18 dl
def b_X6_loadBounds_28 (n : Nat) (Q : DD → LL → Prop) : Nat → Nat → Int32 → Int32 → Int32 → Int32 → Int32 → DD → LL → Prop
  | 0 => fun _ _ _ _ _ _ _ _ => False
  | k + 1 => fun k1 x2 x3 x4 x5 x6 d dl => ((d 10 3) ≤ x6 → (x5 = 0 → b_X6_loadBounds_104 n Q k1 x2 x3 x4 0 d dl) ∧ (¬ x5 = 0 → b_X6_loadBounds_104 n Q k1 x2 x3 x4 20 d dl)) ∧ (¬ (d 10 3) ≤ x6 → vp_in x6 8 ∧ ∀ v55 : Int32, v55 = (if (d 11 x6.toNatClampNeg) < x2 then (d 11 x6.toNatClampNeg) else x2) → vp_in x6 8 ∧ ∀ v57 : Int32, v57 = (if x3 < (d 11 x6.toNatClampNeg) then (d 11 x6.toNatClampNeg) else x3) → vp_in x6 8 ∧ ∀ v59 : Int32, v59 = (if x4 < (d 12 x6.toNatClampNeg) then (d 12 x6.toNatClampNeg) else x4) → vp_in x6 8 ∧ ∀ v61 : Int32, v61 = (x5 ||| (d 14 x6.toNatClampNeg)) → (b_X6_loadBounds_28 n Q k) k1 v55 v57 v59 v61 (x6 + 1) d dl)
def F_X6_loadBounds (n : Nat) (k1 : Nat) (d : DD) (dl : LL) (Q : DD → LL → Prop) : Prop := ∀ v2 : Int32, v2 = (d 11 (0 : Int32).toNatClampNeg) → ∀ v4 : Int32, v4 = (d 11 (0 : Int32).toNatClampNeg) → ∀ v6 : Int32, v6 = (d 12 (0 : Int32).toNatClampNeg) → b_X6_loadBounds_28 n Q n k1 v2 v4 v6 0 0 d dl
set_option maxHeartbeats 4000000 in
set_option maxRecDepth 100000 in
theorem t_X6_loadBounds_372 {g : Ex} {x : Fx} {n : Nat} {Q : DD → LL → Prop} (C0 : Cx g x cX6_loadBounds 11 none RX6 2 34) (hZ : Zv g x Q) {K164 : Nat → Int32 → Int32 → Int32 → Int32 → Int32 → DD → LL → Prop} (hK164 : ∀ (k1 : Nat) (x2 : Int32) (x3 : Int32) (x4 : Int32) (x6 : Int32) (x7 : Int32) (hk1 : k1 < 6) (d : DD) (dl : LL), K164 k1 x2 x3 x4 x6 x7 d dl → FW g x 11 d dl 164 [(0, rf g 10), (1, rf g (37 + 3 * k1)), (2, .int x2), (3, .int x3), (4, .int x4), (6, .int x6), (7, .int x7)] []) : ∀ (k1 : Nat) (x2 : Int32) (x3 : Int32) (x4 : Int32) (x6 : Int32) (x7 : Int32) (xs0 : Int32) (xs1 : Int32) (xs2 : Int32) (hk1 : k1 < 6) (d : DD) (dl : LL), b_X6_loadBounds_372 n Q K164 k1 x2 x3 x4 x6 x7 xs0 xs1 xs2 d dl → FW g x 11 d dl 372 [(0, rf g 10), (1, rf g (37 + 3 * k1)), (2, .int x2), (3, .int x3), (4, .int x4), (6, .int x6), (7, .int x7)] [.int xs0, .int xs1, .int xs2, rf g 23] := by
  intro k1 x2 x3 x4 x6 x7 xs0 xs1 xs2 hk1 d dl hw
  refine f_iadd C0 dX6_loadBounds_372 ?_
  obtain ⟨h52, hw⟩ := hw
  refine f_iast C0 kn_23 h52 dX6_loadBounds_373 (fun d53 ed53 => ?_)
  have hw := hw d53 ed53
  refine f_iinc (lo' := [(7, .int (x7 + (-1))), (0, rf g 10), (1, rf g (37 + 3 * k1)), (2, .int x2), (3, .int x3), (4, .int x4), (6, .int x6)]) C0 dX6_loadBounds_374 6 rfl rfl (by decide) rfl ?_
  refine f_goto (tgt := 164) C0 dX6_loadBounds_377 (by decide) ?_
  refine f_sub [1, 2, 3, 4, 5, 6, 0] rfl ?_
  exact hK164 _ _ _ _ _ _ hk1 _ _ hw
set_option maxHeartbeats 4000000 in
set_option maxRecDepth 100000 in
theorem t_X6_loadBounds_332 {g : Ex} {x : Fx} {n : Nat} {Q : DD → LL → Prop} (C0 : Cx g x cX6_loadBounds 11 none RX6 2 34) (hZ : Zv g x Q) {K164 : Nat → Int32 → Int32 → Int32 → Int32 → Int32 → DD → LL → Prop} (hK164 : ∀ (k1 : Nat) (x2 : Int32) (x3 : Int32) (x4 : Int32) (x6 : Int32) (x7 : Int32) (hk1 : k1 < 6) (d : DD) (dl : LL), K164 k1 x2 x3 x4 x6 x7 d dl → FW g x 11 d dl 164 [(0, rf g 10), (1, rf g (37 + 3 * k1)), (2, .int x2), (3, .int x3), (4, .int x4), (6, .int x6), (7, .int x7)] []) : ∀ (k1 : Nat) (x2 : Int32) (x3 : Int32) (x4 : Int32) (x6 : Int32) (x7 : Int32) (x9 : Int32) (xs0 : Int32) (xs1 : Int32) (xs2 : Int32) (xs3 : Int32) (hk1 : k1 < 6) (d : DD) (dl : LL), b_X6_loadBounds_332 n Q K164 k1 x2 x3 x4 x6 x7 x9 xs0 xs1 xs2 xs3 d dl → FW g x 11 d dl 332 [(0, rf g 10), (1, rf g (37 + 3 * k1)), (2, .int x2), (3, .int x3), (4, .int x4), (6, .int x6), (7, .int x7), (9, .int x9)] [.int xs0, .int xs1, .int xs2, .int xs3, rf g 22] := by
  intro k1 x2 x3 x4 x6 x7 x9 xs0 xs1 xs2 xs3 hk1 d dl hw
  refine f_imul C0 dX6_loadBounds_332 ?_
  refine f_iadd C0 dX6_loadBounds_333 ?_
  obtain ⟨h47, hw⟩ := hw
  refine f_iast C0 kn_22 h47 dX6_loadBounds_334 (fun d48 ed48 => ?_)
  have hw := hw d48 ed48
  refine f_aload_n C0 dX6_loadBounds_335 rfl 0 rfl ⟨_, rfl⟩ ?_
  refine gf_6_16 (r := 23) C0 rfl kn_10 mw_160 dX6_loadBounds_336 ?_
  refine f_iload C0 dX6_loadBounds_339 6 rfl ?_
  refine f_aload_n C0 dX6_loadBounds_341 rfl 0 rfl ⟨_, rfl⟩ ?_
  refine gf_6_16 (r := 23) C0 rfl kn_10 mw_160 dX6_loadBounds_342 ?_
  refine f_iload C0 dX6_loadBounds_345 6 rfl ?_
  refine f_iconst (v := 1) C0 dX6_loadBounds_347 rfl ?_
  refine f_iadd C0 dX6_loadBounds_348 ?_
  obtain ⟨h49, hw⟩ := hw
  refine f_iald C0 kn_23 h49 dX6_loadBounds_349 ?_
  refine f_iload C0 dX6_loadBounds_350 4 rfl ?_
  refine f_aload_n C0 dX6_loadBounds_352 rfl 0 rfl ⟨_, rfl⟩ ?_
  refine gf_6_9 (r := 16) C0 rfl kn_10 mw_153 dX6_loadBounds_353 ?_
  refine f_iload C0 dX6_loadBounds_356 6 rfl ?_
  obtain ⟨h50, hw⟩ := hw
  refine f_iald C0 kn_16 h50 dX6_loadBounds_358 ?_
  refine f_imul C0 dX6_loadBounds_359 ?_
  refine f_iadd C0 dX6_loadBounds_360 ?_
  refine f_iload C0 dX6_loadBounds_361 7 rfl ?_
  refine f_if_eq (tgt := 370) C0 dX6_loadBounds_363 (by decide) (fun h51 => ?_) (fun h51 => ?_)
  · have hw := hw.1 h51
    refine f_iload C0 dX6_loadBounds_370 5 rfl ?_
    refine f_sub [0, 1, 2, 3, 4, 5, 6] rfl ?_
    exact t_X6_loadBounds_372 C0 hZ hK164 _ _ _ _ _ _ _ _ _ hk1 _ _ hw
  · have hw := hw.2 h51
    refine f_iconst (v := 0) C0 dX6_loadBounds_366 rfl ?_
    refine f_goto (tgt := 372) C0 dX6_loadBounds_367 (by decide) ?_
    refine f_sub [0, 1, 2, 3, 4, 5, 6] rfl ?_
    exact t_X6_loadBounds_372 C0 hZ hK164 _ _ _ _ _ _ _ _ _ hk1 _ _ hw
set_option maxHeartbeats 4000000 in
set_option maxRecDepth 100000 in
theorem t_X6_loadBounds_302 {g : Ex} {x : Fx} {n : Nat} {Q : DD → LL → Prop} (C0 : Cx g x cX6_loadBounds 11 none RX6 2 34) (hZ : Zv g x Q) {K164 : Nat → Int32 → Int32 → Int32 → Int32 → Int32 → DD → LL → Prop} (hK164 : ∀ (k1 : Nat) (x2 : Int32) (x3 : Int32) (x4 : Int32) (x6 : Int32) (x7 : Int32) (hk1 : k1 < 6) (d : DD) (dl : LL), K164 k1 x2 x3 x4 x6 x7 d dl → FW g x 11 d dl 164 [(0, rf g 10), (1, rf g (37 + 3 * k1)), (2, .int x2), (3, .int x3), (4, .int x4), (6, .int x6), (7, .int x7)] []) : ∀ (k1 : Nat) (x2 : Int32) (x3 : Int32) (x4 : Int32) (x6 : Int32) (x7 : Int32) (x9 : Int32) (x10 : Int32) (xs0 : Int32) (xs1 : Int32) (xs2 : Int32) (xs3 : Int32) (hk1 : k1 < 6) (d : DD) (dl : LL), b_X6_loadBounds_302 n Q K164 k1 x2 x3 x4 x6 x7 x9 x10 xs0 xs1 xs2 xs3 d dl → FW g x 11 d dl 302 [(0, rf g 10), (1, rf g (37 + 3 * k1)), (2, .int x2), (3, .int x3), (4, .int x4), (6, .int x6), (7, .int x7), (9, .int x9), (10, .int x10)] [.int xs0, .int xs1, .int xs2, .int xs3, rf g 21] := by
  intro k1 x2 x3 x4 x6 x7 x9 x10 xs0 xs1 xs2 xs3 hk1 d dl hw
  refine f_imul C0 dX6_loadBounds_302 ?_
  refine f_iadd C0 dX6_loadBounds_303 ?_
  obtain ⟨h43, hw⟩ := hw
  refine f_iast C0 kn_21 h43 dX6_loadBounds_304 (fun d44 ed44 => ?_)
  have hw := hw d44 ed44
  refine f_aload_n C0 dX6_loadBounds_305 rfl 0 rfl ⟨_, rfl⟩ ?_
  refine gf_6_15 (r := 22) C0 rfl kn_10 mw_159 dX6_loadBounds_306 ?_
  refine f_iload C0 dX6_loadBounds_309 6 rfl ?_
  refine f_aload_n C0 dX6_loadBounds_311 rfl 0 rfl ⟨_, rfl⟩ ?_
  refine gf_6_15 (r := 22) C0 rfl kn_10 mw_159 dX6_loadBounds_312 ?_
  refine f_iload C0 dX6_loadBounds_315 6 rfl ?_
  refine f_iconst (v := 1) C0 dX6_loadBounds_317 rfl ?_
  refine f_iadd C0 dX6_loadBounds_318 ?_
  obtain ⟨h45, hw⟩ := hw
  refine f_iald C0 kn_22 h45 dX6_loadBounds_319 ?_
  refine f_iload C0 dX6_loadBounds_320 8 rfl ?_
  refine f_iload C0 dX6_loadBounds_322 8 rfl ?_
  refine f_if_ge (tgt := 331) C0 dX6_loadBounds_324 (by decide) (fun h46 => ?_) (fun h46 => ?_)
  · have hw := hw.1 h46
    refine f_iload_n C0 dX6_loadBounds_331 rfl 3 rfl ?_
    refine f_sub [0, 1, 2, 3, 4, 5, 6, 7] rfl ?_
    exact t_X6_loadBounds_332 C0 hZ hK164 _ _ _ _ _ _ _ _ _ _ _ hk1 _ _ hw
  · have hw := hw.2 h46
    refine f_iload_n C0 dX6_loadBounds_327 rfl 2 rfl ?_
    refine f_goto (tgt := 332) C0 dX6_loadBounds_328 (by decide) ?_
    refine f_sub [0, 1, 2, 3, 4, 5, 6, 7] rfl ?_
    exact t_X6_loadBounds_332 C0 hZ hK164 _ _ _ _ _ _ _ _ _ _ _ hk1 _ _ hw
set_option maxHeartbeats 4000000 in
set_option maxRecDepth 100000 in
theorem t_X6_loadBounds_273 {g : Ex} {x : Fx} {n : Nat} {Q : DD → LL → Prop} (C0 : Cx g x cX6_loadBounds 11 none RX6 2 34) (hZ : Zv g x Q) {K164 : Nat → Int32 → Int32 → Int32 → Int32 → Int32 → DD → LL → Prop} (hK164 : ∀ (k1 : Nat) (x2 : Int32) (x3 : Int32) (x4 : Int32) (x6 : Int32) (x7 : Int32) (hk1 : k1 < 6) (d : DD) (dl : LL), K164 k1 x2 x3 x4 x6 x7 d dl → FW g x 11 d dl 164 [(0, rf g 10), (1, rf g (37 + 3 * k1)), (2, .int x2), (3, .int x3), (4, .int x4), (6, .int x6), (7, .int x7)] []) : ∀ (k1 : Nat) (x2 : Int32) (x3 : Int32) (x4 : Int32) (x6 : Int32) (x7 : Int32) (x9 : Int32) (x10 : Int32) (xs0 : Int32) (xs1 : Int32) (xs2 : Int32) (hk1 : k1 < 6) (d : DD) (dl : LL), b_X6_loadBounds_273 n Q K164 k1 x2 x3 x4 x6 x7 x9 x10 xs0 xs1 xs2 d dl → FW g x 11 d dl 273 [(0, rf g 10), (1, rf g (37 + 3 * k1)), (2, .int x2), (3, .int x3), (4, .int x4), (6, .int x6), (7, .int x7), (9, .int x9), (10, .int x10)] [.int xs0, .int xs1, .int xs2, rf g 20] := by
  intro k1 x2 x3 x4 x6 x7 x9 x10 xs0 xs1 xs2 hk1 d dl hw
  refine f_iadd C0 dX6_loadBounds_273 ?_
  obtain ⟨h39, hw⟩ := hw
  refine f_iast C0 kn_20 h39 dX6_loadBounds_274 (fun d40 ed40 => ?_)
  have hw := hw d40 ed40
  refine f_aload_n C0 dX6_loadBounds_275 rfl 0 rfl ⟨_, rfl⟩ ?_
  refine gf_6_14 (r := 21) C0 rfl kn_10 mw_158 dX6_loadBounds_276 ?_
  refine f_iload C0 dX6_loadBounds_279 6 rfl ?_
  refine f_aload_n C0 dX6_loadBounds_281 rfl 0 rfl ⟨_, rfl⟩ ?_
  refine gf_6_14 (r := 21) C0 rfl kn_10 mw_158 dX6_loadBounds_282 ?_
  refine f_iload C0 dX6_loadBounds_285 6 rfl ?_
  refine f_iconst (v := 1) C0 dX6_loadBounds_287 rfl ?_
  refine f_iadd C0 dX6_loadBounds_288 ?_
  obtain ⟨h41, hw⟩ := hw
  refine f_iald C0 kn_21 h41 dX6_loadBounds_289 ?_
  refine f_iload C0 dX6_loadBounds_290 8 rfl ?_
  refine f_iload C0 dX6_loadBounds_292 8 rfl ?_
  refine f_if_ge (tgt := 301) C0 dX6_loadBounds_294 (by decide) (fun h42 => ?_) (fun h42 => ?_)
  · have hw := hw.1 h42
    refine f_iload_n C0 dX6_loadBounds_301 rfl 2 rfl ?_
    exact t_X6_loadBounds_302 C0 hZ hK164 _ _ _ _ _ _ _ _ _ _ _ _ hk1 _ _ hw
  · have hw := hw.2 h42
    refine f_iload_n C0 dX6_loadBounds_297 rfl 3 rfl ?_
    refine f_goto (tgt := 302) C0 dX6_loadBounds_298 (by decide) ?_
    exact t_X6_loadBounds_302 C0 hZ hK164 _ _ _ _ _ _ _ _ _ _ _ _ hk1 _ _ hw
set_option maxHeartbeats 4000000 in
set_option maxRecDepth 100000 in
theorem t_X6_loadBounds_245 {g : Ex} {x : Fx} {n : Nat} {Q : DD → LL → Prop} (C0 : Cx g x cX6_loadBounds 11 none RX6 2 34) (hZ : Zv g x Q) {K164 : Nat → Int32 → Int32 → Int32 → Int32 → Int32 → DD → LL → Prop} (hK164 : ∀ (k1 : Nat) (x2 : Int32) (x3 : Int32) (x4 : Int32) (x6 : Int32) (x7 : Int32) (hk1 : k1 < 6) (d : DD) (dl : LL), K164 k1 x2 x3 x4 x6 x7 d dl → FW g x 11 d dl 164 [(0, rf g 10), (1, rf g (37 + 3 * k1)), (2, .int x2), (3, .int x3), (4, .int x4), (6, .int x6), (7, .int x7)] []) : ∀ (k1 : Nat) (x2 : Int32) (x3 : Int32) (x4 : Int32) (x6 : Int32) (x7 : Int32) (x9 : Int32) (x10 : Int32) (xs0 : Int32) (xs1 : Int32) (xs2 : Int32) (hk1 : k1 < 6) (d : DD) (dl : LL), b_X6_loadBounds_245 n Q K164 k1 x2 x3 x4 x6 x7 x9 x10 xs0 xs1 xs2 d dl → FW g x 11 d dl 245 [(0, rf g 10), (1, rf g (37 + 3 * k1)), (2, .int x2), (3, .int x3), (4, .int x4), (6, .int x6), (7, .int x7), (9, .int x9), (10, .int x10)] [.int xs0, .int xs1, .int xs2, rf g 19] := by
  intro k1 x2 x3 x4 x6 x7 x9 x10 xs0 xs1 xs2 hk1 d dl hw
  refine f_iadd C0 dX6_loadBounds_245 ?_
  obtain ⟨h35, hw⟩ := hw
  refine f_iast C0 kn_19 h35 dX6_loadBounds_246 (fun d36 ed36 => ?_)
  have hw := hw d36 ed36
  refine f_aload_n C0 dX6_loadBounds_247 rfl 0 rfl ⟨_, rfl⟩ ?_
  refine gf_6_13 (r := 20) C0 rfl kn_10 mw_157 dX6_loadBounds_248 ?_
  refine f_iload C0 dX6_loadBounds_251 6 rfl ?_
  refine f_aload_n C0 dX6_loadBounds_253 rfl 0 rfl ⟨_, rfl⟩ ?_
  refine gf_6_13 (r := 20) C0 rfl kn_10 mw_157 dX6_loadBounds_254 ?_
  refine f_iload C0 dX6_loadBounds_257 6 rfl ?_
  refine f_iconst (v := 1) C0 dX6_loadBounds_259 rfl ?_
  refine f_iadd C0 dX6_loadBounds_260 ?_
  obtain ⟨h37, hw⟩ := hw
  refine f_iald C0 kn_20 h37 dX6_loadBounds_261 ?_
  refine f_iload C0 dX6_loadBounds_262 7 rfl ?_
  refine f_if_eq (tgt := 271) C0 dX6_loadBounds_264 (by decide) (fun h38 => ?_) (fun h38 => ?_)
  · have hw := hw.1 h38
    refine f_iload_n C0 dX6_loadBounds_271 rfl 2 rfl ?_
    refine f_ineg C0 dX6_loadBounds_272 ?_
    exact t_X6_loadBounds_273 C0 hZ hK164 _ _ _ _ _ _ _ _ _ _ _ hk1 _ _ hw
  · have hw := hw.2 h38
    refine f_iload_n C0 dX6_loadBounds_267 rfl 3 rfl ?_
    refine f_goto (tgt := 273) C0 dX6_loadBounds_268 (by decide) ?_
    exact t_X6_loadBounds_273 C0 hZ hK164 _ _ _ _ _ _ _ _ _ _ _ hk1 _ _ hw
set_option maxHeartbeats 4000000 in
set_option maxRecDepth 100000 in
theorem t_X6_loadBounds_187 {g : Ex} {x : Fx} {n : Nat} {Q : DD → LL → Prop} (C0 : Cx g x cX6_loadBounds 11 none RX6 2 34) (hZ : Zv g x Q) {K164 : Nat → Int32 → Int32 → Int32 → Int32 → Int32 → DD → LL → Prop} (hK164 : ∀ (k1 : Nat) (x2 : Int32) (x3 : Int32) (x4 : Int32) (x6 : Int32) (x7 : Int32) (hk1 : k1 < 6) (d : DD) (dl : LL), K164 k1 x2 x3 x4 x6 x7 d dl → FW g x 11 d dl 164 [(0, rf g 10), (1, rf g (37 + 3 * k1)), (2, .int x2), (3, .int x3), (4, .int x4), (6, .int x6), (7, .int x7)] []) : ∀ (k1 : Nat) (x2 : Int32) (x3 : Int32) (x4 : Int32) (x6 : Int32) (x7 : Int32) (x8 : Int32) (xs0 : Int32) (hk1 : k1 < 6) (d : DD) (dl : LL), b_X6_loadBounds_187 n Q K164 k1 x2 x3 x4 x6 x7 x8 xs0 d dl → FW g x 11 d dl 187 [(0, rf g 10), (1, rf g (37 + 3 * k1)), (2, .int x2), (3, .int x3), (4, .int x4), (6, .int x6), (7, .int x7), (8, .int x8)] [.int xs0] := by
  intro k1 x2 x3 x4 x6 x7 x8 xs0 hk1 d dl hw
  refine f_istore (lo' := [(9, .int xs0), (0, rf g 10), (1, rf g (37 + 3 * k1)), (2, .int x2), (3, .int x3), (4, .int x4), (6, .int x6), (7, .int x7), (8, .int x8)]) C0 dX6_loadBounds_187 (by decide) rfl ?_
  refine f_aload_n C0 dX6_loadBounds_189 rfl 2 rfl ⟨_, rfl⟩ ?_
  refine f_iload C0 dX6_loadBounds_190 8 rfl ?_
  refine f_callVi (As := [.int x8]) (rest := []) C0 (m_X1_pitchFactor hk1 hw) cw_X6_113 (kn_crew_0 hk1) (by decide) rfl rfl ⟨(Nat.le_of_ble_eq_true rfl), (Nat.le_of_ble_eq_true rfl)⟩ rfl rfl (Nat.le_of_ble_eq_true rfl) dX6_loadBounds_192 ?_
  intro r23 d24 l25 hw
  refine f_istore (lo' := [(10, .int r23), (9, .int xs0), (0, rf g 10), (1, rf g (37 + 3 * k1)), (2, .int x2), (3, .int x3), (4, .int x4), (6, .int x6), (7, .int x7), (8, .int x8)]) C0 dX6_loadBounds_195 (by decide) rfl ?_
  refine f_aload_n C0 dX6_loadBounds_197 rfl 2 rfl ⟨_, rfl⟩ ?_
  refine gf_6_8 (r := 15) C0 rfl kn_10 mw_152 dX6_loadBounds_198 ?_
  refine f_iload C0 dX6_loadBounds_201 8 rfl ?_
  refine f_iload C0 dX6_loadBounds_203 0 rfl ?_
  obtain ⟨h26, hw⟩ := hw
  refine f_iast C0 kn_15 h26 dX6_loadBounds_205 (fun d27 ed27 => ?_)
  have hw := hw d27 ed27
  refine f_aload_n C0 dX6_loadBounds_206 rfl 2 rfl ⟨_, rfl⟩ ?_
  refine gf_6_9 (r := 16) C0 rfl kn_10 mw_153 dX6_loadBounds_207 ?_
  refine f_iload C0 dX6_loadBounds_210 8 rfl ?_
  refine f_aload_n C0 dX6_loadBounds_212 rfl 3 rfl ⟨_, rfl⟩ ?_
  refine f_iload C0 dX6_loadBounds_213 9 rfl ?_
  refine f_callVi (As := [.int x8]) (rest := [.int x7, rf g 16]) C0 (m_X1_middleFactor hk1 hw) cw_X6_116 (kn_crew_0 hk1) (by decide) rfl rfl ⟨(Nat.le_of_ble_eq_true rfl), (Nat.le_of_ble_eq_true rfl)⟩ rfl rfl (Nat.le_of_ble_eq_true rfl) dX6_loadBounds_215 ?_
  intro r28 d29 l30 hw
  obtain ⟨h31, hw⟩ := hw
  refine f_iast C0 kn_16 h31 dX6_loadBounds_218 (fun d32 ed32 => ?_)
  have hw := hw d32 ed32
  refine f_aload_n C0 dX6_loadBounds_219 rfl 2 rfl ⟨_, rfl⟩ ?_
  refine gf_6_12 (r := 19) C0 rfl kn_10 mw_156 dX6_loadBounds_220 ?_
  refine f_iload C0 dX6_loadBounds_223 8 rfl ?_
  refine f_aload_n C0 dX6_loadBounds_225 rfl 2 rfl ⟨_, rfl⟩ ?_
  refine gf_6_12 (r := 19) C0 rfl kn_10 mw_156 dX6_loadBounds_226 ?_
  refine f_iload C0 dX6_loadBounds_229 8 rfl ?_
  refine f_iconst (v := 1) C0 dX6_loadBounds_231 rfl ?_
  refine f_iadd C0 dX6_loadBounds_232 ?_
  obtain ⟨h33, hw⟩ := hw
  refine f_iald C0 kn_19 h33 dX6_loadBounds_233 ?_
  refine f_iload C0 dX6_loadBounds_234 1 rfl ?_
  refine f_if_eq (tgt := 243) C0 dX6_loadBounds_236 (by decide) (fun h34 => ?_) (fun h34 => ?_)
  · have hw := hw.1 h34
    refine f_iload_n C0 dX6_loadBounds_243 rfl 5 rfl ?_
    refine f_ineg C0 dX6_loadBounds_244 ?_
    refine f_sub [2, 3, 4, 5, 6, 7, 8, 1, 0] rfl ?_
    exact t_X6_loadBounds_245 C0 hZ hK164 _ _ _ _ _ _ _ _ _ _ _ hk1 _ _ hw
  · have hw := hw.2 h34
    refine f_iload_n C0 dX6_loadBounds_239 rfl 4 rfl ?_
    refine f_goto (tgt := 245) C0 dX6_loadBounds_240 (by decide) ?_
    refine f_sub [2, 3, 4, 5, 6, 7, 8, 1, 0] rfl ?_
    exact t_X6_loadBounds_245 C0 hZ hK164 _ _ _ _ _ _ _ _ _ _ _ hk1 _ _ hw
set_option maxHeartbeats 4000000 in
set_option maxRecDepth 100000 in
theorem t_X6_loadBounds_164 {g : Ex} {x : Fx} {n : Nat} {Q : DD → LL → Prop} (C0 : Cx g x cX6_loadBounds 11 none RX6 2 34) (hZ : Zv g x Q) : ∀ (j : Nat) (k1 : Nat) (x2 : Int32) (x3 : Int32) (x4 : Int32) (x6 : Int32) (x7 : Int32) (hk1 : k1 < 6) (d : DD) (dl : LL), b_X6_loadBounds_164 n Q j k1 x2 x3 x4 x6 x7 d dl → FW g x 11 d dl 164 [(0, rf g 10), (1, rf g (37 + 3 * k1)), (2, .int x2), (3, .int x3), (4, .int x4), (6, .int x6), (7, .int x7)] [] := by
  intro j
  induction j with
  | zero =>
    intro k1 x2 x3 x4 x6 x7 hk1 d dl hw
    exact hw.elim
  | succ j hK164 =>
    intro k1 x2 x3 x4 x6 x7 hk1 d dl hw
    refine f_iload C0 dX6_loadBounds_164 6 rfl ?_
    refine f_if_lt (tgt := 380) C0 dX6_loadBounds_166 (by decide) (fun h20 => ?_) (fun h20 => ?_)
    · have hw := hw.1 h20
      exact f_vret C0 hZ hw dX6_loadBounds_380
    · have hw := hw.2 h20
      refine f_iload C0 dX6_loadBounds_169 6 rfl ?_
      refine f_iconst (v := 2) C0 dX6_loadBounds_171 rfl ?_
      refine f_idiv C0 dX6_loadBounds_172 (by decide) ?_
      refine f_topi (fun v21 e21 => ?_)
      have hw := hw v21 e21
      refine f_istore (lo' := [(8, .int v21), (0, rf g 10), (1, rf g (37 + 3 * k1)), (2, .int x2), (3, .int x3), (4, .int x4), (6, .int x6), (7, .int x7)]) C0 dX6_loadBounds_173 (by decide) rfl ?_
      refine f_iload C0 dX6_loadBounds_175 7 rfl ?_
      refine f_iconst (v := 2) C0 dX6_loadBounds_177 rfl ?_
      refine f_irem C0 dX6_loadBounds_178 (by decide) ?_
      refine f_if_ne (tgt := 186) C0 dX6_loadBounds_179 (by decide) (fun h22 => ?_) (fun h22 => ?_)
      · have hw := hw.1 h22
        refine f_iconst (v := 0) C0 dX6_loadBounds_186 rfl ?_
        refine f_sub [1, 2, 3, 4, 5, 6, 7, 0] rfl ?_
        exact t_X6_loadBounds_187 C0 hZ hK164 _ _ _ _ _ _ _ _ hk1 _ _ hw
      · have hw := hw.2 h22
        refine f_iconst (v := 1) C0 dX6_loadBounds_182 rfl ?_
        refine f_goto (tgt := 187) C0 dX6_loadBounds_183 (by decide) ?_
        refine f_sub [1, 2, 3, 4, 5, 6, 7, 0] rfl ?_
        exact t_X6_loadBounds_187 C0 hZ hK164 _ _ _ _ _ _ _ _ hk1 _ _ hw
set_option maxHeartbeats 4000000 in
set_option maxRecDepth 100000 in
theorem t_X6_loadBounds_104 {g : Ex} {x : Fx} {n : Nat} {Q : DD → LL → Prop} (C0 : Cx g x cX6_loadBounds 11 none RX6 2 34) (hZ : Zv g x Q) : ∀ (k1 : Nat) (x2 : Int32) (x3 : Int32) (x4 : Int32) (xs0 : Int32) (hk1 : k1 < 6) (d : DD) (dl : LL), b_X6_loadBounds_104 n Q k1 x2 x3 x4 xs0 d dl → FW g x 11 d dl 104 [(0, rf g 10), (1, rf g (37 + 3 * k1)), (2, .int x2), (3, .int x3), (4, .int x4)] [.int xs0] := by
  intro k1 x2 x3 x4 xs0 hk1 d dl hw
  refine f_istore (lo' := [(6, .int xs0), (0, rf g 10), (1, rf g (37 + 3 * k1)), (2, .int x2), (3, .int x3), (4, .int x4)]) C0 dX6_loadBounds_104 (by decide) rfl ?_
  refine f_aload_n C0 dX6_loadBounds_106 rfl 1 rfl ⟨_, rfl⟩ ?_
  refine gf_6_12 (r := 19) C0 rfl kn_10 mw_156 dX6_loadBounds_107 ?_
  refine f_aload_n C0 dX6_loadBounds_110 rfl 1 rfl ⟨_, rfl⟩ ?_
  refine gf_6_2 C0 kn_10 mw_146 dX6_loadBounds_111 ?_
  refine f_iconst (v := 0) C0 dX6_loadBounds_114 rfl ?_
  obtain ⟨h9, hw⟩ := hw
  refine f_iast C0 kn_19 h9 dX6_loadBounds_115 (fun d10 ed10 => ?_)
  have hw := hw d10 ed10
  refine f_aload_n C0 dX6_loadBounds_116 rfl 1 rfl ⟨_, rfl⟩ ?_
  refine gf_6_13 (r := 20) C0 rfl kn_10 mw_157 dX6_loadBounds_117 ?_
  refine f_aload_n C0 dX6_loadBounds_120 rfl 1 rfl ⟨_, rfl⟩ ?_
  refine gf_6_2 C0 kn_10 mw_146 dX6_loadBounds_121 ?_
  refine f_iconst (v := 0) C0 dX6_loadBounds_124 rfl ?_
  obtain ⟨h11, hw⟩ := hw
  refine f_iast C0 kn_20 h11 dX6_loadBounds_125 (fun d12 ed12 => ?_)
  have hw := hw d12 ed12
  refine f_aload_n C0 dX6_loadBounds_126 rfl 1 rfl ⟨_, rfl⟩ ?_
  refine gf_6_14 (r := 21) C0 rfl kn_10 mw_158 dX6_loadBounds_127 ?_
  refine f_aload_n C0 dX6_loadBounds_130 rfl 1 rfl ⟨_, rfl⟩ ?_
  refine gf_6_2 C0 kn_10 mw_146 dX6_loadBounds_131 ?_
  refine f_iconst (v := 0) C0 dX6_loadBounds_134 rfl ?_
  obtain ⟨h13, hw⟩ := hw
  refine f_iast C0 kn_21 h13 dX6_loadBounds_135 (fun d14 ed14 => ?_)
  have hw := hw d14 ed14
  refine f_aload_n C0 dX6_loadBounds_136 rfl 1 rfl ⟨_, rfl⟩ ?_
  refine gf_6_15 (r := 22) C0 rfl kn_10 mw_159 dX6_loadBounds_137 ?_
  refine f_aload_n C0 dX6_loadBounds_140 rfl 1 rfl ⟨_, rfl⟩ ?_
  refine gf_6_2 C0 kn_10 mw_146 dX6_loadBounds_141 ?_
  refine f_iconst (v := 0) C0 dX6_loadBounds_144 rfl ?_
  obtain ⟨h15, hw⟩ := hw
  refine f_iast C0 kn_22 h15 dX6_loadBounds_145 (fun d16 ed16 => ?_)
  have hw := hw d16 ed16
  refine f_aload_n C0 dX6_loadBounds_146 rfl 1 rfl ⟨_, rfl⟩ ?_
  refine gf_6_16 (r := 23) C0 rfl kn_10 mw_160 dX6_loadBounds_147 ?_
  refine f_aload_n C0 dX6_loadBounds_150 rfl 1 rfl ⟨_, rfl⟩ ?_
  refine gf_6_2 C0 kn_10 mw_146 dX6_loadBounds_151 ?_
  refine f_iconst (v := 0) C0 dX6_loadBounds_154 rfl ?_
  obtain ⟨h17, hw⟩ := hw
  refine f_iast C0 kn_23 h17 dX6_loadBounds_155 (fun d18 ed18 => ?_)
  have hw := hw d18 ed18
  refine f_aload_n C0 dX6_loadBounds_156 rfl 1 rfl ⟨_, rfl⟩ ?_
  refine gf_6_2 C0 kn_10 mw_146 dX6_loadBounds_157 ?_
  refine f_iconst (v := 1) C0 dX6_loadBounds_160 rfl ?_
  refine f_isub C0 dX6_loadBounds_161 ?_
  refine f_topi (fun v19 e19 => ?_)
  have hw := hw v19 e19
  refine f_istore (lo' := [(7, .int v19), (6, .int xs0), (0, rf g 10), (1, rf g (37 + 3 * k1)), (2, .int x2), (3, .int x3), (4, .int x4)]) C0 dX6_loadBounds_162 (by decide) rfl ?_
  refine f_sub [2, 3, 4, 5, 6, 1, 0] rfl ?_
  exact t_X6_loadBounds_164 C0 hZ n _ _ _ _ _ _ hk1 _ _ hw
set_option maxHeartbeats 4000000 in
set_option maxRecDepth 100000 in
theorem t_X6_loadBounds_28 {g : Ex} {x : Fx} {n : Nat} {Q : DD → LL → Prop} (C0 : Cx g x cX6_loadBounds 11 none RX6 2 34) (hZ : Zv g x Q) : ∀ (j : Nat) (k1 : Nat) (x2 : Int32) (x3 : Int32) (x4 : Int32) (x5 : Int32) (x6 : Int32) (hk1 : k1 < 6) (d : DD) (dl : LL), b_X6_loadBounds_28 n Q j k1 x2 x3 x4 x5 x6 d dl → FW g x 11 d dl 28 [(0, rf g 10), (1, rf g (37 + 3 * k1)), (2, .int x2), (3, .int x3), (4, .int x4), (5, .int x5), (6, .int x6)] [] := by
  intro j
  induction j with
  | zero =>
    intro k1 x2 x3 x4 x5 x6 hk1 d dl hw
    exact hw.elim
  | succ j hK28 =>
    intro k1 x2 x3 x4 x5 x6 hk1 d dl hw
    refine f_iload C0 dX6_loadBounds_28 6 rfl ?_
    refine f_aload_n C0 dX6_loadBounds_30 rfl 0 rfl ⟨_, rfl⟩ ?_
    refine gf_6_3 C0 kn_10 mw_147 dX6_loadBounds_31 ?_
    refine f_icmp_ge (tgt := 93) C0 dX6_loadBounds_34 (by decide) (fun h7 => ?_) (fun h7 => ?_)
    · have hw := hw.1 h7
      refine f_iload C0 dX6_loadBounds_93 5 rfl ?_
      refine f_if_eq (tgt := 103) C0 dX6_loadBounds_95 (by decide) (fun h8 => ?_) (fun h8 => ?_)
      · have hw := hw.1 h8
        refine f_iconst (v := 0) C0 dX6_loadBounds_103 rfl ?_
        refine f_sub [0, 1, 2, 3, 4] rfl ?_
        exact t_X6_loadBounds_104 C0 hZ _ _ _ _ _ hk1 _ _ hw
      · have hw := hw.2 h8
        refine f_bipush (v := 20) C0 dX6_loadBounds_98 rfl ?_
        refine f_goto (tgt := 104) C0 dX6_loadBounds_100 (by decide) ?_
        refine f_sub [0, 1, 2, 3, 4] rfl ?_
        exact t_X6_loadBounds_104 C0 hZ _ _ _ _ _ hk1 _ _ hw
    · have hw := hw.2 h7
      refine f_iload_n C0 dX6_loadBounds_37 rfl 2 rfl ?_
      refine f_aload_n C0 dX6_loadBounds_38 rfl 0 rfl ⟨_, rfl⟩ ?_
      refine gf_6_4 (r := 11) C0 rfl kn_10 mw_148 dX6_loadBounds_39 ?_
      refine f_iload C0 dX6_loadBounds_42 6 rfl ?_
      obtain ⟨h54, hw⟩ := hw
      refine f_iald C0 kn_11 h54 dX6_loadBounds_44 ?_
      refine f_mmin C0 mw_483 mw_484 mw_59 mw_485 ⟨(Nat.le_of_ble_eq_true rfl), (Nat.le_of_ble_eq_true rfl)⟩ dX6_loadBounds_45 ?_
      refine f_topi (fun v55 e55 => ?_)
      have hw := hw v55 e55
      refine f_istore_n (lo' := [(2, .int v55), (0, rf g 10), (1, rf g (37 + 3 * k1)), (3, .int x3), (4, .int x4), (5, .int x5), (6, .int x6)]) C0 dX6_loadBounds_48 rfl (by decide) rfl ?_
      refine f_iload_n C0 dX6_loadBounds_49 rfl 3 rfl ?_
      refine f_aload_n C0 dX6_loadBounds_50 rfl 1 rfl ⟨_, rfl⟩ ?_
      refine gf_6_4 (r := 11) C0 rfl kn_10 mw_148 dX6_loadBounds_51 ?_
      refine f_iload C0 dX6_loadBounds_54 6 rfl ?_
      obtain ⟨h56, hw⟩ := hw
      refine f_iald C0 kn_11 h56 dX6_loadBounds_56 ?_
      refine f_mmax C0 mw_495 mw_496 mw_59 mw_497 ⟨(Nat.le_of_ble_eq_true rfl), (Nat.le_of_ble_eq_true rfl)⟩ dX6_loadBounds_57 ?_
      refine f_topi (fun v57 e57 => ?_)
      have hw := hw v57 e57
      refine f_istore_n (lo' := [(3, .int v57), (2, .int v55), (0, rf g 10), (1, rf g (37 + 3 * k1)), (4, .int x4), (5, .int x5), (6, .int x6)]) C0 dX6_loadBounds_60 rfl (by decide) rfl ?_
      refine f_iload C0 dX6_loadBounds_61 4 rfl ?_
      refine f_aload_n C0 dX6_loadBounds_63 rfl 2 rfl ⟨_, rfl⟩ ?_
      refine gf_6_5 (r := 12) C0 rfl kn_10 mw_149 dX6_loadBounds_64 ?_
      refine f_iload C0 dX6_loadBounds_67 6 rfl ?_
      obtain ⟨h58, hw⟩ := hw
      refine f_iald C0 kn_12 h58 dX6_loadBounds_69 ?_
      refine f_mmax C0 mw_495 mw_496 mw_59 mw_497 ⟨(Nat.le_of_ble_eq_true rfl), (Nat.le_of_ble_eq_true rfl)⟩ dX6_loadBounds_70 ?_
      refine f_topi (fun v59 e59 => ?_)
      have hw := hw v59 e59
      refine f_istore (lo' := [(4, .int v59), (3, .int v57), (2, .int v55), (0, rf g 10), (1, rf g (37 + 3 * k1)), (5, .int x5), (6, .int x6)]) C0 dX6_loadBounds_73 (by decide) rfl ?_
      refine f_iload C0 dX6_loadBounds_75 5 rfl ?_
      refine f_aload_n C0 dX6_loadBounds_77 rfl 3 rfl ⟨_, rfl⟩ ?_
      refine gf_6_7 (r := 14) C0 rfl kn_10 mw_151 dX6_loadBounds_78 ?_
      refine f_iload C0 dX6_loadBounds_81 6 rfl ?_
      obtain ⟨h60, hw⟩ := hw
      refine f_iald C0 kn_14 h60 dX6_loadBounds_83 ?_
      refine f_ior C0 dX6_loadBounds_84 ?_
      refine f_topi (fun v61 e61 => ?_)
      have hw := hw v61 e61
      refine f_istore (lo' := [(5, .int v61), (4, .int v59), (3, .int v57), (2, .int v55), (0, rf g 10), (1, rf g (37 + 3 * k1)), (6, .int x6)]) C0 dX6_loadBounds_85 (by decide) rfl ?_
      refine f_iinc (lo' := [(6, .int (x6 + 1)), (5, .int v61), (4, .int v59), (3, .int v57), (2, .int v55), (0, rf g 10), (1, rf g (37 + 3 * k1))]) C0 dX6_loadBounds_87 6 rfl rfl (by decide) rfl ?_
      refine f_goto (tgt := 28) C0 dX6_loadBounds_90 (by decide) ?_
      refine f_sub [5, 6, 4, 3, 2, 1, 0] rfl ?_
      exact hK28 _ _ _ _ _ _ hk1 _ _ hw
set_option maxHeartbeats 4000000 in
set_option maxRecDepth 100000 in
theorem m_X6_loadBounds {g : Ex} {n : Nat} {k1 : Nat} {d : DD} {dl : LL} {Q : DD → LL → Prop} (hk1 : k1 < 6) (hw : F_X6_loadBounds n k1 d dl Q) : Mv g yX6_loadBounds cX6_loadBounds 11 none 2 34 [rf g 10, rf g (37 + 3 * k1)] d dl Q := by
  refine Mv.of (by decide) (Nat.le_of_ble_eq_true rfl) (fun x C0 hZ => ?_)
  have C0 : Cx g x cX6_loadBounds 11 none RX6 2 34 := C0
  refine f_aload_n C0 dX6_loadBounds_0 rfl 0 rfl ⟨_, rfl⟩ ?_
  refine gf_6_4 (r := 11) C0 rfl kn_10 mw_148 dX6_loadBounds_1 ?_
  refine f_iconst (v := 0) C0 dX6_loadBounds_4 rfl ?_
  refine f_iald C0 kn_11 (by unfold vp_in; decide) dX6_loadBounds_5 ?_
  refine f_topi (fun v2 e2 => ?_)
  have hw := hw v2 e2
  refine f_istore_n (lo' := [(2, .int v2), (0, rf g 10), (1, rf g (37 + 3 * k1))]) C0 dX6_loadBounds_6 rfl (by decide) rfl ?_
  refine f_aload_n C0 dX6_loadBounds_7 rfl 1 rfl ⟨_, rfl⟩ ?_
  refine gf_6_4 (r := 11) C0 rfl kn_10 mw_148 dX6_loadBounds_8 ?_
  refine f_iconst (v := 0) C0 dX6_loadBounds_11 rfl ?_
  refine f_iald C0 kn_11 (by unfold vp_in; decide) dX6_loadBounds_12 ?_
  refine f_topi (fun v4 e4 => ?_)
  have hw := hw v4 e4
  refine f_istore_n (lo' := [(3, .int v4), (2, .int v2), (0, rf g 10), (1, rf g (37 + 3 * k1))]) C0 dX6_loadBounds_13 rfl (by decide) rfl ?_
  refine f_aload_n C0 dX6_loadBounds_14 rfl 2 rfl ⟨_, rfl⟩ ?_
  refine gf_6_5 (r := 12) C0 rfl kn_10 mw_149 dX6_loadBounds_15 ?_
  refine f_iconst (v := 0) C0 dX6_loadBounds_18 rfl ?_
  refine f_iald C0 kn_12 (by unfold vp_in; decide) dX6_loadBounds_19 ?_
  refine f_topi (fun v6 e6 => ?_)
  have hw := hw v6 e6
  refine f_istore (lo' := [(4, .int v6), (3, .int v4), (2, .int v2), (0, rf g 10), (1, rf g (37 + 3 * k1))]) C0 dX6_loadBounds_20 (by decide) rfl ?_
  refine f_iconst (v := 0) C0 dX6_loadBounds_22 rfl ?_
  refine f_istore (lo' := [(5, .int 0), (4, .int v6), (3, .int v4), (2, .int v2), (0, rf g 10), (1, rf g (37 + 3 * k1))]) C0 dX6_loadBounds_23 (by decide) rfl ?_
  refine f_iconst (v := 0) C0 dX6_loadBounds_25 rfl ?_
  refine f_istore (lo' := [(6, .int 0), (5, .int 0), (4, .int v6), (3, .int v4), (2, .int v2), (0, rf g 10), (1, rf g (37 + 3 * k1))]) C0 dX6_loadBounds_26 (by decide) rfl ?_
  refine f_sub [5, 6, 4, 3, 2, 1, 0] rfl ?_
  exact t_X6_loadBounds_28 C0 hZ n _ _ _ _ _ _ hk1 _ _ hw
def F_X1_drummerPitch (n : Nat) (k0 : Nat) (d : DD) (dl : LL) (Q : Int32 → DD → LL → Prop) : Prop := Q ((-(d (37 + 3 * k0) 0)) * (d (37 + 3 * k0) 1)) d dl
set_option maxHeartbeats 4000000 in
set_option maxRecDepth 100000 in
theorem m_X1_drummerPitch {g : Ex} {n : Nat} {k0 : Nat} {d : DD} {dl : LL} {Q : Int32 → DD → LL → Prop} (hk0 : k0 < 6) (hw : F_X1_drummerPitch n k0 d dl Q) : Mi g yX1_drummerPitch cX1_drummerPitch 1 (some .int) 0 0 [rf g (37 + 3 * k0)] d dl Q := by
  refine Mi.of (by decide) (Nat.le_of_ble_eq_true rfl) (fun x C0 hZ => ?_)
  have C0 : Cx g x cX1_drummerPitch 1 (some .int) RX1 0 0 := C0
  refine f_aload_n C0 dX1_drummerPitch_0 rfl 0 rfl ⟨_, rfl⟩ ?_
  refine gf_1_0 C0 (kn_crew_0 hk0) mw_263 dX1_drummerPitch_1 ?_
  refine f_ineg C0 dX1_drummerPitch_4 ?_
  refine f_aload_n C0 dX1_drummerPitch_5 rfl 0 rfl ⟨_, rfl⟩ ?_
  refine gf_1_1 C0 (kn_crew_0 hk0) mw_266 dX1_drummerPitch_6 ?_
  refine f_imul C0 dX1_drummerPitch_9 ?_
  exact f_iret C0 hZ hw dX1_drummerPitch_10
def F_X6_leastSize (n : Nat) (x0 : Int32) (x1 : Int32) (d : DD) (dl : LL) (Q : Int32 → DD → LL → Prop) : Prop := (x0 ≤ 0 → (0 ≤ x1 → Q 0 d dl) ∧ (¬ 0 ≤ x1 → Q (-x1) d dl)) ∧ (¬ x0 ≤ 0 → Q x0 d dl)
set_option maxHeartbeats 4000000 in
set_option maxRecDepth 100000 in
theorem m_X6_leastSize {g : Ex} {n : Nat} {x0 : Int32} {x1 : Int32} {d : DD} {dl : LL} {Q : Int32 → DD → LL → Prop} (hw : F_X6_leastSize n x0 x1 d dl Q) : Mi g yX6_leastSize cX6_leastSize 2 (some .int) 0 0 [.int x0, .int x1] d dl Q := by
  refine Mi.of (by decide) (Nat.le_of_ble_eq_true rfl) (fun x C0 hZ => ?_)
  have C0 : Cx g x cX6_leastSize 2 (some .int) RX6 0 0 := C0
  refine f_iload_n C0 dX6_leastSize_0 rfl 0 rfl ?_
  refine f_if_le (tgt := 6) C0 dX6_leastSize_1 (by decide) (fun h1 => ?_) (fun h1 => ?_)
  · have hw := hw.1 h1
    refine f_iload_n C0 dX6_leastSize_6 rfl 1 rfl ?_
    refine f_if_ge (tgt := 15) C0 dX6_leastSize_7 (by decide) (fun h2 => ?_) (fun h2 => ?_)
    · have hw := hw.1 h2
      refine f_iconst (v := 0) C0 dX6_leastSize_15 rfl ?_
      exact f_iret C0 hZ hw dX6_leastSize_16
    · have hw := hw.2 h2
      refine f_iload_n C0 dX6_leastSize_10 rfl 1 rfl ?_
      refine f_ineg C0 dX6_leastSize_11 ?_
      refine f_goto (tgt := 16) C0 dX6_leastSize_12 (by decide) ?_
      exact f_iret C0 hZ hw dX6_leastSize_16
  · have hw := hw.2 h1
    refine f_iload_n C0 dX6_leastSize_4 rfl 0 rfl ?_
    exact f_iret C0 hZ hw dX6_leastSize_5
def F_X6_leastFrom (n : Nat) (x1 : Int32) (x2 : Int32) (x3 : Int32) (x4 : Int32) (d : DD) (dl : LL) (Q : Int32 → DD → LL → Prop) : Prop := vp_in x1 9 ∧ vp_in x1 9 ∧ F_X6_leastSize n (x2 + (d 19 x1.toNatClampNeg)) (x2 + (d 20 x1.toNatClampNeg)) d dl (fun r3 d4 l5 => vp_in x1 9 ∧ vp_in x1 9 ∧ F_X6_leastSize n (x3 + (d4 21 x1.toNatClampNeg)) (x3 + (d4 22 x1.toNatClampNeg)) d4 l5 (fun r8 d9 l10 => vp_in x1 9 ∧ Q (((((4 : Int32) * r3) + r8) - x4) - (d9 23 x1.toNatClampNeg)) d9 l10))
set_option maxHeartbeats 4000000 in
set_option maxRecDepth 100000 in
theorem m_X6_leastFrom {g : Ex} {n : Nat} {x1 : Int32} {x2 : Int32} {x3 : Int32} {x4 : Int32} {d : DD} {dl : LL} {Q : Int32 → DD → LL → Prop} (hw : F_X6_leastFrom n x1 x2 x3 x4 d dl Q) : Mi g yX6_leastFrom cX6_leastFrom 5 (some .int) 1 21 [rf g 10, .int x1, .int x2, .int x3, .int x4] d dl Q := by
  refine Mi.of (by decide) (Nat.le_of_ble_eq_true rfl) (fun x C0 hZ => ?_)
  have C0 : Cx g x cX6_leastFrom 5 (some .int) RX6 1 21 := C0
  refine f_iconst (v := 4) C0 dX6_leastFrom_0 rfl ?_
  refine f_iload_n C0 dX6_leastFrom_1 rfl 2 rfl ?_
  refine f_aload_n C0 dX6_leastFrom_2 rfl 0 rfl ⟨_, rfl⟩ ?_
  refine gf_6_12 (r := 19) C0 rfl kn_10 mw_156 dX6_leastFrom_3 ?_
  refine f_iload_n C0 dX6_leastFrom_6 rfl 1 rfl ?_
  obtain ⟨h1, hw⟩ := hw
  refine f_iald C0 kn_19 h1 dX6_leastFrom_7 ?_
  refine f_iadd C0 dX6_leastFrom_8 ?_
  refine f_iload_n C0 dX6_leastFrom_9 rfl 2 rfl ?_
  refine f_aload_n C0 dX6_leastFrom_10 rfl 0 rfl ⟨_, rfl⟩ ?_
  refine gf_6_13 (r := 20) C0 rfl kn_10 mw_157 dX6_leastFrom_11 ?_
  refine f_iload_n C0 dX6_leastFrom_14 rfl 1 rfl ?_
  obtain ⟨h2, hw⟩ := hw
  refine f_iald C0 kn_20 h2 dX6_leastFrom_15 ?_
  refine f_iadd C0 dX6_leastFrom_16 ?_
  refine f_callSi (As := [.int (x2 + (d 19 x1.toNatClampNeg)), .int (x2 + (d 20 x1.toNatClampNeg))]) (rest := [.int 4]) C0 (m_X6_leastSize hw) cw_X6_132  ⟨(Nat.le_of_ble_eq_true rfl), (Nat.le_of_ble_eq_true rfl)⟩ rfl rfl (Nat.le_of_ble_eq_true rfl) dX6_leastFrom_17 ?_
  intro r3 d4 l5 hw
  refine f_imul C0 dX6_leastFrom_20 ?_
  refine f_iload_n C0 dX6_leastFrom_21 rfl 3 rfl ?_
  refine f_aload_n C0 dX6_leastFrom_22 rfl 0 rfl ⟨_, rfl⟩ ?_
  refine gf_6_14 (r := 21) C0 rfl kn_10 mw_158 dX6_leastFrom_23 ?_
  refine f_iload_n C0 dX6_leastFrom_26 rfl 1 rfl ?_
  obtain ⟨h6, hw⟩ := hw
  refine f_iald C0 kn_21 h6 dX6_leastFrom_27 ?_
  refine f_iadd C0 dX6_leastFrom_28 ?_
  refine f_iload_n C0 dX6_leastFrom_29 rfl 3 rfl ?_
  refine f_aload_n C0 dX6_leastFrom_30 rfl 0 rfl ⟨_, rfl⟩ ?_
  refine gf_6_15 (r := 22) C0 rfl kn_10 mw_159 dX6_leastFrom_31 ?_
  refine f_iload_n C0 dX6_leastFrom_34 rfl 1 rfl ?_
  obtain ⟨h7, hw⟩ := hw
  refine f_iald C0 kn_22 h7 dX6_leastFrom_35 ?_
  refine f_iadd C0 dX6_leastFrom_36 ?_
  refine f_callSi (As := [.int (x3 + (d4 21 x1.toNatClampNeg)), .int (x3 + (d4 22 x1.toNatClampNeg))]) (rest := [.int ((4 : Int32) * r3)]) C0 (m_X6_leastSize hw) cw_X6_132  ⟨(Nat.le_of_ble_eq_true rfl), (Nat.le_of_ble_eq_true rfl)⟩ rfl rfl (Nat.le_of_ble_eq_true rfl) dX6_leastFrom_37 ?_
  intro r8 d9 l10 hw
  refine f_iadd C0 dX6_leastFrom_40 ?_
  refine f_iload C0 dX6_leastFrom_41 4 rfl ?_
  refine f_isub C0 dX6_leastFrom_43 ?_
  refine f_aload_n C0 dX6_leastFrom_44 rfl 0 rfl ⟨_, rfl⟩ ?_
  refine gf_6_16 (r := 23) C0 rfl kn_10 mw_160 dX6_leastFrom_45 ?_
  refine f_iload_n C0 dX6_leastFrom_48 rfl 1 rfl ?_
  obtain ⟨h11, hw⟩ := hw
  refine f_iald C0 kn_23 h11 dX6_leastFrom_49 ?_
  refine f_isub C0 dX6_leastFrom_50 ?_
  exact f_iret C0 hZ hw dX6_leastFrom_51
def b_X6_keepChosen_12 (n : Nat) (Q : DD → LL → Prop) : Nat → Int32 → DD → LL → Prop
  | 0 => fun _ _ _ => False
  | k + 1 => fun x2 d dl => ((d 10 2) ≤ x2 → Q d dl) ∧ (¬ (d 10 2) ≤ x2 → vp_in x2 8 ∧ vp_in x2 8 ∧ ∀ d6 : DD, d6 = u2 d 18 x2.toNatClampNeg (d 17 x2.toNatClampNeg) → (b_X6_keepChosen_12 n Q k) (x2 + 1) d6 dl)
def F_X6_keepChosen (n : Nat) (x1 : Int32) (d : DD) (dl : LL) (Q : DD → LL → Prop) : Prop := ∀ d1 : DD, d1 = u2 d 10 1 1 → ∀ d2 : DD, d2 = u2 d1 10 0 x1 → b_X6_keepChosen_12 n Q n 0 d2 dl
set_option maxHeartbeats 4000000 in
set_option maxRecDepth 100000 in
theorem t_X6_keepChosen_12 {g : Ex} {x : Fx} {n : Nat} {Q : DD → LL → Prop} (C0 : Cx g x cX6_keepChosen 3 none RX6 0 0) (hZ : Zv g x Q) : ∀ (j : Nat) (x2 : Int32) (d : DD) (dl : LL), b_X6_keepChosen_12 n Q j x2 d dl → FW g x 3 d dl 12 [(0, rf g 10), (2, .int x2)] [] := by
  intro j
  induction j with
  | zero =>
    intro x2 d dl hw
    exact hw.elim
  | succ j hK12 =>
    intro x2 d dl hw
    refine f_iload_n C0 dX6_keepChosen_12 rfl 1 rfl ?_
    refine f_aload_n C0 dX6_keepChosen_13 rfl 0 rfl ⟨_, rfl⟩ ?_
    refine gf_6_2 C0 kn_10 mw_146 dX6_keepChosen_14 ?_
    refine f_icmp_ge (tgt := 38) C0 dX6_keepChosen_17 (by decide) (fun h3 => ?_) (fun h3 => ?_)
    · have hw := hw.1 h3
      exact f_vret C0 hZ hw dX6_keepChosen_38
    · have hw := hw.2 h3
      refine f_aload_n C0 dX6_keepChosen_20 rfl 0 rfl ⟨_, rfl⟩ ?_
      refine gf_6_11 (r := 18) C0 rfl kn_10 mw_155 dX6_keepChosen_21 ?_
      refine f_iload_n C0 dX6_keepChosen_24 rfl 1 rfl ?_
      refine f_aload_n C0 dX6_keepChosen_25 rfl 0 rfl ⟨_, rfl⟩ ?_
      refine gf_6_10 (r := 17) C0 rfl kn_10 mw_154 dX6_keepChosen_26 ?_
      refine f_iload_n C0 dX6_keepChosen_29 rfl 1 rfl ?_
      obtain ⟨h4, hw⟩ := hw
      refine f_iald C0 kn_17 h4 dX6_keepChosen_30 ?_
      obtain ⟨h5, hw⟩ := hw
      refine f_iast C0 kn_18 h5 dX6_keepChosen_31 (fun d6 ed6 => ?_)
      have hw := hw d6 ed6
      refine f_iinc (lo' := [(2, .int (x2 + 1)), (0, rf g 10)]) C0 dX6_keepChosen_32 1 rfl rfl (by decide) rfl ?_
      refine f_goto (tgt := 12) C0 dX6_keepChosen_35 (by decide) ?_
      refine f_sub [1, 0] rfl ?_
      exact hK12 _ _ _ hw
set_option maxHeartbeats 4000000 in
set_option maxRecDepth 100000 in
theorem m_X6_keepChosen {g : Ex} {n : Nat} {x1 : Int32} {d : DD} {dl : LL} {Q : DD → LL → Prop} (hw : F_X6_keepChosen n x1 d dl Q) : Mv g yX6_keepChosen cX6_keepChosen 3 none 0 0 [rf g 10, .int x1] d dl Q := by
  refine Mv.of (by decide) (Nat.le_of_ble_eq_true rfl) (fun x C0 hZ => ?_)
  have C0 : Cx g x cX6_keepChosen 3 none RX6 0 0 := C0
  refine f_aload_n C0 dX6_keepChosen_0 rfl 0 rfl ⟨_, rfl⟩ ?_
  refine f_iconst (v := 1) C0 dX6_keepChosen_1 rfl ?_
  refine pf_6_1 C0 kn_10 (by decide) mw_145 dX6_keepChosen_2 (fun d1 ed1 => ?_)
  have hw := hw d1 ed1
  refine f_aload_n C0 dX6_keepChosen_5 rfl 0 rfl ⟨_, rfl⟩ ?_
  refine f_iload_n C0 dX6_keepChosen_6 rfl 1 rfl ?_
  refine pf_6_0 C0 kn_10 mw_143 dX6_keepChosen_7 (fun d2 ed2 => ?_)
  have hw := hw d2 ed2
  refine f_iconst (v := 0) C0 dX6_keepChosen_10 rfl ?_
  refine f_istore_n (lo' := [(2, .int 0), (0, rf g 10), (1, .int x1)]) C0 dX6_keepChosen_11 rfl (by decide) rfl ?_
  refine f_sub [1, 0] rfl ?_
  exact t_X6_keepChosen_12 C0 hZ n _ _ _ hw
def b_X6_gainOf_46 (n : Nat) (Q : Int32 → DD → LL → Prop) (x3 : Int32) (xs0 : Int32) (d : DD) (dl : LL) : Prop := (xs0 = 0 → Q x3 d dl) ∧ (¬ xs0 = 0 → Q (x3 + 20) d dl)
def b_X6_gainOf_45 (n : Nat) (Q : Int32 → DD → LL → Prop) (x3 : Int32) (d : DD) (dl : LL) : Prop := b_X6_gainOf_46 n Q x3 0 d dl
def F_X6_gainOf (n : Nat) (x1 : Int32) (x2 : Int32) (d : DD) (dl : LL) (Q : Int32 → DD → LL → Prop) : Prop := vp_in x2 8 ∧ vp_in x1 8 ∧ ∀ v3 : Int32, v3 = ((d 12 x2.toNatClampNeg) * (d 16 x1.toNatClampNeg)) → (¬ (irem x1 2) = 1 → b_X6_gainOf_45 n Q v3 d dl) ∧ ((irem x1 2) = 1 → vp_in x2 8 ∧ vp_in (x1 - 1) 8 ∧ (((ushr (d 14 x2.toNatClampNeg) (d 17 (x1 - 1).toNatClampNeg)) &&& 1) = 0 → b_X6_gainOf_45 n Q v3 d dl) ∧ (¬ ((ushr (d 14 x2.toNatClampNeg) (d 17 (x1 - 1).toNatClampNeg)) &&& 1) = 0 → b_X6_gainOf_46 n Q v3 1 d dl))
set_option maxHeartbeats 4000000 in
set_option maxRecDepth 100000 in
theorem t_X6_gainOf_46 {g : Ex} {x : Fx} {n : Nat} {Q : Int32 → DD → LL → Prop} (C0 : Cx g x cX6_gainOf 5 (some .int) RX6 0 0) (hZ : Zi g x Q) : ∀ (x3 : Int32) (xs0 : Int32) (d : DD) (dl : LL), b_X6_gainOf_46 n Q x3 xs0 d dl → FW g x 5 d dl 46 [(3, .int x3)] [.int xs0] := by
  intro x3 xs0 d dl hw
  refine f_istore (lo' := [(4, .int xs0), (3, .int x3)]) C0 dX6_gainOf_46 (by decide) rfl ?_
  refine f_iload C0 dX6_gainOf_48 0 rfl ?_
  refine f_if_eq (tgt := 60) C0 dX6_gainOf_50 (by decide) (fun h5 => ?_) (fun h5 => ?_)
  · have hw := hw.1 h5
    refine f_iload_n C0 dX6_gainOf_60 rfl 1 rfl ?_
    exact f_iret C0 hZ hw dX6_gainOf_61
  · have hw := hw.2 h5
    refine f_iload_n C0 dX6_gainOf_53 rfl 1 rfl ?_
    refine f_bipush (v := 20) C0 dX6_gainOf_54 rfl ?_
    refine f_iadd C0 dX6_gainOf_56 ?_
    refine f_goto (tgt := 61) C0 dX6_gainOf_57 (by decide) ?_
    exact f_iret C0 hZ hw dX6_gainOf_61
set_option maxHeartbeats 4000000 in
set_option maxRecDepth 100000 in
theorem t_X6_gainOf_45 {g : Ex} {x : Fx} {n : Nat} {Q : Int32 → DD → LL → Prop} (C0 : Cx g x cX6_gainOf 5 (some .int) RX6 0 0) (hZ : Zi g x Q) : ∀ (x3 : Int32) (d : DD) (dl : LL), b_X6_gainOf_45 n Q x3 d dl → FW g x 5 d dl 45 [(3, .int x3)] [] := by
  intro x3 d dl hw
  refine f_iconst (v := 0) C0 dX6_gainOf_45 rfl ?_
  exact t_X6_gainOf_46 C0 hZ _ _ _ _ hw
set_option maxHeartbeats 4000000 in
set_option maxRecDepth 100000 in
theorem m_X6_gainOf {g : Ex} {n : Nat} {x1 : Int32} {x2 : Int32} {d : DD} {dl : LL} {Q : Int32 → DD → LL → Prop} (hw : F_X6_gainOf n x1 x2 d dl Q) : Mi g yX6_gainOf cX6_gainOf 5 (some .int) 0 0 [rf g 10, .int x1, .int x2] d dl Q := by
  refine Mi.of (by decide) (Nat.le_of_ble_eq_true rfl) (fun x C0 hZ => ?_)
  have C0 : Cx g x cX6_gainOf 5 (some .int) RX6 0 0 := C0
  refine f_aload_n C0 dX6_gainOf_0 rfl 0 rfl ⟨_, rfl⟩ ?_
  refine gf_6_5 (r := 12) C0 rfl kn_10 mw_149 dX6_gainOf_1 ?_
  refine f_iload_n C0 dX6_gainOf_4 rfl 2 rfl ?_
  obtain ⟨h1, hw⟩ := hw
  refine f_iald C0 kn_12 h1 dX6_gainOf_5 ?_
  refine f_aload_n C0 dX6_gainOf_6 rfl 0 rfl ⟨_, rfl⟩ ?_
  refine gf_6_9 (r := 16) C0 rfl kn_10 mw_153 dX6_gainOf_7 ?_
  refine f_iload_n C0 dX6_gainOf_10 rfl 1 rfl ?_
  obtain ⟨h2, hw⟩ := hw
  refine f_iald C0 kn_16 h2 dX6_gainOf_11 ?_
  refine f_imul C0 dX6_gainOf_12 ?_
  refine f_topi (fun v3 e3 => ?_)
  have hw := hw v3 e3
  refine f_istore_n (lo' := [(3, .int v3), (0, rf g 10), (1, .int x1), (2, .int x2)]) C0 dX6_gainOf_13 rfl (by decide) rfl ?_
  refine f_iload_n C0 dX6_gainOf_14 rfl 2 rfl ?_
  refine f_iconst (v := 2) C0 dX6_gainOf_15 rfl ?_
  refine f_irem C0 dX6_gainOf_16 (by decide) ?_
  refine f_iconst (v := 1) C0 dX6_gainOf_17 rfl ?_
  refine f_icmp_ne (tgt := 45) C0 dX6_gainOf_18 (by decide) (fun h4 => ?_) (fun h4 => ?_)
  · have hw := hw.1 h4
    refine f_sub [0] rfl ?_
    exact t_X6_gainOf_45 C0 hZ _ _ _ hw
  · have hw := hw.2 h4
    refine f_aload_n C0 dX6_gainOf_21 rfl 1 rfl ⟨_, rfl⟩ ?_
    refine gf_6_7 (r := 14) C0 rfl kn_10 mw_151 dX6_gainOf_22 ?_
    refine f_iload_n C0 dX6_gainOf_25 rfl 3 rfl ?_
    obtain ⟨h6, hw⟩ := hw
    refine f_iald C0 kn_14 h6 dX6_gainOf_26 ?_
    refine f_aload_n C0 dX6_gainOf_27 rfl 1 rfl ⟨_, rfl⟩ ?_
    refine gf_6_10 (r := 17) C0 rfl kn_10 mw_154 dX6_gainOf_28 ?_
    refine f_iload_n C0 dX6_gainOf_31 rfl 2 rfl ?_
    refine f_iconst (v := 1) C0 dX6_gainOf_32 rfl ?_
    refine f_isub C0 dX6_gainOf_33 ?_
    obtain ⟨h7, hw⟩ := hw
    refine f_iald C0 kn_17 h7 dX6_gainOf_34 ?_
    refine f_iushr C0 dX6_gainOf_35 ?_
    refine f_iconst (v := 1) C0 dX6_gainOf_36 rfl ?_
    refine f_iand C0 dX6_gainOf_37 ?_
    refine f_if_eq (tgt := 45) C0 dX6_gainOf_38 (by decide) (fun h8 => ?_) (fun h8 => ?_)
    · have hw := hw.1 h8
      refine f_sub [0] rfl ?_
      exact t_X6_gainOf_45 C0 hZ _ _ _ hw
    · have hw := hw.2 h8
      refine f_iconst (v := 1) C0 dX6_gainOf_41 rfl ?_
      refine f_goto (tgt := 46) C0 dX6_gainOf_42 (by decide) ?_
      refine f_sub [0] rfl ?_
      exact t_X6_gainOf_46 C0 hZ _ _ _ _ hw
def b_X6_fillFrom_137 (n : Nat) (rec : Int32 → Int32 → Int32 → Int32 → Int32 → DD → LL → (DD → LL → Prop) → Prop) (Q : DD → LL → Prop) (K61 : Int32 → Int32 → Int32 → Int32 → Int32 → Int32 → Int32 → DD → LL → Prop) (x1 : Int32) (x2 : Int32) (x3 : Int32) (x4 : Int32) (x5 : Int32) (x6 : Int32) (x7 : Int32) (xs0 : Int32) (xs1 : Int32) (xs2 : Int32) (d : DD) (dl : LL) : Prop := vp_in x7 8 ∧ vp_in x1 8 ∧ F_X6_gainOf n x1 x7 d dl (fun r14 d15 l16 => rec xs2 xs1 xs0 (x4 + ((d 11 x7.toNatClampNeg) * (d 15 x1.toNatClampNeg))) (x5 + r14) d15 l16 (fun d18 l19 => K61 x1 x2 x3 x4 x5 x6 (x7 + 1) d18 l19))
def b_X6_fillFrom_61 (n : Nat) (rec : Int32 → Int32 → Int32 → Int32 → Int32 → DD → LL → (DD → LL → Prop) → Prop) (Q : DD → LL → Prop) : Nat → Int32 → Int32 → Int32 → Int32 → Int32 → Int32 → Int32 → DD → LL → Prop
  | 0 => fun _ _ _ _ _ _ _ _ _ => False
  | k + 1 => fun x1 x2 x3 x4 x5 x6 x7 d dl => ((d 10 3) ≤ x7 → Q d dl) ∧ (¬ (d 10 3) ≤ x7 → (¬ ((ushr x2 x7) &&& 1) = 0 → (b_X6_fillFrom_61 n rec Q k) x1 x2 x3 x4 x5 x6 (x7 + 1) d dl) ∧ (((ushr x2 x7) &&& 1) = 0 → vp_in x7 8 ∧ ((d 13 x7.toNatClampNeg) = ((1 : Int32) - x6) → (b_X6_fillFrom_61 n rec Q k) x1 x2 x3 x4 x5 x6 (x7 + 1) d dl) ∧ (¬ (d 13 x7.toNatClampNeg) = ((1 : Int32) - x6) → vp_in x1 8 ∧ ∀ d9 : DD, d9 = u2 d 17 x1.toNatClampNeg x7 → (¬ x6 = 0 → vp_in x7 8 ∧ b_X6_fillFrom_137 n rec Q (b_X6_fillFrom_61 n rec Q k) x1 x2 x3 x4 x5 x6 x7 (x3 - (d9 11 x7.toNatClampNeg)) (x2 ||| ((1 : Int32) <<< (x7 &&& 31))) (x1 + 1) d9 dl) ∧ (x6 = 0 → vp_in x7 8 ∧ b_X6_fillFrom_137 n rec Q (b_X6_fillFrom_61 n rec Q k) x1 x2 x3 x4 x5 x6 x7 (x3 + (d9 11 x7.toNatClampNeg)) (x2 ||| ((1 : Int32) <<< (x7 &&& 31))) (x1 + 1) d9 dl))))
def b_X6_fillFrom_25 (n : Nat) (rec : Int32 → Int32 → Int32 → Int32 → Int32 → DD → LL → (DD → LL → Prop) → Prop) (Q : DD → LL → Prop) (x1 : Int32) (x2 : Int32) (x3 : Int32) (x4 : Int32) (x5 : Int32) (d : DD) (dl : LL) : Prop := (x1 < (d 10 2) → ∀ v3 : Int32, v3 = (irem x1 2) → b_X6_fillFrom_61 n rec Q n x1 x2 x3 x4 x5 v3 0 d dl) ∧ (¬ x1 < (d 10 2) → F_X6_keepChosen n ((((4 : Int32) * (if 0 ≤ x3 then x3 else -x3)) + (if 0 ≤ x4 then x4 else -x4)) - x5) d dl (fun d22 l23 => Q d22 l23))
def F_X6_fillFrom (n : Nat) : Nat → Int32 → Int32 → Int32 → Int32 → Int32 → DD → LL → (DD → LL → Prop) → Prop
  | 0 => fun _ _ _ _ _ _ _ _ => False
  | k + 1 => fun x1 x2 x3 x4 x5 d dl Q => ((d 10 1) = 0 → b_X6_fillFrom_25 n (F_X6_fillFrom n k) Q x1 x2 x3 x4 x5 d dl) ∧ (¬ (d 10 1) = 0 → F_X6_leastFrom n x1 x3 x4 x5 d dl (fun r24 d25 l26 => (r24 < (d25 10 0) → b_X6_fillFrom_25 n (F_X6_fillFrom n k) Q x1 x2 x3 x4 x5 d25 l26) ∧ (¬ r24 < (d25 10 0) → Q d25 l26)))
set_option maxHeartbeats 4000000 in
set_option maxRecDepth 100000 in
theorem t_X6_fillFrom_137 {g : Ex} {x : Fx} {n : Nat} {k : Nat} {Q : DD → LL → Prop} (C0 : Cx g x cX6_fillFrom 8 none RX6 (2 + (k + 1)) (45 + 27 * (k + 1))) (hZ : Zv g x Q) {rec : Int32 → Int32 → Int32 → Int32 → Int32 → DD → LL → (DD → LL → Prop) → Prop} (hrec : ∀ (x1 : Int32) (x2 : Int32) (x3 : Int32) (x4 : Int32) (x5 : Int32) (d : DD) (dl : LL) (Q : DD → LL → Prop), rec x1 x2 x3 x4 x5 d dl Q → Mv g yX6_fillFrom cX6_fillFrom 8 none (2 + k) (45 + 27 * k) [rf g 10, .int x1, .int x2, .int x3, .int x4, .int x5] d dl Q) {K61 : Int32 → Int32 → Int32 → Int32 → Int32 → Int32 → Int32 → DD → LL → Prop} (hK61 : ∀ (x1 : Int32) (x2 : Int32) (x3 : Int32) (x4 : Int32) (x5 : Int32) (x6 : Int32) (x7 : Int32) (d : DD) (dl : LL), K61 x1 x2 x3 x4 x5 x6 x7 d dl → FW g x 8 d dl 61 [(0, rf g 10), (1, .int x1), (2, .int x2), (3, .int x3), (4, .int x4), (5, .int x5), (6, .int x6), (7, .int x7)] []) : ∀ (x1 : Int32) (x2 : Int32) (x3 : Int32) (x4 : Int32) (x5 : Int32) (x6 : Int32) (x7 : Int32) (xs0 : Int32) (xs1 : Int32) (xs2 : Int32) (d : DD) (dl : LL), b_X6_fillFrom_137 n rec Q K61 x1 x2 x3 x4 x5 x6 x7 xs0 xs1 xs2 d dl → FW g x 8 d dl 137 [(0, rf g 10), (1, .int x1), (2, .int x2), (3, .int x3), (4, .int x4), (5, .int x5), (6, .int x6), (7, .int x7)] [.int xs0, .int xs1, .int xs2, rf g 10] := by
  intro x1 x2 x3 x4 x5 x6 x7 xs0 xs1 xs2 d dl hw
  refine f_iload C0 dX6_fillFrom_137 4 rfl ?_
  refine f_aload_n C0 dX6_fillFrom_139 rfl 0 rfl ⟨_, rfl⟩ ?_
  refine gf_6_4 (r := 11) C0 rfl kn_10 mw_148 dX6_fillFrom_140 ?_
  refine f_iload C0 dX6_fillFrom_143 7 rfl ?_
  obtain ⟨h12, hw⟩ := hw
  refine f_iald C0 kn_11 h12 dX6_fillFrom_145 ?_
  refine f_aload_n C0 dX6_fillFrom_146 rfl 0 rfl ⟨_, rfl⟩ ?_
  refine gf_6_8 (r := 15) C0 rfl kn_10 mw_152 dX6_fillFrom_147 ?_
  refine f_iload_n C0 dX6_fillFrom_150 rfl 1 rfl ?_
  obtain ⟨h13, hw⟩ := hw
  refine f_iald C0 kn_15 h13 dX6_fillFrom_151 ?_
  refine f_imul C0 dX6_fillFrom_152 ?_
  refine f_iadd C0 dX6_fillFrom_153 ?_
  refine f_iload C0 dX6_fillFrom_154 5 rfl ?_
  refine f_aload_n C0 dX6_fillFrom_156 rfl 0 rfl ⟨_, rfl⟩ ?_
  refine f_iload_n C0 dX6_fillFrom_157 rfl 1 rfl ?_
  refine f_iload C0 dX6_fillFrom_158 7 rfl ?_
  refine f_callVi (As := [.int x1, .int x7]) (rest := [.int x5, .int (x4 + ((d 11 x7.toNatClampNeg) * (d 15 x1.toNatClampNeg))), .int xs0, .int xs1, .int xs2, rf g 10]) C0 (m_X6_gainOf hw) cw_X6_129 kn_10 (by decide) rfl rfl ⟨by omega, by omega⟩ rfl rfl (Nat.le_of_ble_eq_true rfl) dX6_fillFrom_160 ?_
  intro r14 d15 l16 hw
  refine f_iadd C0 dX6_fillFrom_163 ?_
  refine f_callSv (As := [rf g 10, .int xs2, .int xs1, .int xs0, .int (x4 + ((d 11 x7.toNatClampNeg) * (d 15 x1.toNatClampNeg))), .int (x5 + r14)]) (rest := []) C0 (hrec _ _ _ _ _ _ _ _ hw) cw_X6_91  ⟨by omega, by omega⟩ rfl rfl (Nat.le_of_ble_eq_true rfl) dX6_fillFrom_164 ?_
  intro d18 l19 hw
  refine f_iinc (lo' := [(7, .int (x7 + 1)), (0, rf g 10), (1, .int x1), (2, .int x2), (3, .int x3), (4, .int x4), (5, .int x5), (6, .int x6)]) C0 dX6_fillFrom_167 7 rfl rfl (by decide) rfl ?_
  refine f_goto (tgt := 61) C0 dX6_fillFrom_170 (by decide) ?_
  refine f_sub [1, 2, 3, 4, 5, 6, 7, 0] rfl ?_
  exact hK61 _ _ _ _ _ _ _ _ _ hw
set_option maxHeartbeats 4000000 in
set_option maxRecDepth 100000 in
theorem t_X6_fillFrom_61 {g : Ex} {x : Fx} {n : Nat} {k : Nat} {Q : DD → LL → Prop} (C0 : Cx g x cX6_fillFrom 8 none RX6 (2 + (k + 1)) (45 + 27 * (k + 1))) (hZ : Zv g x Q) {rec : Int32 → Int32 → Int32 → Int32 → Int32 → DD → LL → (DD → LL → Prop) → Prop} (hrec : ∀ (x1 : Int32) (x2 : Int32) (x3 : Int32) (x4 : Int32) (x5 : Int32) (d : DD) (dl : LL) (Q : DD → LL → Prop), rec x1 x2 x3 x4 x5 d dl Q → Mv g yX6_fillFrom cX6_fillFrom 8 none (2 + k) (45 + 27 * k) [rf g 10, .int x1, .int x2, .int x3, .int x4, .int x5] d dl Q) : ∀ (j : Nat) (x1 : Int32) (x2 : Int32) (x3 : Int32) (x4 : Int32) (x5 : Int32) (x6 : Int32) (x7 : Int32) (d : DD) (dl : LL), b_X6_fillFrom_61 n rec Q j x1 x2 x3 x4 x5 x6 x7 d dl → FW g x 8 d dl 61 [(0, rf g 10), (1, .int x1), (2, .int x2), (3, .int x3), (4, .int x4), (5, .int x5), (6, .int x6), (7, .int x7)] [] := by
  intro j
  induction j with
  | zero =>
    intro x1 x2 x3 x4 x5 x6 x7 d dl hw
    exact hw.elim
  | succ j hK61 =>
    intro x1 x2 x3 x4 x5 x6 x7 d dl hw
    refine f_iload C0 dX6_fillFrom_61 7 rfl ?_
    refine f_aload_n C0 dX6_fillFrom_63 rfl 0 rfl ⟨_, rfl⟩ ?_
    refine gf_6_3 C0 kn_10 mw_147 dX6_fillFrom_64 ?_
    refine f_icmp_ge (tgt := 173) C0 dX6_fillFrom_67 (by decide) (fun h4 => ?_) (fun h4 => ?_)
    · have hw := hw.1 h4
      exact f_vret C0 hZ hw dX6_fillFrom_173
    · have hw := hw.2 h4
      refine f_iload_n C0 dX6_fillFrom_70 rfl 2 rfl ?_
      refine f_iload C0 dX6_fillFrom_71 7 rfl ?_
      refine f_iushr C0 dX6_fillFrom_73 ?_
      refine f_iconst (v := 1) C0 dX6_fillFrom_74 rfl ?_
      refine f_iand C0 dX6_fillFrom_75 ?_
      refine f_if_ne (tgt := 167) C0 dX6_fillFrom_76 (by decide) (fun h5 => ?_) (fun h5 => ?_)
      · have hw := hw.1 h5
        refine f_iinc (lo' := [(7, .int (x7 + 1)), (0, rf g 10), (1, .int x1), (2, .int x2), (3, .int x3), (4, .int x4), (5, .int x5), (6, .int x6)]) C0 dX6_fillFrom_167 7 rfl rfl (by decide) rfl ?_
        refine f_goto (tgt := 61) C0 dX6_fillFrom_170 (by decide) ?_
        refine f_sub [1, 2, 3, 4, 5, 6, 7, 0] rfl ?_
        exact hK61 _ _ _ _ _ _ _ _ _ hw
      · have hw := hw.2 h5
        refine f_aload_n C0 dX6_fillFrom_79 rfl 0 rfl ⟨_, rfl⟩ ?_
        refine gf_6_6 (r := 13) C0 rfl kn_10 mw_150 dX6_fillFrom_80 ?_
        refine f_iload C0 dX6_fillFrom_83 7 rfl ?_
        obtain ⟨h6, hw⟩ := hw
        refine f_iald C0 kn_13 h6 dX6_fillFrom_85 ?_
        refine f_iconst (v := 1) C0 dX6_fillFrom_86 rfl ?_
        refine f_iload C0 dX6_fillFrom_87 6 rfl ?_
        refine f_isub C0 dX6_fillFrom_89 ?_
        refine f_icmp_eq (tgt := 167) C0 dX6_fillFrom_90 (by decide) (fun h7 => ?_) (fun h7 => ?_)
        · have hw := hw.1 h7
          refine f_iinc (lo' := [(7, .int (x7 + 1)), (0, rf g 10), (1, .int x1), (2, .int x2), (3, .int x3), (4, .int x4), (5, .int x5), (6, .int x6)]) C0 dX6_fillFrom_167 7 rfl rfl (by decide) rfl ?_
          refine f_goto (tgt := 61) C0 dX6_fillFrom_170 (by decide) ?_
          refine f_sub [1, 2, 3, 4, 5, 6, 7, 0] rfl ?_
          exact hK61 _ _ _ _ _ _ _ _ _ hw
        · have hw := hw.2 h7
          refine f_aload_n C0 dX6_fillFrom_93 rfl 0 rfl ⟨_, rfl⟩ ?_
          refine gf_6_10 (r := 17) C0 rfl kn_10 mw_154 dX6_fillFrom_94 ?_
          refine f_iload_n C0 dX6_fillFrom_97 rfl 1 rfl ?_
          refine f_iload C0 dX6_fillFrom_98 7 rfl ?_
          obtain ⟨h8, hw⟩ := hw
          refine f_iast C0 kn_17 h8 dX6_fillFrom_100 (fun d9 ed9 => ?_)
          have hw := hw d9 ed9
          refine f_aload_n C0 dX6_fillFrom_101 rfl 0 rfl ⟨_, rfl⟩ ?_
          refine f_iload_n C0 dX6_fillFrom_102 rfl 1 rfl ?_
          refine f_iconst (v := 1) C0 dX6_fillFrom_103 rfl ?_
          refine f_iadd C0 dX6_fillFrom_104 ?_
          refine f_iload_n C0 dX6_fillFrom_105 rfl 2 rfl ?_
          refine f_iconst (v := 1) C0 dX6_fillFrom_106 rfl ?_
          refine f_iload C0 dX6_fillFrom_107 7 rfl ?_
          refine f_ishl C0 dX6_fillFrom_109 ?_
          refine f_ior C0 dX6_fillFrom_110 ?_
          refine f_iload C0 dX6_fillFrom_111 6 rfl ?_
          refine f_if_ne (tgt := 128) C0 dX6_fillFrom_113 (by decide) (fun h10 => ?_) (fun h10 => ?_)
          · have hw := hw.1 h10
            refine f_iload_n C0 dX6_fillFrom_128 rfl 3 rfl ?_
            refine f_aload_n C0 dX6_fillFrom_129 rfl 0 rfl ⟨_, rfl⟩ ?_
            refine gf_6_4 (r := 11) C0 rfl kn_10 mw_148 dX6_fillFrom_130 ?_
            refine f_iload C0 dX6_fillFrom_133 7 rfl ?_
            obtain ⟨h11, hw⟩ := hw
            refine f_iald C0 kn_11 h11 dX6_fillFrom_135 ?_
            refine f_isub C0 dX6_fillFrom_136 ?_
            exact t_X6_fillFrom_137 C0 hZ hrec hK61 _ _ _ _ _ _ _ _ _ _ _ _ hw
          · have hw := hw.2 h10
            refine f_iload_n C0 dX6_fillFrom_116 rfl 3 rfl ?_
            refine f_aload_n C0 dX6_fillFrom_117 rfl 0 rfl ⟨_, rfl⟩ ?_
            refine gf_6_4 (r := 11) C0 rfl kn_10 mw_148 dX6_fillFrom_118 ?_
            refine f_iload C0 dX6_fillFrom_121 7 rfl ?_
            obtain ⟨h20, hw⟩ := hw
            refine f_iald C0 kn_11 h20 dX6_fillFrom_123 ?_
            refine f_iadd C0 dX6_fillFrom_124 ?_
            refine f_goto (tgt := 137) C0 dX6_fillFrom_125 (by decide) ?_
            exact t_X6_fillFrom_137 C0 hZ hrec hK61 _ _ _ _ _ _ _ _ _ _ _ _ hw
set_option maxHeartbeats 4000000 in
set_option maxRecDepth 100000 in
theorem t_X6_fillFrom_25 {g : Ex} {x : Fx} {n : Nat} {k : Nat} {Q : DD → LL → Prop} (C0 : Cx g x cX6_fillFrom 8 none RX6 (2 + (k + 1)) (45 + 27 * (k + 1))) (hZ : Zv g x Q) {rec : Int32 → Int32 → Int32 → Int32 → Int32 → DD → LL → (DD → LL → Prop) → Prop} (hrec : ∀ (x1 : Int32) (x2 : Int32) (x3 : Int32) (x4 : Int32) (x5 : Int32) (d : DD) (dl : LL) (Q : DD → LL → Prop), rec x1 x2 x3 x4 x5 d dl Q → Mv g yX6_fillFrom cX6_fillFrom 8 none (2 + k) (45 + 27 * k) [rf g 10, .int x1, .int x2, .int x3, .int x4, .int x5] d dl Q) : ∀ (x1 : Int32) (x2 : Int32) (x3 : Int32) (x4 : Int32) (x5 : Int32) (d : DD) (dl : LL), b_X6_fillFrom_25 n rec Q x1 x2 x3 x4 x5 d dl → FW g x 8 d dl 25 [(0, rf g 10), (1, .int x1), (2, .int x2), (3, .int x3), (4, .int x4), (5, .int x5)] [] := by
  intro x1 x2 x3 x4 x5 d dl hw
  refine f_iload_n C0 dX6_fillFrom_25 rfl 1 rfl ?_
  refine f_aload_n C0 dX6_fillFrom_26 rfl 0 rfl ⟨_, rfl⟩ ?_
  refine gf_6_2 C0 kn_10 mw_146 dX6_fillFrom_27 ?_
  refine f_icmp_lt (tgt := 53) C0 dX6_fillFrom_30 (by decide) (fun h2 => ?_) (fun h2 => ?_)
  · have hw := hw.1 h2
    refine f_iload_n C0 dX6_fillFrom_53 rfl 1 rfl ?_
    refine f_iconst (v := 2) C0 dX6_fillFrom_54 rfl ?_
    refine f_irem C0 dX6_fillFrom_55 (by decide) ?_
    refine f_topi (fun v3 e3 => ?_)
    have hw := hw v3 e3
    refine f_istore (lo' := [(6, .int v3), (0, rf g 10), (1, .int x1), (2, .int x2), (3, .int x3), (4, .int x4), (5, .int x5)]) C0 dX6_fillFrom_56 (by decide) rfl ?_
    refine f_iconst (v := 0) C0 dX6_fillFrom_58 rfl ?_
    refine f_istore (lo' := [(7, .int 0), (6, .int v3), (0, rf g 10), (1, .int x1), (2, .int x2), (3, .int x3), (4, .int x4), (5, .int x5)]) C0 dX6_fillFrom_59 (by decide) rfl ?_
    refine f_sub [2, 3, 4, 5, 6, 7, 1, 0] rfl ?_
    exact t_X6_fillFrom_61 C0 hZ hrec n _ _ _ _ _ _ _ _ _ hw
  · have hw := hw.2 h2
    refine f_aload_n C0 dX6_fillFrom_33 rfl 0 rfl ⟨_, rfl⟩ ?_
    refine f_iconst (v := 4) C0 dX6_fillFrom_34 rfl ?_
    refine f_iload_n C0 dX6_fillFrom_35 rfl 3 rfl ?_
    refine f_mabs (v := 0) C0 mw_521 mw_522 mw_59 mw_523 ⟨by omega, by show 15 ≤ _; omega⟩ dX6_fillFrom_36 ?_
    refine f_imul C0 dX6_fillFrom_39 ?_
    refine f_iload C0 dX6_fillFrom_40 4 rfl ?_
    refine f_mabs (v := 0) C0 mw_521 mw_522 mw_59 mw_523 ⟨by omega, by show 15 ≤ _; omega⟩ dX6_fillFrom_42 ?_
    refine f_iadd C0 dX6_fillFrom_45 ?_
    refine f_iload C0 dX6_fillFrom_46 5 rfl ?_
    refine f_isub C0 dX6_fillFrom_48 ?_
    refine f_callVv (As := [.int ((((4 : Int32) * (if 0 ≤ x3 then x3 else -x3)) + (if 0 ≤ x4 then x4 else -x4)) - x5)]) (rest := []) C0 (m_X6_keepChosen hw) cw_X6_125 kn_10 (by decide) rfl rfl ⟨by omega, by omega⟩ rfl rfl (Nat.le_of_ble_eq_true rfl) dX6_fillFrom_49 ?_
    intro d22 l23 hw
    exact f_vret C0 hZ hw dX6_fillFrom_52
set_option maxHeartbeats 4000000 in
set_option maxRecDepth 100000 in
theorem m_X6_fillFrom {g : Ex} {n : Nat} : ∀ {k : Nat} {x1 : Int32} {x2 : Int32} {x3 : Int32} {x4 : Int32} {x5 : Int32} {d : DD} {dl : LL} {Q : DD → LL → Prop}, F_X6_fillFrom n k x1 x2 x3 x4 x5 d dl Q → Mv g yX6_fillFrom cX6_fillFrom 8 none (2 + k) (45 + 27 * k) [rf g 10, .int x1, .int x2, .int x3, .int x4, .int x5] d dl Q := by
  intro k
  induction k with
  | zero =>
    intro x1 x2 x3 x4 x5 d dl Q hw
    exact hw.elim
  | succ k ih =>
    intro x1 x2 x3 x4 x5 d dl Q hw
    have hrec : ∀ (x1 : Int32) (x2 : Int32) (x3 : Int32) (x4 : Int32) (x5 : Int32) (d : DD) (dl : LL) (Q : DD → LL → Prop), F_X6_fillFrom n k x1 x2 x3 x4 x5 d dl Q → _ := fun _ _ _ _ _ _ _ _ h => ih h
    refine Mv.of (by decide) (Nat.le_of_ble_eq_true rfl) (fun x C0 hZ => ?_)
    have C0 : Cx g x cX6_fillFrom 8 none RX6 (2 + (k + 1)) (45 + 27 * (k + 1)) := C0
    refine f_aload_n C0 dX6_fillFrom_0 rfl 0 rfl ⟨_, rfl⟩ ?_
    refine gf_6_1 C0 kn_10 mw_145 dX6_fillFrom_1 ?_
    refine f_if_eq (tgt := 25) C0 dX6_fillFrom_4 (by decide) (fun h1 => ?_) (fun h1 => ?_)
    · have hw := hw.1 h1
      exact t_X6_fillFrom_25 C0 hZ hrec _ _ _ _ _ _ _ hw
    · have hw := hw.2 h1
      refine f_aload_n C0 dX6_fillFrom_7 rfl 0 rfl ⟨_, rfl⟩ ?_
      refine f_iload_n C0 dX6_fillFrom_8 rfl 1 rfl ?_
      refine f_iload_n C0 dX6_fillFrom_9 rfl 3 rfl ?_
      refine f_iload C0 dX6_fillFrom_10 4 rfl ?_
      refine f_iload C0 dX6_fillFrom_12 5 rfl ?_
      refine f_callVi (As := [.int x1, .int x3, .int x4, .int x5]) (rest := []) C0 (m_X6_leastFrom hw) cw_X6_118 kn_10 (by decide) rfl rfl ⟨by omega, by omega⟩ rfl rfl (Nat.le_of_ble_eq_true rfl) dX6_fillFrom_14 ?_
      intro r24 d25 l26 hw
      refine f_aload_n C0 dX6_fillFrom_17 rfl 0 rfl ⟨_, rfl⟩ ?_
      refine gf_6_0 C0 kn_10 mw_143 dX6_fillFrom_18 ?_
      refine f_icmp_lt (tgt := 25) C0 dX6_fillFrom_21 (by decide) (fun h27 => ?_) (fun h27 => ?_)
      · have hw := hw.1 h27
        exact t_X6_fillFrom_25 C0 hZ hrec _ _ _ _ _ _ _ hw
      · have hw := hw.2 h27
        exact f_vret C0 hZ hw dX6_fillFrom_24
