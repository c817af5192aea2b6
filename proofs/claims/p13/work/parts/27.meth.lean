def F_X10_finalist (n : Nat) (x1 : Int32) (d : DD) (dl : LL) (Q : Int32 → DD → LL → Prop) : Prop := (x1 < 0 → Q (-1) d dl) ∧ (¬ x1 < 0 → ((d 211 7) ≤ x1 → Q (-1) d dl) ∧ (¬ (d 211 7) ≤ x1 → vp_in x1 6 ∧ Q (d 241 x1.toNatClampNeg) d dl))
set_option maxHeartbeats 4000000 in
set_option maxRecDepth 100000 in
theorem m_X10_finalist {g : Ex} {n : Nat} {x1 : Int32} {d : DD} {dl : LL} {Q : Int32 → DD → LL → Prop} (hw : F_X10_finalist n x1 d dl Q) : Mi g yX10_finalist cX10_finalist 2 (some .int) 0 0 [rf g 211, .int x1] d dl Q := by
  refine Mi.of (by decide) (Nat.le_of_ble_eq_true rfl) (fun x C0 hZ => ?_)
  have C0 : Cx g x cX10_finalist 2 (some .int) RX10 0 0 := C0
  refine f_iload_n C0 dX10_finalist_0 rfl 1 rfl ?_
  refine f_if_lt (tgt := 21) C0 dX10_finalist_1 (by decide) (fun h1 => ?_) (fun h1 => ?_)
  · have hw := hw.1 h1
    refine f_iconst (v := (-1)) C0 dX10_finalist_21 rfl ?_
    exact f_iret C0 hZ hw dX10_finalist_22
  · have hw := hw.2 h1
    refine f_iload_n C0 dX10_finalist_4 rfl 1 rfl ?_
    refine f_aload_n C0 dX10_finalist_5 rfl 0 rfl ⟨_, rfl⟩ ?_
    refine gf_10_7 C0 kn_211 mw_893 dX10_finalist_6 ?_
    refine f_icmp_ge (tgt := 21) C0 dX10_finalist_9 (by decide) (fun h2 => ?_) (fun h2 => ?_)
    · have hw := hw.1 h2
      refine f_iconst (v := (-1)) C0 dX10_finalist_21 rfl ?_
      exact f_iret C0 hZ hw dX10_finalist_22
    · have hw := hw.2 h2
      refine f_aload_n C0 dX10_finalist_12 rfl 0 rfl ⟨_, rfl⟩ ?_
      refine gf_10_37 (r := 241) C0 rfl kn_211 mw_923 dX10_finalist_13 ?_
      refine f_iload_n C0 dX10_finalist_16 rfl 1 rfl ?_
      obtain ⟨h3, hw⟩ := hw
      refine f_iald C0 kn_241 h3 dX10_finalist_17 ?_
      refine f_goto (tgt := 22) C0 dX10_finalist_18 (by decide) ?_
      exact f_iret C0 hZ hw dX10_finalist_22
def b_X10_slack_128 (n : Nat) (Q : Int32 → DD → LL → Prop) (K4 : Int32 → Int32 → DD → LL → Prop) (K14 : Int32 → Int32 → Int32 → DD → LL → Prop) (x2 : Int32) (x3 : Int32) (x5 : Int32) (d : DD) (dl : LL) : Prop := K14 x5 x2 (x3 + 1) d dl
def b_X10_slack_25 (n : Nat) (Q : Int32 → DD → LL → Prop) (K4 : Int32 → Int32 → DD → LL → Prop) (K14 : Int32 → Int32 → Int32 → DD → LL → Prop) : Nat → Int32 → Int32 → Int32 → Int32 → Int32 → DD → LL → Prop
  | 0 => fun _ _ _ _ _ _ _ => False
  | k + 1 => fun x1 x2 x3 x4 x5 d dl => (16 ≤ x5 → vp_in x2 24 ∧ vp_in x3 24 ∧ F_X10_size n ((d 232 x2.toNatClampNeg) - (d 232 x3.toNatClampNeg)) d dl (fun r6 d7 l8 => (x4 = 0 → K14 x1 x2 (x3 + 1) d7 l8) ∧ (¬ x4 = 0 → (x1 = (-1) → b_X10_slack_128 n Q K4 K14 x2 x3 r6 d7 l8) ∧ (¬ x1 = (-1) → (x1 ≤ r6 → K14 x1 x2 (x3 + 1) d7 l8) ∧ (¬ x1 ≤ r6 → b_X10_slack_128 n Q K4 K14 x2 x3 r6 d7 l8))))) ∧ (¬ 16 ≤ x5 → vp_in (((4 : Int32) * x2) + (x5 / 4)) 96 ∧ ∀ v13 : Int32, v13 = (d 234 (((4 : Int32) * x2) + (x5 / 4)).toNatClampNeg) → vp_in (((4 : Int32) * x3) + (irem x5 4)) 96 ∧ ∀ v15 : Int32, v15 = (d 234 (((4 : Int32) * x3) + (irem x5 4)).toNatClampNeg) → (v13 = (-1) → (b_X10_slack_25 n Q K4 K14 k) x1 x2 x3 x4 (x5 + 1) d dl) ∧ (¬ v13 = (-1) → (v15 = (-1) → (b_X10_slack_25 n Q K4 K14 k) x1 x2 x3 x4 (x5 + 1) d dl) ∧ (¬ v15 = (-1) → F_X10_haveCommon n v13 v15 d dl (fun r18 d19 l20 => (r18 = 0 → (b_X10_slack_25 n Q K4 K14 k) x1 x2 x3 x4 (x5 + 1) d19 l20) ∧ (¬ r18 = 0 → (b_X10_slack_25 n Q K4 K14 k) x1 x2 x3 1 (x5 + 1) d19 l20)))))
def b_X10_slack_14 (n : Nat) (Q : Int32 → DD → LL → Prop) (K4 : Int32 → Int32 → DD → LL → Prop) : Nat → Int32 → Int32 → Int32 → DD → LL → Prop
  | 0 => fun _ _ _ _ _ => False
  | k + 1 => fun x1 x2 x3 d dl => (x2 ≤ x3 → K4 x1 (x2 + 1) d dl) ∧ (¬ x2 ≤ x3 → b_X10_slack_25 n Q K4 (b_X10_slack_14 n Q K4 k) n x1 x2 x3 0 0 d dl)
def b_X10_slack_4 (n : Nat) (Q : Int32 → DD → LL → Prop) : Nat → Int32 → Int32 → DD → LL → Prop
  | 0 => fun _ _ _ _ => False
  | k + 1 => fun x1 x2 d dl => ((d 211 3) ≤ x2 → Q x1 d dl) ∧ (¬ (d 211 3) ≤ x2 → b_X10_slack_14 n Q (b_X10_slack_4 n Q k) n x1 x2 0 d dl)
def F_X10_slack (n : Nat) (d : DD) (dl : LL) (Q : Int32 → DD → LL → Prop) : Prop := b_X10_slack_4 n Q n (-1) 0 d dl
set_option maxHeartbeats 4000000 in
set_option maxRecDepth 100000 in
theorem t_X10_slack_128 {g : Ex} {x : Fx} {n : Nat} {Q : Int32 → DD → LL → Prop} (C0 : Cx g x cX10_slack 8 (some .int) RX10 2 46) (hZ : Zi g x Q) {K4 : Int32 → Int32 → DD → LL → Prop} (hK4 : ∀ (x1 : Int32) (x2 : Int32) (d : DD) (dl : LL), K4 x1 x2 d dl → FW g x 8 d dl 4 [(0, rf g 211), (1, .int x1), (2, .int x2)] []) {K14 : Int32 → Int32 → Int32 → DD → LL → Prop} (hK14 : ∀ (x1 : Int32) (x2 : Int32) (x3 : Int32) (d : DD) (dl : LL), K14 x1 x2 x3 d dl → FW g x 8 d dl 14 [(0, rf g 211), (1, .int x1), (2, .int x2), (3, .int x3)] []) : ∀ (x2 : Int32) (x3 : Int32) (x5 : Int32) (d : DD) (dl : LL), b_X10_slack_128 n Q K4 K14 x2 x3 x5 d dl → FW g x 8 d dl 128 [(0, rf g 211), (2, .int x2), (3, .int x3), (5, .int x5)] [] := by
  intro x2 x3 x5 d dl hw
  refine f_iload C0 dX10_slack_128 3 rfl ?_
  refine f_istore_n (lo' := [(1, .int x5), (0, rf g 211), (2, .int x2), (3, .int x3), (5, .int x5)]) C0 dX10_slack_130 rfl (by decide) rfl ?_
  refine f_iinc (lo' := [(3, .int (x3 + 1)), (1, .int x5), (0, rf g 211), (2, .int x2), (5, .int x5)]) C0 dX10_slack_131 3 rfl rfl (by decide) rfl ?_
  refine f_goto (tgt := 14) C0 dX10_slack_134 (by decide) ?_
  refine f_sub [2, 1, 3, 0] rfl ?_
  exact hK14 _ _ _ _ _ hw
set_option maxHeartbeats 4000000 in
set_option maxRecDepth 100000 in
theorem t_X10_slack_25 {g : Ex} {x : Fx} {n : Nat} {Q : Int32 → DD → LL → Prop} (C0 : Cx g x cX10_slack 8 (some .int) RX10 2 46) (hZ : Zi g x Q) {K4 : Int32 → Int32 → DD → LL → Prop} (hK4 : ∀ (x1 : Int32) (x2 : Int32) (d : DD) (dl : LL), K4 x1 x2 d dl → FW g x 8 d dl 4 [(0, rf g 211), (1, .int x1), (2, .int x2)] []) {K14 : Int32 → Int32 → Int32 → DD → LL → Prop} (hK14 : ∀ (x1 : Int32) (x2 : Int32) (x3 : Int32) (d : DD) (dl : LL), K14 x1 x2 x3 d dl → FW g x 8 d dl 14 [(0, rf g 211), (1, .int x1), (2, .int x2), (3, .int x3)] []) : ∀ (j : Nat) (x1 : Int32) (x2 : Int32) (x3 : Int32) (x4 : Int32) (x5 : Int32) (d : DD) (dl : LL), b_X10_slack_25 n Q K4 K14 j x1 x2 x3 x4 x5 d dl → FW g x 8 d dl 25 [(0, rf g 211), (1, .int x1), (2, .int x2), (3, .int x3), (4, .int x4), (5, .int x5)] [] := by
  intro j
  induction j with
  | zero =>
    intro x1 x2 x3 x4 x5 d dl hw
    exact hw.elim
  | succ j hK25 =>
    intro x1 x2 x3 x4 x5 d dl hw
    refine f_iload C0 dX10_slack_25 5 rfl ?_
    refine f_bipush (v := 16) C0 dX10_slack_27 rfl ?_
    refine f_icmp_ge (tgt := 94) C0 dX10_slack_29 (by decide) (fun h3 => ?_) (fun h3 => ?_)
    · have hw := hw.1 h3
      refine f_aload_n C0 dX10_slack_94 rfl 0 rfl ⟨_, rfl⟩ ?_
      refine gf_10_28 (r := 232) C0 rfl kn_211 mw_914 dX10_slack_95 ?_
      refine f_iload_n C0 dX10_slack_98 rfl 2 rfl ?_
      obtain ⟨h4, hw⟩ := hw
      refine f_iald C0 kn_232 h4 dX10_slack_99 ?_
      refine f_aload_n C0 dX10_slack_100 rfl 0 rfl ⟨_, rfl⟩ ?_
      refine gf_10_28 (r := 232) C0 rfl kn_211 mw_914 dX10_slack_101 ?_
      refine f_iload_n C0 dX10_slack_104 rfl 3 rfl ?_
      obtain ⟨h5, hw⟩ := hw
      refine f_iald C0 kn_232 h5 dX10_slack_105 ?_
      refine f_isub C0 dX10_slack_106 ?_
      refine f_callSi (As := [.int ((d 232 x2.toNatClampNeg) - (d 232 x3.toNatClampNeg))]) (rest := []) C0 (m_X10_size hw) cw_X10_142  ⟨(Nat.le_of_ble_eq_true rfl), (Nat.le_of_ble_eq_true rfl)⟩ rfl rfl (Nat.le_of_ble_eq_true rfl) dX10_slack_107 ?_
      intro r6 d7 l8 hw
      refine f_istore (lo' := [(5, .int r6), (0, rf g 211), (1, .int x1), (2, .int x2), (3, .int x3), (4, .int x4)]) C0 dX10_slack_110 (by decide) rfl ?_
      refine f_iload C0 dX10_slack_112 5 rfl ?_
      refine f_if_eq (tgt := 131) C0 dX10_slack_114 (by decide) (fun h9 => ?_) (fun h9 => ?_)
      · have hw := hw.1 h9
        refine f_iinc (lo' := [(3, .int (x3 + 1)), (5, .int r6), (0, rf g 211), (1, .int x1), (2, .int x2), (4, .int x4)]) C0 dX10_slack_131 4 rfl rfl (by decide) rfl ?_
        refine f_goto (tgt := 14) C0 dX10_slack_134 (by decide) ?_
        refine f_sub [2, 3, 4, 0] rfl ?_
        exact hK14 _ _ _ _ _ hw
      · have hw := hw.2 h9
        refine f_iload_n C0 dX10_slack_117 rfl 2 rfl ?_
        refine f_iconst (v := (-1)) C0 dX10_slack_118 rfl ?_
        refine f_icmp_eq (tgt := 128) C0 dX10_slack_119 (by decide) (fun h10 => ?_) (fun h10 => ?_)
        · have hw := hw.1 h10
          refine f_sub [1, 3, 4, 0] rfl ?_
          exact t_X10_slack_128 C0 hZ hK4 hK14 _ _ _ _ _ hw
        · have hw := hw.2 h10
          refine f_iload C0 dX10_slack_122 0 rfl ?_
          refine f_iload_n C0 dX10_slack_124 rfl 2 rfl ?_
          refine f_icmp_ge (tgt := 131) C0 dX10_slack_125 (by decide) (fun h11 => ?_) (fun h11 => ?_)
          · have hw := hw.1 h11
            refine f_iinc (lo' := [(3, .int (x3 + 1)), (5, .int r6), (0, rf g 211), (1, .int x1), (2, .int x2), (4, .int x4)]) C0 dX10_slack_131 4 rfl rfl (by decide) rfl ?_
            refine f_goto (tgt := 14) C0 dX10_slack_134 (by decide) ?_
            refine f_sub [2, 3, 4, 0] rfl ?_
            exact hK14 _ _ _ _ _ hw
          · have hw := hw.2 h11
            refine f_sub [1, 3, 4, 0] rfl ?_
            exact t_X10_slack_128 C0 hZ hK4 hK14 _ _ _ _ _ hw
    · have hw := hw.2 h3
      refine f_aload_n C0 dX10_slack_32 rfl 0 rfl ⟨_, rfl⟩ ?_
      refine gf_10_30 (r := 234) C0 rfl kn_211 mw_916 dX10_slack_33 ?_
      refine f_iconst (v := 4) C0 dX10_slack_36 rfl ?_
      refine f_iload_n C0 dX10_slack_37 rfl 2 rfl ?_
      refine f_imul C0 dX10_slack_38 ?_
      refine f_iload C0 dX10_slack_39 5 rfl ?_
      refine f_iconst (v := 4) C0 dX10_slack_41 rfl ?_
      refine f_idiv C0 dX10_slack_42 (by decide) ?_
      refine f_iadd C0 dX10_slack_43 ?_
      obtain ⟨h12, hw⟩ := hw
      refine f_iald C0 kn_234 h12 dX10_slack_44 ?_
      refine f_topi (fun v13 e13 => ?_)
      have hw := hw v13 e13
      refine f_istore (lo' := [(6, .int v13), (0, rf g 211), (1, .int x1), (2, .int x2), (3, .int x3), (4, .int x4), (5, .int x5)]) C0 dX10_slack_45 (by decide) rfl ?_
      refine f_aload_n C0 dX10_slack_47 rfl 1 rfl ⟨_, rfl⟩ ?_
      refine gf_10_30 (r := 234) C0 rfl kn_211 mw_916 dX10_slack_48 ?_
      refine f_iconst (v := 4) C0 dX10_slack_51 rfl ?_
      refine f_iload_n C0 dX10_slack_52 rfl 4 rfl ?_
      refine f_imul C0 dX10_slack_53 ?_
      refine f_iload C0 dX10_slack_54 6 rfl ?_
      refine f_iconst (v := 4) C0 dX10_slack_56 rfl ?_
      refine f_irem C0 dX10_slack_57 (by decide) ?_
      refine f_iadd C0 dX10_slack_58 ?_
      obtain ⟨h14, hw⟩ := hw
      refine f_iald C0 kn_234 h14 dX10_slack_59 ?_
      refine f_topi (fun v15 e15 => ?_)
      have hw := hw v15 e15
      refine f_istore (lo' := [(7, .int v15), (6, .int v13), (0, rf g 211), (1, .int x1), (2, .int x2), (3, .int x3), (4, .int x4), (5, .int x5)]) C0 dX10_slack_60 (by decide) rfl ?_
      refine f_iload C0 dX10_slack_62 1 rfl ?_
      refine f_iconst (v := (-1)) C0 dX10_slack_64 rfl ?_
      refine f_icmp_eq (tgt := 88) C0 dX10_slack_65 (by decide) (fun h16 => ?_) (fun h16 => ?_)
      · have hw := hw.1 h16
        refine f_iinc (lo' := [(5, .int (x5 + 1)), (7, .int v15), (6, .int v13), (0, rf g 211), (1, .int x1), (2, .int x2), (3, .int x3), (4, .int x4)]) C0 dX10_slack_88 7 rfl rfl (by decide) rfl ?_
        refine f_goto (tgt := 25) C0 dX10_slack_91 (by decide) ?_
        refine f_sub [3, 4, 5, 6, 7, 0] rfl ?_
        exact hK25 _ _ _ _ _ _ _ hw
      · have hw := hw.2 h16
        refine f_iload C0 dX10_slack_68 0 rfl ?_
        refine f_iconst (v := (-1)) C0 dX10_slack_70 rfl ?_
        refine f_icmp_eq (tgt := 88) C0 dX10_slack_71 (by decide) (fun h17 => ?_) (fun h17 => ?_)
        · have hw := hw.1 h17
          refine f_iinc (lo' := [(5, .int (x5 + 1)), (7, .int v15), (6, .int v13), (0, rf g 211), (1, .int x1), (2, .int x2), (3, .int x3), (4, .int x4)]) C0 dX10_slack_88 7 rfl rfl (by decide) rfl ?_
          refine f_goto (tgt := 25) C0 dX10_slack_91 (by decide) ?_
          refine f_sub [3, 4, 5, 6, 7, 0] rfl ?_
          exact hK25 _ _ _ _ _ _ _ hw
        · have hw := hw.2 h17
          refine f_aload_n C0 dX10_slack_74 rfl 2 rfl ⟨_, rfl⟩ ?_
          refine f_iload C0 dX10_slack_75 1 rfl ?_
          refine f_iload C0 dX10_slack_77 0 rfl ?_
          refine f_callVi (As := [.int v13, .int v15]) (rest := []) C0 (m_X10_haveCommon hw) cw_X10_217 kn_211 (by decide) rfl rfl ⟨(Nat.le_of_ble_eq_true rfl), (Nat.le_of_ble_eq_true rfl)⟩ rfl rfl (Nat.le_of_ble_eq_true rfl) dX10_slack_79 ?_
          intro r18 d19 l20 hw
          refine f_if_eq (tgt := 88) C0 dX10_slack_82 (by decide) (fun h21 => ?_) (fun h21 => ?_)
          · have hw := hw.1 h21
            refine f_iinc (lo' := [(5, .int (x5 + 1)), (7, .int v15), (6, .int v13), (0, rf g 211), (1, .int x1), (2, .int x2), (3, .int x3), (4, .int x4)]) C0 dX10_slack_88 7 rfl rfl (by decide) rfl ?_
            refine f_goto (tgt := 25) C0 dX10_slack_91 (by decide) ?_
            refine f_sub [3, 4, 5, 6, 7, 0] rfl ?_
            exact hK25 _ _ _ _ _ _ _ hw
          · have hw := hw.2 h21
            refine f_iconst (v := 1) C0 dX10_slack_85 rfl ?_
            refine f_istore (lo' := [(4, .int 1), (7, .int v15), (6, .int v13), (0, rf g 211), (1, .int x1), (2, .int x2), (3, .int x3), (5, .int x5)]) C0 dX10_slack_86 (by decide) rfl ?_
            refine f_iinc (lo' := [(5, .int (x5 + 1)), (4, .int 1), (7, .int v15), (6, .int v13), (0, rf g 211), (1, .int x1), (2, .int x2), (3, .int x3)]) C0 dX10_slack_88 7 rfl rfl (by decide) rfl ?_
            refine f_goto (tgt := 25) C0 dX10_slack_91 (by decide) ?_
            refine f_sub [4, 5, 6, 7, 1, 0] rfl ?_
            exact hK25 _ _ _ _ _ _ _ hw
set_option maxHeartbeats 4000000 in
set_option maxRecDepth 100000 in
theorem t_X10_slack_14 {g : Ex} {x : Fx} {n : Nat} {Q : Int32 → DD → LL → Prop} (C0 : Cx g x cX10_slack 8 (some .int) RX10 2 46) (hZ : Zi g x Q) {K4 : Int32 → Int32 → DD → LL → Prop} (hK4 : ∀ (x1 : Int32) (x2 : Int32) (d : DD) (dl : LL), K4 x1 x2 d dl → FW g x 8 d dl 4 [(0, rf g 211), (1, .int x1), (2, .int x2)] []) : ∀ (j : Nat) (x1 : Int32) (x2 : Int32) (x3 : Int32) (d : DD) (dl : LL), b_X10_slack_14 n Q K4 j x1 x2 x3 d dl → FW g x 8 d dl 14 [(0, rf g 211), (1, .int x1), (2, .int x2), (3, .int x3)] [] := by
  intro j
  induction j with
  | zero =>
    intro x1 x2 x3 d dl hw
    exact hw.elim
  | succ j hK14 =>
    intro x1 x2 x3 d dl hw
    refine f_iload_n C0 dX10_slack_14 rfl 3 rfl ?_
    refine f_iload_n C0 dX10_slack_15 rfl 2 rfl ?_
    refine f_icmp_ge (tgt := 137) C0 dX10_slack_16 (by decide) (fun h2 => ?_) (fun h2 => ?_)
    · have hw := hw.1 h2
      refine f_iinc (lo' := [(2, .int (x2 + 1)), (0, rf g 211), (1, .int x1), (3, .int x3)]) C0 dX10_slack_137 2 rfl rfl (by decide) rfl ?_
      refine f_goto (tgt := 4) C0 dX10_slack_140 (by decide) ?_
      refine f_sub [1, 2, 0] rfl ?_
      exact hK4 _ _ _ _ hw
    · have hw := hw.2 h2
      refine f_iconst (v := 0) C0 dX10_slack_19 rfl ?_
      refine f_istore (lo' := [(4, .int 0), (0, rf g 211), (1, .int x1), (2, .int x2), (3, .int x3)]) C0 dX10_slack_20 (by decide) rfl ?_
      refine f_iconst (v := 0) C0 dX10_slack_22 rfl ?_
      refine f_istore (lo' := [(5, .int 0), (4, .int 0), (0, rf g 211), (1, .int x1), (2, .int x2), (3, .int x3)]) C0 dX10_slack_23 (by decide) rfl ?_
      refine f_sub [2, 3, 4, 5, 1, 0] rfl ?_
      exact t_X10_slack_25 C0 hZ hK4 hK14 n _ _ _ _ _ _ _ hw
set_option maxHeartbeats 4000000 in
set_option maxRecDepth 100000 in
theorem t_X10_slack_4 {g : Ex} {x : Fx} {n : Nat} {Q : Int32 → DD → LL → Prop} (C0 : Cx g x cX10_slack 8 (some .int) RX10 2 46) (hZ : Zi g x Q) : ∀ (j : Nat) (x1 : Int32) (x2 : Int32) (d : DD) (dl : LL), b_X10_slack_4 n Q j x1 x2 d dl → FW g x 8 d dl 4 [(0, rf g 211), (1, .int x1), (2, .int x2)] [] := by
  intro j
  induction j with
  | zero =>
    intro x1 x2 d dl hw
    exact hw.elim
  | succ j hK4 =>
    intro x1 x2 d dl hw
    refine f_iload_n C0 dX10_slack_4 rfl 2 rfl ?_
    refine f_aload_n C0 dX10_slack_5 rfl 0 rfl ⟨_, rfl⟩ ?_
    refine gf_10_3 C0 kn_211 mw_889 dX10_slack_6 ?_
    refine f_icmp_ge (tgt := 143) C0 dX10_slack_9 (by decide) (fun h1 => ?_) (fun h1 => ?_)
    · have hw := hw.1 h1
      refine f_iload_n C0 dX10_slack_143 rfl 1 rfl ?_
      exact f_iret C0 hZ hw dX10_slack_144
    · have hw := hw.2 h1
      refine f_iconst (v := 0) C0 dX10_slack_12 rfl ?_
      refine f_istore_n (lo' := [(3, .int 0), (0, rf g 211), (1, .int x1), (2, .int x2)]) C0 dX10_slack_13 rfl (by decide) rfl ?_
      refine f_sub [1, 2, 3, 0] rfl ?_
      exact t_X10_slack_14 C0 hZ hK4 n _ _ _ _ _ hw
set_option maxHeartbeats 4000000 in
set_option maxRecDepth 100000 in
theorem m_X10_slack {g : Ex} {n : Nat} {d : DD} {dl : LL} {Q : Int32 → DD → LL → Prop} (hw : F_X10_slack n d dl Q) : Mi g yX10_slack cX10_slack 8 (some .int) 2 46 [rf g 211] d dl Q := by
  refine Mi.of (by decide) (Nat.le_of_ble_eq_true rfl) (fun x C0 hZ => ?_)
  have C0 : Cx g x cX10_slack 8 (some .int) RX10 2 46 := C0
  refine f_iconst (v := (-1)) C0 dX10_slack_0 rfl ?_
  refine f_istore_n (lo' := [(1, .int (-1)), (0, rf g 211)]) C0 dX10_slack_1 rfl (by decide) rfl ?_
  refine f_iconst (v := 0) C0 dX10_slack_2 rfl ?_
  refine f_istore_n (lo' := [(2, .int 0), (1, .int (-1)), (0, rf g 211)]) C0 dX10_slack_3 rfl (by decide) rfl ?_
  refine f_sub [2, 1, 0] rfl ?_
  exact t_X10_slack_4 C0 hZ n _ _ _ _ hw
def b_X10_leastTime_61 (n : Nat) (Q : Int32 → DD → LL → Prop) (K5 : Int32 → Int32 → Int32 → Int32 → DD → LL → Prop) (x1 : Int32) (x2 : Int32) (x4 : Int32) (x5 : Int32) (d : DD) (dl : LL) : Prop := K5 x1 x2 x5 (x4 + 1) d dl
def b_X10_leastTime_44 (n : Nat) (Q : Int32 → DD → LL → Prop) (K5 : Int32 → Int32 → Int32 → Int32 → DD → LL → Prop) (x1 : Int32) (x2 : Int32) (x3 : Int32) (x4 : Int32) (xs0 : Int32) (d : DD) (dl : LL) : Prop := (xs0 ≤ 0 → K5 x1 x2 x3 (x4 + 1) d dl) ∧ (¬ xs0 ≤ 0 → (x3 = 0 → b_X10_leastTime_61 n Q K5 x1 x2 x4 xs0 d dl) ∧ (¬ x3 = 0 → (x3 ≤ xs0 → K5 x1 x2 x3 (x4 + 1) d dl) ∧ (¬ x3 ≤ xs0 → b_X10_leastTime_61 n Q K5 x1 x2 x4 xs0 d dl)))
def b_X10_leastTime_5 (n : Nat) (Q : Int32 → DD → LL → Prop) : Nat → Int32 → Int32 → Int32 → Int32 → DD → LL → Prop
  | 0 => fun _ _ _ _ _ _ => False
  | k + 1 => fun x1 x2 x3 x4 d dl => ((d 211 3) ≤ x4 → Q x3 d dl) ∧ (¬ (d 211 3) ≤ x4 → vp_in (((4 : Int32) * x4) + x2) 96 ∧ (¬ (d 234 (((4 : Int32) * x4) + x2).toNatClampNeg) = x1 → b_X10_leastTime_44 n Q (b_X10_leastTime_5 n Q k) x1 x2 x3 x4 0 d dl) ∧ ((d 234 (((4 : Int32) * x4) + x2).toNatClampNeg) = x1 → vp_in (((4 : Int32) * x4) + x2) 96 ∧ b_X10_leastTime_44 n Q (b_X10_leastTime_5 n Q k) x1 x2 x3 x4 (d 235 (((4 : Int32) * x4) + x2).toNatClampNeg) d dl))
def F_X10_leastTime (n : Nat) (x1 : Int32) (x2 : Int32) (d : DD) (dl : LL) (Q : Int32 → DD → LL → Prop) : Prop := b_X10_leastTime_5 n Q n x1 x2 0 0 d dl
set_option maxHeartbeats 4000000 in
set_option maxRecDepth 100000 in
theorem t_X10_leastTime_61 {g : Ex} {x : Fx} {n : Nat} {Q : Int32 → DD → LL → Prop} (C0 : Cx g x cX10_leastTime 6 (some .int) RX10 0 0) (hZ : Zi g x Q) {K5 : Int32 → Int32 → Int32 → Int32 → DD → LL → Prop} (hK5 : ∀ (x1 : Int32) (x2 : Int32) (x3 : Int32) (x4 : Int32) (d : DD) (dl : LL), K5 x1 x2 x3 x4 d dl → FW g x 6 d dl 5 [(0, rf g 211), (1, .int x1), (2, .int x2), (3, .int x3), (4, .int x4)] []) : ∀ (x1 : Int32) (x2 : Int32) (x4 : Int32) (x5 : Int32) (d : DD) (dl : LL), b_X10_leastTime_61 n Q K5 x1 x2 x4 x5 d dl → FW g x 6 d dl 61 [(0, rf g 211), (1, .int x1), (2, .int x2), (4, .int x4), (5, .int x5)] [] := by
  intro x1 x2 x4 x5 d dl hw
  refine f_iload C0 dX10_leastTime_61 4 rfl ?_
  refine f_istore_n (lo' := [(3, .int x5), (0, rf g 211), (1, .int x1), (2, .int x2), (4, .int x4), (5, .int x5)]) C0 dX10_leastTime_63 rfl (by decide) rfl ?_
  refine f_iinc (lo' := [(4, .int (x4 + 1)), (3, .int x5), (0, rf g 211), (1, .int x1), (2, .int x2), (5, .int x5)]) C0 dX10_leastTime_64 4 rfl rfl (by decide) rfl ?_
  refine f_goto (tgt := 5) C0 dX10_leastTime_67 (by decide) ?_
  refine f_sub [2, 3, 4, 1, 0] rfl ?_
  exact hK5 _ _ _ _ _ _ hw
set_option maxHeartbeats 4000000 in
set_option maxRecDepth 100000 in
theorem t_X10_leastTime_44 {g : Ex} {x : Fx} {n : Nat} {Q : Int32 → DD → LL → Prop} (C0 : Cx g x cX10_leastTime 6 (some .int) RX10 0 0) (hZ : Zi g x Q) {K5 : Int32 → Int32 → Int32 → Int32 → DD → LL → Prop} (hK5 : ∀ (x1 : Int32) (x2 : Int32) (x3 : Int32) (x4 : Int32) (d : DD) (dl : LL), K5 x1 x2 x3 x4 d dl → FW g x 6 d dl 5 [(0, rf g 211), (1, .int x1), (2, .int x2), (3, .int x3), (4, .int x4)] []) : ∀ (x1 : Int32) (x2 : Int32) (x3 : Int32) (x4 : Int32) (xs0 : Int32) (d : DD) (dl : LL), b_X10_leastTime_44 n Q K5 x1 x2 x3 x4 xs0 d dl → FW g x 6 d dl 44 [(0, rf g 211), (1, .int x1), (2, .int x2), (3, .int x3), (4, .int x4)] [.int xs0] := by
  intro x1 x2 x3 x4 xs0 d dl hw
  refine f_istore (lo' := [(5, .int xs0), (0, rf g 211), (1, .int x1), (2, .int x2), (3, .int x3), (4, .int x4)]) C0 dX10_leastTime_44 (by decide) rfl ?_
  refine f_iload C0 dX10_leastTime_46 0 rfl ?_
  refine f_if_le (tgt := 64) C0 dX10_leastTime_48 (by decide) (fun h4 => ?_) (fun h4 => ?_)
  · have hw := hw.1 h4
    refine f_iinc (lo' := [(4, .int (x4 + 1)), (5, .int xs0), (0, rf g 211), (1, .int x1), (2, .int x2), (3, .int x3)]) C0 dX10_leastTime_64 5 rfl rfl (by decide) rfl ?_
    refine f_goto (tgt := 5) C0 dX10_leastTime_67 (by decide) ?_
    refine f_sub [2, 3, 4, 5, 0] rfl ?_
    exact hK5 _ _ _ _ _ _ hw
  · have hw := hw.2 h4
    refine f_iload_n C0 dX10_leastTime_51 rfl 4 rfl ?_
    refine f_if_eq (tgt := 61) C0 dX10_leastTime_52 (by decide) (fun h5 => ?_) (fun h5 => ?_)
    · have hw := hw.1 h5
      refine f_sub [1, 2, 3, 5, 0] rfl ?_
      exact t_X10_leastTime_61 C0 hZ hK5 _ _ _ _ _ _ hw
    · have hw := hw.2 h5
      refine f_iload C0 dX10_leastTime_55 0 rfl ?_
      refine f_iload_n C0 dX10_leastTime_57 rfl 4 rfl ?_
      refine f_icmp_ge (tgt := 64) C0 dX10_leastTime_58 (by decide) (fun h6 => ?_) (fun h6 => ?_)
      · have hw := hw.1 h6
        refine f_iinc (lo' := [(4, .int (x4 + 1)), (5, .int xs0), (0, rf g 211), (1, .int x1), (2, .int x2), (3, .int x3)]) C0 dX10_leastTime_64 5 rfl rfl (by decide) rfl ?_
        refine f_goto (tgt := 5) C0 dX10_leastTime_67 (by decide) ?_
        refine f_sub [2, 3, 4, 5, 0] rfl ?_
        exact hK5 _ _ _ _ _ _ hw
      · have hw := hw.2 h6
        refine f_sub [1, 2, 3, 5, 0] rfl ?_
        exact t_X10_leastTime_61 C0 hZ hK5 _ _ _ _ _ _ hw
set_option maxHeartbeats 4000000 in
set_option maxRecDepth 100000 in
theorem t_X10_leastTime_5 {g : Ex} {x : Fx} {n : Nat} {Q : Int32 → DD → LL → Prop} (C0 : Cx g x cX10_leastTime 6 (some .int) RX10 0 0) (hZ : Zi g x Q) : ∀ (j : Nat) (x1 : Int32) (x2 : Int32) (x3 : Int32) (x4 : Int32) (d : DD) (dl : LL), b_X10_leastTime_5 n Q j x1 x2 x3 x4 d dl → FW g x 6 d dl 5 [(0, rf g 211), (1, .int x1), (2, .int x2), (3, .int x3), (4, .int x4)] [] := by
  intro j
  induction j with
  | zero =>
    intro x1 x2 x3 x4 d dl hw
    exact hw.elim
  | succ j hK5 =>
    intro x1 x2 x3 x4 d dl hw
    refine f_iload C0 dX10_leastTime_5 4 rfl ?_
    refine f_aload_n C0 dX10_leastTime_7 rfl 0 rfl ⟨_, rfl⟩ ?_
    refine gf_10_3 C0 kn_211 mw_889 dX10_leastTime_8 ?_
    refine f_icmp_ge (tgt := 70) C0 dX10_leastTime_11 (by decide) (fun h1 => ?_) (fun h1 => ?_)
    · have hw := hw.1 h1
      refine f_iload_n C0 dX10_leastTime_70 rfl 3 rfl ?_
      exact f_iret C0 hZ hw dX10_leastTime_71
    · have hw := hw.2 h1
      refine f_aload_n C0 dX10_leastTime_14 rfl 0 rfl ⟨_, rfl⟩ ?_
      refine gf_10_30 (r := 234) C0 rfl kn_211 mw_916 dX10_leastTime_15 ?_
      refine f_iconst (v := 4) C0 dX10_leastTime_18 rfl ?_
      refine f_iload C0 dX10_leastTime_19 4 rfl ?_
      refine f_imul C0 dX10_leastTime_21 ?_
      refine f_iload_n C0 dX10_leastTime_22 rfl 2 rfl ?_
      refine f_iadd C0 dX10_leastTime_23 ?_
      obtain ⟨h2, hw⟩ := hw
      refine f_iald C0 kn_234 h2 dX10_leastTime_24 ?_
      refine f_iload_n C0 dX10_leastTime_25 rfl 1 rfl ?_
      refine f_icmp_ne (tgt := 43) C0 dX10_leastTime_26 (by decide) (fun h3 => ?_) (fun h3 => ?_)
      · have hw := hw.1 h3
        refine f_iconst (v := 0) C0 dX10_leastTime_43 rfl ?_
        exact t_X10_leastTime_44 C0 hZ hK5 _ _ _ _ _ _ _ hw
      · have hw := hw.2 h3
        refine f_aload_n C0 dX10_leastTime_29 rfl 0 rfl ⟨_, rfl⟩ ?_
        refine gf_10_31 (r := 235) C0 rfl kn_211 mw_917 dX10_leastTime_30 ?_
        refine f_iconst (v := 4) C0 dX10_leastTime_33 rfl ?_
        refine f_iload C0 dX10_leastTime_34 4 rfl ?_
        refine f_imul C0 dX10_leastTime_36 ?_
        refine f_iload_n C0 dX10_leastTime_37 rfl 2 rfl ?_
        refine f_iadd C0 dX10_leastTime_38 ?_
        obtain ⟨h7, hw⟩ := hw
        refine f_iald C0 kn_235 h7 dX10_leastTime_39 ?_
        refine f_goto (tgt := 44) C0 dX10_leastTime_40 (by decide) ?_
        exact t_X10_leastTime_44 C0 hZ hK5 _ _ _ _ _ _ _ hw
set_option maxHeartbeats 4000000 in
set_option maxRecDepth 100000 in
theorem m_X10_leastTime {g : Ex} {n : Nat} {x1 : Int32} {x2 : Int32} {d : DD} {dl : LL} {Q : Int32 → DD → LL → Prop} (hw : F_X10_leastTime n x1 x2 d dl Q) : Mi g yX10_leastTime cX10_leastTime 6 (some .int) 0 0 [rf g 211, .int x1, .int x2] d dl Q := by
  refine Mi.of (by decide) (Nat.le_of_ble_eq_true rfl) (fun x C0 hZ => ?_)
  have C0 : Cx g x cX10_leastTime 6 (some .int) RX10 0 0 := C0
  refine f_iconst (v := 0) C0 dX10_leastTime_0 rfl ?_
  refine f_istore_n (lo' := [(3, .int 0), (0, rf g 211), (1, .int x1), (2, .int x2)]) C0 dX10_leastTime_1 rfl (by decide) rfl ?_
  refine f_iconst (v := 0) C0 dX10_leastTime_2 rfl ?_
  refine f_istore (lo' := [(4, .int 0), (3, .int 0), (0, rf g 211), (1, .int x1), (2, .int x2)]) C0 dX10_leastTime_3 (by decide) rfl ?_
  refine f_sub [2, 3, 4, 1, 0] rfl ?_
  exact t_X10_leastTime_5 C0 hZ n _ _ _ _ _ _ hw
def b_X10_level_162 (n : Nat) (Q : Int64 → DD → LL → Prop) : Nat → Int32 → Int64 → Int64 → DD → LL → Prop
  | 0 => fun _ _ _ _ _ => False
  | k + 1 => fun x3 y4 y6 d dl => ((lg_cmp y4 0) = 0 → (¬ x3 = 0 → ¬ y6 = 0 ∧ Q ((dl 211 45) / y6) d dl) ∧ (x3 = 0 → ¬ y6 = 0 ∧ Q ((dl 211 44) / y6) d dl)) ∧ (¬ (lg_cmp y4 0) = 0 → ¬ y4 = 0 ∧ ∀ v19 : Int64, v19 = (lrem y6 y4) → (b_X10_level_162 n Q k) x3 v19 y4 d dl)
def b_X10_level_154 (n : Nat) (Q : Int64 → DD → LL → Prop) (x3 : Int32) (ys0 : Int64) (d : DD) (dl : LL) : Prop := ∀ v13 : Int64, v13 = (dl 211 45) → b_X10_level_162 n Q n x3 ys0 v13 d dl
def b_X10_level_49 (n : Nat) (Q : Int64 → DD → LL → Prop) : Nat → Int32 → Int32 → Int32 → Int32 → DD → LL → Prop
  | 0 => fun _ _ _ _ _ _ => False
  | k + 1 => fun x1 x2 x3 x4 d dl => ((d 211 1) ≤ x4 → (¬ (lg_cmp (dl 211 45) 0) = 0 → (0 ≤ (lg_cmp (dl 211 44) 0) → b_X10_level_154 n Q x3 (dl 211 44) d dl) ∧ (¬ 0 ≤ (lg_cmp (dl 211 44) 0) → b_X10_level_154 n Q x3 (-(dl 211 44)) d dl)) ∧ ((lg_cmp (dl 211 45) 0) = 0 → Q (-9223372036854775808) d dl)) ∧ (¬ (d 211 1) ≤ x4 → F_X10_leastTime n x4 x1 d dl (fun r20 d21 l22 => F_X10_leastTime n x4 x2 d21 l22 (fun r23 d24 l25 => (r20 = 0 → (b_X10_level_49 n Q k) x1 x2 x3 (x4 + 1) d24 l25) ∧ (¬ r20 = 0 → (¬ r23 = 0 → ∀ l28 : LL, l28 = l2 l25 211 44 ((l25 211 44) + ((r20 - r23).toInt64)) → ∀ l29 : LL, l29 = l2 l28 211 45 ((l28 211 45) + 1) → (b_X10_level_49 n Q k) x1 x2 x3 (x4 + 1) d24 l29) ∧ (r23 = 0 → (b_X10_level_49 n Q k) x1 x2 x3 (x4 + 1) d24 l25)))))
def F_X10_level (n : Nat) (x1 : Int32) (x2 : Int32) (x3 : Int32) (d : DD) (dl : LL) (Q : Int64 → DD → LL → Prop) : Prop := (x1 < 0 → Q (-9223372036854775808) d dl) ∧ (¬ x1 < 0 → (3 < x1 → Q (-9223372036854775808) d dl) ∧ (¬ 3 < x1 → (x2 < 0 → Q (-9223372036854775808) d dl) ∧ (¬ x2 < 0 → (3 < x2 → Q (-9223372036854775808) d dl) ∧ (¬ 3 < x2 → (x1 = x2 → Q (-9223372036854775808) d dl) ∧ (¬ x1 = x2 → (x3 < 0 → Q (-9223372036854775808) d dl) ∧ (¬ x3 < 0 → (x3 ≤ 1 → ∀ l8 : LL, l8 = l2 dl 211 44 0 → ∀ l9 : LL, l9 = l2 l8 211 45 0 → b_X10_level_49 n Q n x1 x2 x3 0 d l9) ∧ (¬ x3 ≤ 1 → Q (-9223372036854775808) d dl)))))))
set_option maxHeartbeats 4000000 in
set_option maxRecDepth 100000 in
theorem t_X10_level_162 {g : Ex} {x : Fx} {n : Nat} {Q : Int64 → DD → LL → Prop} (C0 : Cx g x cX10_level 10 (some .long) RX10 1 25) (hZ : Zl g x Q) : ∀ (j : Nat) (x3 : Int32) (y4 : Int64) (y6 : Int64) (d : DD) (dl : LL), b_X10_level_162 n Q j x3 y4 y6 d dl → FW g x 10 d dl 162 [(0, rf g 211), (3, .int x3), (4, .long y4), (6, .long y6)] [] := by
  intro j
  induction j with
  | zero =>
    intro x3 y4 y6 d dl hw
    exact hw.elim
  | succ j hK162 =>
    intro x3 y4 y6 d dl hw
    refine f_lload C0 dX10_level_162 2 rfl ?_
    refine f_lconst (v := 0) C0 dX10_level_164 rfl ?_
    refine f_lcmp C0 dX10_level_165 ?_
    refine f_if_eq (tgt := 187) C0 dX10_level_166 (by decide) (fun h14 => ?_) (fun h14 => ?_)
    · have hw := hw.1 h14
      refine f_iload_n C0 dX10_level_187 rfl 1 rfl ?_
      refine f_if_ne (tgt := 201) C0 dX10_level_188 (by decide) (fun h15 => ?_) (fun h15 => ?_)
      · have hw := hw.1 h15
        refine f_aload_n C0 dX10_level_201 rfl 0 rfl ⟨_, rfl⟩ ?_
        refine gf_10_45 C0 kn_211 mw_931 dX10_level_202 ?_
        refine f_lload C0 dX10_level_205 3 rfl ?_
        obtain ⟨h16, hw⟩ := hw
        refine f_ldiv C0 dX10_level_207 h16 ?_
        exact f_lret C0 hZ hw dX10_level_208
      · have hw := hw.2 h15
        refine f_aload_n C0 dX10_level_191 rfl 0 rfl ⟨_, rfl⟩ ?_
        refine gf_10_44 C0 kn_211 mw_930 dX10_level_192 ?_
        refine f_lload C0 dX10_level_195 3 rfl ?_
        obtain ⟨h17, hw⟩ := hw
        refine f_ldiv C0 dX10_level_197 h17 ?_
        refine f_goto (tgt := 208) C0 dX10_level_198 (by decide) ?_
        exact f_lret C0 hZ hw dX10_level_208
    · have hw := hw.2 h14
      refine f_lload C0 dX10_level_169 3 rfl ?_
      refine f_lload C0 dX10_level_171 2 rfl ?_
      obtain ⟨h18, hw⟩ := hw
      refine f_lrem C0 dX10_level_173 h18 ?_
      refine f_topl (fun v19 e19 => ?_)
      have hw := hw v19 e19
      refine f_lstore (lo' := [(8, .long v19), (0, rf g 211), (3, .int x3), (4, .long y4), (6, .long y6)]) C0 dX10_level_174 (by decide) rfl ?_
      refine f_lload C0 dX10_level_176 3 rfl ?_
      refine f_lstore (lo' := [(6, .long y4), (8, .long v19), (0, rf g 211), (3, .int x3), (4, .long y4)]) C0 dX10_level_178 (by decide) rfl ?_
      refine f_lload C0 dX10_level_180 1 rfl ?_
      refine f_lstore (lo' := [(4, .long v19), (6, .long y4), (8, .long v19), (0, rf g 211), (3, .int x3)]) C0 dX10_level_182 (by decide) rfl ?_
      refine f_goto (tgt := 162) C0 dX10_level_184 (by decide) ?_
      refine f_sub [3, 4, 0, 1] rfl ?_
      exact hK162 _ _ _ _ _ hw
set_option maxHeartbeats 4000000 in
set_option maxRecDepth 100000 in
theorem t_X10_level_154 {g : Ex} {x : Fx} {n : Nat} {Q : Int64 → DD → LL → Prop} (C0 : Cx g x cX10_level 10 (some .long) RX10 1 25) (hZ : Zl g x Q) : ∀ (x3 : Int32) (ys0 : Int64) (d : DD) (dl : LL), b_X10_level_154 n Q x3 ys0 d dl → FW g x 10 d dl 154 [(0, rf g 211), (3, .int x3)] [.long ys0] := by
  intro x3 ys0 d dl hw
  refine f_lstore (lo' := [(4, .long ys0), (0, rf g 211), (3, .int x3)]) C0 dX10_level_154 (by decide) rfl ?_
  refine f_aload_n C0 dX10_level_156 rfl 1 rfl ⟨_, rfl⟩ ?_
  refine gf_10_45 C0 kn_211 mw_931 dX10_level_157 ?_
  refine f_topl (fun v13 e13 => ?_)
  have hw := hw v13 e13
  refine f_lstore (lo' := [(6, .long v13), (4, .long ys0), (0, rf g 211), (3, .int x3)]) C0 dX10_level_160 (by decide) rfl ?_
  refine f_sub [2, 3, 1, 0] rfl ?_
  exact t_X10_level_162 C0 hZ n _ _ _ _ _ hw
set_option maxHeartbeats 4000000 in
set_option maxRecDepth 100000 in
theorem t_X10_level_49 {g : Ex} {x : Fx} {n : Nat} {Q : Int64 → DD → LL → Prop} (C0 : Cx g x cX10_level 10 (some .long) RX10 1 25) (hZ : Zl g x Q) : ∀ (j : Nat) (x1 : Int32) (x2 : Int32) (x3 : Int32) (x4 : Int32) (d : DD) (dl : LL), b_X10_level_49 n Q j x1 x2 x3 x4 d dl → FW g x 10 d dl 49 [(0, rf g 211), (1, .int x1), (2, .int x2), (3, .int x3), (4, .int x4)] [] := by
  intro j
  induction j with
  | zero =>
    intro x1 x2 x3 x4 d dl hw
    exact hw.elim
  | succ j hK49 =>
    intro x1 x2 x3 x4 d dl hw
    refine f_iload C0 dX10_level_49 4 rfl ?_
    refine f_aload_n C0 dX10_level_51 rfl 0 rfl ⟨_, rfl⟩ ?_
    refine gf_10_1 C0 kn_211 mw_887 dX10_level_52 ?_
    refine f_icmp_ge (tgt := 120) C0 dX10_level_55 (by decide) (fun h10 => ?_) (fun h10 => ?_)
    · have hw := hw.1 h10
      refine f_aload_n C0 dX10_level_120 rfl 0 rfl ⟨_, rfl⟩ ?_
      refine gf_10_45 C0 kn_211 mw_931 dX10_level_121 ?_
      refine f_lconst (v := 0) C0 dX10_level_124 rfl ?_
      refine f_lcmp C0 dX10_level_125 ?_
      refine f_if_ne (tgt := 133) C0 dX10_level_126 (by decide) (fun h11 => ?_) (fun h11 => ?_)
      · have hw := hw.1 h11
        refine f_aload_n C0 dX10_level_133 rfl 0 rfl ⟨_, rfl⟩ ?_
        refine gf_10_44 C0 kn_211 mw_930 dX10_level_134 ?_
        refine f_lconst (v := 0) C0 dX10_level_137 rfl ?_
        refine f_lcmp C0 dX10_level_138 ?_
        refine f_if_ge (tgt := 150) C0 dX10_level_139 (by decide) (fun h12 => ?_) (fun h12 => ?_)
        · have hw := hw.1 h12
          refine f_aload_n C0 dX10_level_150 rfl 0 rfl ⟨_, rfl⟩ ?_
          refine gf_10_44 C0 kn_211 mw_930 dX10_level_151 ?_
          refine f_sub [0, 3] rfl ?_
          exact t_X10_level_154 C0 hZ _ _ _ _ hw
        · have hw := hw.2 h12
          refine f_aload_n C0 dX10_level_142 rfl 0 rfl ⟨_, rfl⟩ ?_
          refine gf_10_44 C0 kn_211 mw_930 dX10_level_143 ?_
          refine f_lneg C0 dX10_level_146 ?_
          refine f_goto (tgt := 154) C0 dX10_level_147 (by decide) ?_
          refine f_sub [0, 3] rfl ?_
          exact t_X10_level_154 C0 hZ _ _ _ _ hw
      · have hw := hw.2 h11
        refine f_ldc2 (v := (-9223372036854775808)) C0 mw_1210 dX10_level_129 ?_
        exact f_lret C0 hZ hw dX10_level_132
    · have hw := hw.2 h10
      refine f_aload_n C0 dX10_level_58 rfl 0 rfl ⟨_, rfl⟩ ?_
      refine f_iload C0 dX10_level_59 4 rfl ?_
      refine f_iload_n C0 dX10_level_61 rfl 1 rfl ?_
      refine f_callVi (As := [.int x4, .int x1]) (rest := []) C0 (m_X10_leastTime hw) cw_X10_252 kn_211 (by decide) rfl rfl ⟨(Nat.le_of_ble_eq_true rfl), (Nat.le_of_ble_eq_true rfl)⟩ rfl rfl (Nat.le_of_ble_eq_true rfl) dX10_level_62 ?_
      intro r20 d21 l22 hw
      refine f_istore (lo' := [(5, .int r20), (0, rf g 211), (1, .int x1), (2, .int x2), (3, .int x3), (4, .int x4)]) C0 dX10_level_65 (by decide) rfl ?_
      refine f_aload_n C0 dX10_level_67 rfl 1 rfl ⟨_, rfl⟩ ?_
      refine f_iload C0 dX10_level_68 5 rfl ?_
      refine f_iload_n C0 dX10_level_70 rfl 3 rfl ?_
      refine f_callVi (As := [.int x4, .int x2]) (rest := []) C0 (m_X10_leastTime hw) cw_X10_252 kn_211 (by decide) rfl rfl ⟨(Nat.le_of_ble_eq_true rfl), (Nat.le_of_ble_eq_true rfl)⟩ rfl rfl (Nat.le_of_ble_eq_true rfl) dX10_level_71 ?_
      intro r23 d24 l25 hw
      refine f_istore (lo' := [(6, .int r23), (5, .int r20), (0, rf g 211), (1, .int x1), (2, .int x2), (3, .int x3), (4, .int x4)]) C0 dX10_level_74 (by decide) rfl ?_
      refine f_iload C0 dX10_level_76 1 rfl ?_
      refine f_if_eq (tgt := 114) C0 dX10_level_78 (by decide) (fun h26 => ?_) (fun h26 => ?_)
      · have hw := hw.1 h26
        refine f_iinc (lo' := [(4, .int (x4 + 1)), (6, .int r23), (5, .int r20), (0, rf g 211), (1, .int x1), (2, .int x2), (3, .int x3)]) C0 dX10_level_114 6 rfl rfl (by decide) rfl ?_
        refine f_goto (tgt := 49) C0 dX10_level_117 (by decide) ?_
        refine f_sub [3, 4, 5, 6, 0] rfl ?_
        exact hK49 _ _ _ _ _ _ hw
      · have hw := hw.2 h26
        refine f_iload C0 dX10_level_81 0 rfl ?_
        refine f_if_ne (tgt := 89) C0 dX10_level_83 (by decide) (fun h27 => ?_) (fun h27 => ?_)
        · have hw := hw.1 h27
          refine f_aload_n C0 dX10_level_89 rfl 2 rfl ⟨_, rfl⟩ ?_
          refine f_dup C0 dX10_level_90 rfl ?_
          refine gf_10_44 C0 kn_211 mw_930 dX10_level_91 ?_
          refine f_iload C0 dX10_level_94 1 rfl ?_
          refine f_iload C0 dX10_level_96 0 rfl ?_
          refine f_isub C0 dX10_level_98 ?_
          refine f_i2l C0 dX10_level_99 ?_
          refine f_ladd C0 dX10_level_100 ?_
          refine pf_10_44 C0 kn_211 mw_930 dX10_level_101 (fun l28 el28 => ?_)
          have hw := hw l28 el28
          refine f_aload_n C0 dX10_level_104 rfl 2 rfl ⟨_, rfl⟩ ?_
          refine f_dup C0 dX10_level_105 rfl ?_
          refine gf_10_45 C0 kn_211 mw_931 dX10_level_106 ?_
          refine f_lconst (v := 1) C0 dX10_level_109 rfl ?_
          refine f_ladd C0 dX10_level_110 ?_
          refine pf_10_45 C0 kn_211 mw_931 dX10_level_111 (fun l29 el29 => ?_)
          have hw := hw l29 el29
          refine f_iinc (lo' := [(4, .int (x4 + 1)), (6, .int r23), (5, .int r20), (0, rf g 211), (1, .int x1), (2, .int x2), (3, .int x3)]) C0 dX10_level_114 6 rfl rfl (by decide) rfl ?_
          refine f_goto (tgt := 49) C0 dX10_level_117 (by decide) ?_
          refine f_sub [3, 4, 5, 6, 0] rfl ?_
          exact hK49 _ _ _ _ _ _ hw
        · have hw := hw.2 h27
          refine f_goto (tgt := 114) C0 dX10_level_86 (by decide) ?_
          refine f_iinc (lo' := [(4, .int (x4 + 1)), (6, .int r23), (5, .int r20), (0, rf g 211), (1, .int x1), (2, .int x2), (3, .int x3)]) C0 dX10_level_114 6 rfl rfl (by decide) rfl ?_
          refine f_goto (tgt := 49) C0 dX10_level_117 (by decide) ?_
          refine f_sub [3, 4, 5, 6, 0] rfl ?_
          exact hK49 _ _ _ _ _ _ hw
set_option maxHeartbeats 4000000 in
set_option maxRecDepth 100000 in
theorem m_X10_level {g : Ex} {n : Nat} {x1 : Int32} {x2 : Int32} {x3 : Int32} {d : DD} {dl : LL} {Q : Int64 → DD → LL → Prop} (hw : F_X10_level n x1 x2 x3 d dl Q) : Ml g yX10_level cX10_level 10 (some .long) 1 25 [rf g 211, .int x1, .int x2, .int x3] d dl Q := by
  refine Ml.of (by decide) (Nat.le_of_ble_eq_true rfl) (fun x C0 hZ => ?_)
  have C0 : Cx g x cX10_level 10 (some .long) RX10 1 25 := C0
  refine f_iload_n C0 dX10_level_0 rfl 1 rfl ?_
  refine f_if_lt (tgt := 32) C0 dX10_level_1 (by decide) (fun h1 => ?_) (fun h1 => ?_)
  · have hw := hw.1 h1
    refine f_ldc2 (v := (-9223372036854775808)) C0 mw_1210 dX10_level_32 ?_
    exact f_lret C0 hZ hw dX10_level_35
  · have hw := hw.2 h1
    refine f_iload_n C0 dX10_level_4 rfl 1 rfl ?_
    refine f_iconst (v := 3) C0 dX10_level_5 rfl ?_
    refine f_icmp_gt (tgt := 32) C0 dX10_level_6 (by decide) (fun h2 => ?_) (fun h2 => ?_)
    · have hw := hw.1 h2
      refine f_ldc2 (v := (-9223372036854775808)) C0 mw_1210 dX10_level_32 ?_
      exact f_lret C0 hZ hw dX10_level_35
    · have hw := hw.2 h2
      refine f_iload_n C0 dX10_level_9 rfl 2 rfl ?_
      refine f_if_lt (tgt := 32) C0 dX10_level_10 (by decide) (fun h3 => ?_) (fun h3 => ?_)
      · have hw := hw.1 h3
        refine f_ldc2 (v := (-9223372036854775808)) C0 mw_1210 dX10_level_32 ?_
        exact f_lret C0 hZ hw dX10_level_35
      · have hw := hw.2 h3
        refine f_iload_n C0 dX10_level_13 rfl 2 rfl ?_
        refine f_iconst (v := 3) C0 dX10_level_14 rfl ?_
        refine f_icmp_gt (tgt := 32) C0 dX10_level_15 (by decide) (fun h4 => ?_) (fun h4 => ?_)
        · have hw := hw.1 h4
          refine f_ldc2 (v := (-9223372036854775808)) C0 mw_1210 dX10_level_32 ?_
          exact f_lret C0 hZ hw dX10_level_35
        · have hw := hw.2 h4
          refine f_iload_n C0 dX10_level_18 rfl 1 rfl ?_
          refine f_iload_n C0 dX10_level_19 rfl 2 rfl ?_
          refine f_icmp_eq (tgt := 32) C0 dX10_level_20 (by decide) (fun h5 => ?_) (fun h5 => ?_)
          · have hw := hw.1 h5
            refine f_ldc2 (v := (-9223372036854775808)) C0 mw_1210 dX10_level_32 ?_
            exact f_lret C0 hZ hw dX10_level_35
          · have hw := hw.2 h5
            refine f_iload_n C0 dX10_level_23 rfl 3 rfl ?_
            refine f_if_lt (tgt := 32) C0 dX10_level_24 (by decide) (fun h6 => ?_) (fun h6 => ?_)
            · have hw := hw.1 h6
              refine f_ldc2 (v := (-9223372036854775808)) C0 mw_1210 dX10_level_32 ?_
              exact f_lret C0 hZ hw dX10_level_35
            · have hw := hw.2 h6
              refine f_iload_n C0 dX10_level_27 rfl 3 rfl ?_
              refine f_iconst (v := 1) C0 dX10_level_28 rfl ?_
              refine f_icmp_le (tgt := 36) C0 dX10_level_29 (by decide) (fun h7 => ?_) (fun h7 => ?_)
              · have hw := hw.1 h7
                refine f_aload_n C0 dX10_level_36 rfl 0 rfl ⟨_, rfl⟩ ?_
                refine f_lconst (v := 0) C0 dX10_level_37 rfl ?_
                refine pf_10_44 C0 kn_211 mw_930 dX10_level_38 (fun l8 el8 => ?_)
                have hw := hw l8 el8
                refine f_aload_n C0 dX10_level_41 rfl 0 rfl ⟨_, rfl⟩ ?_
                refine f_lconst (v := 0) C0 dX10_level_42 rfl ?_
                refine pf_10_45 C0 kn_211 mw_931 dX10_level_43 (fun l9 el9 => ?_)
                have hw := hw l9 el9
                refine f_iconst (v := 0) C0 dX10_level_46 rfl ?_
                refine f_istore (lo' := [(4, .int 0), (0, rf g 211), (1, .int x1), (2, .int x2), (3, .int x3)]) C0 dX10_level_47 (by decide) rfl ?_
                refine f_sub [1, 2, 3, 4, 0] rfl ?_
                exact t_X10_level_49 C0 hZ n _ _ _ _ _ _ hw
              · have hw := hw.2 h7
                refine f_ldc2 (v := (-9223372036854775808)) C0 mw_1210 dX10_level_32 ?_
                exact f_lret C0 hZ hw dX10_level_35
def F_X10_worth (n : Nat) (x0 : Int32) (d : DD) (dl : LL) (Q : Int32 → DD → LL → Prop) : Prop := (¬ x0 = 1 → (¬ x0 = 2 → (7 ≤ x0 → Q 0 d dl) ∧ (¬ 7 ≤ x0 → Q ((9 : Int32) - x0) d dl)) ∧ (x0 = 2 → Q 8 d dl)) ∧ (x0 = 1 → Q 10 d dl)
set_option maxHeartbeats 4000000 in
set_option maxRecDepth 100000 in
theorem m_X10_worth {g : Ex} {n : Nat} {x0 : Int32} {d : DD} {dl : LL} {Q : Int32 → DD → LL → Prop} (hw : F_X10_worth n x0 d dl Q) : Mi g yX10_worth cX10_worth 1 (some .int) 0 0 [.int x0] d dl Q := by
  refine Mi.of (by decide) (Nat.le_of_ble_eq_true rfl) (fun x C0 hZ => ?_)
  have C0 : Cx g x cX10_worth 1 (some .int) RX10 0 0 := C0
  refine f_iload_n C0 dX10_worth_0 rfl 0 rfl ?_
  refine f_iconst (v := 1) C0 dX10_worth_1 rfl ?_
  refine f_icmp_ne (tgt := 10) C0 dX10_worth_2 (by decide) (fun h1 => ?_) (fun h1 => ?_)
  · have hw := hw.1 h1
    refine f_iload_n C0 dX10_worth_10 rfl 0 rfl ?_
    refine f_iconst (v := 2) C0 dX10_worth_11 rfl ?_
    refine f_icmp_ne (tgt := 20) C0 dX10_worth_12 (by decide) (fun h2 => ?_) (fun h2 => ?_)
    · have hw := hw.1 h2
      refine f_iload_n C0 dX10_worth_20 rfl 0 rfl ?_
      refine f_bipush (v := 7) C0 dX10_worth_21 rfl ?_
      refine f_icmp_ge (tgt := 33) C0 dX10_worth_23 (by decide) (fun h3 => ?_) (fun h3 => ?_)
      · have hw := hw.1 h3
        refine f_iconst (v := 0) C0 dX10_worth_33 rfl ?_
        exact f_iret C0 hZ hw dX10_worth_34
      · have hw := hw.2 h3
        refine f_bipush (v := 9) C0 dX10_worth_26 rfl ?_
        refine f_iload_n C0 dX10_worth_28 rfl 0 rfl ?_
        refine f_isub C0 dX10_worth_29 ?_
        refine f_goto (tgt := 34) C0 dX10_worth_30 (by decide) ?_
        exact f_iret C0 hZ hw dX10_worth_34
    · have hw := hw.2 h2
      refine f_bipush (v := 8) C0 dX10_worth_15 rfl ?_
      refine f_goto (tgt := 34) C0 dX10_worth_17 (by decide) ?_
      exact f_iret C0 hZ hw dX10_worth_34
  · have hw := hw.2 h1
    refine f_bipush (v := 10) C0 dX10_worth_5 rfl ?_
    refine f_goto (tgt := 34) C0 dX10_worth_7 (by decide) ?_
    exact f_iret C0 hZ hw dX10_worth_34
def b_X10_pointsOf_124 (n : Nat) (Q : Int32 → DD → LL → Prop) (K4 : Int32 → Int32 → Int32 → DD → LL → Prop) (K15 : Int32 → Int32 → Int32 → Int32 → DD → LL → Prop) : Nat → Int32 → Int32 → Int32 → Int32 → Int32 → Int32 → Int32 → Int32 → DD → LL → Prop
  | 0 => fun _ _ _ _ _ _ _ _ _ _ => False
  | k + 1 => fun x1 x2 x3 x4 x5 x6 x7 x8 d dl => (x6 ≤ x8 → ¬ x6 = 0 ∧ ∀ v15 : Int32, v15 = (x2 + (((60 : Int32) * x7) / x6)) → K15 x1 v15 x3 (x4 + 1) d dl) ∧ (¬ x6 ≤ x8 → F_X10_worth n (x5 + x8) d dl (fun r16 d17 l18 => ∀ v19 : Int32, v19 = (x7 + r16) → (b_X10_pointsOf_124 n Q K4 K15 k) x1 x2 x3 x4 x5 x6 v19 (x8 + 1) d17 l18))
def b_X10_pointsOf_78 (n : Nat) (Q : Int32 → DD → LL → Prop) (K4 : Int32 → Int32 → Int32 → DD → LL → Prop) (K15 : Int32 → Int32 → Int32 → Int32 → DD → LL → Prop) : Nat → Int32 → Int32 → Int32 → Int32 → Int32 → Int32 → Int32 → DD → LL → Prop
  | 0 => fun _ _ _ _ _ _ _ _ _ => False
  | k + 1 => fun x1 x2 x3 x4 x5 x6 x7 d dl => (4 ≤ x7 → b_X10_pointsOf_124 n Q K4 K15 n x1 x2 x3 x4 x5 x6 0 0 d dl) ∧ (¬ 4 ≤ x7 → vp_in (((4 : Int32) * x3) + x7) 96 ∧ vp_in (((4 : Int32) * x3) + x4) 96 ∧ (¬ (d 235 (((4 : Int32) * x3) + x7).toNatClampNeg) = (d 235 (((4 : Int32) * x3) + x4).toNatClampNeg) → (b_X10_pointsOf_78 n Q K4 K15 k) x1 x2 x3 x4 x5 x6 (x7 + 1) d dl) ∧ ((d 235 (((4 : Int32) * x3) + x7).toNatClampNeg) = (d 235 (((4 : Int32) * x3) + x4).toNatClampNeg) → (b_X10_pointsOf_78 n Q K4 K15 k) x1 x2 x3 x4 x5 (x6 + 1) (x7 + 1) d dl))
def b_X10_pointsOf_15 (n : Nat) (Q : Int32 → DD → LL → Prop) (K4 : Int32 → Int32 → Int32 → DD → LL → Prop) : Nat → Int32 → Int32 → Int32 → Int32 → DD → LL → Prop
  | 0 => fun _ _ _ _ _ _ => False
  | k + 1 => fun x1 x2 x3 x4 d dl => (4 ≤ x4 → K4 x1 x2 (x3 + 1) d dl) ∧ (¬ 4 ≤ x4 → vp_in x3 24 ∧ (¬ (d 233 x3.toNatClampNeg) = 1 → K4 x1 x2 (x3 + 1) d dl) ∧ ((d 233 x3.toNatClampNeg) = 1 → vp_in (((4 : Int32) * x3) + x4) 96 ∧ (¬ (d 234 (((4 : Int32) * x3) + x4).toNatClampNeg) = x1 → (b_X10_pointsOf_15 n Q K4 k) x1 x2 x3 (x4 + 1) d dl) ∧ ((d 234 (((4 : Int32) * x3) + x4).toNatClampNeg) = x1 → vp_in (((4 : Int32) * x3) + x4) 96 ∧ (¬ (d 235 (((4 : Int32) * x3) + x4).toNatClampNeg) = 0 → F_X10_place n x3 x4 d dl (fun r9 d10 l11 => b_X10_pointsOf_78 n Q K4 (b_X10_pointsOf_15 n Q K4 k) n x1 x2 x3 x4 r9 0 0 d10 l11)) ∧ ((d 235 (((4 : Int32) * x3) + x4).toNatClampNeg) = 0 → (b_X10_pointsOf_15 n Q K4 k) x1 x2 x3 (x4 + 1) d dl))))
def b_X10_pointsOf_4 (n : Nat) (Q : Int32 → DD → LL → Prop) : Nat → Int32 → Int32 → Int32 → DD → LL → Prop
  | 0 => fun _ _ _ _ _ => False
  | k + 1 => fun x1 x2 x3 d dl => ((d 211 3) ≤ x3 → Q x2 d dl) ∧ (¬ (d 211 3) ≤ x3 → b_X10_pointsOf_15 n Q (b_X10_pointsOf_4 n Q k) n x1 x2 x3 0 d dl)
def F_X10_pointsOf (n : Nat) (x1 : Int32) (d : DD) (dl : LL) (Q : Int32 → DD → LL → Prop) : Prop := b_X10_pointsOf_4 n Q n x1 0 0 d dl
set_option maxHeartbeats 4000000 in
set_option maxRecDepth 100000 in
theorem t_X10_pointsOf_124 {g : Ex} {x : Fx} {n : Nat} {Q : Int32 → DD → LL → Prop} (C0 : Cx g x cX10_pointsOf 9 (some .int) RX10 1 25) (hZ : Zi g x Q) {K4 : Int32 → Int32 → Int32 → DD → LL → Prop} (hK4 : ∀ (x1 : Int32) (x2 : Int32) (x3 : Int32) (d : DD) (dl : LL), K4 x1 x2 x3 d dl → FW g x 9 d dl 4 [(0, rf g 211), (1, .int x1), (2, .int x2), (3, .int x3)] []) {K15 : Int32 → Int32 → Int32 → Int32 → DD → LL → Prop} (hK15 : ∀ (x1 : Int32) (x2 : Int32) (x3 : Int32) (x4 : Int32) (d : DD) (dl : LL), K15 x1 x2 x3 x4 d dl → FW g x 9 d dl 15 [(0, rf g 211), (1, .int x1), (2, .int x2), (3, .int x3), (4, .int x4)] []) : ∀ (j : Nat) (x1 : Int32) (x2 : Int32) (x3 : Int32) (x4 : Int32) (x5 : Int32) (x6 : Int32) (x7 : Int32) (x8 : Int32) (d : DD) (dl : LL), b_X10_pointsOf_124 n Q K4 K15 j x1 x2 x3 x4 x5 x6 x7 x8 d dl → FW g x 9 d dl 124 [(0, rf g 211), (1, .int x1), (2, .int x2), (3, .int x3), (4, .int x4), (5, .int x5), (6, .int x6), (7, .int x7), (8, .int x8)] [] := by
  intro j
  induction j with
  | zero =>
    intro x1 x2 x3 x4 x5 x6 x7 x8 d dl hw
    exact hw.elim
  | succ j hK124 =>
    intro x1 x2 x3 x4 x5 x6 x7 x8 d dl hw
    refine f_iload C0 dX10_pointsOf_124 8 rfl ?_
    refine f_iload C0 dX10_pointsOf_126 6 rfl ?_
    refine f_icmp_ge (tgt := 150) C0 dX10_pointsOf_128 (by decide) (fun h13 => ?_) (fun h13 => ?_)
    · have hw := hw.1 h13
      refine f_iload_n C0 dX10_pointsOf_150 rfl 2 rfl ?_
      refine f_bipush (v := 60) C0 dX10_pointsOf_151 rfl ?_
      refine f_iload C0 dX10_pointsOf_153 7 rfl ?_
      refine f_imul C0 dX10_pointsOf_155 ?_
      refine f_iload C0 dX10_pointsOf_156 6 rfl ?_
      obtain ⟨h14, hw⟩ := hw
      refine f_idiv C0 dX10_pointsOf_158 h14 ?_
      refine f_iadd C0 dX10_pointsOf_159 ?_
      refine f_topi (fun v15 e15 => ?_)
      have hw := hw v15 e15
      refine f_istore_n (lo' := [(2, .int v15), (0, rf g 211), (1, .int x1), (3, .int x3), (4, .int x4), (5, .int x5), (6, .int x6), (7, .int x7), (8, .int x8)]) C0 dX10_pointsOf_160 rfl (by decide) rfl ?_
      refine f_iinc (lo' := [(4, .int (x4 + 1)), (2, .int v15), (0, rf g 211), (1, .int x1), (3, .int x3), (5, .int x5), (6, .int x6), (7, .int x7), (8, .int x8)]) C0 dX10_pointsOf_161 4 rfl rfl (by decide) rfl ?_
      refine f_goto (tgt := 15) C0 dX10_pointsOf_164 (by decide) ?_
      refine f_sub [2, 3, 1, 4, 0] rfl ?_
      exact hK15 _ _ _ _ _ _ hw
    · have hw := hw.2 h13
      refine f_iload C0 dX10_pointsOf_131 7 rfl ?_
      refine f_iload C0 dX10_pointsOf_133 5 rfl ?_
      refine f_iload C0 dX10_pointsOf_135 8 rfl ?_
      refine f_iadd C0 dX10_pointsOf_137 ?_
      refine f_callSi (As := [.int (x5 + x8)]) (rest := [.int x7]) C0 (m_X10_worth hw) cw_X10_255  ⟨(Nat.le_of_ble_eq_true rfl), (Nat.le_of_ble_eq_true rfl)⟩ rfl rfl (Nat.le_of_ble_eq_true rfl) dX10_pointsOf_138 ?_
      intro r16 d17 l18 hw
      refine f_iadd C0 dX10_pointsOf_141 ?_
      refine f_topi (fun v19 e19 => ?_)
      have hw := hw v19 e19
      refine f_istore (lo' := [(7, .int v19), (0, rf g 211), (1, .int x1), (2, .int x2), (3, .int x3), (4, .int x4), (5, .int x5), (6, .int x6), (8, .int x8)]) C0 dX10_pointsOf_142 (by decide) rfl ?_
      refine f_iinc (lo' := [(8, .int (x8 + 1)), (7, .int v19), (0, rf g 211), (1, .int x1), (2, .int x2), (3, .int x3), (4, .int x4), (5, .int x5), (6, .int x6)]) C0 dX10_pointsOf_144 8 rfl rfl (by decide) rfl ?_
      refine f_goto (tgt := 124) C0 dX10_pointsOf_147 (by decide) ?_
      refine f_sub [2, 3, 4, 5, 6, 7, 8, 1, 0] rfl ?_
      exact hK124 _ _ _ _ _ _ _ _ _ _ hw
set_option maxHeartbeats 4000000 in
set_option maxRecDepth 100000 in
theorem t_X10_pointsOf_78 {g : Ex} {x : Fx} {n : Nat} {Q : Int32 → DD → LL → Prop} (C0 : Cx g x cX10_pointsOf 9 (some .int) RX10 1 25) (hZ : Zi g x Q) {K4 : Int32 → Int32 → Int32 → DD → LL → Prop} (hK4 : ∀ (x1 : Int32) (x2 : Int32) (x3 : Int32) (d : DD) (dl : LL), K4 x1 x2 x3 d dl → FW g x 9 d dl 4 [(0, rf g 211), (1, .int x1), (2, .int x2), (3, .int x3)] []) {K15 : Int32 → Int32 → Int32 → Int32 → DD → LL → Prop} (hK15 : ∀ (x1 : Int32) (x2 : Int32) (x3 : Int32) (x4 : Int32) (d : DD) (dl : LL), K15 x1 x2 x3 x4 d dl → FW g x 9 d dl 15 [(0, rf g 211), (1, .int x1), (2, .int x2), (3, .int x3), (4, .int x4)] []) : ∀ (j : Nat) (x1 : Int32) (x2 : Int32) (x3 : Int32) (x4 : Int32) (x5 : Int32) (x6 : Int32) (x7 : Int32) (d : DD) (dl : LL), b_X10_pointsOf_78 n Q K4 K15 j x1 x2 x3 x4 x5 x6 x7 d dl → FW g x 9 d dl 78 [(0, rf g 211), (1, .int x1), (2, .int x2), (3, .int x3), (4, .int x4), (5, .int x5), (6, .int x6), (7, .int x7)] [] := by
  intro j
  induction j with
  | zero =>
    intro x1 x2 x3 x4 x5 x6 x7 d dl hw
    exact hw.elim
  | succ j hK78 =>
    intro x1 x2 x3 x4 x5 x6 x7 d dl hw
    refine f_iload C0 dX10_pointsOf_78 7 rfl ?_
    refine f_iconst (v := 4) C0 dX10_pointsOf_80 rfl ?_
    refine f_icmp_ge (tgt := 118) C0 dX10_pointsOf_81 (by decide) (fun h12 => ?_) (fun h12 => ?_)
    · have hw := hw.1 h12
      refine f_iconst (v := 0) C0 dX10_pointsOf_118 rfl ?_
      refine f_istore (lo' := [(7, .int 0), (0, rf g 211), (1, .int x1), (2, .int x2), (3, .int x3), (4, .int x4), (5, .int x5), (6, .int x6)]) C0 dX10_pointsOf_119 (by decide) rfl ?_
      refine f_iconst (v := 0) C0 dX10_pointsOf_121 rfl ?_
      refine f_istore (lo' := [(8, .int 0), (7, .int 0), (0, rf g 211), (1, .int x1), (2, .int x2), (3, .int x3), (4, .int x4), (5, .int x5), (6, .int x6)]) C0 dX10_pointsOf_122 (by decide) rfl ?_
      refine f_sub [2, 3, 4, 5, 6, 7, 8, 1, 0] rfl ?_
      exact t_X10_pointsOf_124 C0 hZ hK4 hK15 n _ _ _ _ _ _ _ _ _ _ hw
    · have hw := hw.2 h12
      refine f_aload_n C0 dX10_pointsOf_84 rfl 0 rfl ⟨_, rfl⟩ ?_
      refine gf_10_31 (r := 235) C0 rfl kn_211 mw_917 dX10_pointsOf_85 ?_
      refine f_iconst (v := 4) C0 dX10_pointsOf_88 rfl ?_
      refine f_iload_n C0 dX10_pointsOf_89 rfl 3 rfl ?_
      refine f_imul C0 dX10_pointsOf_90 ?_
      refine f_iload C0 dX10_pointsOf_91 7 rfl ?_
      refine f_iadd C0 dX10_pointsOf_93 ?_
      obtain ⟨h20, hw⟩ := hw
      refine f_iald C0 kn_235 h20 dX10_pointsOf_94 ?_
      refine f_aload_n C0 dX10_pointsOf_95 rfl 0 rfl ⟨_, rfl⟩ ?_
      refine gf_10_31 (r := 235) C0 rfl kn_211 mw_917 dX10_pointsOf_96 ?_
      refine f_iconst (v := 4) C0 dX10_pointsOf_99 rfl ?_
      refine f_iload_n C0 dX10_pointsOf_100 rfl 3 rfl ?_
      refine f_imul C0 dX10_pointsOf_101 ?_
      refine f_iload C0 dX10_pointsOf_102 4 rfl ?_
      refine f_iadd C0 dX10_pointsOf_104 ?_
      obtain ⟨h21, hw⟩ := hw
      refine f_iald C0 kn_235 h21 dX10_pointsOf_105 ?_
      refine f_icmp_ne (tgt := 112) C0 dX10_pointsOf_106 (by decide) (fun h22 => ?_) (fun h22 => ?_)
      · have hw := hw.1 h22
        refine f_iinc (lo' := [(7, .int (x7 + 1)), (0, rf g 211), (1, .int x1), (2, .int x2), (3, .int x3), (4, .int x4), (5, .int x5), (6, .int x6)]) C0 dX10_pointsOf_112 7 rfl rfl (by decide) rfl ?_
        refine f_goto (tgt := 78) C0 dX10_pointsOf_115 (by decide) ?_
        refine f_sub [1, 2, 3, 4, 5, 6, 7, 0] rfl ?_
        exact hK78 _ _ _ _ _ _ _ _ _ hw
      · have hw := hw.2 h22
        refine f_iinc (lo' := [(6, .int (x6 + 1)), (0, rf g 211), (1, .int x1), (2, .int x2), (3, .int x3), (4, .int x4), (5, .int x5), (7, .int x7)]) C0 dX10_pointsOf_109 6 rfl rfl (by decide) rfl ?_
        refine f_iinc (lo' := [(7, .int (x7 + 1)), (6, .int (x6 + 1)), (0, rf g 211), (1, .int x1), (2, .int x2), (3, .int x3), (4, .int x4), (5, .int x5)]) C0 dX10_pointsOf_112 7 rfl rfl (by decide) rfl ?_
        refine f_goto (tgt := 78) C0 dX10_pointsOf_115 (by decide) ?_
        refine f_sub [2, 3, 4, 5, 6, 7, 1, 0] rfl ?_
        exact hK78 _ _ _ _ _ _ _ _ _ hw
set_option maxHeartbeats 4000000 in
set_option maxRecDepth 100000 in
theorem t_X10_pointsOf_15 {g : Ex} {x : Fx} {n : Nat} {Q : Int32 → DD → LL → Prop} (C0 : Cx g x cX10_pointsOf 9 (some .int) RX10 1 25) (hZ : Zi g x Q) {K4 : Int32 → Int32 → Int32 → DD → LL → Prop} (hK4 : ∀ (x1 : Int32) (x2 : Int32) (x3 : Int32) (d : DD) (dl : LL), K4 x1 x2 x3 d dl → FW g x 9 d dl 4 [(0, rf g 211), (1, .int x1), (2, .int x2), (3, .int x3)] []) : ∀ (j : Nat) (x1 : Int32) (x2 : Int32) (x3 : Int32) (x4 : Int32) (d : DD) (dl : LL), b_X10_pointsOf_15 n Q K4 j x1 x2 x3 x4 d dl → FW g x 9 d dl 15 [(0, rf g 211), (1, .int x1), (2, .int x2), (3, .int x3), (4, .int x4)] [] := by
  intro j
  induction j with
  | zero =>
    intro x1 x2 x3 x4 d dl hw
    exact hw.elim
  | succ j hK15 =>
    intro x1 x2 x3 x4 d dl hw
    refine f_iload C0 dX10_pointsOf_15 4 rfl ?_
    refine f_iconst (v := 4) C0 dX10_pointsOf_17 rfl ?_
    refine f_icmp_ge (tgt := 167) C0 dX10_pointsOf_18 (by decide) (fun h2 => ?_) (fun h2 => ?_)
    · have hw := hw.1 h2
      refine f_iinc (lo' := [(3, .int (x3 + 1)), (0, rf g 211), (1, .int x1), (2, .int x2), (4, .int x4)]) C0 dX10_pointsOf_167 3 rfl rfl (by decide) rfl ?_
      refine f_goto (tgt := 4) C0 dX10_pointsOf_170 (by decide) ?_
      refine f_sub [1, 2, 3, 0] rfl ?_
      exact hK4 _ _ _ _ _ hw
    · have hw := hw.2 h2
      refine f_aload_n C0 dX10_pointsOf_21 rfl 0 rfl ⟨_, rfl⟩ ?_
      refine gf_10_29 (r := 233) C0 rfl kn_211 mw_915 dX10_pointsOf_22 ?_
      refine f_iload_n C0 dX10_pointsOf_25 rfl 3 rfl ?_
      obtain ⟨h3, hw⟩ := hw
      refine f_iald C0 kn_233 h3 dX10_pointsOf_26 ?_
      refine f_iconst (v := 1) C0 dX10_pointsOf_27 rfl ?_
      refine f_icmp_ne (tgt := 167) C0 dX10_pointsOf_28 (by decide) (fun h4 => ?_) (fun h4 => ?_)
      · have hw := hw.1 h4
        refine f_iinc (lo' := [(3, .int (x3 + 1)), (0, rf g 211), (1, .int x1), (2, .int x2), (4, .int x4)]) C0 dX10_pointsOf_167 3 rfl rfl (by decide) rfl ?_
        refine f_goto (tgt := 4) C0 dX10_pointsOf_170 (by decide) ?_
        refine f_sub [1, 2, 3, 0] rfl ?_
        exact hK4 _ _ _ _ _ hw
      · have hw := hw.2 h4
        refine f_aload_n C0 dX10_pointsOf_31 rfl 0 rfl ⟨_, rfl⟩ ?_
        refine gf_10_30 (r := 234) C0 rfl kn_211 mw_916 dX10_pointsOf_32 ?_
        refine f_iconst (v := 4) C0 dX10_pointsOf_35 rfl ?_
        refine f_iload_n C0 dX10_pointsOf_36 rfl 3 rfl ?_
        refine f_imul C0 dX10_pointsOf_37 ?_
        refine f_iload C0 dX10_pointsOf_38 4 rfl ?_
        refine f_iadd C0 dX10_pointsOf_40 ?_
        obtain ⟨h5, hw⟩ := hw
        refine f_iald C0 kn_234 h5 dX10_pointsOf_41 ?_
        refine f_iload_n C0 dX10_pointsOf_42 rfl 1 rfl ?_
        refine f_icmp_ne (tgt := 161) C0 dX10_pointsOf_43 (by decide) (fun h6 => ?_) (fun h6 => ?_)
        · have hw := hw.1 h6
          refine f_iinc (lo' := [(4, .int (x4 + 1)), (0, rf g 211), (1, .int x1), (2, .int x2), (3, .int x3)]) C0 dX10_pointsOf_161 4 rfl rfl (by decide) rfl ?_
          refine f_goto (tgt := 15) C0 dX10_pointsOf_164 (by decide) ?_
          refine f_sub [1, 2, 3, 4, 0] rfl ?_
          exact hK15 _ _ _ _ _ _ hw
        · have hw := hw.2 h6
          refine f_aload_n C0 dX10_pointsOf_46 rfl 0 rfl ⟨_, rfl⟩ ?_
          refine gf_10_31 (r := 235) C0 rfl kn_211 mw_917 dX10_pointsOf_47 ?_
          refine f_iconst (v := 4) C0 dX10_pointsOf_50 rfl ?_
          refine f_iload_n C0 dX10_pointsOf_51 rfl 3 rfl ?_
          refine f_imul C0 dX10_pointsOf_52 ?_
          refine f_iload C0 dX10_pointsOf_53 4 rfl ?_
          refine f_iadd C0 dX10_pointsOf_55 ?_
          obtain ⟨h7, hw⟩ := hw
          refine f_iald C0 kn_235 h7 dX10_pointsOf_56 ?_
          refine f_if_ne (tgt := 63) C0 dX10_pointsOf_57 (by decide) (fun h8 => ?_) (fun h8 => ?_)
          · have hw := hw.1 h8
            refine f_aload_n C0 dX10_pointsOf_63 rfl 0 rfl ⟨_, rfl⟩ ?_
            refine f_iload_n C0 dX10_pointsOf_64 rfl 3 rfl ?_
            refine f_iload C0 dX10_pointsOf_65 4 rfl ?_
            refine f_callVi (As := [.int x3, .int x4]) (rest := []) C0 (m_X10_place hw) cw_X10_237 kn_211 (by decide) rfl rfl ⟨(Nat.le_of_ble_eq_true rfl), (Nat.le_of_ble_eq_true rfl)⟩ rfl rfl (Nat.le_of_ble_eq_true rfl) dX10_pointsOf_67 ?_
            intro r9 d10 l11 hw
            refine f_istore (lo' := [(5, .int r9), (0, rf g 211), (1, .int x1), (2, .int x2), (3, .int x3), (4, .int x4)]) C0 dX10_pointsOf_70 (by decide) rfl ?_
            refine f_iconst (v := 0) C0 dX10_pointsOf_72 rfl ?_
            refine f_istore (lo' := [(6, .int 0), (5, .int r9), (0, rf g 211), (1, .int x1), (2, .int x2), (3, .int x3), (4, .int x4)]) C0 dX10_pointsOf_73 (by decide) rfl ?_
            refine f_iconst (v := 0) C0 dX10_pointsOf_75 rfl ?_
            refine f_istore (lo' := [(7, .int 0), (6, .int 0), (5, .int r9), (0, rf g 211), (1, .int x1), (2, .int x2), (3, .int x3), (4, .int x4)]) C0 dX10_pointsOf_76 (by decide) rfl ?_
            refine f_sub [3, 4, 5, 6, 7, 2, 1, 0] rfl ?_
            exact t_X10_pointsOf_78 C0 hZ hK4 hK15 n _ _ _ _ _ _ _ _ _ hw
          · have hw := hw.2 h8
            refine f_goto (tgt := 161) C0 dX10_pointsOf_60 (by decide) ?_
            refine f_iinc (lo' := [(4, .int (x4 + 1)), (0, rf g 211), (1, .int x1), (2, .int x2), (3, .int x3)]) C0 dX10_pointsOf_161 4 rfl rfl (by decide) rfl ?_
            refine f_goto (tgt := 15) C0 dX10_pointsOf_164 (by decide) ?_
            refine f_sub [1, 2, 3, 4, 0] rfl ?_
            exact hK15 _ _ _ _ _ _ hw
set_option maxHeartbeats 4000000 in
set_option maxRecDepth 100000 in
theorem t_X10_pointsOf_4 {g : Ex} {x : Fx} {n : Nat} {Q : Int32 → DD → LL → Prop} (C0 : Cx g x cX10_pointsOf 9 (some .int) RX10 1 25) (hZ : Zi g x Q) : ∀ (j : Nat) (x1 : Int32) (x2 : Int32) (x3 : Int32) (d : DD) (dl : LL), b_X10_pointsOf_4 n Q j x1 x2 x3 d dl → FW g x 9 d dl 4 [(0, rf g 211), (1, .int x1), (2, .int x2), (3, .int x3)] [] := by
  intro j
  induction j with
  | zero =>
    intro x1 x2 x3 d dl hw
    exact hw.elim
  | succ j hK4 =>
    intro x1 x2 x3 d dl hw
    refine f_iload_n C0 dX10_pointsOf_4 rfl 3 rfl ?_
    refine f_aload_n C0 dX10_pointsOf_5 rfl 0 rfl ⟨_, rfl⟩ ?_
    refine gf_10_3 C0 kn_211 mw_889 dX10_pointsOf_6 ?_
    refine f_icmp_ge (tgt := 173) C0 dX10_pointsOf_9 (by decide) (fun h1 => ?_) (fun h1 => ?_)
    · have hw := hw.1 h1
      refine f_iload_n C0 dX10_pointsOf_173 rfl 2 rfl ?_
      exact f_iret C0 hZ hw dX10_pointsOf_174
    · have hw := hw.2 h1
      refine f_iconst (v := 0) C0 dX10_pointsOf_12 rfl ?_
      refine f_istore (lo' := [(4, .int 0), (0, rf g 211), (1, .int x1), (2, .int x2), (3, .int x3)]) C0 dX10_pointsOf_13 (by decide) rfl ?_
      refine f_sub [1, 2, 3, 4, 0] rfl ?_
      exact t_X10_pointsOf_15 C0 hZ hK4 n _ _ _ _ _ _ hw
set_option maxHeartbeats 4000000 in
set_option maxRecDepth 100000 in
theorem m_X10_pointsOf {g : Ex} {n : Nat} {x1 : Int32} {d : DD} {dl : LL} {Q : Int32 → DD → LL → Prop} (hw : F_X10_pointsOf n x1 d dl Q) : Mi g yX10_pointsOf cX10_pointsOf 9 (some .int) 1 25 [rf g 211, .int x1] d dl Q := by
  refine Mi.of (by decide) (Nat.le_of_ble_eq_true rfl) (fun x C0 hZ => ?_)
  have C0 : Cx g x cX10_pointsOf 9 (some .int) RX10 1 25 := C0
  refine f_iconst (v := 0) C0 dX10_pointsOf_0 rfl ?_
  refine f_istore_n (lo' := [(2, .int 0), (0, rf g 211), (1, .int x1)]) C0 dX10_pointsOf_1 rfl (by decide) rfl ?_
  refine f_iconst (v := 0) C0 dX10_pointsOf_2 rfl ?_
  refine f_istore_n (lo' := [(3, .int 0), (2, .int 0), (0, rf g 211), (1, .int x1)]) C0 dX10_pointsOf_3 rfl (by decide) rfl ?_
  refine f_sub [2, 3, 1, 0] rfl ?_
  exact t_X10_pointsOf_4 C0 hZ n _ _ _ _ _ hw
def F_X10_points (n : Nat) (x1 : Int32) (d : DD) (dl : LL) (Q : Int32 → DD → LL → Prop) : Prop := F_X10_isCrew n x1 d dl (fun r1 d2 l3 => (r1 = 0 → Q (-1) d2 l3) ∧ (¬ r1 = 0 → F_X10_pointsOf n x1 d2 l3 (fun r5 d6 l7 => Q r5 d6 l7)))
set_option maxHeartbeats 4000000 in
set_option maxRecDepth 100000 in
theorem m_X10_points {g : Ex} {n : Nat} {x1 : Int32} {d : DD} {dl : LL} {Q : Int32 → DD → LL → Prop} (hw : F_X10_points n x1 d dl Q) : Mi g yX10_points cX10_points 2 (some .int) 2 53 [rf g 211, .int x1] d dl Q := by
  refine Mi.of (by decide) (Nat.le_of_ble_eq_true rfl) (fun x C0 hZ => ?_)
  have C0 : Cx g x cX10_points 2 (some .int) RX10 2 53 := C0
  refine f_aload_n C0 dX10_points_0 rfl 0 rfl ⟨_, rfl⟩ ?_
  refine f_iload_n C0 dX10_points_1 rfl 1 rfl ?_
  refine f_callVi (As := [.int x1]) (rest := []) C0 (m_X10_isCrew hw) cw_X10_135 kn_211 (by decide) rfl rfl ⟨(Nat.le_of_ble_eq_true rfl), (Nat.le_of_ble_eq_true rfl)⟩ rfl rfl (Nat.le_of_ble_eq_true rfl) dX10_points_2 ?_
  intro r1 d2 l3 hw
  refine f_if_eq (tgt := 16) C0 dX10_points_5 (by decide) (fun h4 => ?_) (fun h4 => ?_)
  · have hw := hw.1 h4
    refine f_iconst (v := (-1)) C0 dX10_points_16 rfl ?_
    exact f_iret C0 hZ hw dX10_points_17
  · have hw := hw.2 h4
    refine f_aload_n C0 dX10_points_8 rfl 0 rfl ⟨_, rfl⟩ ?_
    refine f_iload_n C0 dX10_points_9 rfl 1 rfl ?_
    refine f_callVi (As := [.int x1]) (rest := []) C0 (m_X10_pointsOf hw) cw_X10_258 kn_211 (by decide) rfl rfl ⟨(Nat.le_of_ble_eq_true rfl), (Nat.le_of_ble_eq_true rfl)⟩ rfl rfl (Nat.le_of_ble_eq_true rfl) dX10_points_10 ?_
    intro r5 d6 l7 hw
    refine f_goto (tgt := 17) C0 dX10_points_13 (by decide) ?_
    exact f_iret C0 hZ hw dX10_points_17
def b_X10_table_29 (n : Nat) (Q : Int32 → DD → LL → Prop) (K16 : Int32 → Int32 → DD → LL → Prop) : Nat → Int32 → Int32 → Int32 → Int32 → DD → LL → Prop
  | 0 => fun _ _ _ _ _ _ => False
  | k + 1 => fun x1 x2 x3 x4 d dl => ((d 211 1) ≤ x4 → (¬ x3 = x1 → K16 x1 (x2 + 1) d dl) ∧ (x3 = x1 → Q x2 d dl)) ∧ (¬ (d 211 1) ≤ x4 → F_X10_pointsOf n x4 d dl (fun r6 d7 l8 => F_X10_pointsOf n x2 d7 l8 (fun r9 d10 l11 => (r9 < r6 → (b_X10_table_29 n Q K16 k) x1 x2 (x3 + 1) (x4 + 1) d10 l11) ∧ (¬ r9 < r6 → (x2 ≤ x4 → (b_X10_table_29 n Q K16 k) x1 x2 x3 (x4 + 1) d10 l11) ∧ (¬ x2 ≤ x4 → F_X10_pointsOf n x4 d10 l11 (fun r14 d15 l16 => F_X10_pointsOf n x2 d15 l16 (fun r17 d18 l19 => (¬ r14 = r17 → (b_X10_table_29 n Q K16 k) x1 x2 x3 (x4 + 1) d18 l19) ∧ (r14 = r17 → (b_X10_table_29 n Q K16 k) x1 x2 (x3 + 1) (x4 + 1) d18 l19))))))))
def b_X10_table_16 (n : Nat) (Q : Int32 → DD → LL → Prop) : Nat → Int32 → Int32 → DD → LL → Prop
  | 0 => fun _ _ _ _ => False
  | k + 1 => fun x1 x2 d dl => ((d 211 1) ≤ x2 → Q (-1) d dl) ∧ (¬ (d 211 1) ≤ x2 → b_X10_table_29 n Q (b_X10_table_16 n Q k) n x1 x2 0 0 d dl)
def F_X10_table (n : Nat) (x1 : Int32) (d : DD) (dl : LL) (Q : Int32 → DD → LL → Prop) : Prop := (x1 < 0 → Q (-1) d dl) ∧ (¬ x1 < 0 → (x1 < (d 211 1) → b_X10_table_16 n Q n x1 0 d dl) ∧ (¬ x1 < (d 211 1) → Q (-1) d dl))
set_option maxHeartbeats 4000000 in
set_option maxRecDepth 100000 in
theorem t_X10_table_29 {g : Ex} {x : Fx} {n : Nat} {Q : Int32 → DD → LL → Prop} (C0 : Cx g x cX10_table 5 (some .int) RX10 2 53) (hZ : Zi g x Q) {K16 : Int32 → Int32 → DD → LL → Prop} (hK16 : ∀ (x1 : Int32) (x2 : Int32) (d : DD) (dl : LL), K16 x1 x2 d dl → FW g x 5 d dl 16 [(0, rf g 211), (1, .int x1), (2, .int x2)] []) : ∀ (j : Nat) (x1 : Int32) (x2 : Int32) (x3 : Int32) (x4 : Int32) (d : DD) (dl : LL), b_X10_table_29 n Q K16 j x1 x2 x3 x4 d dl → FW g x 5 d dl 29 [(0, rf g 211), (1, .int x1), (2, .int x2), (3, .int x3), (4, .int x4)] [] := by
  intro j
  induction j with
  | zero =>
    intro x1 x2 x3 x4 d dl hw
    exact hw.elim
  | succ j hK29 =>
    intro x1 x2 x3 x4 d dl hw
    refine f_iload C0 dX10_table_29 4 rfl ?_
    refine f_aload_n C0 dX10_table_31 rfl 0 rfl ⟨_, rfl⟩ ?_
    refine gf_10_1 C0 kn_211 mw_887 dX10_table_32 ?_
    refine f_icmp_ge (tgt := 81) C0 dX10_table_35 (by decide) (fun h4 => ?_) (fun h4 => ?_)
    · have hw := hw.1 h4
      refine f_iload_n C0 dX10_table_81 rfl 3 rfl ?_
      refine f_iload_n C0 dX10_table_82 rfl 1 rfl ?_
      refine f_icmp_ne (tgt := 88) C0 dX10_table_83 (by decide) (fun h5 => ?_) (fun h5 => ?_)
      · have hw := hw.1 h5
        refine f_iinc (lo' := [(2, .int (x2 + 1)), (0, rf g 211), (1, .int x1), (3, .int x3), (4, .int x4)]) C0 dX10_table_88 2 rfl rfl (by decide) rfl ?_
        refine f_goto (tgt := 16) C0 dX10_table_91 (by decide) ?_
        refine f_sub [1, 2, 0] rfl ?_
        exact hK16 _ _ _ _ hw
      · have hw := hw.2 h5
        refine f_iload_n C0 dX10_table_86 rfl 2 rfl ?_
        exact f_iret C0 hZ hw dX10_table_87
    · have hw := hw.2 h4
      refine f_aload_n C0 dX10_table_38 rfl 0 rfl ⟨_, rfl⟩ ?_
      refine f_iload C0 dX10_table_39 4 rfl ?_
      refine f_callVi (As := [.int x4]) (rest := []) C0 (m_X10_pointsOf hw) cw_X10_258 kn_211 (by decide) rfl rfl ⟨(Nat.le_of_ble_eq_true rfl), (Nat.le_of_ble_eq_true rfl)⟩ rfl rfl (Nat.le_of_ble_eq_true rfl) dX10_table_41 ?_
      intro r6 d7 l8 hw
      refine f_aload_n C0 dX10_table_44 rfl 0 rfl ⟨_, rfl⟩ ?_
      refine f_iload_n C0 dX10_table_45 rfl 2 rfl ?_
      refine f_callVi (As := [.int x2]) (rest := [.int r6]) C0 (m_X10_pointsOf hw) cw_X10_258 kn_211 (by decide) rfl rfl ⟨(Nat.le_of_ble_eq_true rfl), (Nat.le_of_ble_eq_true rfl)⟩ rfl rfl (Nat.le_of_ble_eq_true rfl) dX10_table_46 ?_
      intro r9 d10 l11 hw
      refine f_icmp_gt (tgt := 72) C0 dX10_table_49 (by decide) (fun h12 => ?_) (fun h12 => ?_)
      · have hw := hw.1 h12
        refine f_iinc (lo' := [(3, .int (x3 + 1)), (0, rf g 211), (1, .int x1), (2, .int x2), (4, .int x4)]) C0 dX10_table_72 3 rfl rfl (by decide) rfl ?_
        refine f_iinc (lo' := [(4, .int (x4 + 1)), (3, .int (x3 + 1)), (0, rf g 211), (1, .int x1), (2, .int x2)]) C0 dX10_table_75 4 rfl rfl (by decide) rfl ?_
        refine f_goto (tgt := 29) C0 dX10_table_78 (by decide) ?_
        refine f_sub [2, 3, 4, 1, 0] rfl ?_
        exact hK29 _ _ _ _ _ _ hw
      · have hw := hw.2 h12
        refine f_iload C0 dX10_table_52 4 rfl ?_
        refine f_iload_n C0 dX10_table_54 rfl 2 rfl ?_
        refine f_icmp_ge (tgt := 75) C0 dX10_table_55 (by decide) (fun h13 => ?_) (fun h13 => ?_)
        · have hw := hw.1 h13
          refine f_iinc (lo' := [(4, .int (x4 + 1)), (0, rf g 211), (1, .int x1), (2, .int x2), (3, .int x3)]) C0 dX10_table_75 4 rfl rfl (by decide) rfl ?_
          refine f_goto (tgt := 29) C0 dX10_table_78 (by decide) ?_
          refine f_sub [1, 2, 3, 4, 0] rfl ?_
          exact hK29 _ _ _ _ _ _ hw
        · have hw := hw.2 h13
          refine f_aload_n C0 dX10_table_58 rfl 0 rfl ⟨_, rfl⟩ ?_
          refine f_iload C0 dX10_table_59 4 rfl ?_
          refine f_callVi (As := [.int x4]) (rest := []) C0 (m_X10_pointsOf hw) cw_X10_258 kn_211 (by decide) rfl rfl ⟨(Nat.le_of_ble_eq_true rfl), (Nat.le_of_ble_eq_true rfl)⟩ rfl rfl (Nat.le_of_ble_eq_true rfl) dX10_table_61 ?_
          intro r14 d15 l16 hw
          refine f_aload_n C0 dX10_table_64 rfl 0 rfl ⟨_, rfl⟩ ?_
          refine f_iload_n C0 dX10_table_65 rfl 2 rfl ?_
          refine f_callVi (As := [.int x2]) (rest := [.int r14]) C0 (m_X10_pointsOf hw) cw_X10_258 kn_211 (by decide) rfl rfl ⟨(Nat.le_of_ble_eq_true rfl), (Nat.le_of_ble_eq_true rfl)⟩ rfl rfl (Nat.le_of_ble_eq_true rfl) dX10_table_66 ?_
          intro r17 d18 l19 hw
          refine f_icmp_ne (tgt := 75) C0 dX10_table_69 (by decide) (fun h20 => ?_) (fun h20 => ?_)
          · have hw := hw.1 h20
            refine f_iinc (lo' := [(4, .int (x4 + 1)), (0, rf g 211), (1, .int x1), (2, .int x2), (3, .int x3)]) C0 dX10_table_75 4 rfl rfl (by decide) rfl ?_
            refine f_goto (tgt := 29) C0 dX10_table_78 (by decide) ?_
            refine f_sub [1, 2, 3, 4, 0] rfl ?_
            exact hK29 _ _ _ _ _ _ hw
          · have hw := hw.2 h20
            refine f_iinc (lo' := [(3, .int (x3 + 1)), (0, rf g 211), (1, .int x1), (2, .int x2), (4, .int x4)]) C0 dX10_table_72 3 rfl rfl (by decide) rfl ?_
            refine f_iinc (lo' := [(4, .int (x4 + 1)), (3, .int (x3 + 1)), (0, rf g 211), (1, .int x1), (2, .int x2)]) C0 dX10_table_75 4 rfl rfl (by decide) rfl ?_
            refine f_goto (tgt := 29) C0 dX10_table_78 (by decide) ?_
            refine f_sub [2, 3, 4, 1, 0] rfl ?_
            exact hK29 _ _ _ _ _ _ hw
set_option maxHeartbeats 4000000 in
set_option maxRecDepth 100000 in
theorem t_X10_table_16 {g : Ex} {x : Fx} {n : Nat} {Q : Int32 → DD → LL → Prop} (C0 : Cx g x cX10_table 5 (some .int) RX10 2 53) (hZ : Zi g x Q) : ∀ (j : Nat) (x1 : Int32) (x2 : Int32) (d : DD) (dl : LL), b_X10_table_16 n Q j x1 x2 d dl → FW g x 5 d dl 16 [(0, rf g 211), (1, .int x1), (2, .int x2)] [] := by
  intro j
  induction j with
  | zero =>
    intro x1 x2 d dl hw
    exact hw.elim
  | succ j hK16 =>
    intro x1 x2 d dl hw
    refine f_iload_n C0 dX10_table_16 rfl 2 rfl ?_
    refine f_aload_n C0 dX10_table_17 rfl 0 rfl ⟨_, rfl⟩ ?_
    refine gf_10_1 C0 kn_211 mw_887 dX10_table_18 ?_
    refine f_icmp_ge (tgt := 94) C0 dX10_table_21 (by decide) (fun h3 => ?_) (fun h3 => ?_)
    · have hw := hw.1 h3
      refine f_iconst (v := (-1)) C0 dX10_table_94 rfl ?_
      exact f_iret C0 hZ hw dX10_table_95
    · have hw := hw.2 h3
      refine f_iconst (v := 0) C0 dX10_table_24 rfl ?_
      refine f_istore_n (lo' := [(3, .int 0), (0, rf g 211), (1, .int x1), (2, .int x2)]) C0 dX10_table_25 rfl (by decide) rfl ?_
      refine f_iconst (v := 0) C0 dX10_table_26 rfl ?_
      refine f_istore (lo' := [(4, .int 0), (3, .int 0), (0, rf g 211), (1, .int x1), (2, .int x2)]) C0 dX10_table_27 (by decide) rfl ?_
      refine f_sub [2, 3, 4, 1, 0] rfl ?_
      exact t_X10_table_29 C0 hZ hK16 n _ _ _ _ _ _ hw
set_option maxHeartbeats 4000000 in
set_option maxRecDepth 100000 in
theorem m_X10_table {g : Ex} {n : Nat} {x1 : Int32} {d : DD} {dl : LL} {Q : Int32 → DD → LL → Prop} (hw : F_X10_table n x1 d dl Q) : Mi g yX10_table cX10_table 5 (some .int) 2 53 [rf g 211, .int x1] d dl Q := by
  refine Mi.of (by decide) (Nat.le_of_ble_eq_true rfl) (fun x C0 hZ => ?_)
  have C0 : Cx g x cX10_table 5 (some .int) RX10 2 53 := C0
  refine f_iload_n C0 dX10_table_0 rfl 1 rfl ?_
  refine f_if_lt (tgt := 12) C0 dX10_table_1 (by decide) (fun h1 => ?_) (fun h1 => ?_)
  · have hw := hw.1 h1
    refine f_iconst (v := (-1)) C0 dX10_table_12 rfl ?_
    exact f_iret C0 hZ hw dX10_table_13
  · have hw := hw.2 h1
    refine f_iload_n C0 dX10_table_4 rfl 1 rfl ?_
    refine f_aload_n C0 dX10_table_5 rfl 0 rfl ⟨_, rfl⟩ ?_
    refine gf_10_1 C0 kn_211 mw_887 dX10_table_6 ?_
    refine f_icmp_lt (tgt := 14) C0 dX10_table_9 (by decide) (fun h2 => ?_) (fun h2 => ?_)
    · have hw := hw.1 h2
      refine f_iconst (v := 0) C0 dX10_table_14 rfl ?_
      refine f_istore_n (lo' := [(2, .int 0), (0, rf g 211), (1, .int x1)]) C0 dX10_table_15 rfl (by decide) rfl ?_
      refine f_sub [1, 2, 0] rfl ?_
      exact t_X10_table_16 C0 hZ n _ _ _ _ hw
    · have hw := hw.2 h2
      refine f_iconst (v := (-1)) C0 dX10_table_12 rfl ?_
      exact f_iret C0 hZ hw dX10_table_13
def b_X10_count_119 (n : Nat) (Q : Int32 → DD → LL → Prop) : Nat → Int32 → Int32 → DD → LL → Prop
  | 0 => fun _ _ _ _ => False
  | k + 1 => fun x2 x3 d dl => (((4 : Int32) * (d 211 3)) ≤ x3 → Q x2 d dl) ∧ (¬ ((4 : Int32) * (d 211 3)) ≤ x3 → vp_in x3 96 ∧ ((d 235 x3.toNatClampNeg) ≤ 0 → (b_X10_count_119 n Q k) x2 (x3 + 1) d dl) ∧ (¬ (d 235 x3.toNatClampNeg) ≤ 0 → (b_X10_count_119 n Q k) (x2 + 1) (x3 + 1) d dl))
def b_X10_count_89 (n : Nat) (Q : Int32 → DD → LL → Prop) : Nat → Int32 → Int32 → DD → LL → Prop
  | 0 => fun _ _ _ _ => False
  | k + 1 => fun x2 x3 d dl => ((d 211 1) ≤ x3 → Q x2 d dl) ∧ (¬ (d 211 1) ≤ x3 → vp_in x3 6 ∧ ((d 224 x3.toNatClampNeg) = 0 → (b_X10_count_89 n Q k) x2 (x3 + 1) d dl) ∧ (¬ (d 224 x3.toNatClampNeg) = 0 → (b_X10_count_89 n Q k) (x2 + 1) (x3 + 1) d dl))
def F_X10_count (n : Nat) (x1 : Int32) (d : DD) (dl : LL) (Q : Int32 → DD → LL → Prop) : Prop := (x1 = 0 → Q (d 211 0) d dl) ∧ (x1 = 1 → Q (d 211 1) d dl) ∧ (x1 = 2 → Q (d 211 2) d dl) ∧ (x1 = 3 → Q (d 211 3) d dl) ∧ (x1 = 4 → Q (d 211 6) d dl) ∧ (x1 = 5 → Q (d 211 4) d dl) ∧ (x1 = 6 → Q (d 211 5) d dl) ∧ (x1 = 7 → b_X10_count_89 n Q n 0 0 d dl) ∧ (x1 = 8 → b_X10_count_119 n Q n 0 0 d dl) ∧ (x1.toInt < 0 ∨ 8 < x1.toInt → Q (-1) d dl)
set_option maxHeartbeats 4000000 in
set_option maxRecDepth 100000 in
theorem t_X10_count_119 {g : Ex} {x : Fx} {n : Nat} {Q : Int32 → DD → LL → Prop} (C0 : Cx g x cX10_count 4 (some .int) RX10 0 0) (hZ : Zi g x Q) : ∀ (j : Nat) (x2 : Int32) (x3 : Int32) (d : DD) (dl : LL), b_X10_count_119 n Q j x2 x3 d dl → FW g x 4 d dl 119 [(0, rf g 211), (2, .int x2), (3, .int x3)] [] := by
  intro j
  induction j with
  | zero =>
    intro x2 x3 d dl hw
    exact hw.elim
  | succ j hK119 =>
    intro x2 x3 d dl hw
    refine f_iload_n C0 dX10_count_119 rfl 2 rfl ?_
    refine f_iconst (v := 4) C0 dX10_count_120 rfl ?_
    refine f_aload_n C0 dX10_count_121 rfl 0 rfl ⟨_, rfl⟩ ?_
    refine gf_10_3 C0 kn_211 mw_889 dX10_count_122 ?_
    refine f_imul C0 dX10_count_125 ?_
    refine f_icmp_ge (tgt := 147) C0 dX10_count_126 (by decide) (fun h4 => ?_) (fun h4 => ?_)
    · have hw := hw.1 h4
      refine f_iload_n C0 dX10_count_147 rfl 1 rfl ?_
      exact f_iret C0 hZ hw dX10_count_148
    · have hw := hw.2 h4
      refine f_aload_n C0 dX10_count_129 rfl 0 rfl ⟨_, rfl⟩ ?_
      refine gf_10_31 (r := 235) C0 rfl kn_211 mw_917 dX10_count_130 ?_
      refine f_iload_n C0 dX10_count_133 rfl 2 rfl ?_
      obtain ⟨h5, hw⟩ := hw
      refine f_iald C0 kn_235 h5 dX10_count_134 ?_
      refine f_if_le (tgt := 141) C0 dX10_count_135 (by decide) (fun h6 => ?_) (fun h6 => ?_)
      · have hw := hw.1 h6
        refine f_iinc (lo' := [(3, .int (x3 + 1)), (0, rf g 211), (2, .int x2)]) C0 dX10_count_141 2 rfl rfl (by decide) rfl ?_
        refine f_goto (tgt := 119) C0 dX10_count_144 (by decide) ?_
        refine f_sub [1, 2, 0] rfl ?_
        exact hK119 _ _ _ _ hw
      · have hw := hw.2 h6
        refine f_iinc (lo' := [(2, .int (x2 + 1)), (0, rf g 211), (3, .int x3)]) C0 dX10_count_138 1 rfl rfl (by decide) rfl ?_
        refine f_iinc (lo' := [(3, .int (x3 + 1)), (2, .int (x2 + 1)), (0, rf g 211)]) C0 dX10_count_141 2 rfl rfl (by decide) rfl ?_
        refine f_goto (tgt := 119) C0 dX10_count_144 (by decide) ?_
        refine f_sub [2, 1, 0] rfl ?_
        exact hK119 _ _ _ _ hw
set_option maxHeartbeats 4000000 in
set_option maxRecDepth 100000 in
theorem t_X10_count_89 {g : Ex} {x : Fx} {n : Nat} {Q : Int32 → DD → LL → Prop} (C0 : Cx g x cX10_count 4 (some .int) RX10 0 0) (hZ : Zi g x Q) : ∀ (j : Nat) (x2 : Int32) (x3 : Int32) (d : DD) (dl : LL), b_X10_count_89 n Q j x2 x3 d dl → FW g x 4 d dl 89 [(0, rf g 211), (2, .int x2), (3, .int x3)] [] := by
  intro j
  induction j with
  | zero =>
    intro x2 x3 d dl hw
    exact hw.elim
  | succ j hK89 =>
    intro x2 x3 d dl hw
    refine f_iload_n C0 dX10_count_89 rfl 2 rfl ?_
    refine f_aload_n C0 dX10_count_90 rfl 0 rfl ⟨_, rfl⟩ ?_
    refine gf_10_1 C0 kn_211 mw_887 dX10_count_91 ?_
    refine f_icmp_ge (tgt := 115) C0 dX10_count_94 (by decide) (fun h1 => ?_) (fun h1 => ?_)
    · have hw := hw.1 h1
      refine f_iload_n C0 dX10_count_115 rfl 1 rfl ?_
      exact f_iret C0 hZ hw dX10_count_116
    · have hw := hw.2 h1
      refine f_aload_n C0 dX10_count_97 rfl 0 rfl ⟨_, rfl⟩ ?_
      refine gf_10_20 (r := 224) C0 rfl kn_211 mw_906 dX10_count_98 ?_
      refine f_iload_n C0 dX10_count_101 rfl 2 rfl ?_
      obtain ⟨h2, hw⟩ := hw
      refine f_zald C0 kn_224 h2 dX10_count_102 ?_
      refine f_if_eq (tgt := 109) C0 dX10_count_103 (by decide) (fun h3 => ?_) (fun h3 => ?_)
      · have hw := hw.1 h3
        refine f_iinc (lo' := [(3, .int (x3 + 1)), (0, rf g 211), (2, .int x2)]) C0 dX10_count_109 2 rfl rfl (by decide) rfl ?_
        refine f_goto (tgt := 89) C0 dX10_count_112 (by decide) ?_
        refine f_sub [1, 2, 0] rfl ?_
        exact hK89 _ _ _ _ hw
      · have hw := hw.2 h3
        refine f_iinc (lo' := [(2, .int (x2 + 1)), (0, rf g 211), (3, .int x3)]) C0 dX10_count_106 1 rfl rfl (by decide) rfl ?_
        refine f_iinc (lo' := [(3, .int (x3 + 1)), (2, .int (x2 + 1)), (0, rf g 211)]) C0 dX10_count_109 2 rfl rfl (by decide) rfl ?_
        refine f_goto (tgt := 89) C0 dX10_count_112 (by decide) ?_
        refine f_sub [2, 1, 0] rfl ?_
        exact hK89 _ _ _ _ hw
set_option maxHeartbeats 4000000 in
set_option maxRecDepth 100000 in
theorem m_X10_count {g : Ex} {n : Nat} {x1 : Int32} {d : DD} {dl : LL} {Q : Int32 → DD → LL → Prop} (hw : F_X10_count n x1 d dl Q) : Mi g yX10_count cX10_count 4 (some .int) 0 0 [rf g 211, .int x1] d dl Q := by
  refine Mi.of (by decide) (Nat.le_of_ble_eq_true rfl) (fun x C0 hZ => ?_)
  have C0 : Cx g x cX10_count 4 (some .int) RX10 0 0 := C0
  refine f_iconst (v := 0) C0 dX10_count_0 rfl ?_
  refine f_istore_n (lo' := [(2, .int 0), (0, rf g 211), (1, .int x1)]) C0 dX10_count_1 rfl (by decide) rfl ?_
  refine f_iload_n C0 dX10_count_2 rfl 2 rfl ?_
  rcases sw_8 x1 with h7 | h7 | h7 | h7 | h7 | h7 | h7 | h7 | h7 | h7
  · have hw := hw.2.2.2.2.2.2.2.2.2 h7
    refine f_tableOut (tgt := 149) C0 dX10_count_3 h7 (by decide) ?_
    refine f_iconst (v := (-1)) C0 dX10_count_149 rfl ?_
    exact f_iret C0 hZ hw dX10_count_150
  · have hw := hw.1 h7
    refine f_tableAt (w := 0) (tgt := 52) C0 dX10_count_3 h7 (by decide) (by decide) rfl (by decide) ?_
    refine f_aload_n C0 dX10_count_52 rfl 1 rfl ⟨_, rfl⟩ ?_
    refine gf_10_0 C0 kn_211 mw_886 dX10_count_53 ?_
    exact f_iret C0 hZ hw dX10_count_56
  · have hw := hw.2.1 h7
    refine f_tableAt (w := 1) (tgt := 57) C0 dX10_count_3 h7 (by decide) (by decide) rfl (by decide) ?_
    refine f_aload_n C0 dX10_count_57 rfl 1 rfl ⟨_, rfl⟩ ?_
    refine gf_10_1 C0 kn_211 mw_887 dX10_count_58 ?_
    exact f_iret C0 hZ hw dX10_count_61
  · have hw := hw.2.2.1 h7
    refine f_tableAt (w := 2) (tgt := 62) C0 dX10_count_3 h7 (by decide) (by decide) rfl (by decide) ?_
    refine f_aload_n C0 dX10_count_62 rfl 1 rfl ⟨_, rfl⟩ ?_
    refine gf_10_2 C0 kn_211 mw_888 dX10_count_63 ?_
    exact f_iret C0 hZ hw dX10_count_66
  · have hw := hw.2.2.2.1 h7
    refine f_tableAt (w := 3) (tgt := 67) C0 dX10_count_3 h7 (by decide) (by decide) rfl (by decide) ?_
    refine f_aload_n C0 dX10_count_67 rfl 1 rfl ⟨_, rfl⟩ ?_
    refine gf_10_3 C0 kn_211 mw_889 dX10_count_68 ?_
    exact f_iret C0 hZ hw dX10_count_71
  · have hw := hw.2.2.2.2.1 h7
    refine f_tableAt (w := 4) (tgt := 72) C0 dX10_count_3 h7 (by decide) (by decide) rfl (by decide) ?_
    refine f_aload_n C0 dX10_count_72 rfl 1 rfl ⟨_, rfl⟩ ?_
    refine gf_10_6 C0 kn_211 mw_892 dX10_count_73 ?_
    exact f_iret C0 hZ hw dX10_count_76
  · have hw := hw.2.2.2.2.2.1 h7
    refine f_tableAt (w := 5) (tgt := 77) C0 dX10_count_3 h7 (by decide) (by decide) rfl (by decide) ?_
    refine f_aload_n C0 dX10_count_77 rfl 1 rfl ⟨_, rfl⟩ ?_
    refine gf_10_4 C0 kn_211 mw_890 dX10_count_78 ?_
    exact f_iret C0 hZ hw dX10_count_81
  · have hw := hw.2.2.2.2.2.2.1 h7
    refine f_tableAt (w := 6) (tgt := 82) C0 dX10_count_3 h7 (by decide) (by decide) rfl (by decide) ?_
    refine f_aload_n C0 dX10_count_82 rfl 1 rfl ⟨_, rfl⟩ ?_
    refine gf_10_5 C0 kn_211 mw_891 dX10_count_83 ?_
    exact f_iret C0 hZ hw dX10_count_86
  · have hw := hw.2.2.2.2.2.2.2.1 h7
    refine f_tableAt (w := 7) (tgt := 87) C0 dX10_count_3 h7 (by decide) (by decide) rfl (by decide) ?_
    refine f_iconst (v := 0) C0 dX10_count_87 rfl ?_
    refine f_istore_n (lo' := [(3, .int 0), (2, .int 0), (0, rf g 211), (1, .int x1)]) C0 dX10_count_88 rfl (by decide) rfl ?_
    refine f_sub [2, 1, 0] rfl ?_
    exact t_X10_count_89 C0 hZ n _ _ _ _ hw
  · have hw := hw.2.2.2.2.2.2.2.2.1 h7
    refine f_tableAt (w := 8) (tgt := 117) C0 dX10_count_3 h7 (by decide) (by decide) rfl (by decide) ?_
    refine f_iconst (v := 0) C0 dX10_count_117 rfl ?_
    refine f_istore_n (lo' := [(3, .int 0), (2, .int 0), (0, rf g 211), (1, .int x1)]) C0 dX10_count_118 rfl (by decide) rfl ?_
    refine f_sub [2, 1, 0] rfl ?_
    exact t_X10_count_119 C0 hZ n _ _ _ _ hw
