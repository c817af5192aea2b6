def F_X10_sits (n : Nat) (x1 : Int32) (x2 : Int32) (x3 : Int32) (d : DD) (dl : LL) (Q : Int32 → DD → LL → Prop) : Prop := F_X10_isCrew n x1 d dl (fun r1 d2 l3 => (r1 = 0 → Q (-1) d2 l3) ∧ (¬ r1 = 0 → (x2 < 0 → Q (-1) d2 l3) ∧ (¬ x2 < 0 → vp_in x1 6 ∧ ((d2 218 x1.toNatClampNeg) ≤ x2 → Q (-1) d2 l3) ∧ (¬ (d2 218 x1.toNatClampNeg) ≤ x2 → (x3 < 0 → Q (-1) d2 l3) ∧ (¬ x3 < 0 → (1 < x3 → Q (-1) d2 l3) ∧ (¬ 1 < x3 → vp_in x1 6 ∧ (¬ (d2 224 x1.toNatClampNeg) = 0 → vp_in ((((8 : Int32) * x1) + ((2 : Int32) * x2)) + x3) 48 ∧ Q (d2 223 ((((8 : Int32) * x1) + ((2 : Int32) * x2)) + x3).toNatClampNeg) d2 l3) ∧ ((d2 224 x1.toNatClampNeg) = 0 → Q (-1) d2 l3)))))))
set_option maxHeartbeats 4000000 in
set_option maxRecDepth 100000 in
theorem m_X10_sits {g : Ex} {n : Nat} {x1 : Int32} {x2 : Int32} {x3 : Int32} {d : DD} {dl : LL} {Q : Int32 → DD → LL → Prop} (hw : F_X10_sits n x1 x2 x3 d dl Q) : Mi g yX10_sits cX10_sits 4 (some .int) 1 21 [rf g 211, .int x1, .int x2, .int x3] d dl Q := by
  refine Mi.of (by decide) (Nat.le_of_ble_eq_true rfl) (fun x C0 hZ => ?_)
  have C0 : Cx g x cX10_sits 4 (some .int) RX10 1 21 := C0
  refine f_aload_n C0 dX10_sits_0 rfl 0 rfl ⟨_, rfl⟩ ?_
  refine f_iload_n C0 dX10_sits_1 rfl 1 rfl ?_
  refine f_callVi (As := [.int x1]) (rest := []) C0 (m_X10_isCrew hw) cw_X10_135 kn_211 (by decide) rfl rfl ⟨(Nat.le_of_ble_eq_true rfl), (Nat.le_of_ble_eq_true rfl)⟩ rfl rfl (Nat.le_of_ble_eq_true rfl) dX10_sits_2 ?_
  intro r1 d2 l3 hw
  refine f_if_eq (tgt := 40) C0 dX10_sits_5 (by decide) (fun h4 => ?_) (fun h4 => ?_)
  · have hw := hw.1 h4
    refine f_iconst (v := (-1)) C0 dX10_sits_40 rfl ?_
    exact f_iret C0 hZ hw dX10_sits_41
  · have hw := hw.2 h4
    refine f_iload_n C0 dX10_sits_8 rfl 2 rfl ?_
    refine f_if_lt (tgt := 40) C0 dX10_sits_9 (by decide) (fun h5 => ?_) (fun h5 => ?_)
    · have hw := hw.1 h5
      refine f_iconst (v := (-1)) C0 dX10_sits_40 rfl ?_
      exact f_iret C0 hZ hw dX10_sits_41
    · have hw := hw.2 h5
      refine f_iload_n C0 dX10_sits_12 rfl 2 rfl ?_
      refine f_aload_n C0 dX10_sits_13 rfl 0 rfl ⟨_, rfl⟩ ?_
      refine gf_10_14 (r := 218) C0 rfl kn_211 mw_900 dX10_sits_14 ?_
      refine f_iload_n C0 dX10_sits_17 rfl 1 rfl ?_
      obtain ⟨h6, hw⟩ := hw
      refine f_iald C0 kn_218 h6 dX10_sits_18 ?_
      refine f_icmp_ge (tgt := 40) C0 dX10_sits_19 (by decide) (fun h7 => ?_) (fun h7 => ?_)
      · have hw := hw.1 h7
        refine f_iconst (v := (-1)) C0 dX10_sits_40 rfl ?_
        exact f_iret C0 hZ hw dX10_sits_41
      · have hw := hw.2 h7
        refine f_iload_n C0 dX10_sits_22 rfl 3 rfl ?_
        refine f_if_lt (tgt := 40) C0 dX10_sits_23 (by decide) (fun h8 => ?_) (fun h8 => ?_)
        · have hw := hw.1 h8
          refine f_iconst (v := (-1)) C0 dX10_sits_40 rfl ?_
          exact f_iret C0 hZ hw dX10_sits_41
        · have hw := hw.2 h8
          refine f_iload_n C0 dX10_sits_26 rfl 3 rfl ?_
          refine f_iconst (v := 1) C0 dX10_sits_27 rfl ?_
          refine f_icmp_gt (tgt := 40) C0 dX10_sits_28 (by decide) (fun h9 => ?_) (fun h9 => ?_)
          · have hw := hw.1 h9
            refine f_iconst (v := (-1)) C0 dX10_sits_40 rfl ?_
            exact f_iret C0 hZ hw dX10_sits_41
          · have hw := hw.2 h9
            refine f_aload_n C0 dX10_sits_31 rfl 0 rfl ⟨_, rfl⟩ ?_
            refine gf_10_20 (r := 224) C0 rfl kn_211 mw_906 dX10_sits_32 ?_
            refine f_iload_n C0 dX10_sits_35 rfl 1 rfl ?_
            obtain ⟨h10, hw⟩ := hw
            refine f_zald C0 kn_224 h10 dX10_sits_36 ?_
            refine f_if_ne (tgt := 42) C0 dX10_sits_37 (by decide) (fun h11 => ?_) (fun h11 => ?_)
            · have hw := hw.1 h11
              refine f_aload_n C0 dX10_sits_42 rfl 0 rfl ⟨_, rfl⟩ ?_
              refine gf_10_19 (r := 223) C0 rfl kn_211 mw_905 dX10_sits_43 ?_
              refine f_bipush (v := 8) C0 dX10_sits_46 rfl ?_
              refine f_iload_n C0 dX10_sits_48 rfl 1 rfl ?_
              refine f_imul C0 dX10_sits_49 ?_
              refine f_iconst (v := 2) C0 dX10_sits_50 rfl ?_
              refine f_iload_n C0 dX10_sits_51 rfl 2 rfl ?_
              refine f_imul C0 dX10_sits_52 ?_
              refine f_iadd C0 dX10_sits_53 ?_
              refine f_iload_n C0 dX10_sits_54 rfl 3 rfl ?_
              refine f_iadd C0 dX10_sits_55 ?_
              obtain ⟨h12, hw⟩ := hw
              refine f_iald C0 kn_223 h12 dX10_sits_56 ?_
              exact f_iret C0 hZ hw dX10_sits_57
            · have hw := hw.2 h11
              refine f_iconst (v := (-1)) C0 dX10_sits_40 rfl ?_
              exact f_iret C0 hZ hw dX10_sits_41
def F_X10_trim (n : Nat) (x1 : Int32) (x2 : Int32) (d : DD) (dl : LL) (Q : Int32 → DD → LL → Prop) : Prop := F_X10_isCrew n x1 d dl (fun r1 d2 l3 => (r1 = 0 → Q (-1) d2 l3) ∧ (¬ r1 = 0 → (x2 < 0 → Q (-1) d2 l3) ∧ (¬ x2 < 0 → (x2 ≤ 3 → vp_in x1 6 ∧ ((d2 224 x1.toNatClampNeg) = 0 → Q (-3) d2 l3) ∧ (¬ (d2 224 x1.toNatClampNeg) = 0 → F_X10_trims n x1 223 ((8 : Int32) * x1) x2 d2 l3 (fun r9 d10 l11 => Q r9 d10 l11))) ∧ (¬ x2 ≤ 3 → Q (-1) d2 l3))))
set_option maxHeartbeats 4000000 in
set_option maxRecDepth 100000 in
theorem m_X10_trim {g : Ex} {n : Nat} {x1 : Int32} {x2 : Int32} {d : DD} {dl : LL} {Q : Int32 → DD → LL → Prop} (hw : F_X10_trim n x1 x2 d dl Q) : Mi g yX10_trim cX10_trim 3 (some .int) 2 50 [rf g 211, .int x1, .int x2] d dl Q := by
  refine Mi.of (by decide) (Nat.le_of_ble_eq_true rfl) (fun x C0 hZ => ?_)
  have C0 : Cx g x cX10_trim 3 (some .int) RX10 2 50 := C0
  refine f_aload_n C0 dX10_trim_0 rfl 0 rfl ⟨_, rfl⟩ ?_
  refine f_iload_n C0 dX10_trim_1 rfl 1 rfl ?_
  refine f_callVi (As := [.int x1]) (rest := []) C0 (m_X10_isCrew hw) cw_X10_135 kn_211 (by decide) rfl rfl ⟨(Nat.le_of_ble_eq_true rfl), (Nat.le_of_ble_eq_true rfl)⟩ rfl rfl (Nat.le_of_ble_eq_true rfl) dX10_trim_2 ?_
  intro r1 d2 l3 hw
  refine f_if_eq (tgt := 17) C0 dX10_trim_5 (by decide) (fun h4 => ?_) (fun h4 => ?_)
  · have hw := hw.1 h4
    refine f_iconst (v := (-1)) C0 dX10_trim_17 rfl ?_
    exact f_iret C0 hZ hw dX10_trim_18
  · have hw := hw.2 h4
    refine f_iload_n C0 dX10_trim_8 rfl 2 rfl ?_
    refine f_if_lt (tgt := 17) C0 dX10_trim_9 (by decide) (fun h5 => ?_) (fun h5 => ?_)
    · have hw := hw.1 h5
      refine f_iconst (v := (-1)) C0 dX10_trim_17 rfl ?_
      exact f_iret C0 hZ hw dX10_trim_18
    · have hw := hw.2 h5
      refine f_iload_n C0 dX10_trim_12 rfl 2 rfl ?_
      refine f_iconst (v := 3) C0 dX10_trim_13 rfl ?_
      refine f_icmp_le (tgt := 19) C0 dX10_trim_14 (by decide) (fun h6 => ?_) (fun h6 => ?_)
      · have hw := hw.1 h6
        refine f_aload_n C0 dX10_trim_19 rfl 0 rfl ⟨_, rfl⟩ ?_
        refine gf_10_20 (r := 224) C0 rfl kn_211 mw_906 dX10_trim_20 ?_
        refine f_iload_n C0 dX10_trim_23 rfl 1 rfl ?_
        obtain ⟨h7, hw⟩ := hw
        refine f_zald C0 kn_224 h7 dX10_trim_24 ?_
        refine f_if_eq (tgt := 45) C0 dX10_trim_25 (by decide) (fun h8 => ?_) (fun h8 => ?_)
        · have hw := hw.1 h8
          refine f_bipush (v := (-3)) C0 dX10_trim_45 rfl ?_
          exact f_iret C0 hZ hw dX10_trim_47
        · have hw := hw.2 h8
          refine f_aload_n C0 dX10_trim_28 rfl 0 rfl ⟨_, rfl⟩ ?_
          refine f_iload_n C0 dX10_trim_29 rfl 1 rfl ?_
          refine f_aload_n C0 dX10_trim_30 rfl 0 rfl ⟨_, rfl⟩ ?_
          refine gf_10_19 (r := 223) C0 rfl kn_211 mw_905 dX10_trim_31 ?_
          refine f_bipush (v := 8) C0 dX10_trim_34 rfl ?_
          refine f_iload_n C0 dX10_trim_36 rfl 1 rfl ?_
          refine f_imul C0 dX10_trim_37 ?_
          refine f_iload_n C0 dX10_trim_38 rfl 2 rfl ?_
          refine f_callVi (As := [.int x1, rf g 223, .int ((8 : Int32) * x1), .int x2]) (rest := []) C0 (m_X10_trims ⟨kn_223.1, kn_223.2.1, rfl⟩ hw) cw_X10_146 kn_211 (by decide) rfl rfl ⟨(Nat.le_of_ble_eq_true rfl), (Nat.le_of_ble_eq_true rfl)⟩ rfl rfl (Nat.le_of_ble_eq_true rfl) dX10_trim_39 ?_
          intro r9 d10 l11 hw
          refine f_goto (tgt := 47) C0 dX10_trim_42 (by decide) ?_
          exact f_iret C0 hZ hw dX10_trim_47
      · have hw := hw.2 h6
        refine f_iconst (v := (-1)) C0 dX10_trim_17 rfl ?_
        exact f_iret C0 hZ hw dX10_trim_18
def b_X10_change_58 (n : Nat) (Q : Int32 → DD → LL → Prop) : Nat → Int32 → Int32 → Int32 → Int32 → DD → LL → Prop
  | 0 => fun _ _ _ _ _ _ => False
  | k + 1 => fun x1 x2 x3 x4 d dl => vp_in x1 6 ∧ (((2 : Int32) * (d 218 x1.toNatClampNeg)) ≤ x4 → vp_in x2 8 ∧ ∀ v16 : Int32, v16 = (d 247 x2.toNatClampNeg) → vp_in x3 8 ∧ vp_in x2 8 ∧ ∀ d19 : DD, d19 = u2 d 247 x2.toNatClampNeg (d 247 x3.toNatClampNeg) → vp_in x3 8 ∧ ∀ d21 : DD, d21 = u2 d19 247 x3.toNatClampNeg v16 → vp_in x2 8 ∧ F_X10_fits n (d21 247 x2.toNatClampNeg) x2 d21 dl (fun r23 d24 l25 => (r23 = 0 → Q (-100001) d24 l25) ∧ (¬ r23 = 0 → vp_in x3 8 ∧ F_X10_fits n (d24 247 x3.toNatClampNeg) x3 d24 l25 (fun r28 d29 l30 => (¬ r28 = 0 → F_X10_tilt n x1 247 0 d29 l30 (fun r32 d33 l34 => Q r32 d33 l34)) ∧ (r28 = 0 → Q (-100001) d29 l30))))) ∧ (¬ ((2 : Int32) * (d 218 x1.toNatClampNeg)) ≤ x4 → vp_in (((8 : Int32) * x1) + x4) 48 ∧ vp_in x4 8 ∧ ∀ d37 : DD, d37 = u2 d 247 x4.toNatClampNeg (d 223 (((8 : Int32) * x1) + x4).toNatClampNeg) → (b_X10_change_58 n Q k) x1 x2 x3 (x4 + 1) d37 dl)
def F_X10_change (n : Nat) (x1 : Int32) (x2 : Int32) (x3 : Int32) (d : DD) (dl : LL) (Q : Int32 → DD → LL → Prop) : Prop := F_X10_isCrew n x1 d dl (fun r1 d2 l3 => (r1 = 0 → Q (-100000) d2 l3) ∧ (¬ r1 = 0 → (x2 < 0 → Q (-100000) d2 l3) ∧ (¬ x2 < 0 → (x3 < 0 → Q (-100000) d2 l3) ∧ (¬ x3 < 0 → vp_in x1 6 ∧ (((2 : Int32) * (d2 218 x1.toNatClampNeg)) ≤ x2 → Q (-100000) d2 l3) ∧ (¬ ((2 : Int32) * (d2 218 x1.toNatClampNeg)) ≤ x2 → vp_in x1 6 ∧ (x3 < ((2 : Int32) * (d2 218 x1.toNatClampNeg)) → vp_in x1 6 ∧ (¬ (d2 224 x1.toNatClampNeg) = 0 → b_X10_change_58 n Q n x1 x2 x3 0 d2 l3) ∧ ((d2 224 x1.toNatClampNeg) = 0 → Q (-100001) d2 l3)) ∧ (¬ x3 < ((2 : Int32) * (d2 218 x1.toNatClampNeg)) → Q (-100000) d2 l3))))))
set_option maxHeartbeats 4000000 in
set_option maxRecDepth 100000 in
theorem t_X10_change_58 {g : Ex} {x : Fx} {n : Nat} {Q : Int32 → DD → LL → Prop} (C0 : Cx g x cX10_change 5 (some .int) RX10 3 73) (hZ : Zi g x Q) : ∀ (j : Nat) (x1 : Int32) (x2 : Int32) (x3 : Int32) (x4 : Int32) (d : DD) (dl : LL), b_X10_change_58 n Q j x1 x2 x3 x4 d dl → FW g x 5 d dl 58 [(0, rf g 211), (1, .int x1), (2, .int x2), (3, .int x3), (4, .int x4)] [] := by
  intro j
  induction j with
  | zero =>
    intro x1 x2 x3 x4 d dl hw
    exact hw.elim
  | succ j hK58 =>
    intro x1 x2 x3 x4 d dl hw
    refine f_iload C0 dX10_change_58 4 rfl ?_
    refine f_iconst (v := 2) C0 dX10_change_60 rfl ?_
    refine f_aload_n C0 dX10_change_61 rfl 0 rfl ⟨_, rfl⟩ ?_
    refine gf_10_14 (r := 218) C0 rfl kn_211 mw_900 dX10_change_62 ?_
    refine f_iload_n C0 dX10_change_65 rfl 1 rfl ?_
    obtain ⟨h13, hw⟩ := hw
    refine f_iald C0 kn_218 h13 dX10_change_66 ?_
    refine f_imul C0 dX10_change_67 ?_
    refine f_icmp_ge (tgt := 96) C0 dX10_change_68 (by decide) (fun h14 => ?_) (fun h14 => ?_)
    · have hw := hw.1 h14
      refine f_aload_n C0 dX10_change_96 rfl 0 rfl ⟨_, rfl⟩ ?_
      refine gf_10_43 (r := 247) C0 rfl kn_211 mw_929 dX10_change_97 ?_
      refine f_iload_n C0 dX10_change_100 rfl 2 rfl ?_
      obtain ⟨h15, hw⟩ := hw
      refine f_iald C0 kn_247 h15 dX10_change_101 ?_
      refine f_topi (fun v16 e16 => ?_)
      have hw := hw v16 e16
      refine f_istore (lo' := [(4, .int v16), (0, rf g 211), (1, .int x1), (2, .int x2), (3, .int x3)]) C0 dX10_change_102 (by decide) rfl ?_
      refine f_aload_n C0 dX10_change_104 rfl 1 rfl ⟨_, rfl⟩ ?_
      refine gf_10_43 (r := 247) C0 rfl kn_211 mw_929 dX10_change_105 ?_
      refine f_iload_n C0 dX10_change_108 rfl 3 rfl ?_
      refine f_aload_n C0 dX10_change_109 rfl 1 rfl ⟨_, rfl⟩ ?_
      refine gf_10_43 (r := 247) C0 rfl kn_211 mw_929 dX10_change_110 ?_
      refine f_iload_n C0 dX10_change_113 rfl 4 rfl ?_
      obtain ⟨h17, hw⟩ := hw
      refine f_iald C0 kn_247 h17 dX10_change_114 ?_
      obtain ⟨h18, hw⟩ := hw
      refine f_iast C0 kn_247 h18 dX10_change_115 (fun d19 ed19 => ?_)
      have hw := hw d19 ed19
      refine f_aload_n C0 dX10_change_116 rfl 1 rfl ⟨_, rfl⟩ ?_
      refine gf_10_43 (r := 247) C0 rfl kn_211 mw_929 dX10_change_117 ?_
      refine f_iload_n C0 dX10_change_120 rfl 4 rfl ?_
      refine f_iload C0 dX10_change_121 0 rfl ?_
      obtain ⟨h20, hw⟩ := hw
      refine f_iast C0 kn_247 h20 dX10_change_123 (fun d21 ed21 => ?_)
      have hw := hw d21 ed21
      refine f_aload_n C0 dX10_change_124 rfl 1 rfl ⟨_, rfl⟩ ?_
      refine f_aload_n C0 dX10_change_125 rfl 1 rfl ⟨_, rfl⟩ ?_
      refine gf_10_43 (r := 247) C0 rfl kn_211 mw_929 dX10_change_126 ?_
      refine f_iload_n C0 dX10_change_129 rfl 3 rfl ?_
      obtain ⟨h22, hw⟩ := hw
      refine f_iald C0 kn_247 h22 dX10_change_130 ?_
      refine f_iload_n C0 dX10_change_131 rfl 3 rfl ?_
      refine f_callVi (As := [.int (d21 247 x2.toNatClampNeg), .int x2]) (rest := []) C0 (m_X10_fits hw) cw_X10_151 kn_211 (by decide) rfl rfl ⟨(Nat.le_of_ble_eq_true rfl), (Nat.le_of_ble_eq_true rfl)⟩ rfl rfl (Nat.le_of_ble_eq_true rfl) dX10_change_132 ?_
      intro r23 d24 l25 hw
      refine f_if_eq (tgt := 152) C0 dX10_change_135 (by decide) (fun h26 => ?_) (fun h26 => ?_)
      · have hw := hw.1 h26
        refine f_ldc (v := (-100001)) C0 mw_1083 dX10_change_152 ?_
        exact f_iret C0 hZ hw dX10_change_154
      · have hw := hw.2 h26
        refine f_aload_n C0 dX10_change_138 rfl 1 rfl ⟨_, rfl⟩ ?_
        refine f_aload_n C0 dX10_change_139 rfl 1 rfl ⟨_, rfl⟩ ?_
        refine gf_10_43 (r := 247) C0 rfl kn_211 mw_929 dX10_change_140 ?_
        refine f_iload_n C0 dX10_change_143 rfl 4 rfl ?_
        obtain ⟨h27, hw⟩ := hw
        refine f_iald C0 kn_247 h27 dX10_change_144 ?_
        refine f_iload_n C0 dX10_change_145 rfl 4 rfl ?_
        refine f_callVi (As := [.int (d24 247 x3.toNatClampNeg), .int x3]) (rest := []) C0 (m_X10_fits hw) cw_X10_151 kn_211 (by decide) rfl rfl ⟨(Nat.le_of_ble_eq_true rfl), (Nat.le_of_ble_eq_true rfl)⟩ rfl rfl (Nat.le_of_ble_eq_true rfl) dX10_change_146 ?_
        intro r28 d29 l30 hw
        refine f_if_ne (tgt := 155) C0 dX10_change_149 (by decide) (fun h31 => ?_) (fun h31 => ?_)
        · have hw := hw.1 h31
          refine f_aload_n C0 dX10_change_155 rfl 1 rfl ⟨_, rfl⟩ ?_
          refine f_iload_n C0 dX10_change_156 rfl 2 rfl ?_
          refine f_aload_n C0 dX10_change_157 rfl 1 rfl ⟨_, rfl⟩ ?_
          refine gf_10_43 (r := 247) C0 rfl kn_211 mw_929 dX10_change_158 ?_
          refine f_iconst (v := 0) C0 dX10_change_161 rfl ?_
          refine f_callVi (As := [.int x1, rf g 247, .int 0]) (rest := []) C0 (m_X10_tilt ⟨kn_247.1, kn_247.2.1, rfl⟩ hw) cw_X10_154 kn_211 (by decide) rfl rfl ⟨(Nat.le_of_ble_eq_true rfl), (Nat.le_of_ble_eq_true rfl)⟩ rfl rfl (Nat.le_of_ble_eq_true rfl) dX10_change_162 ?_
          intro r32 d33 l34 hw
          exact f_iret C0 hZ hw dX10_change_165
        · have hw := hw.2 h31
          refine f_ldc (v := (-100001)) C0 mw_1083 dX10_change_152 ?_
          exact f_iret C0 hZ hw dX10_change_154
    · have hw := hw.2 h14
      refine f_aload_n C0 dX10_change_71 rfl 0 rfl ⟨_, rfl⟩ ?_
      refine gf_10_43 (r := 247) C0 rfl kn_211 mw_929 dX10_change_72 ?_
      refine f_iload C0 dX10_change_75 4 rfl ?_
      refine f_aload_n C0 dX10_change_77 rfl 0 rfl ⟨_, rfl⟩ ?_
      refine gf_10_19 (r := 223) C0 rfl kn_211 mw_905 dX10_change_78 ?_
      refine f_bipush (v := 8) C0 dX10_change_81 rfl ?_
      refine f_iload_n C0 dX10_change_83 rfl 1 rfl ?_
      refine f_imul C0 dX10_change_84 ?_
      refine f_iload C0 dX10_change_85 4 rfl ?_
      refine f_iadd C0 dX10_change_87 ?_
      obtain ⟨h35, hw⟩ := hw
      refine f_iald C0 kn_223 h35 dX10_change_88 ?_
      obtain ⟨h36, hw⟩ := hw
      refine f_iast C0 kn_247 h36 dX10_change_89 (fun d37 ed37 => ?_)
      have hw := hw d37 ed37
      refine f_iinc (lo' := [(4, .int (x4 + 1)), (0, rf g 211), (1, .int x1), (2, .int x2), (3, .int x3)]) C0 dX10_change_90 4 rfl rfl (by decide) rfl ?_
      refine f_goto (tgt := 58) C0 dX10_change_93 (by decide) ?_
      refine f_sub [1, 2, 3, 4, 0] rfl ?_
      exact hK58 _ _ _ _ _ _ hw
set_option maxHeartbeats 4000000 in
set_option maxRecDepth 100000 in
theorem m_X10_change {g : Ex} {n : Nat} {x1 : Int32} {x2 : Int32} {x3 : Int32} {d : DD} {dl : LL} {Q : Int32 → DD → LL → Prop} (hw : F_X10_change n x1 x2 x3 d dl Q) : Mi g yX10_change cX10_change 5 (some .int) 3 73 [rf g 211, .int x1, .int x2, .int x3] d dl Q := by
  refine Mi.of (by decide) (Nat.le_of_ble_eq_true rfl) (fun x C0 hZ => ?_)
  have C0 : Cx g x cX10_change 5 (some .int) RX10 3 73 := C0
  refine f_aload_n C0 dX10_change_0 rfl 0 rfl ⟨_, rfl⟩ ?_
  refine f_iload_n C0 dX10_change_1 rfl 1 rfl ?_
  refine f_callVi (As := [.int x1]) (rest := []) C0 (m_X10_isCrew hw) cw_X10_135 kn_211 (by decide) rfl rfl ⟨(Nat.le_of_ble_eq_true rfl), (Nat.le_of_ble_eq_true rfl)⟩ rfl rfl (Nat.le_of_ble_eq_true rfl) dX10_change_2 ?_
  intro r1 d2 l3 hw
  refine f_if_eq (tgt := 40) C0 dX10_change_5 (by decide) (fun h4 => ?_) (fun h4 => ?_)
  · have hw := hw.1 h4
    refine f_ldc (v := (-100000)) C0 mw_1067 dX10_change_40 ?_
    exact f_iret C0 hZ hw dX10_change_42
  · have hw := hw.2 h4
    refine f_iload_n C0 dX10_change_8 rfl 2 rfl ?_
    refine f_if_lt (tgt := 40) C0 dX10_change_9 (by decide) (fun h5 => ?_) (fun h5 => ?_)
    · have hw := hw.1 h5
      refine f_ldc (v := (-100000)) C0 mw_1067 dX10_change_40 ?_
      exact f_iret C0 hZ hw dX10_change_42
    · have hw := hw.2 h5
      refine f_iload_n C0 dX10_change_12 rfl 3 rfl ?_
      refine f_if_lt (tgt := 40) C0 dX10_change_13 (by decide) (fun h6 => ?_) (fun h6 => ?_)
      · have hw := hw.1 h6
        refine f_ldc (v := (-100000)) C0 mw_1067 dX10_change_40 ?_
        exact f_iret C0 hZ hw dX10_change_42
      · have hw := hw.2 h6
        refine f_iload_n C0 dX10_change_16 rfl 2 rfl ?_
        refine f_iconst (v := 2) C0 dX10_change_17 rfl ?_
        refine f_aload_n C0 dX10_change_18 rfl 0 rfl ⟨_, rfl⟩ ?_
        refine gf_10_14 (r := 218) C0 rfl kn_211 mw_900 dX10_change_19 ?_
        refine f_iload_n C0 dX10_change_22 rfl 1 rfl ?_
        obtain ⟨h7, hw⟩ := hw
        refine f_iald C0 kn_218 h7 dX10_change_23 ?_
        refine f_imul C0 dX10_change_24 ?_
        refine f_icmp_ge (tgt := 40) C0 dX10_change_25 (by decide) (fun h8 => ?_) (fun h8 => ?_)
        · have hw := hw.1 h8
          refine f_ldc (v := (-100000)) C0 mw_1067 dX10_change_40 ?_
          exact f_iret C0 hZ hw dX10_change_42
        · have hw := hw.2 h8
          refine f_iload_n C0 dX10_change_28 rfl 3 rfl ?_
          refine f_iconst (v := 2) C0 dX10_change_29 rfl ?_
          refine f_aload_n C0 dX10_change_30 rfl 0 rfl ⟨_, rfl⟩ ?_
          refine gf_10_14 (r := 218) C0 rfl kn_211 mw_900 dX10_change_31 ?_
          refine f_iload_n C0 dX10_change_34 rfl 1 rfl ?_
          obtain ⟨h9, hw⟩ := hw
          refine f_iald C0 kn_218 h9 dX10_change_35 ?_
          refine f_imul C0 dX10_change_36 ?_
          refine f_icmp_lt (tgt := 43) C0 dX10_change_37 (by decide) (fun h10 => ?_) (fun h10 => ?_)
          · have hw := hw.1 h10
            refine f_aload_n C0 dX10_change_43 rfl 0 rfl ⟨_, rfl⟩ ?_
            refine gf_10_20 (r := 224) C0 rfl kn_211 mw_906 dX10_change_44 ?_
            refine f_iload_n C0 dX10_change_47 rfl 1 rfl ?_
            obtain ⟨h11, hw⟩ := hw
            refine f_zald C0 kn_224 h11 dX10_change_48 ?_
            refine f_if_ne (tgt := 55) C0 dX10_change_49 (by decide) (fun h12 => ?_) (fun h12 => ?_)
            · have hw := hw.1 h12
              refine f_iconst (v := 0) C0 dX10_change_55 rfl ?_
              refine f_istore (lo' := [(4, .int 0), (0, rf g 211), (1, .int x1), (2, .int x2), (3, .int x3)]) C0 dX10_change_56 (by decide) rfl ?_
              refine f_sub [1, 2, 3, 4, 0] rfl ?_
              exact t_X10_change_58 C0 hZ n _ _ _ _ _ _ hw
            · have hw := hw.2 h12
              refine f_ldc (v := (-100001)) C0 mw_1083 dX10_change_52 ?_
              exact f_iret C0 hZ hw dX10_change_54
          · have hw := hw.2 h10
            refine f_ldc (v := (-100000)) C0 mw_1067 dX10_change_40 ?_
            exact f_iret C0 hZ hw dX10_change_42
def b_X10_feed_33 (n : Nat) (Q : Int32 → DD → LL → Prop) : Nat → Int64 → Int32 → DD → LL → Prop
  | 0 => fun _ _ _ _ => False
  | k + 1 => fun y1 x4 d dl => (x4 < 0 → Q (d 211 4) d dl) ∧ (¬ x4 < 0 → ∀ d6 : DD, d6 = u2 d 211 4 ((d 211 4) + 1) → vp_in (d 211 4) 120 ∧ ∀ d8 : DD, d8 = u2 d6 225 (d 211 4).toNatClampNeg (((lshr y1 ((8 : Int32) * x4)) &&& 255).toInt32) → (b_X10_feed_33 n Q k) y1 (x4 + (-1)) d8 dl)
def F_X10_feed (n : Nat) (y1 : Int64) (x3 : Int32) (d : DD) (dl : LL) (Q : Int32 → DD → LL → Prop) : Prop := (x3 < 1 → Q (-2) d dl) ∧ (¬ x3 < 1 → (x3 ≤ 8 → (((d 211 4) + x3) ≤ 120 → ∀ v4 : Int32, v4 = (x3 - 1) → b_X10_feed_33 n Q n y1 v4 d dl) ∧ (¬ ((d 211 4) + x3) ≤ 120 → Q (-4) d dl)) ∧ (¬ x3 ≤ 8 → Q (-2) d dl))
set_option maxHeartbeats 4000000 in
set_option maxRecDepth 100000 in
theorem t_X10_feed_33 {g : Ex} {x : Fx} {n : Nat} {Q : Int32 → DD → LL → Prop} (C0 : Cx g x cX10_feed 5 (some .int) RX10 0 0) (hZ : Zi g x Q) : ∀ (j : Nat) (y1 : Int64) (x4 : Int32) (d : DD) (dl : LL), b_X10_feed_33 n Q j y1 x4 d dl → FW g x 5 d dl 33 [(0, rf g 211), (1, .long y1), (4, .int x4)] [] := by
  intro j
  induction j with
  | zero =>
    intro y1 x4 d dl hw
    exact hw.elim
  | succ j hK33 =>
    intro y1 x4 d dl hw
    refine f_iload C0 dX10_feed_33 2 rfl ?_
    refine f_if_lt (tgt := 72) C0 dX10_feed_35 (by decide) (fun h5 => ?_) (fun h5 => ?_)
    · have hw := hw.1 h5
      refine f_aload_n C0 dX10_feed_72 rfl 0 rfl ⟨_, rfl⟩ ?_
      refine gf_10_4 C0 kn_211 mw_890 dX10_feed_73 ?_
      exact f_iret C0 hZ hw dX10_feed_76
    · have hw := hw.2 h5
      refine f_aload_n C0 dX10_feed_38 rfl 0 rfl ⟨_, rfl⟩ ?_
      refine gf_10_21 (r := 225) C0 rfl kn_211 mw_907 dX10_feed_39 ?_
      refine f_aload_n C0 dX10_feed_42 rfl 0 rfl ⟨_, rfl⟩ ?_
      refine f_dup C0 dX10_feed_43 rfl ?_
      refine gf_10_4 C0 kn_211 mw_890 dX10_feed_44 ?_
      refine f_dup_x1 C0 dX10_feed_47 rfl rfl ?_
      refine f_iconst (v := 1) C0 dX10_feed_48 rfl ?_
      refine f_iadd C0 dX10_feed_49 ?_
      refine pf_10_4 C0 kn_211 mw_890 dX10_feed_50 (fun d6 ed6 => ?_)
      have hw := hw d6 ed6
      refine f_lload_n C0 dX10_feed_53 rfl 1 rfl ?_
      refine f_bipush (v := 8) C0 dX10_feed_54 rfl ?_
      refine f_iload C0 dX10_feed_56 2 rfl ?_
      refine f_imul C0 dX10_feed_58 ?_
      refine f_lshr C0 dX10_feed_59 ?_
      refine f_ldc2 (v := 255) C0 mw_1100 dX10_feed_60 ?_
      refine f_land C0 dX10_feed_63 ?_
      refine f_l2i C0 dX10_feed_64 ?_
      obtain ⟨h7, hw⟩ := hw
      refine f_iast C0 kn_225 h7 dX10_feed_65 (fun d8 ed8 => ?_)
      have hw := hw d8 ed8
      refine f_iinc (lo' := [(4, .int (x4 + (-1))), (0, rf g 211), (1, .long y1)]) C0 dX10_feed_66 2 rfl rfl (by decide) rfl ?_
      refine f_goto (tgt := 33) C0 dX10_feed_69 (by decide) ?_
      refine f_sub [1, 2, 0] rfl ?_
      exact hK33 _ _ _ _ hw
set_option maxHeartbeats 4000000 in
set_option maxRecDepth 100000 in
theorem m_X10_feed {g : Ex} {n : Nat} {y1 : Int64} {x3 : Int32} {d : DD} {dl : LL} {Q : Int32 → DD → LL → Prop} (hw : F_X10_feed n y1 x3 d dl Q) : Mi g yX10_feed cX10_feed 5 (some .int) 0 0 [rf g 211, .long y1, .int x3] d dl Q := by
  refine Mi.of (by decide) (Nat.le_of_ble_eq_true rfl) (fun x C0 hZ => ?_)
  have C0 : Cx g x cX10_feed 5 (some .int) RX10 0 0 := C0
  refine f_iload_n C0 dX10_feed_0 rfl 2 rfl ?_
  refine f_iconst (v := 1) C0 dX10_feed_1 rfl ?_
  refine f_icmp_lt (tgt := 11) C0 dX10_feed_2 (by decide) (fun h1 => ?_) (fun h1 => ?_)
  · have hw := hw.1 h1
    refine f_bipush (v := (-2)) C0 dX10_feed_11 rfl ?_
    exact f_iret C0 hZ hw dX10_feed_13
  · have hw := hw.2 h1
    refine f_iload_n C0 dX10_feed_5 rfl 2 rfl ?_
    refine f_bipush (v := 8) C0 dX10_feed_6 rfl ?_
    refine f_icmp_le (tgt := 14) C0 dX10_feed_8 (by decide) (fun h2 => ?_) (fun h2 => ?_)
    · have hw := hw.1 h2
      refine f_aload_n C0 dX10_feed_14 rfl 0 rfl ⟨_, rfl⟩ ?_
      refine gf_10_4 C0 kn_211 mw_890 dX10_feed_15 ?_
      refine f_iload_n C0 dX10_feed_18 rfl 2 rfl ?_
      refine f_iadd C0 dX10_feed_19 ?_
      refine f_bipush (v := 120) C0 dX10_feed_20 rfl ?_
      refine f_icmp_le (tgt := 28) C0 dX10_feed_22 (by decide) (fun h3 => ?_) (fun h3 => ?_)
      · have hw := hw.1 h3
        refine f_iload_n C0 dX10_feed_28 rfl 2 rfl ?_
        refine f_iconst (v := 1) C0 dX10_feed_29 rfl ?_
        refine f_isub C0 dX10_feed_30 ?_
        refine f_topi (fun v4 e4 => ?_)
        have hw := hw v4 e4
        refine f_istore (lo' := [(4, .int v4), (0, rf g 211), (1, .long y1), (3, .int x3)]) C0 dX10_feed_31 (by decide) rfl ?_
        refine f_sub [1, 2, 0] rfl ?_
        exact t_X10_feed_33 C0 hZ n _ _ _ _ hw
      · have hw := hw.2 h3
        refine f_bipush (v := (-4)) C0 dX10_feed_25 rfl ?_
        exact f_iret C0 hZ hw dX10_feed_27
    · have hw := hw.2 h2
      refine f_bipush (v := (-2)) C0 dX10_feed_11 rfl ?_
      exact f_iret C0 hZ hw dX10_feed_13
def F_X10_now (n : Nat) (d : DD) (dl : LL) (Q : Int32 → DD → LL → Prop) : Prop := ((d 211 4) ≤ (d 211 46) → Q (-1) d dl) ∧ (¬ (d 211 4) ≤ (d 211 46) → vp_in (d 211 46) 120 ∧ Q (d 225 (d 211 46).toNatClampNeg) d dl)
set_option maxHeartbeats 4000000 in
set_option maxRecDepth 100000 in
theorem m_X10_now {g : Ex} {n : Nat} {d : DD} {dl : LL} {Q : Int32 → DD → LL → Prop} (hw : F_X10_now n d dl Q) : Mi g yX10_now cX10_now 1 (some .int) 0 0 [rf g 211] d dl Q := by
  refine Mi.of (by decide) (Nat.le_of_ble_eq_true rfl) (fun x C0 hZ => ?_)
  have C0 : Cx g x cX10_now 1 (some .int) RX10 0 0 := C0
  refine f_aload_n C0 dX10_now_0 rfl 0 rfl ⟨_, rfl⟩ ?_
  refine gf_10_46 C0 kn_211 mw_932 dX10_now_1 ?_
  refine f_aload_n C0 dX10_now_4 rfl 0 rfl ⟨_, rfl⟩ ?_
  refine gf_10_4 C0 kn_211 mw_890 dX10_now_5 ?_
  refine f_icmp_ge (tgt := 23) C0 dX10_now_8 (by decide) (fun h1 => ?_) (fun h1 => ?_)
  · have hw := hw.1 h1
    refine f_iconst (v := (-1)) C0 dX10_now_23 rfl ?_
    exact f_iret C0 hZ hw dX10_now_24
  · have hw := hw.2 h1
    refine f_aload_n C0 dX10_now_11 rfl 0 rfl ⟨_, rfl⟩ ?_
    refine gf_10_21 (r := 225) C0 rfl kn_211 mw_907 dX10_now_12 ?_
    refine f_aload_n C0 dX10_now_15 rfl 0 rfl ⟨_, rfl⟩ ?_
    refine gf_10_46 C0 kn_211 mw_932 dX10_now_16 ?_
    obtain ⟨h2, hw⟩ := hw
    refine f_iald C0 kn_225 h2 dX10_now_19 ?_
    refine f_goto (tgt := 24) C0 dX10_now_20 (by decide) ?_
    exact f_iret C0 hZ hw dX10_now_24
def b_X10_expect_2 (n : Nat) (Q : DD → LL → Prop) : Nat → Nat → Int32 → DD → LL → Prop
  | 0 => fun _ _ _ _ => False
  | k + 1 => fun w1 x2 d dl => F_J0_length_8abf5 n w1 d dl (fun r1 d2 l3 => (r1 ≤ x2 → Q d2 l3) ∧ (¬ r1 ≤ x2 → (¬ (d2 211 47) = (-1) → Q d2 l3) ∧ ((d2 211 47) = (-1) → F_X10_now n d2 l3 (fun r6 d7 l8 => F_J0_charAt_5068e n w1 x2 d7 l8 (fun r9 d10 l11 => (¬ r6 = r9 → ∀ d13 : DD, d13 = u2 d10 211 47 (d10 211 46) → (b_X10_expect_2 n Q k) w1 (x2 + 1) d13 l11) ∧ (r6 = r9 → ∀ d14 : DD, d14 = u2 d10 211 46 ((d10 211 46) + 1) → (b_X10_expect_2 n Q k) w1 (x2 + 1) d14 l11))))))
def F_X10_expect (n : Nat) (w1 : Nat) (d : DD) (dl : LL) (Q : DD → LL → Prop) : Prop := b_X10_expect_2 n Q n w1 0 d dl
set_option maxHeartbeats 4000000 in
set_option maxRecDepth 100000 in
theorem t_X10_expect_2 {g : Ex} {x : Fx} {n : Nat} {Q : DD → LL → Prop} (C0 : Cx g x cX10_expect 3 none RX10 4 85) (hZ : Zv g x Q) : ∀ (j : Nat) (w1 : Nat) (x2 : Int32) (hw1 : w1 < 19) (d : DD) (dl : LL), b_X10_expect_2 n Q j w1 x2 d dl → FW g x 3 d dl 2 [(0, rf g 211), (1, rs g w1), (2, .int x2)] [] := by
  intro j
  induction j with
  | zero =>
    intro w1 x2 hw1 d dl hw
    exact hw.elim
  | succ j hK2 =>
    intro w1 x2 hw1 d dl hw
    have hw : F_J0_length_8abf5 n w1 d dl (fun r1 d2 l3 => (r1 ≤ x2 → Q d2 l3) ∧ (¬ r1 ≤ x2 → (¬ (d2 211 47) = (-1) → Q d2 l3) ∧ ((d2 211 47) = (-1) → F_X10_now n d2 l3 (fun r6 d7 l8 => F_J0_charAt_5068e n w1 x2 d7 l8 (fun r9 d10 l11 => (¬ r6 = r9 → ∀ d13 : DD, d13 = u2 d10 211 47 (d10 211 46) → (b_X10_expect_2 n Q j) w1 (x2 + 1) d13 l11) ∧ (r6 = r9 → ∀ d14 : DD, d14 = u2 d10 211 46 ((d10 211 46) + 1) → (b_X10_expect_2 n Q j) w1 (x2 + 1) d14 l11)))))) := hw
    refine f_iload_n C0 dX10_expect_2 rfl 2 rfl ?_
    refine f_aload_n C0 dX10_expect_3 rfl 1 rfl ⟨_, rfl⟩ ?_
    refine f_callTi (As := []) (rest := [.int x2]) C0 (m_J0_length_8abf5 hw1 hw) cw_X10_167 hw1 rfl ⟨(Nat.le_of_ble_eq_true rfl), (Nat.le_of_ble_eq_true rfl)⟩ rfl rfl (Nat.le_of_ble_eq_true rfl) dX10_expect_4 ?_
    intro r1 d2 l3 hw
    refine f_icmp_ge (tgt := 57) C0 dX10_expect_7 (by decide) (fun h4 => ?_) (fun h4 => ?_)
    · have hw := hw.1 h4
      exact f_vret C0 hZ hw dX10_expect_57
    · have hw := hw.2 h4
      refine f_aload_n C0 dX10_expect_10 rfl 0 rfl ⟨_, rfl⟩ ?_
      refine gf_10_47 C0 kn_211 mw_933 dX10_expect_11 ?_
      refine f_iconst (v := (-1)) C0 dX10_expect_14 rfl ?_
      refine f_icmp_ne (tgt := 57) C0 dX10_expect_15 (by decide) (fun h5 => ?_) (fun h5 => ?_)
      · have hw := hw.1 h5
        exact f_vret C0 hZ hw dX10_expect_57
      · have hw := hw.2 h5
        refine f_aload_n C0 dX10_expect_18 rfl 0 rfl ⟨_, rfl⟩ ?_
        refine f_callVi (As := []) (rest := []) C0 (m_X10_now hw) cw_X10_176 kn_211 (by decide) rfl rfl ⟨(Nat.le_of_ble_eq_true rfl), (Nat.le_of_ble_eq_true rfl)⟩ rfl rfl (Nat.le_of_ble_eq_true rfl) dX10_expect_19 ?_
        intro r6 d7 l8 hw
        refine f_aload_n C0 dX10_expect_22 rfl 1 rfl ⟨_, rfl⟩ ?_
        refine f_iload_n C0 dX10_expect_23 rfl 2 rfl ?_
        refine f_callTi (As := [.int x2]) (rest := [.int r6]) C0 (m_J0_charAt_5068e hw1 hw) cw_X10_179 hw1 rfl ⟨(Nat.le_of_ble_eq_true rfl), (Nat.le_of_ble_eq_true rfl)⟩ rfl rfl (Nat.le_of_ble_eq_true rfl) dX10_expect_24 ?_
        intro r9 d10 l11 hw
        refine f_icmp_ne (tgt := 43) C0 dX10_expect_27 (by decide) (fun h12 => ?_) (fun h12 => ?_)
        · have hw := hw.1 h12
          refine f_aload_n C0 dX10_expect_43 rfl 0 rfl ⟨_, rfl⟩ ?_
          refine f_aload_n C0 dX10_expect_44 rfl 0 rfl ⟨_, rfl⟩ ?_
          refine gf_10_46 C0 kn_211 mw_932 dX10_expect_45 ?_
          refine pf_10_47 C0 kn_211 mw_933 dX10_expect_48 (fun d13 ed13 => ?_)
          have hw := hw d13 ed13
          refine f_iinc (lo' := [(2, .int (x2 + 1)), (0, rf g 211), (1, rs g w1)]) C0 dX10_expect_51 2 rfl rfl (by decide) rfl ?_
          refine f_goto (tgt := 2) C0 dX10_expect_54 (by decide) ?_
          refine f_sub [1, 2, 0] rfl ?_
          exact hK2 _ _ hw1 _ _ hw
        · have hw := hw.2 h12
          refine f_aload_n C0 dX10_expect_30 rfl 0 rfl ⟨_, rfl⟩ ?_
          refine f_dup C0 dX10_expect_31 rfl ?_
          refine gf_10_46 C0 kn_211 mw_932 dX10_expect_32 ?_
          refine f_iconst (v := 1) C0 dX10_expect_35 rfl ?_
          refine f_iadd C0 dX10_expect_36 ?_
          refine pf_10_46 C0 kn_211 mw_932 dX10_expect_37 (fun d14 ed14 => ?_)
          have hw := hw d14 ed14
          refine f_goto (tgt := 51) C0 dX10_expect_40 (by decide) ?_
          refine f_iinc (lo' := [(2, .int (x2 + 1)), (0, rf g 211), (1, rs g w1)]) C0 dX10_expect_51 2 rfl rfl (by decide) rfl ?_
          refine f_goto (tgt := 2) C0 dX10_expect_54 (by decide) ?_
          refine f_sub [1, 2, 0] rfl ?_
          exact hK2 _ _ hw1 _ _ hw
set_option maxHeartbeats 4000000 in
set_option maxRecDepth 100000 in
theorem m_X10_expect {g : Ex} {n : Nat} {w1 : Nat} {d : DD} {dl : LL} {Q : DD → LL → Prop} (hw1 : w1 < 19) (hw : F_X10_expect n w1 d dl Q) : Mv g yX10_expect cX10_expect 3 none 4 85 [rf g 211, rs g w1] d dl Q := by
  refine Mv.of (by decide) (Nat.le_of_ble_eq_true rfl) (fun x C0 hZ => ?_)
  have C0 : Cx g x cX10_expect 3 none RX10 4 85 := C0
  refine f_iconst (v := 0) C0 dX10_expect_0 rfl ?_
  refine f_istore_n (lo' := [(2, .int 0), (0, rf g 211), (1, rs g w1)]) C0 dX10_expect_1 rfl (by decide) rfl ?_
  refine f_sub [1, 2, 0] rfl ?_
  exact t_X10_expect_2 C0 hZ n _ _ hw1 _ _ hw
def b_X10_test_380 (n : Nat) (Q : DD → LL → Prop) (x5 : Int32) (d : DD) (dl : LL) : Prop := (¬ x5 = 0 → Q d dl) ∧ (x5 = 0 → ∀ d44 : DD, d44 = u2 d 211 47 (d 211 46) → Q d44 dl)
def b_X10_test_317 (n : Nat) (Q : DD → LL → Prop) : Nat → Int32 → Int32 → DD → LL → Prop
  | 0 => fun _ _ _ _ => False
  | k + 1 => fun x1 x5 d dl => (4 ≤ x5 → b_X10_test_380 n Q x5 d dl) ∧ (¬ 4 ≤ x5 → F_X10_now n d dl (fun r45 d46 l47 => (r45 < 48 → b_X10_test_380 n Q x5 d46 l47) ∧ (¬ r45 < 48 → F_X10_now n d46 l47 (fun r49 d50 l51 => (57 < r49 → b_X10_test_380 n Q x5 d50 l51) ∧ (¬ 57 < r49 → vp_in x1 48 ∧ F_X10_now n d50 l51 (fun r54 d55 l56 => vp_in x1 48 ∧ ∀ d58 : DD, d58 = u2 d55 229 x1.toNatClampNeg ((((10 : Int32) * (d50 229 x1.toNatClampNeg)) + r54) - 48) → ∀ d59 : DD, d59 = u2 d58 211 46 ((d58 211 46) + 1) → (b_X10_test_317 n Q k) x1 (x5 + 1) d59 l56))))))
def b_X10_test_297 (n : Nat) (Q : DD → LL → Prop) (x1 : Int32) (d : DD) (dl : LL) : Prop := ∀ d39 : DD, d39 = u2 d 211 46 ((d 211 46) + 1) → vp_in x1 48 ∧ ∀ d41 : DD, d41 = u2 d39 229 x1.toNatClampNeg 0 → b_X10_test_317 n Q n x1 0 d41 dl
def b_X10_test_269 (n : Nat) (Q : DD → LL → Prop) (x1 : Int32) (x2 : Int32) (xs0 : Int32) (xs1 : Int32) (d : DD) (dl : LL) : Prop := vp_in xs1 48 ∧ ∀ d37 : DD, d37 = u2 d 228 xs1.toNatClampNeg xs0 → (x2 = 60 → b_X10_test_297 n Q x1 d37 dl) ∧ (¬ x2 = 60 → (x2 = 61 → b_X10_test_297 n Q x1 d37 dl) ∧ (¬ x2 = 61 → (x2 = 62 → b_X10_test_297 n Q x1 d37 dl) ∧ (¬ x2 = 62 → ∀ d62 : DD, d62 = u2 d37 211 47 (d37 211 46) → Q d62 dl)))
def b_X10_test_226 (n : Nat) (Q : DD → LL → Prop) (x1 : Int32) (ws0 : Nat) (d : DD) (dl : LL) : Prop := F_X10_expect n ws0 d dl (fun d28 l29 => ((d28 211 47) = (-1) → F_X10_now n d28 l29 (fun r31 d32 l33 => (¬ r31 = 60 → (¬ r31 = 61 → b_X10_test_269 n Q x1 r31 1 x1 d32 l33) ∧ (r31 = 61 → b_X10_test_269 n Q x1 r31 0 x1 d32 l33)) ∧ (r31 = 60 → b_X10_test_269 n Q x1 r31 (-1) x1 d32 l33))) ∧ (¬ (d28 211 47) = (-1) → Q d28 l29))
def b_X10_test_161 (n : Nat) (Q : DD → LL → Prop) (x1 : Int32) (d : DD) (dl : LL) : Prop := vp_in x1 48 ∧ ∀ v21 : Int32, v21 = (d 227 x1.toNatClampNeg) → (¬ v21 = 0 → (¬ v21 = 1 → (¬ v21 = 2 → (¬ v21 = 3 → (¬ v21 = 4 → b_X10_test_226 n Q x1 15 d dl) ∧ (v21 = 4 → b_X10_test_226 n Q x1 14 d dl)) ∧ (v21 = 3 → b_X10_test_226 n Q x1 13 d dl)) ∧ (v21 = 2 → b_X10_test_226 n Q x1 12 d dl)) ∧ (v21 = 1 → b_X10_test_226 n Q x1 11 d dl)) ∧ (v21 = 0 → b_X10_test_226 n Q x1 10 d dl)
def b_X10_test_160 (n : Nat) (Q : DD → LL → Prop) (x1 : Int32) (xs0 : Int32) (xs1 : Int32) (d : DD) (dl : LL) : Prop := vp_in xs1 48 ∧ ∀ d19 : DD, d19 = u2 d 227 xs1.toNatClampNeg xs0 → b_X10_test_161 n Q x1 d19 dl
def b_X10_test_100 (n : Nat) (Q : DD → LL → Prop) (x1 : Int32) (x3 : Int32) (xs0 : Int32) (xs1 : Int32) (d : DD) (dl : LL) : Prop := vp_in xs1 48 ∧ ∀ d65 : DD, d65 = u2 d 227 xs1.toNatClampNeg xs0 → (x3 = 101 → b_X10_test_161 n Q x1 d65 dl) ∧ (¬ x3 = 101 → (x3 = 111 → b_X10_test_161 n Q x1 d65 dl) ∧ (¬ x3 = 111 → ∀ d68 : DD, d68 = u2 d65 211 47 ((d65 211 46) + 1) → Q d68 dl))
def b_X10_test_77 (n : Nat) (Q : DD → LL → Prop) (x1 : Int32) (x2 : Int32) (xs0 : Int32) (d : DD) (dl : LL) : Prop := (¬ x2 = 119 → (¬ x2 = 109 → (¬ x2 = 111 → (¬ x2 = 121 → b_X10_test_160 n Q x1 5 x1 d dl) ∧ (x2 = 121 → b_X10_test_160 n Q x1 3 x1 d dl)) ∧ (x2 = 111 → b_X10_test_160 n Q x1 2 x1 d dl)) ∧ (x2 = 109 → b_X10_test_160 n Q x1 0 x1 d dl)) ∧ (x2 = 119 → (¬ xs0 = 101 → b_X10_test_100 n Q x1 xs0 1 x1 d dl) ∧ (xs0 = 101 → b_X10_test_100 n Q x1 xs0 4 x1 d dl))
def b_X10_test_35 (n : Nat) (Q : DD → LL → Prop) (x1 : Int32) (d : DD) (dl : LL) : Prop := ((d 211 47) = (-1) → F_X10_now n d dl (fun r10 d11 l12 => ((d11 211 4) ≤ ((d11 211 46) + 1) → b_X10_test_77 n Q x1 r10 (-1) d11 l12) ∧ (¬ (d11 211 4) ≤ ((d11 211 46) + 1) → vp_in ((d11 211 46) + 1) 120 ∧ b_X10_test_77 n Q x1 r10 (d11 225 ((d11 211 46) + 1).toNatClampNeg) d11 l12))) ∧ (¬ (d 211 47) = (-1) → Q d dl)
def b_X10_test_19 (n : Nat) (Q : DD → LL → Prop) (x1 : Int32) (xs0 : Int32) (xs1 : Int32) (d : DD) (dl : LL) : Prop := vp_in xs1 48 ∧ ∀ d6 : DD, d6 = u2 d 230 xs1.toNatClampNeg (vp_nar .boolean xs0) → vp_in x1 48 ∧ ((d6 230 x1.toNatClampNeg) = 0 → b_X10_test_35 n Q x1 d6 dl) ∧ (¬ (d6 230 x1.toNatClampNeg) = 0 → F_X10_expect n 9 d6 dl (fun d71 l72 => b_X10_test_35 n Q x1 d71 l72))
def F_X10_test (n : Nat) (x1 : Int32) (d : DD) (dl : LL) (Q : DD → LL → Prop) : Prop := F_X10_now n d dl (fun r1 d2 l3 => (¬ r1 = 110 → b_X10_test_19 n Q x1 0 x1 d2 l3) ∧ (r1 = 110 → b_X10_test_19 n Q x1 1 x1 d2 l3))
set_option maxHeartbeats 4000000 in
set_option maxRecDepth 100000 in
theorem t_X10_test_380 {g : Ex} {x : Fx} {n : Nat} {Q : DD → LL → Prop} (C0 : Cx g x cX10_test 6 none RX10 5 107) (hZ : Zv g x Q) : ∀ (x5 : Int32) (d : DD) (dl : LL), b_X10_test_380 n Q x5 d dl → FW g x 6 d dl 380 [(0, rf g 211), (5, .int x5)] [] := by
  intro x5 d dl hw
  refine f_iload C0 dX10_test_380 1 rfl ?_
  refine f_if_ne (tgt := 393) C0 dX10_test_382 (by decide) (fun h43 => ?_) (fun h43 => ?_)
  · have hw := hw.1 h43
    exact f_vret C0 hZ hw dX10_test_393
  · have hw := hw.2 h43
    refine f_aload_n C0 dX10_test_385 rfl 0 rfl ⟨_, rfl⟩ ?_
    refine f_aload_n C0 dX10_test_386 rfl 0 rfl ⟨_, rfl⟩ ?_
    refine gf_10_46 C0 kn_211 mw_932 dX10_test_387 ?_
    refine pf_10_47 C0 kn_211 mw_933 dX10_test_390 (fun d44 ed44 => ?_)
    have hw := hw d44 ed44
    exact f_vret C0 hZ hw dX10_test_393
set_option maxHeartbeats 4000000 in
set_option maxRecDepth 100000 in
theorem t_X10_test_317 {g : Ex} {x : Fx} {n : Nat} {Q : DD → LL → Prop} (C0 : Cx g x cX10_test 6 none RX10 5 107) (hZ : Zv g x Q) : ∀ (j : Nat) (x1 : Int32) (x5 : Int32) (d : DD) (dl : LL), b_X10_test_317 n Q j x1 x5 d dl → FW g x 6 d dl 317 [(0, rf g 211), (1, .int x1), (5, .int x5)] [] := by
  intro j
  induction j with
  | zero =>
    intro x1 x5 d dl hw
    exact hw.elim
  | succ j hK317 =>
    intro x1 x5 d dl hw
    refine f_iload C0 dX10_test_317 2 rfl ?_
    refine f_iconst (v := 4) C0 dX10_test_319 rfl ?_
    refine f_icmp_ge (tgt := 380) C0 dX10_test_320 (by decide) (fun h42 => ?_) (fun h42 => ?_)
    · have hw := hw.1 h42
      refine f_sub [0, 2] rfl ?_
      exact t_X10_test_380 C0 hZ _ _ _ hw
    · have hw := hw.2 h42
      refine f_aload_n C0 dX10_test_323 rfl 0 rfl ⟨_, rfl⟩ ?_
      refine f_callVi (As := []) (rest := []) C0 (m_X10_now hw) cw_X10_176 kn_211 (by decide) rfl rfl ⟨(Nat.le_of_ble_eq_true rfl), (Nat.le_of_ble_eq_true rfl)⟩ rfl rfl (Nat.le_of_ble_eq_true rfl) dX10_test_324 ?_
      intro r45 d46 l47 hw
      refine f_bipush (v := 48) C0 dX10_test_327 rfl ?_
      refine f_icmp_lt (tgt := 380) C0 dX10_test_329 (by decide) (fun h48 => ?_) (fun h48 => ?_)
      · have hw := hw.1 h48
        refine f_sub [0, 2] rfl ?_
        exact t_X10_test_380 C0 hZ _ _ _ hw
      · have hw := hw.2 h48
        refine f_aload_n C0 dX10_test_332 rfl 0 rfl ⟨_, rfl⟩ ?_
        refine f_callVi (As := []) (rest := []) C0 (m_X10_now hw) cw_X10_176 kn_211 (by decide) rfl rfl ⟨(Nat.le_of_ble_eq_true rfl), (Nat.le_of_ble_eq_true rfl)⟩ rfl rfl (Nat.le_of_ble_eq_true rfl) dX10_test_333 ?_
        intro r49 d50 l51 hw
        refine f_bipush (v := 57) C0 dX10_test_336 rfl ?_
        refine f_icmp_gt (tgt := 380) C0 dX10_test_338 (by decide) (fun h52 => ?_) (fun h52 => ?_)
        · have hw := hw.1 h52
          refine f_sub [0, 2] rfl ?_
          exact t_X10_test_380 C0 hZ _ _ _ hw
        · have hw := hw.2 h52
          refine f_aload_n C0 dX10_test_341 rfl 0 rfl ⟨_, rfl⟩ ?_
          refine gf_10_25 (r := 229) C0 rfl kn_211 mw_911 dX10_test_342 ?_
          refine f_iload_n C0 dX10_test_345 rfl 1 rfl ?_
          refine f_bipush (v := 10) C0 dX10_test_346 rfl ?_
          refine f_aload_n C0 dX10_test_348 rfl 0 rfl ⟨_, rfl⟩ ?_
          refine gf_10_25 (r := 229) C0 rfl kn_211 mw_911 dX10_test_349 ?_
          refine f_iload_n C0 dX10_test_352 rfl 1 rfl ?_
          obtain ⟨h53, hw⟩ := hw
          refine f_iald C0 kn_229 h53 dX10_test_353 ?_
          refine f_imul C0 dX10_test_354 ?_
          refine f_aload_n C0 dX10_test_355 rfl 0 rfl ⟨_, rfl⟩ ?_
          refine f_callVi (As := []) (rest := [.int ((10 : Int32) * (d50 229 x1.toNatClampNeg)), .int x1, rf g 229]) C0 (m_X10_now hw) cw_X10_176 kn_211 (by decide) rfl rfl ⟨(Nat.le_of_ble_eq_true rfl), (Nat.le_of_ble_eq_true rfl)⟩ rfl rfl (Nat.le_of_ble_eq_true rfl) dX10_test_356 ?_
          intro r54 d55 l56 hw
          refine f_iadd C0 dX10_test_359 ?_
          refine f_bipush (v := 48) C0 dX10_test_360 rfl ?_
          refine f_isub C0 dX10_test_362 ?_
          obtain ⟨h57, hw⟩ := hw
          refine f_iast C0 kn_229 h57 dX10_test_363 (fun d58 ed58 => ?_)
          have hw := hw d58 ed58
          refine f_aload_n C0 dX10_test_364 rfl 0 rfl ⟨_, rfl⟩ ?_
          refine f_dup C0 dX10_test_365 rfl ?_
          refine gf_10_46 C0 kn_211 mw_932 dX10_test_366 ?_
          refine f_iconst (v := 1) C0 dX10_test_369 rfl ?_
          refine f_iadd C0 dX10_test_370 ?_
          refine pf_10_46 C0 kn_211 mw_932 dX10_test_371 (fun d59 ed59 => ?_)
          have hw := hw d59 ed59
          refine f_iinc (lo' := [(5, .int (x5 + 1)), (0, rf g 211), (1, .int x1)]) C0 dX10_test_374 2 rfl rfl (by decide) rfl ?_
          refine f_goto (tgt := 317) C0 dX10_test_377 (by decide) ?_
          refine f_sub [1, 2, 0] rfl ?_
          exact hK317 _ _ _ _ hw
set_option maxHeartbeats 4000000 in
set_option maxRecDepth 100000 in
theorem t_X10_test_297 {g : Ex} {x : Fx} {n : Nat} {Q : DD → LL → Prop} (C0 : Cx g x cX10_test 6 none RX10 5 107) (hZ : Zv g x Q) : ∀ (x1 : Int32) (d : DD) (dl : LL), b_X10_test_297 n Q x1 d dl → FW g x 6 d dl 297 [(0, rf g 211), (1, .int x1)] [] := by
  intro x1 d dl hw
  refine f_aload_n C0 dX10_test_297 rfl 0 rfl ⟨_, rfl⟩ ?_
  refine f_dup C0 dX10_test_298 rfl ?_
  refine gf_10_46 C0 kn_211 mw_932 dX10_test_299 ?_
  refine f_iconst (v := 1) C0 dX10_test_302 rfl ?_
  refine f_iadd C0 dX10_test_303 ?_
  refine pf_10_46 C0 kn_211 mw_932 dX10_test_304 (fun d39 ed39 => ?_)
  have hw := hw d39 ed39
  refine f_iconst (v := 0) C0 dX10_test_307 rfl ?_
  refine f_istore (lo' := [(5, .int 0), (0, rf g 211), (1, .int x1)]) C0 dX10_test_308 (by decide) rfl ?_
  refine f_aload_n C0 dX10_test_310 rfl 1 rfl ⟨_, rfl⟩ ?_
  refine gf_10_25 (r := 229) C0 rfl kn_211 mw_911 dX10_test_311 ?_
  refine f_iload_n C0 dX10_test_314 rfl 2 rfl ?_
  refine f_iconst (v := 0) C0 dX10_test_315 rfl ?_
  obtain ⟨h40, hw⟩ := hw
  refine f_iast C0 kn_229 h40 dX10_test_316 (fun d41 ed41 => ?_)
  have hw := hw d41 ed41
  refine f_sub [1, 2, 0] rfl ?_
  exact t_X10_test_317 C0 hZ n _ _ _ _ hw
set_option maxHeartbeats 4000000 in
set_option maxRecDepth 100000 in
theorem t_X10_test_269 {g : Ex} {x : Fx} {n : Nat} {Q : DD → LL → Prop} (C0 : Cx g x cX10_test 6 none RX10 5 107) (hZ : Zv g x Q) : ∀ (x1 : Int32) (x2 : Int32) (xs0 : Int32) (xs1 : Int32) (d : DD) (dl : LL), b_X10_test_269 n Q x1 x2 xs0 xs1 d dl → FW g x 6 d dl 269 [(0, rf g 211), (1, .int x1), (2, .int x2)] [.int xs0, .int xs1, rf g 228] := by
  intro x1 x2 xs0 xs1 d dl hw
  obtain ⟨h36, hw⟩ := hw
  refine f_iast C0 kn_228 h36 dX10_test_269 (fun d37 ed37 => ?_)
  have hw := hw d37 ed37
  refine f_iload_n C0 dX10_test_270 rfl 2 rfl ?_
  refine f_bipush (v := 60) C0 dX10_test_271 rfl ?_
  refine f_icmp_eq (tgt := 297) C0 dX10_test_273 (by decide) (fun h38 => ?_) (fun h38 => ?_)
  · have hw := hw.1 h38
    refine f_sub [0, 1] rfl ?_
    exact t_X10_test_297 C0 hZ _ _ _ hw
  · have hw := hw.2 h38
    refine f_iload_n C0 dX10_test_276 rfl 2 rfl ?_
    refine f_bipush (v := 61) C0 dX10_test_277 rfl ?_
    refine f_icmp_eq (tgt := 297) C0 dX10_test_279 (by decide) (fun h60 => ?_) (fun h60 => ?_)
    · have hw := hw.1 h60
      refine f_sub [0, 1] rfl ?_
      exact t_X10_test_297 C0 hZ _ _ _ hw
    · have hw := hw.2 h60
      refine f_iload_n C0 dX10_test_282 rfl 2 rfl ?_
      refine f_bipush (v := 62) C0 dX10_test_283 rfl ?_
      refine f_icmp_eq (tgt := 297) C0 dX10_test_285 (by decide) (fun h61 => ?_) (fun h61 => ?_)
      · have hw := hw.1 h61
        refine f_sub [0, 1] rfl ?_
        exact t_X10_test_297 C0 hZ _ _ _ hw
      · have hw := hw.2 h61
        refine f_aload_n C0 dX10_test_288 rfl 0 rfl ⟨_, rfl⟩ ?_
        refine f_aload_n C0 dX10_test_289 rfl 0 rfl ⟨_, rfl⟩ ?_
        refine gf_10_46 C0 kn_211 mw_932 dX10_test_290 ?_
        refine pf_10_47 C0 kn_211 mw_933 dX10_test_293 (fun d62 ed62 => ?_)
        have hw := hw d62 ed62
        exact f_vret C0 hZ hw dX10_test_296
set_option maxHeartbeats 4000000 in
set_option maxRecDepth 100000 in
theorem t_X10_test_226 {g : Ex} {x : Fx} {n : Nat} {Q : DD → LL → Prop} (C0 : Cx g x cX10_test 6 none RX10 5 107) (hZ : Zv g x Q) : ∀ (x1 : Int32) (ws0 : Nat) (hws0 : ws0 < 19) (d : DD) (dl : LL), b_X10_test_226 n Q x1 ws0 d dl → FW g x 6 d dl 226 [(0, rf g 211), (1, .int x1)] [rs g ws0, rf g 211] := by
  intro x1 ws0 hws0 d dl hw
  refine f_callVv (As := [rs g ws0]) (rest := []) C0 (m_X10_expect hws0 hw) cw_X10_185 kn_211 (by decide) rfl rfl ⟨(Nat.le_of_ble_eq_true rfl), (Nat.le_of_ble_eq_true rfl)⟩ rfl rfl (Nat.le_of_ble_eq_true rfl) dX10_test_226 ?_
  intro d28 l29 hw
  refine f_aload_n C0 dX10_test_229 rfl 0 rfl ⟨_, rfl⟩ ?_
  refine gf_10_47 C0 kn_211 mw_933 dX10_test_230 ?_
  refine f_iconst (v := (-1)) C0 dX10_test_233 rfl ?_
  refine f_icmp_eq (tgt := 238) C0 dX10_test_234 (by decide) (fun h30 => ?_) (fun h30 => ?_)
  · have hw := hw.1 h30
    refine f_aload_n C0 dX10_test_238 rfl 0 rfl ⟨_, rfl⟩ ?_
    refine f_callVi (As := []) (rest := []) C0 (m_X10_now hw) cw_X10_176 kn_211 (by decide) rfl rfl ⟨(Nat.le_of_ble_eq_true rfl), (Nat.le_of_ble_eq_true rfl)⟩ rfl rfl (Nat.le_of_ble_eq_true rfl) dX10_test_239 ?_
    intro r31 d32 l33 hw
    refine f_istore_n (lo' := [(2, .int r31), (0, rf g 211), (1, .int x1)]) C0 dX10_test_242 rfl (by decide) rfl ?_
    refine f_aload_n C0 dX10_test_243 rfl 1 rfl ⟨_, rfl⟩ ?_
    refine gf_10_24 (r := 228) C0 rfl kn_211 mw_910 dX10_test_244 ?_
    refine f_iload_n C0 dX10_test_247 rfl 2 rfl ?_
    refine f_iload_n C0 dX10_test_248 rfl 0 rfl ?_
    refine f_bipush (v := 60) C0 dX10_test_249 rfl ?_
    refine f_icmp_ne (tgt := 258) C0 dX10_test_251 (by decide) (fun h34 => ?_) (fun h34 => ?_)
    · have hw := hw.1 h34
      refine f_iload_n C0 dX10_test_258 rfl 0 rfl ?_
      refine f_bipush (v := 61) C0 dX10_test_259 rfl ?_
      refine f_icmp_ne (tgt := 268) C0 dX10_test_261 (by decide) (fun h35 => ?_) (fun h35 => ?_)
      · have hw := hw.1 h35
        refine f_iconst (v := 1) C0 dX10_test_268 rfl ?_
        refine f_sub [1, 2, 0] rfl ?_
        exact t_X10_test_269 C0 hZ _ _ _ _ _ _ hw
      · have hw := hw.2 h35
        refine f_iconst (v := 0) C0 dX10_test_264 rfl ?_
        refine f_goto (tgt := 269) C0 dX10_test_265 (by decide) ?_
        refine f_sub [1, 2, 0] rfl ?_
        exact t_X10_test_269 C0 hZ _ _ _ _ _ _ hw
    · have hw := hw.2 h34
      refine f_iconst (v := (-1)) C0 dX10_test_254 rfl ?_
      refine f_goto (tgt := 269) C0 dX10_test_255 (by decide) ?_
      refine f_sub [1, 2, 0] rfl ?_
      exact t_X10_test_269 C0 hZ _ _ _ _ _ _ hw
  · have hw := hw.2 h30
    exact f_vret C0 hZ hw dX10_test_237
set_option maxHeartbeats 4000000 in
set_option maxRecDepth 100000 in
theorem t_X10_test_161 {g : Ex} {x : Fx} {n : Nat} {Q : DD → LL → Prop} (C0 : Cx g x cX10_test 6 none RX10 5 107) (hZ : Zv g x Q) : ∀ (x1 : Int32) (d : DD) (dl : LL), b_X10_test_161 n Q x1 d dl → FW g x 6 d dl 161 [(0, rf g 211), (1, .int x1)] [] := by
  intro x1 d dl hw
  refine f_aload_n C0 dX10_test_161 rfl 0 rfl ⟨_, rfl⟩ ?_
  refine gf_10_23 (r := 227) C0 rfl kn_211 mw_909 dX10_test_162 ?_
  refine f_iload_n C0 dX10_test_165 rfl 1 rfl ?_
  obtain ⟨h20, hw⟩ := hw
  refine f_iald C0 kn_227 h20 dX10_test_166 ?_
  refine f_topi (fun v21 e21 => ?_)
  have hw := hw v21 e21
  refine f_istore (lo' := [(4, .int v21), (0, rf g 211), (1, .int x1)]) C0 dX10_test_167 (by decide) rfl ?_
  refine f_aload_n C0 dX10_test_169 rfl 1 rfl ⟨_, rfl⟩ ?_
  refine f_iload C0 dX10_test_170 0 rfl ?_
  refine f_if_ne (tgt := 180) C0 dX10_test_172 (by decide) (fun h22 => ?_) (fun h22 => ?_)
  · have hw := hw.1 h22
    refine f_iload C0 dX10_test_180 0 rfl ?_
    refine f_iconst (v := 1) C0 dX10_test_182 rfl ?_
    refine f_icmp_ne (tgt := 191) C0 dX10_test_183 (by decide) (fun h23 => ?_) (fun h23 => ?_)
    · have hw := hw.1 h23
      refine f_iload C0 dX10_test_191 0 rfl ?_
      refine f_iconst (v := 2) C0 dX10_test_193 rfl ?_
      refine f_icmp_ne (tgt := 202) C0 dX10_test_194 (by decide) (fun h24 => ?_) (fun h24 => ?_)
      · have hw := hw.1 h24
        refine f_iload C0 dX10_test_202 0 rfl ?_
        refine f_iconst (v := 3) C0 dX10_test_204 rfl ?_
        refine f_icmp_ne (tgt := 213) C0 dX10_test_205 (by decide) (fun h25 => ?_) (fun h25 => ?_)
        · have hw := hw.1 h25
          refine f_iload C0 dX10_test_213 0 rfl ?_
          refine f_iconst (v := 4) C0 dX10_test_215 rfl ?_
          refine f_icmp_ne (tgt := 224) C0 dX10_test_216 (by decide) (fun h26 => ?_) (fun h26 => ?_)
          · have hw := hw.1 h26
            refine f_ldcS (w := 15) C0 (Nat.le_of_ble_eq_true rfl) rfl rfl dX10_test_224 ?_
            refine f_sub [1, 2] rfl ?_
            exact t_X10_test_226 C0 hZ _ _ (Nat.le_of_ble_eq_true rfl) _ _ hw
          · have hw := hw.2 h26
            refine f_ldcS (w := 14) C0 (Nat.le_of_ble_eq_true rfl) rfl rfl dX10_test_219 ?_
            refine f_goto (tgt := 226) C0 dX10_test_221 (by decide) ?_
            refine f_sub [1, 2] rfl ?_
            exact t_X10_test_226 C0 hZ _ _ (Nat.le_of_ble_eq_true rfl) _ _ hw
        · have hw := hw.2 h25
          refine f_ldcS (w := 13) C0 (Nat.le_of_ble_eq_true rfl) rfl rfl dX10_test_208 ?_
          refine f_goto (tgt := 226) C0 dX10_test_210 (by decide) ?_
          refine f_sub [1, 2] rfl ?_
          exact t_X10_test_226 C0 hZ _ _ (Nat.le_of_ble_eq_true rfl) _ _ hw
      · have hw := hw.2 h24
        refine f_ldcS (w := 12) C0 (Nat.le_of_ble_eq_true rfl) rfl rfl dX10_test_197 ?_
        refine f_goto (tgt := 226) C0 dX10_test_199 (by decide) ?_
        refine f_sub [1, 2] rfl ?_
        exact t_X10_test_226 C0 hZ _ _ (Nat.le_of_ble_eq_true rfl) _ _ hw
    · have hw := hw.2 h23
      refine f_ldcS (w := 11) C0 (Nat.le_of_ble_eq_true rfl) rfl rfl dX10_test_186 ?_
      refine f_goto (tgt := 226) C0 dX10_test_188 (by decide) ?_
      refine f_sub [1, 2] rfl ?_
      exact t_X10_test_226 C0 hZ _ _ (Nat.le_of_ble_eq_true rfl) _ _ hw
  · have hw := hw.2 h22
    refine f_ldcS (w := 10) C0 (Nat.le_of_ble_eq_true rfl) rfl rfl dX10_test_175 ?_
    refine f_goto (tgt := 226) C0 dX10_test_177 (by decide) ?_
    refine f_sub [1, 2] rfl ?_
    exact t_X10_test_226 C0 hZ _ _ (Nat.le_of_ble_eq_true rfl) _ _ hw
set_option maxHeartbeats 4000000 in
set_option maxRecDepth 100000 in
theorem t_X10_test_160 {g : Ex} {x : Fx} {n : Nat} {Q : DD → LL → Prop} (C0 : Cx g x cX10_test 6 none RX10 5 107) (hZ : Zv g x Q) : ∀ (x1 : Int32) (xs0 : Int32) (xs1 : Int32) (d : DD) (dl : LL), b_X10_test_160 n Q x1 xs0 xs1 d dl → FW g x 6 d dl 160 [(0, rf g 211), (1, .int x1)] [.int xs0, .int xs1, rf g 227] := by
  intro x1 xs0 xs1 d dl hw
  obtain ⟨h18, hw⟩ := hw
  refine f_iast C0 kn_227 h18 dX10_test_160 (fun d19 ed19 => ?_)
  have hw := hw d19 ed19
  exact t_X10_test_161 C0 hZ _ _ _ hw
set_option maxHeartbeats 4000000 in
set_option maxRecDepth 100000 in
theorem t_X10_test_100 {g : Ex} {x : Fx} {n : Nat} {Q : DD → LL → Prop} (C0 : Cx g x cX10_test 6 none RX10 5 107) (hZ : Zv g x Q) : ∀ (x1 : Int32) (x3 : Int32) (xs0 : Int32) (xs1 : Int32) (d : DD) (dl : LL), b_X10_test_100 n Q x1 x3 xs0 xs1 d dl → FW g x 6 d dl 100 [(0, rf g 211), (1, .int x1), (3, .int x3)] [.int xs0, .int xs1, rf g 227] := by
  intro x1 x3 xs0 xs1 d dl hw
  obtain ⟨h64, hw⟩ := hw
  refine f_iast C0 kn_227 h64 dX10_test_100 (fun d65 ed65 => ?_)
  have hw := hw d65 ed65
  refine f_iload_n C0 dX10_test_101 rfl 2 rfl ?_
  refine f_bipush (v := 101) C0 dX10_test_102 rfl ?_
  refine f_icmp_eq (tgt := 161) C0 dX10_test_104 (by decide) (fun h66 => ?_) (fun h66 => ?_)
  · have hw := hw.1 h66
    refine f_sub [0, 1] rfl ?_
    exact t_X10_test_161 C0 hZ _ _ _ hw
  · have hw := hw.2 h66
    refine f_iload_n C0 dX10_test_107 rfl 2 rfl ?_
    refine f_bipush (v := 111) C0 dX10_test_108 rfl ?_
    refine f_icmp_eq (tgt := 161) C0 dX10_test_110 (by decide) (fun h67 => ?_) (fun h67 => ?_)
    · have hw := hw.1 h67
      refine f_sub [0, 1] rfl ?_
      exact t_X10_test_161 C0 hZ _ _ _ hw
    · have hw := hw.2 h67
      refine f_aload_n C0 dX10_test_113 rfl 0 rfl ⟨_, rfl⟩ ?_
      refine f_aload_n C0 dX10_test_114 rfl 0 rfl ⟨_, rfl⟩ ?_
      refine gf_10_46 C0 kn_211 mw_932 dX10_test_115 ?_
      refine f_iconst (v := 1) C0 dX10_test_118 rfl ?_
      refine f_iadd C0 dX10_test_119 ?_
      refine pf_10_47 C0 kn_211 mw_933 dX10_test_120 (fun d68 ed68 => ?_)
      have hw := hw d68 ed68
      exact f_vret C0 hZ hw dX10_test_123
set_option maxHeartbeats 4000000 in
set_option maxRecDepth 100000 in
theorem t_X10_test_77 {g : Ex} {x : Fx} {n : Nat} {Q : DD → LL → Prop} (C0 : Cx g x cX10_test 6 none RX10 5 107) (hZ : Zv g x Q) : ∀ (x1 : Int32) (x2 : Int32) (xs0 : Int32) (d : DD) (dl : LL), b_X10_test_77 n Q x1 x2 xs0 d dl → FW g x 6 d dl 77 [(0, rf g 211), (1, .int x1), (2, .int x2)] [.int xs0] := by
  intro x1 x2 xs0 d dl hw
  refine f_istore_n (lo' := [(3, .int xs0), (0, rf g 211), (1, .int x1), (2, .int x2)]) C0 dX10_test_77 rfl (by decide) rfl ?_
  refine f_iload_n C0 dX10_test_78 rfl 3 rfl ?_
  refine f_bipush (v := 119) C0 dX10_test_79 rfl ?_
  refine f_icmp_ne (tgt := 124) C0 dX10_test_81 (by decide) (fun h14 => ?_) (fun h14 => ?_)
  · have hw := hw.1 h14
    refine f_aload_n C0 dX10_test_124 rfl 1 rfl ⟨_, rfl⟩ ?_
    refine gf_10_23 (r := 227) C0 rfl kn_211 mw_909 dX10_test_125 ?_
    refine f_iload_n C0 dX10_test_128 rfl 2 rfl ?_
    refine f_iload_n C0 dX10_test_129 rfl 3 rfl ?_
    refine f_bipush (v := 109) C0 dX10_test_130 rfl ?_
    refine f_icmp_ne (tgt := 139) C0 dX10_test_132 (by decide) (fun h15 => ?_) (fun h15 => ?_)
    · have hw := hw.1 h15
      refine f_iload_n C0 dX10_test_139 rfl 3 rfl ?_
      refine f_bipush (v := 111) C0 dX10_test_140 rfl ?_
      refine f_icmp_ne (tgt := 149) C0 dX10_test_142 (by decide) (fun h16 => ?_) (fun h16 => ?_)
      · have hw := hw.1 h16
        refine f_iload_n C0 dX10_test_149 rfl 3 rfl ?_
        refine f_bipush (v := 121) C0 dX10_test_150 rfl ?_
        refine f_icmp_ne (tgt := 159) C0 dX10_test_152 (by decide) (fun h17 => ?_) (fun h17 => ?_)
        · have hw := hw.1 h17
          refine f_iconst (v := 5) C0 dX10_test_159 rfl ?_
          refine f_sub [1, 2] rfl ?_
          exact t_X10_test_160 C0 hZ _ _ _ _ _ hw
        · have hw := hw.2 h17
          refine f_iconst (v := 3) C0 dX10_test_155 rfl ?_
          refine f_goto (tgt := 160) C0 dX10_test_156 (by decide) ?_
          refine f_sub [1, 2] rfl ?_
          exact t_X10_test_160 C0 hZ _ _ _ _ _ hw
      · have hw := hw.2 h16
        refine f_iconst (v := 2) C0 dX10_test_145 rfl ?_
        refine f_goto (tgt := 160) C0 dX10_test_146 (by decide) ?_
        refine f_sub [1, 2] rfl ?_
        exact t_X10_test_160 C0 hZ _ _ _ _ _ hw
    · have hw := hw.2 h15
      refine f_iconst (v := 0) C0 dX10_test_135 rfl ?_
      refine f_goto (tgt := 160) C0 dX10_test_136 (by decide) ?_
      refine f_sub [1, 2] rfl ?_
      exact t_X10_test_160 C0 hZ _ _ _ _ _ hw
  · have hw := hw.2 h14
    refine f_aload_n C0 dX10_test_84 rfl 1 rfl ⟨_, rfl⟩ ?_
    refine gf_10_23 (r := 227) C0 rfl kn_211 mw_909 dX10_test_85 ?_
    refine f_iload_n C0 dX10_test_88 rfl 2 rfl ?_
    refine f_iload_n C0 dX10_test_89 rfl 0 rfl ?_
    refine f_bipush (v := 101) C0 dX10_test_90 rfl ?_
    refine f_icmp_ne (tgt := 99) C0 dX10_test_92 (by decide) (fun h63 => ?_) (fun h63 => ?_)
    · have hw := hw.1 h63
      refine f_iconst (v := 1) C0 dX10_test_99 rfl ?_
      refine f_sub [1, 2, 0] rfl ?_
      exact t_X10_test_100 C0 hZ _ _ _ _ _ _ hw
    · have hw := hw.2 h63
      refine f_iconst (v := 4) C0 dX10_test_95 rfl ?_
      refine f_goto (tgt := 100) C0 dX10_test_96 (by decide) ?_
      refine f_sub [1, 2, 0] rfl ?_
      exact t_X10_test_100 C0 hZ _ _ _ _ _ _ hw
set_option maxHeartbeats 4000000 in
set_option maxRecDepth 100000 in
theorem t_X10_test_35 {g : Ex} {x : Fx} {n : Nat} {Q : DD → LL → Prop} (C0 : Cx g x cX10_test 6 none RX10 5 107) (hZ : Zv g x Q) : ∀ (x1 : Int32) (d : DD) (dl : LL), b_X10_test_35 n Q x1 d dl → FW g x 6 d dl 35 [(0, rf g 211), (1, .int x1)] [] := by
  intro x1 d dl hw
  refine f_aload_n C0 dX10_test_35 rfl 0 rfl ⟨_, rfl⟩ ?_
  refine gf_10_47 C0 kn_211 mw_933 dX10_test_36 ?_
  refine f_iconst (v := (-1)) C0 dX10_test_39 rfl ?_
  refine f_icmp_eq (tgt := 44) C0 dX10_test_40 (by decide) (fun h9 => ?_) (fun h9 => ?_)
  · have hw := hw.1 h9
    refine f_aload_n C0 dX10_test_44 rfl 0 rfl ⟨_, rfl⟩ ?_
    refine f_callVi (As := []) (rest := []) C0 (m_X10_now hw) cw_X10_176 kn_211 (by decide) rfl rfl ⟨(Nat.le_of_ble_eq_true rfl), (Nat.le_of_ble_eq_true rfl)⟩ rfl rfl (Nat.le_of_ble_eq_true rfl) dX10_test_45 ?_
    intro r10 d11 l12 hw
    refine f_istore_n (lo' := [(2, .int r10), (0, rf g 211), (1, .int x1)]) C0 dX10_test_48 rfl (by decide) rfl ?_
    refine f_aload_n C0 dX10_test_49 rfl 1 rfl ⟨_, rfl⟩ ?_
    refine gf_10_46 C0 kn_211 mw_932 dX10_test_50 ?_
    refine f_iconst (v := 1) C0 dX10_test_53 rfl ?_
    refine f_iadd C0 dX10_test_54 ?_
    refine f_aload_n C0 dX10_test_55 rfl 1 rfl ⟨_, rfl⟩ ?_
    refine gf_10_4 C0 kn_211 mw_890 dX10_test_56 ?_
    refine f_icmp_ge (tgt := 76) C0 dX10_test_59 (by decide) (fun h13 => ?_) (fun h13 => ?_)
    · have hw := hw.1 h13
      refine f_iconst (v := (-1)) C0 dX10_test_76 rfl ?_
      refine f_sub [1, 2, 0] rfl ?_
      exact t_X10_test_77 C0 hZ _ _ _ _ _ hw
    · have hw := hw.2 h13
      refine f_aload_n C0 dX10_test_62 rfl 1 rfl ⟨_, rfl⟩ ?_
      refine gf_10_21 (r := 225) C0 rfl kn_211 mw_907 dX10_test_63 ?_
      refine f_aload_n C0 dX10_test_66 rfl 1 rfl ⟨_, rfl⟩ ?_
      refine gf_10_46 C0 kn_211 mw_932 dX10_test_67 ?_
      refine f_iconst (v := 1) C0 dX10_test_70 rfl ?_
      refine f_iadd C0 dX10_test_71 ?_
      obtain ⟨h69, hw⟩ := hw
      refine f_iald C0 kn_225 h69 dX10_test_72 ?_
      refine f_goto (tgt := 77) C0 dX10_test_73 (by decide) ?_
      refine f_sub [1, 2, 0] rfl ?_
      exact t_X10_test_77 C0 hZ _ _ _ _ _ hw
  · have hw := hw.2 h9
    exact f_vret C0 hZ hw dX10_test_43
set_option maxHeartbeats 4000000 in
set_option maxRecDepth 100000 in
theorem t_X10_test_19 {g : Ex} {x : Fx} {n : Nat} {Q : DD → LL → Prop} (C0 : Cx g x cX10_test 6 none RX10 5 107) (hZ : Zv g x Q) : ∀ (x1 : Int32) (xs0 : Int32) (xs1 : Int32) (d : DD) (dl : LL), b_X10_test_19 n Q x1 xs0 xs1 d dl → FW g x 6 d dl 19 [(0, rf g 211), (1, .int x1)] [.int xs0, .int xs1, rf g 230] := by
  intro x1 xs0 xs1 d dl hw
  obtain ⟨h5, hw⟩ := hw
  refine f_zast C0 kn_230 h5 dX10_test_19 (fun d6 ed6 => ?_)
  have hw := hw d6 ed6
  refine f_aload_n C0 dX10_test_20 rfl 0 rfl ⟨_, rfl⟩ ?_
  refine gf_10_26 (r := 230) C0 rfl kn_211 mw_912 dX10_test_21 ?_
  refine f_iload_n C0 dX10_test_24 rfl 1 rfl ?_
  obtain ⟨h7, hw⟩ := hw
  refine f_zald C0 kn_230 h7 dX10_test_25 ?_
  refine f_if_eq (tgt := 35) C0 dX10_test_26 (by decide) (fun h8 => ?_) (fun h8 => ?_)
  · have hw := hw.1 h8
    exact t_X10_test_35 C0 hZ _ _ _ hw
  · have hw := hw.2 h8
    refine f_aload_n C0 dX10_test_29 rfl 0 rfl ⟨_, rfl⟩ ?_
    refine f_ldcS (w := 9) C0 (Nat.le_of_ble_eq_true rfl) rfl rfl dX10_test_30 ?_
    refine f_callVv (As := [rs g 9]) (rest := []) C0 (m_X10_expect (Nat.le_of_ble_eq_true rfl) hw) cw_X10_185 kn_211 (by decide) rfl rfl ⟨(Nat.le_of_ble_eq_true rfl), (Nat.le_of_ble_eq_true rfl)⟩ rfl rfl (Nat.le_of_ble_eq_true rfl) dX10_test_32 ?_
    intro d71 l72 hw
    exact t_X10_test_35 C0 hZ _ _ _ hw
set_option maxHeartbeats 4000000 in
set_option maxRecDepth 100000 in
theorem m_X10_test {g : Ex} {n : Nat} {x1 : Int32} {d : DD} {dl : LL} {Q : DD → LL → Prop} (hw : F_X10_test n x1 d dl Q) : Mv g yX10_test cX10_test 6 none 5 107 [rf g 211, .int x1] d dl Q := by
  refine Mv.of (by decide) (Nat.le_of_ble_eq_true rfl) (fun x C0 hZ => ?_)
  have C0 : Cx g x cX10_test 6 none RX10 5 107 := C0
  refine f_aload_n C0 dX10_test_0 rfl 0 rfl ⟨_, rfl⟩ ?_
  refine gf_10_26 (r := 230) C0 rfl kn_211 mw_912 dX10_test_1 ?_
  refine f_iload_n C0 dX10_test_4 rfl 1 rfl ?_
  refine f_aload_n C0 dX10_test_5 rfl 0 rfl ⟨_, rfl⟩ ?_
  refine f_callVi (As := []) (rest := [.int x1, rf g 230]) C0 (m_X10_now hw) cw_X10_176 kn_211 (by decide) rfl rfl ⟨(Nat.le_of_ble_eq_true rfl), (Nat.le_of_ble_eq_true rfl)⟩ rfl rfl (Nat.le_of_ble_eq_true rfl) dX10_test_6 ?_
  intro r1 d2 l3 hw
  refine f_bipush (v := 110) C0 dX10_test_9 rfl ?_
  refine f_icmp_ne (tgt := 18) C0 dX10_test_11 (by decide) (fun h4 => ?_) (fun h4 => ?_)
  · have hw := hw.1 h4
    refine f_iconst (v := 0) C0 dX10_test_18 rfl ?_
    exact t_X10_test_19 C0 hZ _ _ _ _ _ hw
  · have hw := hw.2 h4
    refine f_iconst (v := 1) C0 dX10_test_14 rfl ?_
    refine f_goto (tgt := 19) C0 dX10_test_15 (by decide) ?_
    exact t_X10_test_19 C0 hZ _ _ _ _ _ hw
def b_X10_rule_163 (n : Nat) (Q : Int32 → DD → LL → Prop) (x1 : Int32) (d : DD) (dl : LL) : Prop := ∀ d11 : DD, d11 = u2 d 211 4 0 → ((d11 211 47) = (-1) → vp_in (d11 211 2) 6 ∧ ∀ d14 : DD, d14 = u2 d11 226 (d11 211 2).toNatClampNeg x1 → ∀ d15 : DD, d15 = u2 d14 211 2 ((d14 211 2) + 1) → Q (d14 211 2) d15 dl) ∧ (¬ (d11 211 47) = (-1) → Q (((-10) : Int32) - (d11 211 47)) d11 dl)
def b_X10_rule_127 (n : Nat) (Q : Int32 → DD → LL → Prop) (K47 : Int32 → Int32 → DD → LL → Prop) (x1 : Int32) (x2 : Int32) (x3 : Int32) (ws0 : Nat) (d : DD) (dl : LL) : Prop := F_X10_expect n ws0 d dl (fun d28 l29 => ((d28 211 47) = (-1) → vp_in (x2 + x1) 48 ∧ ∀ d32 : DD, d32 = u2 d28 231 (x2 + x1).toNatClampNeg (vp_nar .boolean x3) → F_X10_test n (x2 + x1) d32 l29 (fun d34 l35 => K47 (x1 + 1) x2 d34 l35)) ∧ (¬ (d28 211 47) = (-1) → b_X10_rule_163 n Q x1 d28 l29))
def b_X10_rule_114 (n : Nat) (Q : Int32 → DD → LL → Prop) (K47 : Int32 → Int32 → DD → LL → Prop) (x1 : Int32) (x2 : Int32) (xs0 : Int32) (d : DD) (dl : LL) : Prop := (xs0 = 0 → b_X10_rule_127 n Q K47 x1 x2 xs0 18 d dl) ∧ (¬ xs0 = 0 → b_X10_rule_127 n Q K47 x1 x2 xs0 17 d dl)
def b_X10_rule_47 (n : Nat) (Q : Int32 → DD → LL → Prop) : Nat → Int32 → Int32 → DD → LL → Prop
  | 0 => fun _ _ _ _ => False
  | k + 1 => fun x1 x2 d dl => (¬ (d 211 47) = (-1) → b_X10_rule_163 n Q x1 d dl) ∧ ((d 211 47) = (-1) → ((d 211 4) ≤ (d 211 46) → b_X10_rule_163 n Q x1 d dl) ∧ (¬ (d 211 4) ≤ (d 211 46) → (¬ x1 = 8 → F_X10_expect n 16 d dl (fun d19 l20 => ((d19 211 47) = (-1) → F_X10_now n d19 l20 (fun r22 d23 l24 => (¬ r22 = 111 → b_X10_rule_114 n Q (b_X10_rule_47 n Q k) x1 x2 0 d23 l24) ∧ (r22 = 111 → b_X10_rule_114 n Q (b_X10_rule_47 n Q k) x1 x2 1 d23 l24))) ∧ (¬ (d19 211 47) = (-1) → b_X10_rule_163 n Q x1 d19 l20))) ∧ (x1 = 8 → ∀ d36 : DD, d36 = u2 d 211 47 (d 211 46) → b_X10_rule_163 n Q x1 d36 dl)))
def F_X10_rule (n : Nat) (d : DD) (dl : LL) (Q : Int32 → DD → LL → Prop) : Prop := (¬ (d 211 2) = 6 → ∀ d2 : DD, d2 = u2 d 211 46 0 → ∀ d3 : DD, d3 = u2 d2 211 47 (-1) → ∀ v4 : Int32, v4 = ((8 : Int32) * (d3 211 2)) → vp_in v4 48 ∧ ∀ d6 : DD, d6 = u2 d3 231 v4.toNatClampNeg (vp_nar .boolean 0) → F_X10_test n v4 d6 dl (fun d8 l9 => b_X10_rule_47 n Q n ((0 : Int32) + 1) v4 d8 l9)) ∧ ((d 211 2) = 6 → Q (-4) d dl)
set_option maxHeartbeats 4000000 in
set_option maxRecDepth 100000 in
theorem t_X10_rule_163 {g : Ex} {x : Fx} {n : Nat} {Q : Int32 → DD → LL → Prop} (C0 : Cx g x cX10_rule 4 (some .int) RX10 6 132) (hZ : Zi g x Q) : ∀ (x1 : Int32) (d : DD) (dl : LL), b_X10_rule_163 n Q x1 d dl → FW g x 4 d dl 163 [(0, rf g 211), (1, .int x1)] [] := by
  intro x1 d dl hw
  refine f_aload_n C0 dX10_rule_163 rfl 0 rfl ⟨_, rfl⟩ ?_
  refine f_iconst (v := 0) C0 dX10_rule_164 rfl ?_
  refine pf_10_4 C0 kn_211 mw_890 dX10_rule_165 (fun d11 ed11 => ?_)
  have hw := hw d11 ed11
  refine f_aload_n C0 dX10_rule_168 rfl 0 rfl ⟨_, rfl⟩ ?_
  refine gf_10_47 C0 kn_211 mw_933 dX10_rule_169 ?_
  refine f_iconst (v := (-1)) C0 dX10_rule_172 rfl ?_
  refine f_icmp_eq (tgt := 184) C0 dX10_rule_173 (by decide) (fun h12 => ?_) (fun h12 => ?_)
  · have hw := hw.1 h12
    refine f_aload_n C0 dX10_rule_184 rfl 0 rfl ⟨_, rfl⟩ ?_
    refine gf_10_22 (r := 226) C0 rfl kn_211 mw_908 dX10_rule_185 ?_
    refine f_aload_n C0 dX10_rule_188 rfl 0 rfl ⟨_, rfl⟩ ?_
    refine gf_10_2 C0 kn_211 mw_888 dX10_rule_189 ?_
    refine f_iload_n C0 dX10_rule_192 rfl 1 rfl ?_
    obtain ⟨h13, hw⟩ := hw
    refine f_iast C0 kn_226 h13 dX10_rule_193 (fun d14 ed14 => ?_)
    have hw := hw d14 ed14
    refine f_aload_n C0 dX10_rule_194 rfl 0 rfl ⟨_, rfl⟩ ?_
    refine f_dup C0 dX10_rule_195 rfl ?_
    refine gf_10_2 C0 kn_211 mw_888 dX10_rule_196 ?_
    refine f_dup_x1 C0 dX10_rule_199 rfl rfl ?_
    refine f_iconst (v := 1) C0 dX10_rule_200 rfl ?_
    refine f_iadd C0 dX10_rule_201 ?_
    refine pf_10_2 C0 kn_211 mw_888 dX10_rule_202 (fun d15 ed15 => ?_)
    have hw := hw d15 ed15
    exact f_iret C0 hZ hw dX10_rule_205
  · have hw := hw.2 h12
    refine f_bipush (v := (-10)) C0 dX10_rule_176 rfl ?_
    refine f_aload_n C0 dX10_rule_178 rfl 0 rfl ⟨_, rfl⟩ ?_
    refine gf_10_47 C0 kn_211 mw_933 dX10_rule_179 ?_
    refine f_isub C0 dX10_rule_182 ?_
    exact f_iret C0 hZ hw dX10_rule_183
set_option maxHeartbeats 4000000 in
set_option maxRecDepth 100000 in
theorem t_X10_rule_127 {g : Ex} {x : Fx} {n : Nat} {Q : Int32 → DD → LL → Prop} (C0 : Cx g x cX10_rule 4 (some .int) RX10 6 132) (hZ : Zi g x Q) {K47 : Int32 → Int32 → DD → LL → Prop} (hK47 : ∀ (x1 : Int32) (x2 : Int32) (d : DD) (dl : LL), K47 x1 x2 d dl → FW g x 4 d dl 47 [(0, rf g 211), (1, .int x1), (2, .int x2)] []) : ∀ (x1 : Int32) (x2 : Int32) (x3 : Int32) (ws0 : Nat) (hws0 : ws0 < 19) (d : DD) (dl : LL), b_X10_rule_127 n Q K47 x1 x2 x3 ws0 d dl → FW g x 4 d dl 127 [(0, rf g 211), (1, .int x1), (2, .int x2), (3, .int x3)] [rs g ws0, rf g 211] := by
  intro x1 x2 x3 ws0 hws0 d dl hw
  refine f_callVv (As := [rs g ws0]) (rest := []) C0 (m_X10_expect hws0 hw) cw_X10_185 kn_211 (by decide) rfl rfl ⟨(Nat.le_of_ble_eq_true rfl), (Nat.le_of_ble_eq_true rfl)⟩ rfl rfl (Nat.le_of_ble_eq_true rfl) dX10_rule_127 ?_
  intro d28 l29 hw
  refine f_aload_n C0 dX10_rule_130 rfl 0 rfl ⟨_, rfl⟩ ?_
  refine gf_10_47 C0 kn_211 mw_933 dX10_rule_131 ?_
  refine f_iconst (v := (-1)) C0 dX10_rule_134 rfl ?_
  refine f_icmp_eq (tgt := 141) C0 dX10_rule_135 (by decide) (fun h30 => ?_) (fun h30 => ?_)
  · have hw := hw.1 h30
    refine f_aload_n C0 dX10_rule_141 rfl 0 rfl ⟨_, rfl⟩ ?_
    refine gf_10_27 (r := 231) C0 rfl kn_211 mw_913 dX10_rule_142 ?_
    refine f_iload_n C0 dX10_rule_145 rfl 2 rfl ?_
    refine f_iload_n C0 dX10_rule_146 rfl 1 rfl ?_
    refine f_iadd C0 dX10_rule_147 ?_
    refine f_iload_n C0 dX10_rule_148 rfl 3 rfl ?_
    obtain ⟨h31, hw⟩ := hw
    refine f_zast C0 kn_231 h31 dX10_rule_149 (fun d32 ed32 => ?_)
    have hw := hw d32 ed32
    refine f_aload_n C0 dX10_rule_150 rfl 0 rfl ⟨_, rfl⟩ ?_
    refine f_iload_n C0 dX10_rule_151 rfl 2 rfl ?_
    refine f_iload_n C0 dX10_rule_152 rfl 1 rfl ?_
    refine f_iadd C0 dX10_rule_153 ?_
    refine f_callVv (As := [.int (x2 + x1)]) (rest := []) C0 (m_X10_test hw) cw_X10_203 kn_211 (by decide) rfl rfl ⟨(Nat.le_of_ble_eq_true rfl), (Nat.le_of_ble_eq_true rfl)⟩ rfl rfl (Nat.le_of_ble_eq_true rfl) dX10_rule_154 ?_
    intro d34 l35 hw
    refine f_iinc (lo' := [(1, .int (x1 + 1)), (0, rf g 211), (2, .int x2), (3, .int x3)]) C0 dX10_rule_157 1 rfl rfl (by decide) rfl ?_
    refine f_goto (tgt := 47) C0 dX10_rule_160 (by decide) ?_
    refine f_sub [1, 0, 2] rfl ?_
    exact hK47 _ _ _ _ hw
  · have hw := hw.2 h30
    refine f_goto (tgt := 163) C0 dX10_rule_138 (by decide) ?_
    refine f_sub [0, 1] rfl ?_
    exact t_X10_rule_163 C0 hZ _ _ _ hw
set_option maxHeartbeats 4000000 in
set_option maxRecDepth 100000 in
theorem t_X10_rule_114 {g : Ex} {x : Fx} {n : Nat} {Q : Int32 → DD → LL → Prop} (C0 : Cx g x cX10_rule 4 (some .int) RX10 6 132) (hZ : Zi g x Q) {K47 : Int32 → Int32 → DD → LL → Prop} (hK47 : ∀ (x1 : Int32) (x2 : Int32) (d : DD) (dl : LL), K47 x1 x2 d dl → FW g x 4 d dl 47 [(0, rf g 211), (1, .int x1), (2, .int x2)] []) : ∀ (x1 : Int32) (x2 : Int32) (xs0 : Int32) (d : DD) (dl : LL), b_X10_rule_114 n Q K47 x1 x2 xs0 d dl → FW g x 4 d dl 114 [(0, rf g 211), (1, .int x1), (2, .int x2)] [.int xs0] := by
  intro x1 x2 xs0 d dl hw
  refine f_istore_n (lo' := [(3, .int xs0), (0, rf g 211), (1, .int x1), (2, .int x2)]) C0 dX10_rule_114 rfl (by decide) rfl ?_
  refine f_aload_n C0 dX10_rule_115 rfl 1 rfl ⟨_, rfl⟩ ?_
  refine f_iload_n C0 dX10_rule_116 rfl 0 rfl ?_
  refine f_if_eq (tgt := 125) C0 dX10_rule_117 (by decide) (fun h26 => ?_) (fun h26 => ?_)
  · have hw := hw.1 h26
    refine f_ldcS (w := 18) C0 (Nat.le_of_ble_eq_true rfl) rfl rfl dX10_rule_125 ?_
    refine f_sub [1, 2, 3, 0] rfl ?_
    exact t_X10_rule_127 C0 hZ hK47 _ _ _ _ (Nat.le_of_ble_eq_true rfl) _ _ hw
  · have hw := hw.2 h26
    refine f_ldcS (w := 17) C0 (Nat.le_of_ble_eq_true rfl) rfl rfl dX10_rule_120 ?_
    refine f_goto (tgt := 127) C0 dX10_rule_122 (by decide) ?_
    refine f_sub [1, 2, 3, 0] rfl ?_
    exact t_X10_rule_127 C0 hZ hK47 _ _ _ _ (Nat.le_of_ble_eq_true rfl) _ _ hw
set_option maxHeartbeats 4000000 in
set_option maxRecDepth 100000 in
theorem t_X10_rule_47 {g : Ex} {x : Fx} {n : Nat} {Q : Int32 → DD → LL → Prop} (C0 : Cx g x cX10_rule 4 (some .int) RX10 6 132) (hZ : Zi g x Q) : ∀ (j : Nat) (x1 : Int32) (x2 : Int32) (d : DD) (dl : LL), b_X10_rule_47 n Q j x1 x2 d dl → FW g x 4 d dl 47 [(0, rf g 211), (1, .int x1), (2, .int x2)] [] := by
  intro j
  induction j with
  | zero =>
    intro x1 x2 d dl hw
    exact hw.elim
  | succ j hK47 =>
    intro x1 x2 d dl hw
    refine f_aload_n C0 dX10_rule_47 rfl 0 rfl ⟨_, rfl⟩ ?_
    refine gf_10_47 C0 kn_211 mw_933 dX10_rule_48 ?_
    refine f_iconst (v := (-1)) C0 dX10_rule_51 rfl ?_
    refine f_icmp_ne (tgt := 163) C0 dX10_rule_52 (by decide) (fun h10 => ?_) (fun h10 => ?_)
    · have hw := hw.1 h10
      refine f_sub [0, 1] rfl ?_
      exact t_X10_rule_163 C0 hZ _ _ _ hw
    · have hw := hw.2 h10
      refine f_aload_n C0 dX10_rule_55 rfl 0 rfl ⟨_, rfl⟩ ?_
      refine gf_10_46 C0 kn_211 mw_932 dX10_rule_56 ?_
      refine f_aload_n C0 dX10_rule_59 rfl 0 rfl ⟨_, rfl⟩ ?_
      refine gf_10_4 C0 kn_211 mw_890 dX10_rule_60 ?_
      refine f_icmp_ge (tgt := 163) C0 dX10_rule_63 (by decide) (fun h16 => ?_) (fun h16 => ?_)
      · have hw := hw.1 h16
        refine f_sub [0, 1] rfl ?_
        exact t_X10_rule_163 C0 hZ _ _ _ hw
      · have hw := hw.2 h16
        refine f_iload_n C0 dX10_rule_66 rfl 1 rfl ?_
        refine f_bipush (v := 8) C0 dX10_rule_67 rfl ?_
        refine f_icmp_ne (tgt := 83) C0 dX10_rule_69 (by decide) (fun h17 => ?_) (fun h17 => ?_)
        · have hw := hw.1 h17
          refine f_aload_n C0 dX10_rule_83 rfl 0 rfl ⟨_, rfl⟩ ?_
          refine f_ldcS (w := 16) C0 (Nat.le_of_ble_eq_true rfl) rfl rfl dX10_rule_84 ?_
          refine f_callVv (As := [rs g 16]) (rest := []) C0 (m_X10_expect (Nat.le_of_ble_eq_true rfl) hw) cw_X10_185 kn_211 (by decide) rfl rfl ⟨(Nat.le_of_ble_eq_true rfl), (Nat.le_of_ble_eq_true rfl)⟩ rfl rfl (Nat.le_of_ble_eq_true rfl) dX10_rule_86 ?_
          intro d19 l20 hw
          refine f_aload_n C0 dX10_rule_89 rfl 0 rfl ⟨_, rfl⟩ ?_
          refine gf_10_47 C0 kn_211 mw_933 dX10_rule_90 ?_
          refine f_iconst (v := (-1)) C0 dX10_rule_93 rfl ?_
          refine f_icmp_eq (tgt := 100) C0 dX10_rule_94 (by decide) (fun h21 => ?_) (fun h21 => ?_)
          · have hw := hw.1 h21
            refine f_aload_n C0 dX10_rule_100 rfl 0 rfl ⟨_, rfl⟩ ?_
            refine f_callVi (As := []) (rest := []) C0 (m_X10_now hw) cw_X10_176 kn_211 (by decide) rfl rfl ⟨(Nat.le_of_ble_eq_true rfl), (Nat.le_of_ble_eq_true rfl)⟩ rfl rfl (Nat.le_of_ble_eq_true rfl) dX10_rule_101 ?_
            intro r22 d23 l24 hw
            refine f_bipush (v := 111) C0 dX10_rule_104 rfl ?_
            refine f_icmp_ne (tgt := 113) C0 dX10_rule_106 (by decide) (fun h25 => ?_) (fun h25 => ?_)
            · have hw := hw.1 h25
              refine f_iconst (v := 0) C0 dX10_rule_113 rfl ?_
              exact t_X10_rule_114 C0 hZ hK47 _ _ _ _ _ hw
            · have hw := hw.2 h25
              refine f_iconst (v := 1) C0 dX10_rule_109 rfl ?_
              refine f_goto (tgt := 114) C0 dX10_rule_110 (by decide) ?_
              exact t_X10_rule_114 C0 hZ hK47 _ _ _ _ _ hw
          · have hw := hw.2 h21
            refine f_goto (tgt := 163) C0 dX10_rule_97 (by decide) ?_
            refine f_sub [0, 1] rfl ?_
            exact t_X10_rule_163 C0 hZ _ _ _ hw
        · have hw := hw.2 h17
          refine f_aload_n C0 dX10_rule_72 rfl 0 rfl ⟨_, rfl⟩ ?_
          refine f_aload_n C0 dX10_rule_73 rfl 0 rfl ⟨_, rfl⟩ ?_
          refine gf_10_46 C0 kn_211 mw_932 dX10_rule_74 ?_
          refine pf_10_47 C0 kn_211 mw_933 dX10_rule_77 (fun d36 ed36 => ?_)
          have hw := hw d36 ed36
          refine f_goto (tgt := 163) C0 dX10_rule_80 (by decide) ?_
          refine f_sub [0, 1] rfl ?_
          exact t_X10_rule_163 C0 hZ _ _ _ hw
set_option maxHeartbeats 4000000 in
set_option maxRecDepth 100000 in
theorem m_X10_rule {g : Ex} {n : Nat} {d : DD} {dl : LL} {Q : Int32 → DD → LL → Prop} (hw : F_X10_rule n d dl Q) : Mi g yX10_rule cX10_rule 4 (some .int) 6 132 [rf g 211] d dl Q := by
  refine Mi.of (by decide) (Nat.le_of_ble_eq_true rfl) (fun x C0 hZ => ?_)
  have C0 : Cx g x cX10_rule 4 (some .int) RX10 6 132 := C0
  refine f_aload_n C0 dX10_rule_0 rfl 0 rfl ⟨_, rfl⟩ ?_
  refine gf_10_2 C0 kn_211 mw_888 dX10_rule_1 ?_
  refine f_bipush (v := 6) C0 dX10_rule_4 rfl ?_
  refine f_icmp_ne (tgt := 12) C0 dX10_rule_6 (by decide) (fun h1 => ?_) (fun h1 => ?_)
  · have hw := hw.1 h1
    refine f_aload_n C0 dX10_rule_12 rfl 0 rfl ⟨_, rfl⟩ ?_
    refine f_iconst (v := 0) C0 dX10_rule_13 rfl ?_
    refine pf_10_46 C0 kn_211 mw_932 dX10_rule_14 (fun d2 ed2 => ?_)
    have hw := hw d2 ed2
    refine f_aload_n C0 dX10_rule_17 rfl 0 rfl ⟨_, rfl⟩ ?_
    refine f_iconst (v := (-1)) C0 dX10_rule_18 rfl ?_
    refine pf_10_47 C0 kn_211 mw_933 dX10_rule_19 (fun d3 ed3 => ?_)
    have hw := hw d3 ed3
    refine f_iconst (v := 0) C0 dX10_rule_22 rfl ?_
    refine f_istore_n (lo' := [(1, .int 0), (0, rf g 211)]) C0 dX10_rule_23 rfl (by decide) rfl ?_
    refine f_bipush (v := 8) C0 dX10_rule_24 rfl ?_
    refine f_aload_n C0 dX10_rule_26 rfl 1 rfl ⟨_, rfl⟩ ?_
    refine gf_10_2 C0 kn_211 mw_888 dX10_rule_27 ?_
    refine f_imul C0 dX10_rule_30 ?_
    refine f_topi (fun v4 e4 => ?_)
    have hw := hw v4 e4
    refine f_istore_n (lo' := [(2, .int v4), (1, .int 0), (0, rf g 211)]) C0 dX10_rule_31 rfl (by decide) rfl ?_
    refine f_aload_n C0 dX10_rule_32 rfl 2 rfl ⟨_, rfl⟩ ?_
    refine gf_10_27 (r := 231) C0 rfl kn_211 mw_913 dX10_rule_33 ?_
    refine f_iload_n C0 dX10_rule_36 rfl 0 rfl ?_
    refine f_iconst (v := 0) C0 dX10_rule_37 rfl ?_
    obtain ⟨h5, hw⟩ := hw
    refine f_zast C0 kn_231 h5 dX10_rule_38 (fun d6 ed6 => ?_)
    have hw := hw d6 ed6
    refine f_aload_n C0 dX10_rule_39 rfl 2 rfl ⟨_, rfl⟩ ?_
    refine f_iload_n C0 dX10_rule_40 rfl 0 rfl ?_
    refine f_callVv (As := [.int v4]) (rest := []) C0 (m_X10_test hw) cw_X10_203 kn_211 (by decide) rfl rfl ⟨(Nat.le_of_ble_eq_true rfl), (Nat.le_of_ble_eq_true rfl)⟩ rfl rfl (Nat.le_of_ble_eq_true rfl) dX10_rule_41 ?_
    intro d8 l9 hw
    refine f_iinc (lo' := [(1, .int ((0 : Int32) + 1)), (2, .int v4), (0, rf g 211)]) C0 dX10_rule_44 1 rfl rfl (by decide) rfl ?_
    refine f_sub [2, 0, 1] rfl ?_
    exact t_X10_rule_47 C0 hZ n _ _ _ _ hw
  · have hw := hw.2 h1
    refine f_bipush (v := (-4)) C0 dX10_rule_9 rfl ?_
    exact f_iret C0 hZ hw dX10_rule_11
def b_X10_field_143 (n : Nat) (Q : Int32 → DD → LL → Prop) (K5 : Int32 → Int32 → Int32 → Int32 → DD → LL → Prop) (x1 : Int32) (x2 : Int32) (x4 : Int32) (xs0 : Int32) (xs1 : Int32) (d : DD) (dl : LL) : Prop := ∀ v15 : Int32, v15 = (xs1 + xs0) → K5 x1 x2 v15 (x4 + 1) d dl
def b_X10_field_120 (n : Nat) (Q : Int32 → DD → LL → Prop) (K5 : Int32 → Int32 → Int32 → Int32 → DD → LL → Prop) (x1 : Int32) (x2 : Int32) (x4 : Int32) (xs0 : Int32) (xs1 : Int32) (d : DD) (dl : LL) : Prop := ∀ v12 : Int32, v12 = (xs1 + xs0) → K5 x1 x2 v12 (x4 + 1) d dl
def b_X10_field_84 (n : Nat) (Q : Int32 → DD → LL → Prop) (K5 : Int32 → Int32 → Int32 → Int32 → DD → LL → Prop) (x1 : Int32) (x2 : Int32) (x4 : Int32) (xs0 : Int32) (xs1 : Int32) (d : DD) (dl : LL) : Prop := ∀ v7 : Int32, v7 = (xs1 + xs0) → K5 x1 x2 v7 (x4 + 1) d dl
def b_X10_field_5 (n : Nat) (Q : Int32 → DD → LL → Prop) : Nat → Int32 → Int32 → Int32 → Int32 → DD → LL → Prop
  | 0 => fun _ _ _ _ _ _ => False
  | k + 1 => fun x1 x2 x3 x4 d dl => vp_in x1 6 ∧ (((2 : Int32) * (d 218 x1.toNatClampNeg)) ≤ x4 → Q x3 d dl) ∧ (¬ ((2 : Int32) * (d 218 x1.toNatClampNeg)) ≤ x4 → vp_in (((8 : Int32) * x1) + x4) 48 ∧ ∀ v4 : Int32, v4 = (d 223 (((8 : Int32) * x1) + x4).toNatClampNeg) → (x2 = 0 → vp_in v4 40 ∧ (¬ (d 215 v4.toNatClampNeg) = 0 → b_X10_field_84 n Q (b_X10_field_5 n Q k) x1 x2 x4 0 x3 d dl) ∧ ((d 215 v4.toNatClampNeg) = 0 → b_X10_field_84 n Q (b_X10_field_5 n Q k) x1 x2 x4 1 x3 d dl)) ∧ (x2 = 1 → vp_in v4 40 ∧ ∀ v9 : Int32, v9 = (x3 + (d 215 v4.toNatClampNeg)) → (b_X10_field_5 n Q k) x1 x2 v9 (x4 + 1) d dl) ∧ (x2 = 2 → vp_in v4 40 ∧ ((d 216 v4.toNatClampNeg) < 40 → b_X10_field_120 n Q (b_X10_field_5 n Q k) x1 x2 x4 0 x3 d dl) ∧ (¬ (d 216 v4.toNatClampNeg) < 40 → b_X10_field_120 n Q (b_X10_field_5 n Q k) x1 x2 x4 1 x3 d dl)) ∧ (x2 = 3 → vp_in v4 40 ∧ (18 ≤ (d 216 v4.toNatClampNeg) → b_X10_field_143 n Q (b_X10_field_5 n Q k) x1 x2 x4 0 x3 d dl) ∧ (¬ 18 ≤ (d 216 v4.toNatClampNeg) → b_X10_field_143 n Q (b_X10_field_5 n Q k) x1 x2 x4 1 x3 d dl)) ∧ (x2 = 4 → vp_in v4 40 ∧ ∀ v17 : Int32, v17 = (x3 + (d 212 v4.toNatClampNeg)) → (b_X10_field_5 n Q k) x1 x2 v17 (x4 + 1) d dl) ∧ (x2.toInt < 0 ∨ 4 < x2.toInt → (b_X10_field_5 n Q k) x1 x2 (x3 + 1) (x4 + 1) d dl))
def F_X10_field (n : Nat) (x1 : Int32) (x2 : Int32) (d : DD) (dl : LL) (Q : Int32 → DD → LL → Prop) : Prop := b_X10_field_5 n Q n x1 x2 0 0 d dl
set_option maxHeartbeats 4000000 in
set_option maxRecDepth 100000 in
theorem t_X10_field_143 {g : Ex} {x : Fx} {n : Nat} {Q : Int32 → DD → LL → Prop} (C0 : Cx g x cX10_field 6 (some .int) RX10 0 0) (hZ : Zi g x Q) {K5 : Int32 → Int32 → Int32 → Int32 → DD → LL → Prop} (hK5 : ∀ (x1 : Int32) (x2 : Int32) (x3 : Int32) (x4 : Int32) (d : DD) (dl : LL), K5 x1 x2 x3 x4 d dl → FW g x 6 d dl 5 [(0, rf g 211), (1, .int x1), (2, .int x2), (3, .int x3), (4, .int x4)] []) : ∀ (x1 : Int32) (x2 : Int32) (x4 : Int32) (xs0 : Int32) (xs1 : Int32) (d : DD) (dl : LL), b_X10_field_143 n Q K5 x1 x2 x4 xs0 xs1 d dl → FW g x 6 d dl 143 [(0, rf g 211), (1, .int x1), (2, .int x2), (4, .int x4)] [.int xs0, .int xs1] := by
  intro x1 x2 x4 xs0 xs1 d dl hw
  refine f_iadd C0 dX10_field_143 ?_
  refine f_topi (fun v15 e15 => ?_)
  have hw := hw v15 e15
  refine f_istore_n (lo' := [(3, .int v15), (0, rf g 211), (1, .int x1), (2, .int x2), (4, .int x4)]) C0 dX10_field_144 rfl (by decide) rfl ?_
  refine f_goto (tgt := 164) C0 dX10_field_145 (by decide) ?_
  refine f_iinc (lo' := [(4, .int (x4 + 1)), (3, .int v15), (0, rf g 211), (1, .int x1), (2, .int x2)]) C0 dX10_field_164 4 rfl rfl (by decide) rfl ?_
  refine f_goto (tgt := 5) C0 dX10_field_167 (by decide) ?_
  refine f_sub [2, 3, 4, 1, 0] rfl ?_
  exact hK5 _ _ _ _ _ _ hw
set_option maxHeartbeats 4000000 in
set_option maxRecDepth 100000 in
theorem t_X10_field_120 {g : Ex} {x : Fx} {n : Nat} {Q : Int32 → DD → LL → Prop} (C0 : Cx g x cX10_field 6 (some .int) RX10 0 0) (hZ : Zi g x Q) {K5 : Int32 → Int32 → Int32 → Int32 → DD → LL → Prop} (hK5 : ∀ (x1 : Int32) (x2 : Int32) (x3 : Int32) (x4 : Int32) (d : DD) (dl : LL), K5 x1 x2 x3 x4 d dl → FW g x 6 d dl 5 [(0, rf g 211), (1, .int x1), (2, .int x2), (3, .int x3), (4, .int x4)] []) : ∀ (x1 : Int32) (x2 : Int32) (x4 : Int32) (xs0 : Int32) (xs1 : Int32) (d : DD) (dl : LL), b_X10_field_120 n Q K5 x1 x2 x4 xs0 xs1 d dl → FW g x 6 d dl 120 [(0, rf g 211), (1, .int x1), (2, .int x2), (4, .int x4)] [.int xs0, .int xs1] := by
  intro x1 x2 x4 xs0 xs1 d dl hw
  refine f_iadd C0 dX10_field_120 ?_
  refine f_topi (fun v12 e12 => ?_)
  have hw := hw v12 e12
  refine f_istore_n (lo' := [(3, .int v12), (0, rf g 211), (1, .int x1), (2, .int x2), (4, .int x4)]) C0 dX10_field_121 rfl (by decide) rfl ?_
  refine f_goto (tgt := 164) C0 dX10_field_122 (by decide) ?_
  refine f_iinc (lo' := [(4, .int (x4 + 1)), (3, .int v12), (0, rf g 211), (1, .int x1), (2, .int x2)]) C0 dX10_field_164 4 rfl rfl (by decide) rfl ?_
  refine f_goto (tgt := 5) C0 dX10_field_167 (by decide) ?_
  refine f_sub [2, 3, 4, 1, 0] rfl ?_
  exact hK5 _ _ _ _ _ _ hw
set_option maxHeartbeats 4000000 in
set_option maxRecDepth 100000 in
theorem t_X10_field_84 {g : Ex} {x : Fx} {n : Nat} {Q : Int32 → DD → LL → Prop} (C0 : Cx g x cX10_field 6 (some .int) RX10 0 0) (hZ : Zi g x Q) {K5 : Int32 → Int32 → Int32 → Int32 → DD → LL → Prop} (hK5 : ∀ (x1 : Int32) (x2 : Int32) (x3 : Int32) (x4 : Int32) (d : DD) (dl : LL), K5 x1 x2 x3 x4 d dl → FW g x 6 d dl 5 [(0, rf g 211), (1, .int x1), (2, .int x2), (3, .int x3), (4, .int x4)] []) : ∀ (x1 : Int32) (x2 : Int32) (x4 : Int32) (xs0 : Int32) (xs1 : Int32) (d : DD) (dl : LL), b_X10_field_84 n Q K5 x1 x2 x4 xs0 xs1 d dl → FW g x 6 d dl 84 [(0, rf g 211), (1, .int x1), (2, .int x2), (4, .int x4)] [.int xs0, .int xs1] := by
  intro x1 x2 x4 xs0 xs1 d dl hw
  refine f_iadd C0 dX10_field_84 ?_
  refine f_topi (fun v7 e7 => ?_)
  have hw := hw v7 e7
  refine f_istore_n (lo' := [(3, .int v7), (0, rf g 211), (1, .int x1), (2, .int x2), (4, .int x4)]) C0 dX10_field_85 rfl (by decide) rfl ?_
  refine f_goto (tgt := 164) C0 dX10_field_86 (by decide) ?_
  refine f_iinc (lo' := [(4, .int (x4 + 1)), (3, .int v7), (0, rf g 211), (1, .int x1), (2, .int x2)]) C0 dX10_field_164 4 rfl rfl (by decide) rfl ?_
  refine f_goto (tgt := 5) C0 dX10_field_167 (by decide) ?_
  refine f_sub [2, 3, 4, 1, 0] rfl ?_
  exact hK5 _ _ _ _ _ _ hw
set_option maxHeartbeats 4000000 in
set_option maxRecDepth 100000 in
theorem t_X10_field_5 {g : Ex} {x : Fx} {n : Nat} {Q : Int32 → DD → LL → Prop} (C0 : Cx g x cX10_field 6 (some .int) RX10 0 0) (hZ : Zi g x Q) : ∀ (j : Nat) (x1 : Int32) (x2 : Int32) (x3 : Int32) (x4 : Int32) (d : DD) (dl : LL), b_X10_field_5 n Q j x1 x2 x3 x4 d dl → FW g x 6 d dl 5 [(0, rf g 211), (1, .int x1), (2, .int x2), (3, .int x3), (4, .int x4)] [] := by
  intro j
  induction j with
  | zero =>
    intro x1 x2 x3 x4 d dl hw
    exact hw.elim
  | succ j hK5 =>
    intro x1 x2 x3 x4 d dl hw
    refine f_iload C0 dX10_field_5 4 rfl ?_
    refine f_iconst (v := 2) C0 dX10_field_7 rfl ?_
    refine f_aload_n C0 dX10_field_8 rfl 0 rfl ⟨_, rfl⟩ ?_
    refine gf_10_14 (r := 218) C0 rfl kn_211 mw_900 dX10_field_9 ?_
    refine f_iload_n C0 dX10_field_12 rfl 1 rfl ?_
    obtain ⟨h1, hw⟩ := hw
    refine f_iald C0 kn_218 h1 dX10_field_13 ?_
    refine f_imul C0 dX10_field_14 ?_
    refine f_icmp_ge (tgt := 170) C0 dX10_field_15 (by decide) (fun h2 => ?_) (fun h2 => ?_)
    · have hw := hw.1 h2
      refine f_iload_n C0 dX10_field_170 rfl 3 rfl ?_
      exact f_iret C0 hZ hw dX10_field_171
    · have hw := hw.2 h2
      refine f_aload_n C0 dX10_field_18 rfl 0 rfl ⟨_, rfl⟩ ?_
      refine gf_10_19 (r := 223) C0 rfl kn_211 mw_905 dX10_field_19 ?_
      refine f_bipush (v := 8) C0 dX10_field_22 rfl ?_
      refine f_iload_n C0 dX10_field_24 rfl 1 rfl ?_
      refine f_imul C0 dX10_field_25 ?_
      refine f_iload C0 dX10_field_26 4 rfl ?_
      refine f_iadd C0 dX10_field_28 ?_
      obtain ⟨h3, hw⟩ := hw
      refine f_iald C0 kn_223 h3 dX10_field_29 ?_
      refine f_topi (fun v4 e4 => ?_)
      have hw := hw v4 e4
      refine f_istore (lo' := [(5, .int v4), (0, rf g 211), (1, .int x1), (2, .int x2), (3, .int x3), (4, .int x4)]) C0 dX10_field_30 (by decide) rfl ?_
      refine f_iload_n C0 dX10_field_32 rfl 3 rfl ?_
      rcases sw_4 x2 with h18 | h18 | h18 | h18 | h18 | h18
      · have hw := hw.2.2.2.2.2 h18
        refine f_tableOut (tgt := 161) C0 dX10_field_33 h18 (by decide) ?_
        refine f_iinc (lo' := [(3, .int (x3 + 1)), (5, .int v4), (0, rf g 211), (1, .int x1), (2, .int x2), (4, .int x4)]) C0 dX10_field_161 4 rfl rfl (by decide) rfl ?_
        refine f_iinc (lo' := [(4, .int (x4 + 1)), (3, .int (x3 + 1)), (5, .int v4), (0, rf g 211), (1, .int x1), (2, .int x2)]) C0 dX10_field_164 5 rfl rfl (by decide) rfl ?_
        refine f_goto (tgt := 5) C0 dX10_field_167 (by decide) ?_
        refine f_sub [3, 4, 5, 1, 0] rfl ?_
        exact hK5 _ _ _ _ _ _ hw
      · have hw := hw.1 h18
        refine f_tableAt (w := 0) (tgt := 68) C0 dX10_field_33 h18 (by decide) (by decide) rfl (by decide) ?_
        refine f_iload_n C0 dX10_field_68 rfl 4 rfl ?_
        refine f_aload_n C0 dX10_field_69 rfl 1 rfl ⟨_, rfl⟩ ?_
        refine gf_10_11 (r := 215) C0 rfl kn_211 mw_897 dX10_field_70 ?_
        refine f_iload C0 dX10_field_73 0 rfl ?_
        obtain ⟨h5, hw⟩ := hw
        refine f_iald C0 kn_215 h5 dX10_field_75 ?_
        refine f_if_ne (tgt := 83) C0 dX10_field_76 (by decide) (fun h6 => ?_) (fun h6 => ?_)
        · have hw := hw.1 h6
          refine f_iconst (v := 0) C0 dX10_field_83 rfl ?_
          refine f_sub [1, 2, 3, 5] rfl ?_
          exact t_X10_field_84 C0 hZ hK5 _ _ _ _ _ _ _ hw
        · have hw := hw.2 h6
          refine f_iconst (v := 1) C0 dX10_field_79 rfl ?_
          refine f_goto (tgt := 84) C0 dX10_field_80 (by decide) ?_
          refine f_sub [1, 2, 3, 5] rfl ?_
          exact t_X10_field_84 C0 hZ hK5 _ _ _ _ _ _ _ hw
      · have hw := hw.2.1 h18
        refine f_tableAt (w := 1) (tgt := 89) C0 dX10_field_33 h18 (by decide) (by decide) rfl (by decide) ?_
        refine f_iload_n C0 dX10_field_89 rfl 4 rfl ?_
        refine f_aload_n C0 dX10_field_90 rfl 1 rfl ⟨_, rfl⟩ ?_
        refine gf_10_11 (r := 215) C0 rfl kn_211 mw_897 dX10_field_91 ?_
        refine f_iload C0 dX10_field_94 0 rfl ?_
        obtain ⟨h8, hw⟩ := hw
        refine f_iald C0 kn_215 h8 dX10_field_96 ?_
        refine f_iadd C0 dX10_field_97 ?_
        refine f_topi (fun v9 e9 => ?_)
        have hw := hw v9 e9
        refine f_istore_n (lo' := [(3, .int v9), (5, .int v4), (0, rf g 211), (1, .int x1), (2, .int x2), (4, .int x4)]) C0 dX10_field_98 rfl (by decide) rfl ?_
        refine f_goto (tgt := 164) C0 dX10_field_99 (by decide) ?_
        refine f_iinc (lo' := [(4, .int (x4 + 1)), (3, .int v9), (5, .int v4), (0, rf g 211), (1, .int x1), (2, .int x2)]) C0 dX10_field_164 5 rfl rfl (by decide) rfl ?_
        refine f_goto (tgt := 5) C0 dX10_field_167 (by decide) ?_
        refine f_sub [3, 4, 5, 1, 0] rfl ?_
        exact hK5 _ _ _ _ _ _ hw
      · have hw := hw.2.2.1 h18
        refine f_tableAt (w := 2) (tgt := 102) C0 dX10_field_33 h18 (by decide) (by decide) rfl (by decide) ?_
        refine f_iload_n C0 dX10_field_102 rfl 4 rfl ?_
        refine f_aload_n C0 dX10_field_103 rfl 1 rfl ⟨_, rfl⟩ ?_
        refine gf_10_12 (r := 216) C0 rfl kn_211 mw_898 dX10_field_104 ?_
        refine f_iload C0 dX10_field_107 0 rfl ?_
        obtain ⟨h10, hw⟩ := hw
        refine f_iald C0 kn_216 h10 dX10_field_109 ?_
        refine f_bipush (v := 40) C0 dX10_field_110 rfl ?_
        refine f_icmp_lt (tgt := 119) C0 dX10_field_112 (by decide) (fun h11 => ?_) (fun h11 => ?_)
        · have hw := hw.1 h11
          refine f_iconst (v := 0) C0 dX10_field_119 rfl ?_
          refine f_sub [1, 2, 3, 5] rfl ?_
          exact t_X10_field_120 C0 hZ hK5 _ _ _ _ _ _ _ hw
        · have hw := hw.2 h11
          refine f_iconst (v := 1) C0 dX10_field_115 rfl ?_
          refine f_goto (tgt := 120) C0 dX10_field_116 (by decide) ?_
          refine f_sub [1, 2, 3, 5] rfl ?_
          exact t_X10_field_120 C0 hZ hK5 _ _ _ _ _ _ _ hw
      · have hw := hw.2.2.2.1 h18
        refine f_tableAt (w := 3) (tgt := 125) C0 dX10_field_33 h18 (by decide) (by decide) rfl (by decide) ?_
        refine f_iload_n C0 dX10_field_125 rfl 4 rfl ?_
        refine f_aload_n C0 dX10_field_126 rfl 1 rfl ⟨_, rfl⟩ ?_
        refine gf_10_12 (r := 216) C0 rfl kn_211 mw_898 dX10_field_127 ?_
        refine f_iload C0 dX10_field_130 0 rfl ?_
        obtain ⟨h13, hw⟩ := hw
        refine f_iald C0 kn_216 h13 dX10_field_132 ?_
        refine f_bipush (v := 18) C0 dX10_field_133 rfl ?_
        refine f_icmp_ge (tgt := 142) C0 dX10_field_135 (by decide) (fun h14 => ?_) (fun h14 => ?_)
        · have hw := hw.1 h14
          refine f_iconst (v := 0) C0 dX10_field_142 rfl ?_
          refine f_sub [1, 2, 3, 5] rfl ?_
          exact t_X10_field_143 C0 hZ hK5 _ _ _ _ _ _ _ hw
        · have hw := hw.2 h14
          refine f_iconst (v := 1) C0 dX10_field_138 rfl ?_
          refine f_goto (tgt := 143) C0 dX10_field_139 (by decide) ?_
          refine f_sub [1, 2, 3, 5] rfl ?_
          exact t_X10_field_143 C0 hZ hK5 _ _ _ _ _ _ _ hw
      · have hw := hw.2.2.2.2.1 h18
        refine f_tableAt (w := 4) (tgt := 148) C0 dX10_field_33 h18 (by decide) (by decide) rfl (by decide) ?_
        refine f_iload_n C0 dX10_field_148 rfl 4 rfl ?_
        refine f_aload_n C0 dX10_field_149 rfl 1 rfl ⟨_, rfl⟩ ?_
        refine gf_10_8 (r := 212) C0 rfl kn_211 mw_894 dX10_field_150 ?_
        refine f_iload C0 dX10_field_153 0 rfl ?_
        obtain ⟨h16, hw⟩ := hw
        refine f_iald C0 kn_212 h16 dX10_field_155 ?_
        refine f_iadd C0 dX10_field_156 ?_
        refine f_topi (fun v17 e17 => ?_)
        have hw := hw v17 e17
        refine f_istore_n (lo' := [(3, .int v17), (5, .int v4), (0, rf g 211), (1, .int x1), (2, .int x2), (4, .int x4)]) C0 dX10_field_157 rfl (by decide) rfl ?_
        refine f_goto (tgt := 164) C0 dX10_field_158 (by decide) ?_
        refine f_iinc (lo' := [(4, .int (x4 + 1)), (3, .int v17), (5, .int v4), (0, rf g 211), (1, .int x1), (2, .int x2)]) C0 dX10_field_164 5 rfl rfl (by decide) rfl ?_
        refine f_goto (tgt := 5) C0 dX10_field_167 (by decide) ?_
        refine f_sub [3, 4, 5, 1, 0] rfl ?_
        exact hK5 _ _ _ _ _ _ hw
set_option maxHeartbeats 4000000 in
set_option maxRecDepth 100000 in
theorem m_X10_field {g : Ex} {n : Nat} {x1 : Int32} {x2 : Int32} {d : DD} {dl : LL} {Q : Int32 → DD → LL → Prop} (hw : F_X10_field n x1 x2 d dl Q) : Mi g yX10_field cX10_field 6 (some .int) 0 0 [rf g 211, .int x1, .int x2] d dl Q := by
  refine Mi.of (by decide) (Nat.le_of_ble_eq_true rfl) (fun x C0 hZ => ?_)
  have C0 : Cx g x cX10_field 6 (some .int) RX10 0 0 := C0
  refine f_iconst (v := 0) C0 dX10_field_0 rfl ?_
  refine f_istore_n (lo' := [(3, .int 0), (0, rf g 211), (1, .int x1), (2, .int x2)]) C0 dX10_field_1 rfl (by decide) rfl ?_
  refine f_iconst (v := 0) C0 dX10_field_2 rfl ?_
  refine f_istore (lo' := [(4, .int 0), (3, .int 0), (0, rf g 211), (1, .int x1), (2, .int x2)]) C0 dX10_field_3 (by decide) rfl ?_
  refine f_sub [2, 3, 4, 1, 0] rfl ?_
  exact t_X10_field_5 C0 hZ n _ _ _ _ _ _ hw
def b_X10_keeps_175 (n : Nat) (Q : Int32 → DD → LL → Prop) (K42 : Int32 → Int32 → Int32 → Int32 → Int32 → DD → LL → Prop) (x1 : Int32) (x2 : Int32) (x3 : Int32) (x5 : Int32) (d : DD) (dl : LL) : Prop := K42 x1 x2 x3 0 (x5 + 1) d dl
def b_X10_keeps_161 (n : Nat) (Q : Int32 → DD → LL → Prop) (K42 : Int32 → Int32 → Int32 → Int32 → Int32 → DD → LL → Prop) (x1 : Int32) (x2 : Int32) (x3 : Int32) (x5 : Int32) (x6 : Int32) (xs0 : Int32) (d : DD) (dl : LL) : Prop := vp_in x6 48 ∧ (xs0 = (d 230 x6.toNatClampNeg) → b_X10_keeps_175 n Q K42 x1 x2 x3 x5 d dl) ∧ (¬ xs0 = (d 230 x6.toNatClampNeg) → K42 x1 x2 x3 1 (x5 + 1) d dl)
def b_X10_keeps_137 (n : Nat) (Q : Int32 → DD → LL → Prop) (K42 : Int32 → Int32 → Int32 → Int32 → Int32 → DD → LL → Prop) (x1 : Int32) (x2 : Int32) (x3 : Int32) (x4 : Int32) (x5 : Int32) (x6 : Int32) (xs0 : Int32) (d : DD) (dl : LL) : Prop := (x4 = 0 → b_X10_keeps_175 n Q K42 x1 x2 x3 x5 d dl) ∧ (¬ x4 = 0 → vp_in x6 48 ∧ (¬ xs0 = (d 228 x6.toNatClampNeg) → b_X10_keeps_161 n Q K42 x1 x2 x3 x5 x6 0 d dl) ∧ (xs0 = (d 228 x6.toNatClampNeg) → b_X10_keeps_161 n Q K42 x1 x2 x3 x5 x6 1 d dl))
def b_X10_keeps_90 (n : Nat) (Q : Int32 → DD → LL → Prop) (K42 : Int32 → Int32 → Int32 → Int32 → Int32 → DD → LL → Prop) (x1 : Int32) (x2 : Int32) (x3 : Int32) (x4 : Int32) (x5 : Int32) (x6 : Int32) (d : DD) (dl : LL) : Prop := vp_in x6 48 ∧ F_X10_field n x1 (d 227 x6.toNatClampNeg) d dl (fun r17 d18 l19 => vp_in x6 48 ∧ ((d18 229 x6.toNatClampNeg) ≤ r17 → vp_in x6 48 ∧ (r17 ≤ (d18 229 x6.toNatClampNeg) → b_X10_keeps_137 n Q K42 x1 x2 x3 x4 x5 x6 0 d18 l19) ∧ (¬ r17 ≤ (d18 229 x6.toNatClampNeg) → b_X10_keeps_137 n Q K42 x1 x2 x3 x4 x5 x6 1 d18 l19)) ∧ (¬ (d18 229 x6.toNatClampNeg) ≤ r17 → b_X10_keeps_137 n Q K42 x1 x2 x3 x4 x5 x6 (-1) d18 l19))
def b_X10_keeps_86 (n : Nat) (Q : Int32 → DD → LL → Prop) (K42 : Int32 → Int32 → Int32 → Int32 → Int32 → DD → LL → Prop) (x1 : Int32) (x2 : Int32) (x5 : Int32) (x6 : Int32) (xs0 : Int32) (d : DD) (dl : LL) : Prop := b_X10_keeps_90 n Q K42 x1 x2 xs0 1 x5 x6 d dl
def b_X10_keeps_81 (n : Nat) (Q : Int32 → DD → LL → Prop) (K42 : Int32 → Int32 → Int32 → Int32 → Int32 → DD → LL → Prop) (x1 : Int32) (x2 : Int32) (x5 : Int32) (x6 : Int32) (d : DD) (dl : LL) : Prop := b_X10_keeps_86 n Q K42 x1 x2 x5 x6 1 d dl
def b_X10_keeps_42 (n : Nat) (Q : Int32 → DD → LL → Prop) : Nat → Int32 → Int32 → Int32 → Int32 → Int32 → DD → LL → Prop
  | 0 => fun _ _ _ _ _ _ _ => False
  | k + 1 => fun x1 x2 x3 x4 x5 d dl => vp_in x2 6 ∧ ((d 226 x2.toNatClampNeg) ≤ x5 → (¬ x3 = 0 → Q 1 d dl) ∧ (x3 = 0 → (x4 = 0 → Q 0 d dl) ∧ (¬ x4 = 0 → Q 1 d dl))) ∧ (¬ (d 226 x2.toNatClampNeg) ≤ x5 → ∀ v13 : Int32, v13 = (((8 : Int32) * x2) + x5) → vp_in v13 48 ∧ ((d 231 v13.toNatClampNeg) = 0 → b_X10_keeps_90 n Q (b_X10_keeps_42 n Q k) x1 x2 x3 x4 x5 v13 d dl) ∧ (¬ (d 231 v13.toNatClampNeg) = 0 → (¬ x3 = 0 → b_X10_keeps_81 n Q (b_X10_keeps_42 n Q k) x1 x2 x5 v13 d dl) ∧ (x3 = 0 → (x4 = 0 → b_X10_keeps_86 n Q (b_X10_keeps_42 n Q k) x1 x2 x5 v13 0 d dl) ∧ (¬ x4 = 0 → b_X10_keeps_81 n Q (b_X10_keeps_42 n Q k) x1 x2 x5 v13 d dl))))
def F_X10_keeps (n : Nat) (x1 : Int32) (x2 : Int32) (d : DD) (dl : LL) (Q : Int32 → DD → LL → Prop) : Prop := F_X10_isCrew n x1 d dl (fun r1 d2 l3 => (r1 = 0 → Q (-1) d2 l3) ∧ (¬ r1 = 0 → (x2 < 0 → Q (-1) d2 l3) ∧ (¬ x2 < 0 → (x2 < (d2 211 2) → vp_in x1 6 ∧ (¬ (d2 224 x1.toNatClampNeg) = 0 → b_X10_keeps_42 n Q n x1 x2 0 1 0 d2 l3) ∧ ((d2 224 x1.toNatClampNeg) = 0 → Q (-3) d2 l3)) ∧ (¬ x2 < (d2 211 2) → Q (-1) d2 l3))))
set_option maxHeartbeats 4000000 in
set_option maxRecDepth 100000 in
theorem t_X10_keeps_175 {g : Ex} {x : Fx} {n : Nat} {Q : Int32 → DD → LL → Prop} (C0 : Cx g x cX10_keeps 9 (some .int) RX10 1 25) (hZ : Zi g x Q) {K42 : Int32 → Int32 → Int32 → Int32 → Int32 → DD → LL → Prop} (hK42 : ∀ (x1 : Int32) (x2 : Int32) (x3 : Int32) (x4 : Int32) (x5 : Int32) (d : DD) (dl : LL), K42 x1 x2 x3 x4 x5 d dl → FW g x 9 d dl 42 [(0, rf g 211), (1, .int x1), (2, .int x2), (3, .int x3), (4, .int x4), (5, .int x5)] []) : ∀ (x1 : Int32) (x2 : Int32) (x3 : Int32) (x5 : Int32) (d : DD) (dl : LL), b_X10_keeps_175 n Q K42 x1 x2 x3 x5 d dl → FW g x 9 d dl 175 [(0, rf g 211), (1, .int x1), (2, .int x2), (3, .int x3), (5, .int x5)] [] := by
  intro x1 x2 x3 x5 d dl hw
  refine f_iconst (v := 0) C0 dX10_keeps_175 rfl ?_
  refine f_istore (lo' := [(4, .int 0), (0, rf g 211), (1, .int x1), (2, .int x2), (3, .int x3), (5, .int x5)]) C0 dX10_keeps_176 (by decide) rfl ?_
  refine f_iinc (lo' := [(5, .int (x5 + 1)), (4, .int 0), (0, rf g 211), (1, .int x1), (2, .int x2), (3, .int x3)]) C0 dX10_keeps_178 5 rfl rfl (by decide) rfl ?_
  refine f_goto (tgt := 42) C0 dX10_keeps_181 (by decide) ?_
  refine f_sub [2, 3, 4, 5, 1, 0] rfl ?_
  exact hK42 _ _ _ _ _ _ _ hw
set_option maxHeartbeats 4000000 in
set_option maxRecDepth 100000 in
theorem t_X10_keeps_161 {g : Ex} {x : Fx} {n : Nat} {Q : Int32 → DD → LL → Prop} (C0 : Cx g x cX10_keeps 9 (some .int) RX10 1 25) (hZ : Zi g x Q) {K42 : Int32 → Int32 → Int32 → Int32 → Int32 → DD → LL → Prop} (hK42 : ∀ (x1 : Int32) (x2 : Int32) (x3 : Int32) (x4 : Int32) (x5 : Int32) (d : DD) (dl : LL), K42 x1 x2 x3 x4 x5 d dl → FW g x 9 d dl 42 [(0, rf g 211), (1, .int x1), (2, .int x2), (3, .int x3), (4, .int x4), (5, .int x5)] []) : ∀ (x1 : Int32) (x2 : Int32) (x3 : Int32) (x5 : Int32) (x6 : Int32) (xs0 : Int32) (d : DD) (dl : LL), b_X10_keeps_161 n Q K42 x1 x2 x3 x5 x6 xs0 d dl → FW g x 9 d dl 161 [(0, rf g 211), (1, .int x1), (2, .int x2), (3, .int x3), (5, .int x5), (6, .int x6)] [.int xs0] := by
  intro x1 x2 x3 x5 x6 xs0 d dl hw
  refine f_aload_n C0 dX10_keeps_161 rfl 0 rfl ⟨_, rfl⟩ ?_
  refine gf_10_26 (r := 230) C0 rfl kn_211 mw_912 dX10_keeps_162 ?_
  refine f_iload C0 dX10_keeps_165 5 rfl ?_
  obtain ⟨h27, hw⟩ := hw
  refine f_zald C0 kn_230 h27 dX10_keeps_167 ?_
  refine f_icmp_eq (tgt := 175) C0 dX10_keeps_168 (by decide) (fun h28 => ?_) (fun h28 => ?_)
  · have hw := hw.1 h28
    refine f_sub [0, 1, 2, 3, 4] rfl ?_
    exact t_X10_keeps_175 C0 hZ hK42 _ _ _ _ _ _ hw
  · have hw := hw.2 h28
    refine f_iconst (v := 1) C0 dX10_keeps_171 rfl ?_
    refine f_goto (tgt := 176) C0 dX10_keeps_172 (by decide) ?_
    refine f_istore (lo' := [(4, .int 1), (0, rf g 211), (1, .int x1), (2, .int x2), (3, .int x3), (5, .int x5), (6, .int x6)]) C0 dX10_keeps_176 (by decide) rfl ?_
    refine f_iinc (lo' := [(5, .int (x5 + 1)), (4, .int 1), (0, rf g 211), (1, .int x1), (2, .int x2), (3, .int x3), (6, .int x6)]) C0 dX10_keeps_178 5 rfl rfl (by decide) rfl ?_
    refine f_goto (tgt := 42) C0 dX10_keeps_181 (by decide) ?_
    refine f_sub [2, 3, 4, 5, 1, 0] rfl ?_
    exact hK42 _ _ _ _ _ _ _ hw
set_option maxHeartbeats 4000000 in
set_option maxRecDepth 100000 in
theorem t_X10_keeps_137 {g : Ex} {x : Fx} {n : Nat} {Q : Int32 → DD → LL → Prop} (C0 : Cx g x cX10_keeps 9 (some .int) RX10 1 25) (hZ : Zi g x Q) {K42 : Int32 → Int32 → Int32 → Int32 → Int32 → DD → LL → Prop} (hK42 : ∀ (x1 : Int32) (x2 : Int32) (x3 : Int32) (x4 : Int32) (x5 : Int32) (d : DD) (dl : LL), K42 x1 x2 x3 x4 x5 d dl → FW g x 9 d dl 42 [(0, rf g 211), (1, .int x1), (2, .int x2), (3, .int x3), (4, .int x4), (5, .int x5)] []) : ∀ (x1 : Int32) (x2 : Int32) (x3 : Int32) (x4 : Int32) (x5 : Int32) (x6 : Int32) (xs0 : Int32) (d : DD) (dl : LL), b_X10_keeps_137 n Q K42 x1 x2 x3 x4 x5 x6 xs0 d dl → FW g x 9 d dl 137 [(0, rf g 211), (1, .int x1), (2, .int x2), (3, .int x3), (4, .int x4), (5, .int x5), (6, .int x6)] [.int xs0] := by
  intro x1 x2 x3 x4 x5 x6 xs0 d dl hw
  refine f_istore (lo' := [(8, .int xs0), (0, rf g 211), (1, .int x1), (2, .int x2), (3, .int x3), (4, .int x4), (5, .int x5), (6, .int x6)]) C0 dX10_keeps_137 (by decide) rfl ?_
  refine f_iload C0 dX10_keeps_139 5 rfl ?_
  refine f_if_eq (tgt := 175) C0 dX10_keeps_141 (by decide) (fun h24 => ?_) (fun h24 => ?_)
  · have hw := hw.1 h24
    refine f_sub [1, 2, 3, 4, 6] rfl ?_
    exact t_X10_keeps_175 C0 hZ hK42 _ _ _ _ _ _ hw
  · have hw := hw.2 h24
    refine f_iload C0 dX10_keeps_144 0 rfl ?_
    refine f_aload_n C0 dX10_keeps_146 rfl 1 rfl ⟨_, rfl⟩ ?_
    refine gf_10_24 (r := 228) C0 rfl kn_211 mw_910 dX10_keeps_147 ?_
    refine f_iload C0 dX10_keeps_150 7 rfl ?_
    obtain ⟨h25, hw⟩ := hw
    refine f_iald C0 kn_228 h25 dX10_keeps_152 ?_
    refine f_icmp_ne (tgt := 160) C0 dX10_keeps_153 (by decide) (fun h26 => ?_) (fun h26 => ?_)
    · have hw := hw.1 h26
      refine f_iconst (v := 0) C0 dX10_keeps_160 rfl ?_
      refine f_sub [1, 2, 3, 4, 6, 7] rfl ?_
      exact t_X10_keeps_161 C0 hZ hK42 _ _ _ _ _ _ _ _ hw
    · have hw := hw.2 h26
      refine f_iconst (v := 1) C0 dX10_keeps_156 rfl ?_
      refine f_goto (tgt := 161) C0 dX10_keeps_157 (by decide) ?_
      refine f_sub [1, 2, 3, 4, 6, 7] rfl ?_
      exact t_X10_keeps_161 C0 hZ hK42 _ _ _ _ _ _ _ _ hw
set_option maxHeartbeats 4000000 in
set_option maxRecDepth 100000 in
theorem t_X10_keeps_90 {g : Ex} {x : Fx} {n : Nat} {Q : Int32 → DD → LL → Prop} (C0 : Cx g x cX10_keeps 9 (some .int) RX10 1 25) (hZ : Zi g x Q) {K42 : Int32 → Int32 → Int32 → Int32 → Int32 → DD → LL → Prop} (hK42 : ∀ (x1 : Int32) (x2 : Int32) (x3 : Int32) (x4 : Int32) (x5 : Int32) (d : DD) (dl : LL), K42 x1 x2 x3 x4 x5 d dl → FW g x 9 d dl 42 [(0, rf g 211), (1, .int x1), (2, .int x2), (3, .int x3), (4, .int x4), (5, .int x5)] []) : ∀ (x1 : Int32) (x2 : Int32) (x3 : Int32) (x4 : Int32) (x5 : Int32) (x6 : Int32) (d : DD) (dl : LL), b_X10_keeps_90 n Q K42 x1 x2 x3 x4 x5 x6 d dl → FW g x 9 d dl 90 [(0, rf g 211), (1, .int x1), (2, .int x2), (3, .int x3), (4, .int x4), (5, .int x5), (6, .int x6)] [] := by
  intro x1 x2 x3 x4 x5 x6 d dl hw
  refine f_aload_n C0 dX10_keeps_90 rfl 0 rfl ⟨_, rfl⟩ ?_
  refine f_iload_n C0 dX10_keeps_91 rfl 1 rfl ?_
  refine f_aload_n C0 dX10_keeps_92 rfl 0 rfl ⟨_, rfl⟩ ?_
  refine gf_10_23 (r := 227) C0 rfl kn_211 mw_909 dX10_keeps_93 ?_
  refine f_iload C0 dX10_keeps_96 6 rfl ?_
  obtain ⟨h16, hw⟩ := hw
  refine f_iald C0 kn_227 h16 dX10_keeps_98 ?_
  refine f_callVi (As := [.int x1, .int (d 227 x6.toNatClampNeg)]) (rest := []) C0 (m_X10_field hw) cw_X10_213 kn_211 (by decide) rfl rfl ⟨(Nat.le_of_ble_eq_true rfl), (Nat.le_of_ble_eq_true rfl)⟩ rfl rfl (Nat.le_of_ble_eq_true rfl) dX10_keeps_99 ?_
  intro r17 d18 l19 hw
  refine f_istore (lo' := [(7, .int r17), (0, rf g 211), (1, .int x1), (2, .int x2), (3, .int x3), (4, .int x4), (5, .int x5), (6, .int x6)]) C0 dX10_keeps_102 (by decide) rfl ?_
  refine f_iload C0 dX10_keeps_104 0 rfl ?_
  refine f_aload_n C0 dX10_keeps_106 rfl 1 rfl ⟨_, rfl⟩ ?_
  refine gf_10_25 (r := 229) C0 rfl kn_211 mw_911 dX10_keeps_107 ?_
  refine f_iload C0 dX10_keeps_110 7 rfl ?_
  obtain ⟨h20, hw⟩ := hw
  refine f_iald C0 kn_229 h20 dX10_keeps_112 ?_
  refine f_icmp_ge (tgt := 120) C0 dX10_keeps_113 (by decide) (fun h21 => ?_) (fun h21 => ?_)
  · have hw := hw.1 h21
    refine f_iload C0 dX10_keeps_120 0 rfl ?_
    refine f_aload_n C0 dX10_keeps_122 rfl 1 rfl ⟨_, rfl⟩ ?_
    refine gf_10_25 (r := 229) C0 rfl kn_211 mw_911 dX10_keeps_123 ?_
    refine f_iload C0 dX10_keeps_126 7 rfl ?_
    obtain ⟨h22, hw⟩ := hw
    refine f_iald C0 kn_229 h22 dX10_keeps_128 ?_
    refine f_icmp_le (tgt := 136) C0 dX10_keeps_129 (by decide) (fun h23 => ?_) (fun h23 => ?_)
    · have hw := hw.1 h23
      refine f_iconst (v := 0) C0 dX10_keeps_136 rfl ?_
      refine f_sub [1, 2, 3, 4, 5, 6, 7] rfl ?_
      exact t_X10_keeps_137 C0 hZ hK42 _ _ _ _ _ _ _ _ _ hw
    · have hw := hw.2 h23
      refine f_iconst (v := 1) C0 dX10_keeps_132 rfl ?_
      refine f_goto (tgt := 137) C0 dX10_keeps_133 (by decide) ?_
      refine f_sub [1, 2, 3, 4, 5, 6, 7] rfl ?_
      exact t_X10_keeps_137 C0 hZ hK42 _ _ _ _ _ _ _ _ _ hw
  · have hw := hw.2 h21
    refine f_iconst (v := (-1)) C0 dX10_keeps_116 rfl ?_
    refine f_goto (tgt := 137) C0 dX10_keeps_117 (by decide) ?_
    refine f_sub [1, 2, 3, 4, 5, 6, 7] rfl ?_
    exact t_X10_keeps_137 C0 hZ hK42 _ _ _ _ _ _ _ _ _ hw
set_option maxHeartbeats 4000000 in
set_option maxRecDepth 100000 in
theorem t_X10_keeps_86 {g : Ex} {x : Fx} {n : Nat} {Q : Int32 → DD → LL → Prop} (C0 : Cx g x cX10_keeps 9 (some .int) RX10 1 25) (hZ : Zi g x Q) {K42 : Int32 → Int32 → Int32 → Int32 → Int32 → DD → LL → Prop} (hK42 : ∀ (x1 : Int32) (x2 : Int32) (x3 : Int32) (x4 : Int32) (x5 : Int32) (d : DD) (dl : LL), K42 x1 x2 x3 x4 x5 d dl → FW g x 9 d dl 42 [(0, rf g 211), (1, .int x1), (2, .int x2), (3, .int x3), (4, .int x4), (5, .int x5)] []) : ∀ (x1 : Int32) (x2 : Int32) (x5 : Int32) (x6 : Int32) (xs0 : Int32) (d : DD) (dl : LL), b_X10_keeps_86 n Q K42 x1 x2 x5 x6 xs0 d dl → FW g x 9 d dl 86 [(0, rf g 211), (1, .int x1), (2, .int x2), (5, .int x5), (6, .int x6)] [.int xs0] := by
  intro x1 x2 x5 x6 xs0 d dl hw
  refine f_istore_n (lo' := [(3, .int xs0), (0, rf g 211), (1, .int x1), (2, .int x2), (5, .int x5), (6, .int x6)]) C0 dX10_keeps_86 rfl (by decide) rfl ?_
  refine f_iconst (v := 1) C0 dX10_keeps_87 rfl ?_
  refine f_istore (lo' := [(4, .int 1), (3, .int xs0), (0, rf g 211), (1, .int x1), (2, .int x2), (5, .int x5), (6, .int x6)]) C0 dX10_keeps_88 (by decide) rfl ?_
  refine f_sub [2, 3, 4, 1, 0, 5, 6] rfl ?_
  exact t_X10_keeps_90 C0 hZ hK42 _ _ _ _ _ _ _ _ hw
set_option maxHeartbeats 4000000 in
set_option maxRecDepth 100000 in
theorem t_X10_keeps_81 {g : Ex} {x : Fx} {n : Nat} {Q : Int32 → DD → LL → Prop} (C0 : Cx g x cX10_keeps 9 (some .int) RX10 1 25) (hZ : Zi g x Q) {K42 : Int32 → Int32 → Int32 → Int32 → Int32 → DD → LL → Prop} (hK42 : ∀ (x1 : Int32) (x2 : Int32) (x3 : Int32) (x4 : Int32) (x5 : Int32) (d : DD) (dl : LL), K42 x1 x2 x3 x4 x5 d dl → FW g x 9 d dl 42 [(0, rf g 211), (1, .int x1), (2, .int x2), (3, .int x3), (4, .int x4), (5, .int x5)] []) : ∀ (x1 : Int32) (x2 : Int32) (x5 : Int32) (x6 : Int32) (d : DD) (dl : LL), b_X10_keeps_81 n Q K42 x1 x2 x5 x6 d dl → FW g x 9 d dl 81 [(0, rf g 211), (1, .int x1), (2, .int x2), (5, .int x5), (6, .int x6)] [] := by
  intro x1 x2 x5 x6 d dl hw
  refine f_iconst (v := 1) C0 dX10_keeps_81 rfl ?_
  refine f_goto (tgt := 86) C0 dX10_keeps_82 (by decide) ?_
  exact t_X10_keeps_86 C0 hZ hK42 _ _ _ _ _ _ _ hw
set_option maxHeartbeats 4000000 in
set_option maxRecDepth 100000 in
theorem t_X10_keeps_42 {g : Ex} {x : Fx} {n : Nat} {Q : Int32 → DD → LL → Prop} (C0 : Cx g x cX10_keeps 9 (some .int) RX10 1 25) (hZ : Zi g x Q) : ∀ (j : Nat) (x1 : Int32) (x2 : Int32) (x3 : Int32) (x4 : Int32) (x5 : Int32) (d : DD) (dl : LL), b_X10_keeps_42 n Q j x1 x2 x3 x4 x5 d dl → FW g x 9 d dl 42 [(0, rf g 211), (1, .int x1), (2, .int x2), (3, .int x3), (4, .int x4), (5, .int x5)] [] := by
  intro j
  induction j with
  | zero =>
    intro x1 x2 x3 x4 x5 d dl hw
    exact hw.elim
  | succ j hK42 =>
    intro x1 x2 x3 x4 x5 d dl hw
    refine f_iload C0 dX10_keeps_42 5 rfl ?_
    refine f_aload_n C0 dX10_keeps_44 rfl 0 rfl ⟨_, rfl⟩ ?_
    refine gf_10_22 (r := 226) C0 rfl kn_211 mw_908 dX10_keeps_45 ?_
    refine f_iload_n C0 dX10_keeps_48 rfl 2 rfl ?_
    obtain ⟨h9, hw⟩ := hw
    refine f_iald C0 kn_226 h9 dX10_keeps_49 ?_
    refine f_icmp_ge (tgt := 184) C0 dX10_keeps_50 (by decide) (fun h10 => ?_) (fun h10 => ?_)
    · have hw := hw.1 h10
      refine f_iload_n C0 dX10_keeps_184 rfl 3 rfl ?_
      refine f_if_ne (tgt := 193) C0 dX10_keeps_185 (by decide) (fun h11 => ?_) (fun h11 => ?_)
      · have hw := hw.1 h11
        refine f_iconst (v := 1) C0 dX10_keeps_193 rfl ?_
        refine f_goto (tgt := 198) C0 dX10_keeps_194 (by decide) ?_
        exact f_iret C0 hZ hw dX10_keeps_198
      · have hw := hw.2 h11
        refine f_iload C0 dX10_keeps_188 4 rfl ?_
        refine f_if_eq (tgt := 197) C0 dX10_keeps_190 (by decide) (fun h12 => ?_) (fun h12 => ?_)
        · have hw := hw.1 h12
          refine f_iconst (v := 0) C0 dX10_keeps_197 rfl ?_
          exact f_iret C0 hZ hw dX10_keeps_198
        · have hw := hw.2 h12
          refine f_iconst (v := 1) C0 dX10_keeps_193 rfl ?_
          refine f_goto (tgt := 198) C0 dX10_keeps_194 (by decide) ?_
          exact f_iret C0 hZ hw dX10_keeps_198
    · have hw := hw.2 h10
      refine f_bipush (v := 8) C0 dX10_keeps_53 rfl ?_
      refine f_iload_n C0 dX10_keeps_55 rfl 2 rfl ?_
      refine f_imul C0 dX10_keeps_56 ?_
      refine f_iload C0 dX10_keeps_57 5 rfl ?_
      refine f_iadd C0 dX10_keeps_59 ?_
      refine f_topi (fun v13 e13 => ?_)
      have hw := hw v13 e13
      refine f_istore (lo' := [(6, .int v13), (0, rf g 211), (1, .int x1), (2, .int x2), (3, .int x3), (4, .int x4), (5, .int x5)]) C0 dX10_keeps_60 (by decide) rfl ?_
      refine f_aload_n C0 dX10_keeps_62 rfl 1 rfl ⟨_, rfl⟩ ?_
      refine gf_10_27 (r := 231) C0 rfl kn_211 mw_913 dX10_keeps_63 ?_
      refine f_iload C0 dX10_keeps_66 0 rfl ?_
      obtain ⟨h14, hw⟩ := hw
      refine f_zald C0 kn_231 h14 dX10_keeps_68 ?_
      refine f_if_eq (tgt := 90) C0 dX10_keeps_69 (by decide) (fun h15 => ?_) (fun h15 => ?_)
      · have hw := hw.1 h15
        refine f_sub [1, 2, 3, 4, 5, 6, 0] rfl ?_
        exact t_X10_keeps_90 C0 hZ hK42 _ _ _ _ _ _ _ _ hw
      · have hw := hw.2 h15
        refine f_iload_n C0 dX10_keeps_72 rfl 4 rfl ?_
        refine f_if_ne (tgt := 81) C0 dX10_keeps_73 (by decide) (fun h29 => ?_) (fun h29 => ?_)
        · have hw := hw.1 h29
          refine f_sub [1, 2, 3, 6, 0] rfl ?_
          exact t_X10_keeps_81 C0 hZ hK42 _ _ _ _ _ _ hw
        · have hw := hw.2 h29
          refine f_iload C0 dX10_keeps_76 5 rfl ?_
          refine f_if_eq (tgt := 85) C0 dX10_keeps_78 (by decide) (fun h30 => ?_) (fun h30 => ?_)
          · have hw := hw.1 h30
            refine f_iconst (v := 0) C0 dX10_keeps_85 rfl ?_
            refine f_sub [1, 2, 3, 6, 0] rfl ?_
            exact t_X10_keeps_86 C0 hZ hK42 _ _ _ _ _ _ _ hw
          · have hw := hw.2 h30
            refine f_sub [1, 2, 3, 6, 0] rfl ?_
            exact t_X10_keeps_81 C0 hZ hK42 _ _ _ _ _ _ hw
set_option maxHeartbeats 4000000 in
set_option maxRecDepth 100000 in
theorem m_X10_keeps {g : Ex} {n : Nat} {x1 : Int32} {x2 : Int32} {d : DD} {dl : LL} {Q : Int32 → DD → LL → Prop} (hw : F_X10_keeps n x1 x2 d dl Q) : Mi g yX10_keeps cX10_keeps 9 (some .int) 1 25 [rf g 211, .int x1, .int x2] d dl Q := by
  refine Mi.of (by decide) (Nat.le_of_ble_eq_true rfl) (fun x C0 hZ => ?_)
  have C0 : Cx g x cX10_keeps 9 (some .int) RX10 1 25 := C0
  refine f_aload_n C0 dX10_keeps_0 rfl 0 rfl ⟨_, rfl⟩ ?_
  refine f_iload_n C0 dX10_keeps_1 rfl 1 rfl ?_
  refine f_callVi (As := [.int x1]) (rest := []) C0 (m_X10_isCrew hw) cw_X10_135 kn_211 (by decide) rfl rfl ⟨(Nat.le_of_ble_eq_true rfl), (Nat.le_of_ble_eq_true rfl)⟩ rfl rfl (Nat.le_of_ble_eq_true rfl) dX10_keeps_2 ?_
  intro r1 d2 l3 hw
  refine f_if_eq (tgt := 20) C0 dX10_keeps_5 (by decide) (fun h4 => ?_) (fun h4 => ?_)
  · have hw := hw.1 h4
    refine f_iconst (v := (-1)) C0 dX10_keeps_20 rfl ?_
    exact f_iret C0 hZ hw dX10_keeps_21
  · have hw := hw.2 h4
    refine f_iload_n C0 dX10_keeps_8 rfl 2 rfl ?_
    refine f_if_lt (tgt := 20) C0 dX10_keeps_9 (by decide) (fun h5 => ?_) (fun h5 => ?_)
    · have hw := hw.1 h5
      refine f_iconst (v := (-1)) C0 dX10_keeps_20 rfl ?_
      exact f_iret C0 hZ hw dX10_keeps_21
    · have hw := hw.2 h5
      refine f_iload_n C0 dX10_keeps_12 rfl 2 rfl ?_
      refine f_aload_n C0 dX10_keeps_13 rfl 0 rfl ⟨_, rfl⟩ ?_
      refine gf_10_2 C0 kn_211 mw_888 dX10_keeps_14 ?_
      refine f_icmp_lt (tgt := 22) C0 dX10_keeps_17 (by decide) (fun h6 => ?_) (fun h6 => ?_)
      · have hw := hw.1 h6
        refine f_aload_n C0 dX10_keeps_22 rfl 0 rfl ⟨_, rfl⟩ ?_
        refine gf_10_20 (r := 224) C0 rfl kn_211 mw_906 dX10_keeps_23 ?_
        refine f_iload_n C0 dX10_keeps_26 rfl 1 rfl ?_
        obtain ⟨h7, hw⟩ := hw
        refine f_zald C0 kn_224 h7 dX10_keeps_27 ?_
        refine f_if_ne (tgt := 34) C0 dX10_keeps_28 (by decide) (fun h8 => ?_) (fun h8 => ?_)
        · have hw := hw.1 h8
          refine f_iconst (v := 0) C0 dX10_keeps_34 rfl ?_
          refine f_istore_n (lo' := [(3, .int 0), (0, rf g 211), (1, .int x1), (2, .int x2)]) C0 dX10_keeps_35 rfl (by decide) rfl ?_
          refine f_iconst (v := 1) C0 dX10_keeps_36 rfl ?_
          refine f_istore (lo' := [(4, .int 1), (3, .int 0), (0, rf g 211), (1, .int x1), (2, .int x2)]) C0 dX10_keeps_37 (by decide) rfl ?_
          refine f_iconst (v := 0) C0 dX10_keeps_39 rfl ?_
          refine f_istore (lo' := [(5, .int 0), (4, .int 1), (3, .int 0), (0, rf g 211), (1, .int x1), (2, .int x2)]) C0 dX10_keeps_40 (by decide) rfl ?_
          refine f_sub [3, 4, 5, 2, 1, 0] rfl ?_
          exact t_X10_keeps_42 C0 hZ n _ _ _ _ _ _ _ hw
        · have hw := hw.2 h8
          refine f_bipush (v := (-3)) C0 dX10_keeps_31 rfl ?_
          exact f_iret C0 hZ hw dX10_keeps_33
      · have hw := hw.2 h6
        refine f_iconst (v := (-1)) C0 dX10_keeps_20 rfl ?_
        exact f_iret C0 hZ hw dX10_keeps_21
def F_X10_rest (n : Nat) (x1 : Int32) (d : DD) (dl : LL) (Q : Int32 → DD → LL → Prop) : Prop := (x1 < 0 → Q (-2) d dl) ∧ (¬ x1 < 0 → (x1 ≤ 99 → ∀ v3 : Int32, v3 = (d 211 5) → ∀ d4 : DD, d4 = u2 d 211 5 x1 → Q v3 d4 dl) ∧ (¬ x1 ≤ 99 → Q (-2) d dl))
set_option maxHeartbeats 4000000 in
set_option maxRecDepth 100000 in
theorem m_X10_rest {g : Ex} {n : Nat} {x1 : Int32} {d : DD} {dl : LL} {Q : Int32 → DD → LL → Prop} (hw : F_X10_rest n x1 d dl Q) : Mi g yX10_rest cX10_rest 3 (some .int) 0 0 [rf g 211, .int x1] d dl Q := by
  refine Mi.of (by decide) (Nat.le_of_ble_eq_true rfl) (fun x C0 hZ => ?_)
  have C0 : Cx g x cX10_rest 3 (some .int) RX10 0 0 := C0
  refine f_iload_n C0 dX10_rest_0 rfl 1 rfl ?_
  refine f_if_lt (tgt := 10) C0 dX10_rest_1 (by decide) (fun h1 => ?_) (fun h1 => ?_)
  · have hw := hw.1 h1
    refine f_bipush (v := (-2)) C0 dX10_rest_10 rfl ?_
    exact f_iret C0 hZ hw dX10_rest_12
  · have hw := hw.2 h1
    refine f_iload_n C0 dX10_rest_4 rfl 1 rfl ?_
    refine f_bipush (v := 99) C0 dX10_rest_5 rfl ?_
    refine f_icmp_le (tgt := 13) C0 dX10_rest_7 (by decide) (fun h2 => ?_) (fun h2 => ?_)
    · have hw := hw.1 h2
      refine f_aload_n C0 dX10_rest_13 rfl 0 rfl ⟨_, rfl⟩ ?_
      refine gf_10_5 C0 kn_211 mw_891 dX10_rest_14 ?_
      refine f_topi (fun v3 e3 => ?_)
      have hw := hw v3 e3
      refine f_istore_n (lo' := [(2, .int v3), (0, rf g 211), (1, .int x1)]) C0 dX10_rest_17 rfl (by decide) rfl ?_
      refine f_aload_n C0 dX10_rest_18 rfl 1 rfl ⟨_, rfl⟩ ?_
      refine f_iload_n C0 dX10_rest_19 rfl 2 rfl ?_
      refine pf_10_5 C0 kn_211 mw_891 dX10_rest_20 (fun d4 ed4 => ?_)
      have hw := hw d4 ed4
      refine f_iload_n C0 dX10_rest_23 rfl 0 rfl ?_
      exact f_iret C0 hZ hw dX10_rest_24
    · have hw := hw.2 h2
      refine f_bipush (v := (-2)) C0 dX10_rest_10 rfl ?_
      exact f_iret C0 hZ hw dX10_rest_12
def b_X10_haveCommon_9 (n : Nat) (Q : Int32 → DD → LL → Prop) : Nat → Int32 → Int32 → Int32 → DD → LL → Prop
  | 0 => fun _ _ _ _ _ => False
  | k + 1 => fun x1 x2 x3 d dl => vp_in x1 6 ∧ ((d 220 x1.toNatClampNeg) ≤ x3 → Q 0 d dl) ∧ (¬ (d 220 x1.toNatClampNeg) ≤ x3 → vp_in (((8 : Int32) * x1) + x3) 48 ∧ F_X10_isMember n x2 (d 222 (((8 : Int32) * x1) + x3).toNatClampNeg) d dl (fun r5 d6 l7 => (r5 = 0 → (b_X10_haveCommon_9 n Q k) x1 x2 (x3 + 1) d6 l7) ∧ (¬ r5 = 0 → Q 1 d6 l7)))
def F_X10_haveCommon (n : Nat) (x1 : Int32) (x2 : Int32) (d : DD) (dl : LL) (Q : Int32 → DD → LL → Prop) : Prop := (¬ x1 = x2 → b_X10_haveCommon_9 n Q n x1 x2 0 d dl) ∧ (x1 = x2 → Q 1 d dl)
set_option maxHeartbeats 4000000 in
set_option maxRecDepth 100000 in
theorem t_X10_haveCommon_9 {g : Ex} {x : Fx} {n : Nat} {Q : Int32 → DD → LL → Prop} (C0 : Cx g x cX10_haveCommon 4 (some .boolean) RX10 1 23) (hZ : Zi g x Q) : ∀ (j : Nat) (x1 : Int32) (x2 : Int32) (x3 : Int32) (d : DD) (dl : LL), b_X10_haveCommon_9 n Q j x1 x2 x3 d dl → FW g x 4 d dl 9 [(0, rf g 211), (1, .int x1), (2, .int x2), (3, .int x3)] [] := by
  intro j
  induction j with
  | zero =>
    intro x1 x2 x3 d dl hw
    exact hw.elim
  | succ j hK9 =>
    intro x1 x2 x3 d dl hw
    refine f_iload_n C0 dX10_haveCommon_9 rfl 3 rfl ?_
    refine f_aload_n C0 dX10_haveCommon_10 rfl 0 rfl ⟨_, rfl⟩ ?_
    refine gf_10_16 (r := 220) C0 rfl kn_211 mw_902 dX10_haveCommon_11 ?_
    refine f_iload_n C0 dX10_haveCommon_14 rfl 1 rfl ?_
    obtain ⟨h2, hw⟩ := hw
    refine f_iald C0 kn_220 h2 dX10_haveCommon_15 ?_
    refine f_icmp_ge (tgt := 46) C0 dX10_haveCommon_16 (by decide) (fun h3 => ?_) (fun h3 => ?_)
    · have hw := hw.1 h3
      refine f_iconst (v := 0) C0 dX10_haveCommon_46 rfl ?_
      exact f_zret C0 hZ (by decide) hw dX10_haveCommon_47
    · have hw := hw.2 h3
      refine f_aload_n C0 dX10_haveCommon_19 rfl 0 rfl ⟨_, rfl⟩ ?_
      refine f_iload_n C0 dX10_haveCommon_20 rfl 2 rfl ?_
      refine f_aload_n C0 dX10_haveCommon_21 rfl 0 rfl ⟨_, rfl⟩ ?_
      refine gf_10_18 (r := 222) C0 rfl kn_211 mw_904 dX10_haveCommon_22 ?_
      refine f_bipush (v := 8) C0 dX10_haveCommon_25 rfl ?_
      refine f_iload_n C0 dX10_haveCommon_27 rfl 1 rfl ?_
      refine f_imul C0 dX10_haveCommon_28 ?_
      refine f_iload_n C0 dX10_haveCommon_29 rfl 3 rfl ?_
      refine f_iadd C0 dX10_haveCommon_30 ?_
      obtain ⟨h4, hw⟩ := hw
      refine f_iald C0 kn_222 h4 dX10_haveCommon_31 ?_
      refine f_callVi (As := [.int x2, .int (d 222 (((8 : Int32) * x1) + x3).toNatClampNeg)]) (rest := []) C0 (m_X10_isMember hw) cw_X10_138 kn_211 (by decide) rfl rfl ⟨(Nat.le_of_ble_eq_true rfl), (Nat.le_of_ble_eq_true rfl)⟩ rfl rfl (Nat.le_of_ble_eq_true rfl) dX10_haveCommon_32 ?_
      intro r5 d6 l7 hw
      refine f_if_eq (tgt := 40) C0 dX10_haveCommon_35 (by decide) (fun h8 => ?_) (fun h8 => ?_)
      · have hw := hw.1 h8
        refine f_iinc (lo' := [(3, .int (x3 + 1)), (0, rf g 211), (1, .int x1), (2, .int x2)]) C0 dX10_haveCommon_40 3 rfl rfl (by decide) rfl ?_
        refine f_goto (tgt := 9) C0 dX10_haveCommon_43 (by decide) ?_
        refine f_sub [1, 2, 3, 0] rfl ?_
        exact hK9 _ _ _ _ _ hw
      · have hw := hw.2 h8
        refine f_iconst (v := 1) C0 dX10_haveCommon_38 rfl ?_
        exact f_zret C0 hZ (by decide) hw dX10_haveCommon_39
set_option maxHeartbeats 4000000 in
set_option maxRecDepth 100000 in
theorem m_X10_haveCommon {g : Ex} {n : Nat} {x1 : Int32} {x2 : Int32} {d : DD} {dl : LL} {Q : Int32 → DD → LL → Prop} (hw : F_X10_haveCommon n x1 x2 d dl Q) : Mi g yX10_haveCommon cX10_haveCommon 4 (some .boolean) 1 23 [rf g 211, .int x1, .int x2] d dl Q := by
  refine Mi.of (by decide) (Nat.le_of_ble_eq_true rfl) (fun x C0 hZ => ?_)
  have C0 : Cx g x cX10_haveCommon 4 (some .boolean) RX10 1 23 := C0
  refine f_iload_n C0 dX10_haveCommon_0 rfl 1 rfl ?_
  refine f_iload_n C0 dX10_haveCommon_1 rfl 2 rfl ?_
  refine f_icmp_ne (tgt := 7) C0 dX10_haveCommon_2 (by decide) (fun h1 => ?_) (fun h1 => ?_)
  · have hw := hw.1 h1
    refine f_iconst (v := 0) C0 dX10_haveCommon_7 rfl ?_
    refine f_istore_n (lo' := [(3, .int 0), (0, rf g 211), (1, .int x1), (2, .int x2)]) C0 dX10_haveCommon_8 rfl (by decide) rfl ?_
    refine f_sub [1, 2, 3, 0] rfl ?_
    exact t_X10_haveCommon_9 C0 hZ n _ _ _ _ _ hw
  · have hw := hw.2 h1
    refine f_iconst (v := 1) C0 dX10_haveCommon_5 rfl ?_
    exact f_zret C0 hZ (by decide) hw dX10_haveCommon_6
def b_X10_lane_34 (n : Nat) (Q : Int32 → DD → LL → Prop) : Nat → Int32 → Int32 → Int32 → DD → LL → Prop
  | 0 => fun _ _ _ _ _ => False
  | k + 1 => fun x1 x2 x3 d dl => (4 ≤ x3 → vp_in x2 4 ∧ ∀ d11 : DD, d11 = u2 d 239 x2.toNatClampNeg x1 → ∀ d12 : DD, d12 = u2 d11 211 6 ((d11 211 6) + 1) → Q ((d11 211 6) + 1) d12 dl) ∧ (¬ 4 ≤ x3 → vp_in x3 4 ∧ ((d 239 x3.toNatClampNeg) = (-1) → (b_X10_lane_34 n Q k) x1 x2 (x3 + 1) d dl) ∧ (¬ (d 239 x3.toNatClampNeg) = (-1) → vp_in x3 4 ∧ F_X10_haveCommon n x1 (d 239 x3.toNatClampNeg) d dl (fun r16 d17 l18 => (r16 = 0 → (b_X10_lane_34 n Q k) x1 x2 (x3 + 1) d17 l18) ∧ (¬ r16 = 0 → Q (-3) d17 l18))))
def F_X10_lane (n : Nat) (x1 : Int32) (x2 : Int32) (d : DD) (dl : LL) (Q : Int32 → DD → LL → Prop) : Prop := F_X10_isCrew n x1 d dl (fun r1 d2 l3 => (r1 = 0 → Q (-1) d2 l3) ∧ (¬ r1 = 0 → (x2 < 0 → Q (-1) d2 l3) ∧ (¬ x2 < 0 → (x2 ≤ 3 → vp_in x2 4 ∧ ((d2 239 x2.toNatClampNeg) = (-1) → b_X10_lane_34 n Q n x1 x2 0 d2 l3) ∧ (¬ (d2 239 x2.toNatClampNeg) = (-1) → Q (-3) d2 l3)) ∧ (¬ x2 ≤ 3 → Q (-1) d2 l3))))
set_option maxHeartbeats 4000000 in
set_option maxRecDepth 100000 in
theorem t_X10_lane_34 {g : Ex} {x : Fx} {n : Nat} {Q : Int32 → DD → LL → Prop} (C0 : Cx g x cX10_lane 4 (some .int) RX10 2 46) (hZ : Zi g x Q) : ∀ (j : Nat) (x1 : Int32) (x2 : Int32) (x3 : Int32) (d : DD) (dl : LL), b_X10_lane_34 n Q j x1 x2 x3 d dl → FW g x 4 d dl 34 [(0, rf g 211), (1, .int x1), (2, .int x2), (3, .int x3)] [] := by
  intro j
  induction j with
  | zero =>
    intro x1 x2 x3 d dl hw
    exact hw.elim
  | succ j hK34 =>
    intro x1 x2 x3 d dl hw
    refine f_iload_n C0 dX10_lane_34 rfl 3 rfl ?_
    refine f_iconst (v := 4) C0 dX10_lane_35 rfl ?_
    refine f_icmp_ge (tgt := 72) C0 dX10_lane_36 (by decide) (fun h9 => ?_) (fun h9 => ?_)
    · have hw := hw.1 h9
      refine f_aload_n C0 dX10_lane_72 rfl 0 rfl ⟨_, rfl⟩ ?_
      refine gf_10_35 (r := 239) C0 rfl kn_211 mw_921 dX10_lane_73 ?_
      refine f_iload_n C0 dX10_lane_76 rfl 2 rfl ?_
      refine f_iload_n C0 dX10_lane_77 rfl 1 rfl ?_
      obtain ⟨h10, hw⟩ := hw
      refine f_iast C0 kn_239 h10 dX10_lane_78 (fun d11 ed11 => ?_)
      have hw := hw d11 ed11
      refine f_aload_n C0 dX10_lane_79 rfl 0 rfl ⟨_, rfl⟩ ?_
      refine f_dup C0 dX10_lane_80 rfl ?_
      refine gf_10_6 C0 kn_211 mw_892 dX10_lane_81 ?_
      refine f_iconst (v := 1) C0 dX10_lane_84 rfl ?_
      refine f_iadd C0 dX10_lane_85 ?_
      refine f_dup_x1 C0 dX10_lane_86 rfl rfl ?_
      refine pf_10_6 C0 kn_211 mw_892 dX10_lane_87 (fun d12 ed12 => ?_)
      have hw := hw d12 ed12
      exact f_iret C0 hZ hw dX10_lane_90
    · have hw := hw.2 h9
      refine f_aload_n C0 dX10_lane_39 rfl 0 rfl ⟨_, rfl⟩ ?_
      refine gf_10_35 (r := 239) C0 rfl kn_211 mw_921 dX10_lane_40 ?_
      refine f_iload_n C0 dX10_lane_43 rfl 3 rfl ?_
      obtain ⟨h13, hw⟩ := hw
      refine f_iald C0 kn_239 h13 dX10_lane_44 ?_
      refine f_iconst (v := (-1)) C0 dX10_lane_45 rfl ?_
      refine f_icmp_eq (tgt := 66) C0 dX10_lane_46 (by decide) (fun h14 => ?_) (fun h14 => ?_)
      · have hw := hw.1 h14
        refine f_iinc (lo' := [(3, .int (x3 + 1)), (0, rf g 211), (1, .int x1), (2, .int x2)]) C0 dX10_lane_66 3 rfl rfl (by decide) rfl ?_
        refine f_goto (tgt := 34) C0 dX10_lane_69 (by decide) ?_
        refine f_sub [1, 2, 3, 0] rfl ?_
        exact hK34 _ _ _ _ _ hw
      · have hw := hw.2 h14
        refine f_aload_n C0 dX10_lane_49 rfl 0 rfl ⟨_, rfl⟩ ?_
        refine f_iload_n C0 dX10_lane_50 rfl 1 rfl ?_
        refine f_aload_n C0 dX10_lane_51 rfl 0 rfl ⟨_, rfl⟩ ?_
        refine gf_10_35 (r := 239) C0 rfl kn_211 mw_921 dX10_lane_52 ?_
        refine f_iload_n C0 dX10_lane_55 rfl 3 rfl ?_
        obtain ⟨h15, hw⟩ := hw
        refine f_iald C0 kn_239 h15 dX10_lane_56 ?_
        refine f_callVi (As := [.int x1, .int (d 239 x3.toNatClampNeg)]) (rest := []) C0 (m_X10_haveCommon hw) cw_X10_217 kn_211 (by decide) rfl rfl ⟨(Nat.le_of_ble_eq_true rfl), (Nat.le_of_ble_eq_true rfl)⟩ rfl rfl (Nat.le_of_ble_eq_true rfl) dX10_lane_57 ?_
        intro r16 d17 l18 hw
        refine f_if_eq (tgt := 66) C0 dX10_lane_60 (by decide) (fun h19 => ?_) (fun h19 => ?_)
        · have hw := hw.1 h19
          refine f_iinc (lo' := [(3, .int (x3 + 1)), (0, rf g 211), (1, .int x1), (2, .int x2)]) C0 dX10_lane_66 3 rfl rfl (by decide) rfl ?_
          refine f_goto (tgt := 34) C0 dX10_lane_69 (by decide) ?_
          refine f_sub [1, 2, 3, 0] rfl ?_
          exact hK34 _ _ _ _ _ hw
        · have hw := hw.2 h19
          refine f_bipush (v := (-3)) C0 dX10_lane_63 rfl ?_
          exact f_iret C0 hZ hw dX10_lane_65
set_option maxHeartbeats 4000000 in
set_option maxRecDepth 100000 in
theorem m_X10_lane {g : Ex} {n : Nat} {x1 : Int32} {x2 : Int32} {d : DD} {dl : LL} {Q : Int32 → DD → LL → Prop} (hw : F_X10_lane n x1 x2 d dl Q) : Mi g yX10_lane cX10_lane 4 (some .int) 2 46 [rf g 211, .int x1, .int x2] d dl Q := by
  refine Mi.of (by decide) (Nat.le_of_ble_eq_true rfl) (fun x C0 hZ => ?_)
  have C0 : Cx g x cX10_lane 4 (some .int) RX10 2 46 := C0
  refine f_aload_n C0 dX10_lane_0 rfl 0 rfl ⟨_, rfl⟩ ?_
  refine f_iload_n C0 dX10_lane_1 rfl 1 rfl ?_
  refine f_callVi (As := [.int x1]) (rest := []) C0 (m_X10_isCrew hw) cw_X10_135 kn_211 (by decide) rfl rfl ⟨(Nat.le_of_ble_eq_true rfl), (Nat.le_of_ble_eq_true rfl)⟩ rfl rfl (Nat.le_of_ble_eq_true rfl) dX10_lane_2 ?_
  intro r1 d2 l3 hw
  refine f_if_eq (tgt := 17) C0 dX10_lane_5 (by decide) (fun h4 => ?_) (fun h4 => ?_)
  · have hw := hw.1 h4
    refine f_iconst (v := (-1)) C0 dX10_lane_17 rfl ?_
    exact f_iret C0 hZ hw dX10_lane_18
  · have hw := hw.2 h4
    refine f_iload_n C0 dX10_lane_8 rfl 2 rfl ?_
    refine f_if_lt (tgt := 17) C0 dX10_lane_9 (by decide) (fun h5 => ?_) (fun h5 => ?_)
    · have hw := hw.1 h5
      refine f_iconst (v := (-1)) C0 dX10_lane_17 rfl ?_
      exact f_iret C0 hZ hw dX10_lane_18
    · have hw := hw.2 h5
      refine f_iload_n C0 dX10_lane_12 rfl 2 rfl ?_
      refine f_iconst (v := 3) C0 dX10_lane_13 rfl ?_
      refine f_icmp_le (tgt := 19) C0 dX10_lane_14 (by decide) (fun h6 => ?_) (fun h6 => ?_)
      · have hw := hw.1 h6
        refine f_aload_n C0 dX10_lane_19 rfl 0 rfl ⟨_, rfl⟩ ?_
        refine gf_10_35 (r := 239) C0 rfl kn_211 mw_921 dX10_lane_20 ?_
        refine f_iload_n C0 dX10_lane_23 rfl 2 rfl ?_
        obtain ⟨h7, hw⟩ := hw
        refine f_iald C0 kn_239 h7 dX10_lane_24 ?_
        refine f_iconst (v := (-1)) C0 dX10_lane_25 rfl ?_
        refine f_icmp_eq (tgt := 32) C0 dX10_lane_26 (by decide) (fun h8 => ?_) (fun h8 => ?_)
        · have hw := hw.1 h8
          refine f_iconst (v := 0) C0 dX10_lane_32 rfl ?_
          refine f_istore_n (lo' := [(3, .int 0), (0, rf g 211), (1, .int x1), (2, .int x2)]) C0 dX10_lane_33 rfl (by decide) rfl ?_
          refine f_sub [1, 2, 3, 0] rfl ?_
          exact t_X10_lane_34 C0 hZ n _ _ _ _ _ hw
        · have hw := hw.2 h8
          refine f_bipush (v := (-3)) C0 dX10_lane_29 rfl ?_
          exact f_iret C0 hZ hw dX10_lane_31
      · have hw := hw.2 h6
        refine f_iconst (v := (-1)) C0 dX10_lane_17 rfl ?_
        exact f_iret C0 hZ hw dX10_lane_18
