def b_X9_tallySeated_118 (n : Nat) (Q : DD → LL → Prop) (K23 : Nat → Int32 → DD → LL → Prop) (k1 : Nat) (x2 : Int32) (x3 : Int32) (xs0 : Int32) (xs1 : Int32) (xs2 : Int32) (d : DD) (dl : LL) : Prop := vp_in xs2 6 ∧ ∀ d22 : DD, d22 = u2 d 27 xs2.toNatClampNeg (xs1 + xs0) → vp_in x3 40 ∧ ∀ d26 : DD, d26 = u2 d22 27 (4 : Int32).toNatClampNeg ((d22 27 (4 : Int32).toNatClampNeg) + (d22 2 x3.toNatClampNeg)) → ∀ d29 : DD, d29 = u2 d26 27 (5 : Int32).toNatClampNeg ((d26 27 (5 : Int32).toNatClampNeg) + 1) → K23 k1 (x2 + 1) d29 dl
def b_X9_tallySeated_90 (n : Nat) (Q : DD → LL → Prop) (K23 : Nat → Int32 → DD → LL → Prop) (k1 : Nat) (x2 : Int32) (x3 : Int32) (xs0 : Int32) (xs1 : Int32) (xs2 : Int32) (d : DD) (dl : LL) : Prop := vp_in xs2 6 ∧ ∀ d17 : DD, d17 = u2 d 27 xs2.toNatClampNeg (xs1 + xs0) → vp_in x3 40 ∧ (18 ≤ (d17 6 x3.toNatClampNeg) → b_X9_tallySeated_118 n Q K23 k1 x2 x3 0 (d17 27 (3 : Int32).toNatClampNeg) 3 d17 dl) ∧ (¬ 18 ≤ (d17 6 x3.toNatClampNeg) → b_X9_tallySeated_118 n Q K23 k1 x2 x3 1 (d17 27 (3 : Int32).toNatClampNeg) 3 d17 dl)
def b_X9_tallySeated_59 (n : Nat) (Q : DD → LL → Prop) (K23 : Nat → Int32 → DD → LL → Prop) (k1 : Nat) (x2 : Int32) (x3 : Int32) (xs0 : Int32) (d : DD) (dl : LL) : Prop := vp_in xs0 6 ∧ vp_in xs0 6 ∧ ∀ d12 : DD, d12 = u2 d 27 xs0.toNatClampNeg ((d 27 xs0.toNatClampNeg) + 1) → vp_in x3 40 ∧ ((d12 6 x3.toNatClampNeg) < 40 → b_X9_tallySeated_90 n Q K23 k1 x2 x3 0 (d12 27 (2 : Int32).toNatClampNeg) 2 d12 dl) ∧ (¬ (d12 6 x3.toNatClampNeg) < 40 → b_X9_tallySeated_90 n Q K23 k1 x2 x3 1 (d12 27 (2 : Int32).toNatClampNeg) 2 d12 dl)
def b_X9_tallySeated_23 (n : Nat) (Q : DD → LL → Prop) : Nat → Nat → Int32 → DD → LL → Prop
  | 0 => fun _ _ _ _ => False
  | k + 1 => fun k1 x2 d dl => F_X1_seatCount n k1 d dl (fun r2 d3 l4 => (r2 ≤ x2 → Q d3 l4) ∧ (¬ r2 ≤ x2 → vp_in x2 8 ∧ ∀ v7 : Int32, v7 = (d3 (39 + 3 * k1) x2.toNatClampNeg) → vp_in v7 40 ∧ (¬ (d3 5 v7.toNatClampNeg) = 0 → b_X9_tallySeated_59 n Q (b_X9_tallySeated_23 n Q k) k1 x2 v7 1 d3 l4) ∧ ((d3 5 v7.toNatClampNeg) = 0 → b_X9_tallySeated_59 n Q (b_X9_tallySeated_23 n Q k) k1 x2 v7 0 d3 l4)))
def b_X9_tallySeated_2 (n : Nat) (Q : DD → LL → Prop) : Nat → Nat → Int32 → DD → LL → Prop
  | 0 => fun _ _ _ _ => False
  | k + 1 => fun k1 x2 d dl => (6 ≤ x2 → b_X9_tallySeated_23 n Q n k1 0 d dl) ∧ (¬ 6 ≤ x2 → vp_in x2 6 ∧ ∀ d31 : DD, d31 = u2 d 27 x2.toNatClampNeg 0 → (b_X9_tallySeated_2 n Q k) k1 (x2 + 1) d31 dl)
def F_X9_tallySeated (n : Nat) (k1 : Nat) (d : DD) (dl : LL) (Q : DD → LL → Prop) : Prop := b_X9_tallySeated_2 n Q n k1 0 d dl
set_option maxHeartbeats 4000000 in
set_option maxRecDepth 100000 in
theorem t_X9_tallySeated_118 {g : Ex} {x : Fx} {n : Nat} {Q : DD → LL → Prop} (C0 : Cx g x cX9_tallySeated 4 none RX9 1 20) (hZ : Zv g x Q) {K23 : Nat → Int32 → DD → LL → Prop} (hK23 : ∀ (k1 : Nat) (x2 : Int32) (hk1 : k1 < 6) (d : DD) (dl : LL), K23 k1 x2 d dl → FW g x 4 d dl 23 [(0, rf g 0), (1, rf g (37 + 3 * k1)), (2, .int x2)] []) : ∀ (k1 : Nat) (x2 : Int32) (x3 : Int32) (xs0 : Int32) (xs1 : Int32) (xs2 : Int32) (hk1 : k1 < 6) (d : DD) (dl : LL), b_X9_tallySeated_118 n Q K23 k1 x2 x3 xs0 xs1 xs2 d dl → FW g x 4 d dl 118 [(0, rf g 0), (1, rf g (37 + 3 * k1)), (2, .int x2), (3, .int x3)] [.int xs0, .int xs1, .int xs2, rf g 27] := by
  intro k1 x2 x3 xs0 xs1 xs2 hk1 d dl hw
  refine f_iadd C0 dX9_tallySeated_118 ?_
  obtain ⟨h21, hw⟩ := hw
  refine f_iast C0 kn_27 h21 dX9_tallySeated_119 (fun d22 ed22 => ?_)
  have hw := hw d22 ed22
  refine f_aload_n C0 dX9_tallySeated_120 rfl 0 rfl ⟨_, rfl⟩ ?_
  refine gf_9_8 (r := 27) C0 rfl kn_0 mw_376 dX9_tallySeated_121 ?_
  refine f_iconst (v := 4) C0 dX9_tallySeated_124 rfl ?_
  refine f_dup2 C0 dX9_tallySeated_125 rfl rfl ?_
  refine f_iald C0 kn_27 (by unfold vp_in; decide) dX9_tallySeated_126 ?_
  refine f_aload_n C0 dX9_tallySeated_127 rfl 0 rfl ⟨_, rfl⟩ ?_
  refine gf_9_0 (r := 1) C0 rfl kn_0 mw_368 dX9_tallySeated_128 ?_
  refine gf_4_1 (r := 2) C0 rfl kn_1 mw_83 dX9_tallySeated_131 ?_
  refine f_iload_n C0 dX9_tallySeated_134 rfl 3 rfl ?_
  obtain ⟨h24, hw⟩ := hw
  refine f_iald C0 kn_2 h24 dX9_tallySeated_135 ?_
  refine f_iadd C0 dX9_tallySeated_136 ?_
  refine f_iast C0 kn_27 (by unfold vp_in; decide) dX9_tallySeated_137 (fun d26 ed26 => ?_)
  have hw := hw d26 ed26
  refine f_aload_n C0 dX9_tallySeated_138 rfl 0 rfl ⟨_, rfl⟩ ?_
  refine gf_9_8 (r := 27) C0 rfl kn_0 mw_376 dX9_tallySeated_139 ?_
  refine f_iconst (v := 5) C0 dX9_tallySeated_142 rfl ?_
  refine f_dup2 C0 dX9_tallySeated_143 rfl rfl ?_
  refine f_iald C0 kn_27 (by unfold vp_in; decide) dX9_tallySeated_144 ?_
  refine f_iconst (v := 1) C0 dX9_tallySeated_145 rfl ?_
  refine f_iadd C0 dX9_tallySeated_146 ?_
  refine f_iast C0 kn_27 (by unfold vp_in; decide) dX9_tallySeated_147 (fun d29 ed29 => ?_)
  have hw := hw d29 ed29
  refine f_iinc (lo' := [(2, .int (x2 + 1)), (0, rf g 0), (1, rf g (37 + 3 * k1)), (3, .int x3)]) C0 dX9_tallySeated_148 2 rfl rfl (by decide) rfl ?_
  refine f_goto (tgt := 23) C0 dX9_tallySeated_151 (by decide) ?_
  refine f_sub [1, 2, 0] rfl ?_
  exact hK23 _ _ hk1 _ _ hw
set_option maxHeartbeats 4000000 in
set_option maxRecDepth 100000 in
theorem t_X9_tallySeated_90 {g : Ex} {x : Fx} {n : Nat} {Q : DD → LL → Prop} (C0 : Cx g x cX9_tallySeated 4 none RX9 1 20) (hZ : Zv g x Q) {K23 : Nat → Int32 → DD → LL → Prop} (hK23 : ∀ (k1 : Nat) (x2 : Int32) (hk1 : k1 < 6) (d : DD) (dl : LL), K23 k1 x2 d dl → FW g x 4 d dl 23 [(0, rf g 0), (1, rf g (37 + 3 * k1)), (2, .int x2)] []) : ∀ (k1 : Nat) (x2 : Int32) (x3 : Int32) (xs0 : Int32) (xs1 : Int32) (xs2 : Int32) (hk1 : k1 < 6) (d : DD) (dl : LL), b_X9_tallySeated_90 n Q K23 k1 x2 x3 xs0 xs1 xs2 d dl → FW g x 4 d dl 90 [(0, rf g 0), (1, rf g (37 + 3 * k1)), (2, .int x2), (3, .int x3)] [.int xs0, .int xs1, .int xs2, rf g 27] := by
  intro k1 x2 x3 xs0 xs1 xs2 hk1 d dl hw
  refine f_iadd C0 dX9_tallySeated_90 ?_
  obtain ⟨h16, hw⟩ := hw
  refine f_iast C0 kn_27 h16 dX9_tallySeated_91 (fun d17 ed17 => ?_)
  have hw := hw d17 ed17
  refine f_aload_n C0 dX9_tallySeated_92 rfl 0 rfl ⟨_, rfl⟩ ?_
  refine gf_9_8 (r := 27) C0 rfl kn_0 mw_376 dX9_tallySeated_93 ?_
  refine f_iconst (v := 3) C0 dX9_tallySeated_96 rfl ?_
  refine f_dup2 C0 dX9_tallySeated_97 rfl rfl ?_
  refine f_iald C0 kn_27 (by unfold vp_in; decide) dX9_tallySeated_98 ?_
  refine f_aload_n C0 dX9_tallySeated_99 rfl 0 rfl ⟨_, rfl⟩ ?_
  refine gf_9_0 (r := 1) C0 rfl kn_0 mw_368 dX9_tallySeated_100 ?_
  refine gf_4_5 (r := 6) C0 rfl kn_1 mw_93 dX9_tallySeated_103 ?_
  refine f_iload_n C0 dX9_tallySeated_106 rfl 3 rfl ?_
  obtain ⟨h19, hw⟩ := hw
  refine f_iald C0 kn_6 h19 dX9_tallySeated_107 ?_
  refine f_bipush (v := 18) C0 dX9_tallySeated_108 rfl ?_
  refine f_icmp_ge (tgt := 117) C0 dX9_tallySeated_110 (by decide) (fun h20 => ?_) (fun h20 => ?_)
  · have hw := hw.1 h20
    refine f_iconst (v := 0) C0 dX9_tallySeated_117 rfl ?_
    exact t_X9_tallySeated_118 C0 hZ hK23 _ _ _ _ _ _ hk1 _ _ hw
  · have hw := hw.2 h20
    refine f_iconst (v := 1) C0 dX9_tallySeated_113 rfl ?_
    refine f_goto (tgt := 118) C0 dX9_tallySeated_114 (by decide) ?_
    exact t_X9_tallySeated_118 C0 hZ hK23 _ _ _ _ _ _ hk1 _ _ hw
set_option maxHeartbeats 4000000 in
set_option maxRecDepth 100000 in
theorem t_X9_tallySeated_59 {g : Ex} {x : Fx} {n : Nat} {Q : DD → LL → Prop} (C0 : Cx g x cX9_tallySeated 4 none RX9 1 20) (hZ : Zv g x Q) {K23 : Nat → Int32 → DD → LL → Prop} (hK23 : ∀ (k1 : Nat) (x2 : Int32) (hk1 : k1 < 6) (d : DD) (dl : LL), K23 k1 x2 d dl → FW g x 4 d dl 23 [(0, rf g 0), (1, rf g (37 + 3 * k1)), (2, .int x2)] []) : ∀ (k1 : Nat) (x2 : Int32) (x3 : Int32) (xs0 : Int32) (hk1 : k1 < 6) (d : DD) (dl : LL), b_X9_tallySeated_59 n Q K23 k1 x2 x3 xs0 d dl → FW g x 4 d dl 59 [(0, rf g 0), (1, rf g (37 + 3 * k1)), (2, .int x2), (3, .int x3)] [.int xs0, rf g 27] := by
  intro k1 x2 x3 xs0 hk1 d dl hw
  refine f_dup2 C0 dX9_tallySeated_59 rfl rfl ?_
  obtain ⟨h10, hw⟩ := hw
  refine f_iald C0 kn_27 h10 dX9_tallySeated_60 ?_
  refine f_iconst (v := 1) C0 dX9_tallySeated_61 rfl ?_
  refine f_iadd C0 dX9_tallySeated_62 ?_
  obtain ⟨h11, hw⟩ := hw
  refine f_iast C0 kn_27 h11 dX9_tallySeated_63 (fun d12 ed12 => ?_)
  have hw := hw d12 ed12
  refine f_aload_n C0 dX9_tallySeated_64 rfl 0 rfl ⟨_, rfl⟩ ?_
  refine gf_9_8 (r := 27) C0 rfl kn_0 mw_376 dX9_tallySeated_65 ?_
  refine f_iconst (v := 2) C0 dX9_tallySeated_68 rfl ?_
  refine f_dup2 C0 dX9_tallySeated_69 rfl rfl ?_
  refine f_iald C0 kn_27 (by unfold vp_in; decide) dX9_tallySeated_70 ?_
  refine f_aload_n C0 dX9_tallySeated_71 rfl 0 rfl ⟨_, rfl⟩ ?_
  refine gf_9_0 (r := 1) C0 rfl kn_0 mw_368 dX9_tallySeated_72 ?_
  refine gf_4_5 (r := 6) C0 rfl kn_1 mw_93 dX9_tallySeated_75 ?_
  refine f_iload_n C0 dX9_tallySeated_78 rfl 3 rfl ?_
  obtain ⟨h14, hw⟩ := hw
  refine f_iald C0 kn_6 h14 dX9_tallySeated_79 ?_
  refine f_bipush (v := 40) C0 dX9_tallySeated_80 rfl ?_
  refine f_icmp_lt (tgt := 89) C0 dX9_tallySeated_82 (by decide) (fun h15 => ?_) (fun h15 => ?_)
  · have hw := hw.1 h15
    refine f_iconst (v := 0) C0 dX9_tallySeated_89 rfl ?_
    exact t_X9_tallySeated_90 C0 hZ hK23 _ _ _ _ _ _ hk1 _ _ hw
  · have hw := hw.2 h15
    refine f_iconst (v := 1) C0 dX9_tallySeated_85 rfl ?_
    refine f_goto (tgt := 90) C0 dX9_tallySeated_86 (by decide) ?_
    exact t_X9_tallySeated_90 C0 hZ hK23 _ _ _ _ _ _ hk1 _ _ hw
set_option maxHeartbeats 4000000 in
set_option maxRecDepth 100000 in
theorem t_X9_tallySeated_23 {g : Ex} {x : Fx} {n : Nat} {Q : DD → LL → Prop} (C0 : Cx g x cX9_tallySeated 4 none RX9 1 20) (hZ : Zv g x Q) : ∀ (j : Nat) (k1 : Nat) (x2 : Int32) (hk1 : k1 < 6) (d : DD) (dl : LL), b_X9_tallySeated_23 n Q j k1 x2 d dl → FW g x 4 d dl 23 [(0, rf g 0), (1, rf g (37 + 3 * k1)), (2, .int x2)] [] := by
  intro j
  induction j with
  | zero =>
    intro k1 x2 hk1 d dl hw
    exact hw.elim
  | succ j hK23 =>
    intro k1 x2 hk1 d dl hw
    have hw : F_X1_seatCount n k1 d dl (fun r2 d3 l4 => (r2 ≤ x2 → Q d3 l4) ∧ (¬ r2 ≤ x2 → vp_in x2 8 ∧ ∀ v7 : Int32, v7 = (d3 (39 + 3 * k1) x2.toNatClampNeg) → vp_in v7 40 ∧ (¬ (d3 5 v7.toNatClampNeg) = 0 → b_X9_tallySeated_59 n Q (b_X9_tallySeated_23 n Q j) k1 x2 v7 1 d3 l4) ∧ ((d3 5 v7.toNatClampNeg) = 0 → b_X9_tallySeated_59 n Q (b_X9_tallySeated_23 n Q j) k1 x2 v7 0 d3 l4))) := hw
    refine f_iload_n C0 dX9_tallySeated_23 rfl 2 rfl ?_
    refine f_aload_n C0 dX9_tallySeated_24 rfl 1 rfl ⟨_, rfl⟩ ?_
    refine f_callVi (As := []) (rest := [.int x2]) C0 (m_X1_seatCount hk1 hw) cw_X9_178 (kn_crew_0 hk1) (by decide) rfl rfl ⟨(Nat.le_of_ble_eq_true rfl), (Nat.le_of_ble_eq_true rfl)⟩ rfl rfl (Nat.le_of_ble_eq_true rfl) dX9_tallySeated_25 ?_
    intro r2 d3 l4 hw
    refine f_icmp_ge (tgt := 154) C0 dX9_tallySeated_28 (by decide) (fun h5 => ?_) (fun h5 => ?_)
    · have hw := hw.1 h5
      exact f_vret C0 hZ hw dX9_tallySeated_154
    · have hw := hw.2 h5
      refine f_aload_n C0 dX9_tallySeated_31 rfl 1 rfl ⟨_, rfl⟩ ?_
      refine gf_1_7 (r := (39 + 3 * k1)) C0 (by omega) (kn_crew_0 hk1) mw_284 dX9_tallySeated_32 ?_
      refine f_iload_n C0 dX9_tallySeated_35 rfl 2 rfl ?_
      obtain ⟨h6, hw⟩ := hw
      refine f_iald C0 (kn_crew_2 hk1) h6 dX9_tallySeated_36 ?_
      refine f_topi (fun v7 e7 => ?_)
      have hw := hw v7 e7
      refine f_istore_n (lo' := [(3, .int v7), (0, rf g 0), (1, rf g (37 + 3 * k1)), (2, .int x2)]) C0 dX9_tallySeated_37 rfl (by decide) rfl ?_
      refine f_aload_n C0 dX9_tallySeated_38 rfl 1 rfl ⟨_, rfl⟩ ?_
      refine gf_9_8 (r := 27) C0 rfl kn_0 mw_376 dX9_tallySeated_39 ?_
      refine f_aload_n C0 dX9_tallySeated_42 rfl 1 rfl ⟨_, rfl⟩ ?_
      refine gf_9_0 (r := 1) C0 rfl kn_0 mw_368 dX9_tallySeated_43 ?_
      refine gf_4_4 (r := 5) C0 rfl kn_1 mw_91 dX9_tallySeated_46 ?_
      refine f_iload_n C0 dX9_tallySeated_49 rfl 0 rfl ?_
      obtain ⟨h8, hw⟩ := hw
      refine f_iald C0 kn_5 h8 dX9_tallySeated_50 ?_
      refine f_if_ne (tgt := 58) C0 dX9_tallySeated_51 (by decide) (fun h9 => ?_) (fun h9 => ?_)
      · have hw := hw.1 h9
        refine f_iconst (v := 1) C0 dX9_tallySeated_58 rfl ?_
        refine f_sub [1, 2, 3, 0] rfl ?_
        exact t_X9_tallySeated_59 C0 hZ hK23 _ _ _ _ hk1 _ _ hw
      · have hw := hw.2 h9
        refine f_iconst (v := 0) C0 dX9_tallySeated_54 rfl ?_
        refine f_goto (tgt := 59) C0 dX9_tallySeated_55 (by decide) ?_
        refine f_sub [1, 2, 3, 0] rfl ?_
        exact t_X9_tallySeated_59 C0 hZ hK23 _ _ _ _ hk1 _ _ hw
set_option maxHeartbeats 4000000 in
set_option maxRecDepth 100000 in
theorem t_X9_tallySeated_2 {g : Ex} {x : Fx} {n : Nat} {Q : DD → LL → Prop} (C0 : Cx g x cX9_tallySeated 4 none RX9 1 20) (hZ : Zv g x Q) : ∀ (j : Nat) (k1 : Nat) (x2 : Int32) (hk1 : k1 < 6) (d : DD) (dl : LL), b_X9_tallySeated_2 n Q j k1 x2 d dl → FW g x 4 d dl 2 [(0, rf g 0), (1, rf g (37 + 3 * k1)), (2, .int x2)] [] := by
  intro j
  induction j with
  | zero =>
    intro k1 x2 hk1 d dl hw
    exact hw.elim
  | succ j hK2 =>
    intro k1 x2 hk1 d dl hw
    refine f_iload_n C0 dX9_tallySeated_2 rfl 2 rfl ?_
    refine f_bipush (v := 6) C0 dX9_tallySeated_3 rfl ?_
    refine f_icmp_ge (tgt := 21) C0 dX9_tallySeated_5 (by decide) (fun h1 => ?_) (fun h1 => ?_)
    · have hw := hw.1 h1
      refine f_iconst (v := 0) C0 dX9_tallySeated_21 rfl ?_
      refine f_istore_n (lo' := [(2, .int 0), (0, rf g 0), (1, rf g (37 + 3 * k1))]) C0 dX9_tallySeated_22 rfl (by decide) rfl ?_
      refine f_sub [1, 2, 0] rfl ?_
      exact t_X9_tallySeated_23 C0 hZ n _ _ hk1 _ _ hw
    · have hw := hw.2 h1
      refine f_aload_n C0 dX9_tallySeated_8 rfl 0 rfl ⟨_, rfl⟩ ?_
      refine gf_9_8 (r := 27) C0 rfl kn_0 mw_376 dX9_tallySeated_9 ?_
      refine f_iload_n C0 dX9_tallySeated_12 rfl 2 rfl ?_
      refine f_iconst (v := 0) C0 dX9_tallySeated_13 rfl ?_
      obtain ⟨h30, hw⟩ := hw
      refine f_iast C0 kn_27 h30 dX9_tallySeated_14 (fun d31 ed31 => ?_)
      have hw := hw d31 ed31
      refine f_iinc (lo' := [(2, .int (x2 + 1)), (0, rf g 0), (1, rf g (37 + 3 * k1))]) C0 dX9_tallySeated_15 2 rfl rfl (by decide) rfl ?_
      refine f_goto (tgt := 2) C0 dX9_tallySeated_18 (by decide) ?_
      refine f_sub [1, 2, 0] rfl ?_
      exact hK2 _ _ hk1 _ _ hw
set_option maxHeartbeats 4000000 in
set_option maxRecDepth 100000 in
theorem m_X9_tallySeated {g : Ex} {n : Nat} {k1 : Nat} {d : DD} {dl : LL} {Q : DD → LL → Prop} (hk1 : k1 < 6) (hw : F_X9_tallySeated n k1 d dl Q) : Mv g yX9_tallySeated cX9_tallySeated 4 none 1 20 [rf g 0, rf g (37 + 3 * k1)] d dl Q := by
  refine Mv.of (by decide) (Nat.le_of_ble_eq_true rfl) (fun x C0 hZ => ?_)
  have C0 : Cx g x cX9_tallySeated 4 none RX9 1 20 := C0
  refine f_iconst (v := 0) C0 dX9_tallySeated_0 rfl ?_
  refine f_istore_n (lo' := [(2, .int 0), (0, rf g 0), (1, rf g (37 + 3 * k1))]) C0 dX9_tallySeated_1 rfl (by decide) rfl ?_
  refine f_sub [1, 2, 0] rfl ?_
  exact t_X9_tallySeated_2 C0 hZ n _ _ hk1 _ _ hw
def b_X5_testHolds_86 (n : Nat) (Q : Int32 → DD → LL → Prop) (k0 : Nat) (x1 : Int32) (x3 : Int32) (d : DD) (dl : LL) : Prop := vp_in x1 8 ∧ (x3 = (d (56 + 6 * k0) x1.toNatClampNeg) → Q 0 d dl) ∧ (¬ x3 = (d (56 + 6 * k0) x1.toNatClampNeg) → Q 1 d dl)
def b_X5_testHolds_85 (n : Nat) (Q : Int32 → DD → LL → Prop) (k0 : Nat) (x1 : Int32) (xs0 : Int32) (d : DD) (dl : LL) : Prop := b_X5_testHolds_86 n Q k0 x1 xs0 d dl
def b_X5_testHolds_66 (n : Nat) (Q : Int32 → DD → LL → Prop) (k0 : Nat) (x1 : Int32) (xs0 : Int32) (d : DD) (dl : LL) : Prop := b_X5_testHolds_86 n Q k0 x1 xs0 d dl
def b_X5_testHolds_47 (n : Nat) (Q : Int32 → DD → LL → Prop) (k0 : Nat) (x1 : Int32) (xs0 : Int32) (d : DD) (dl : LL) : Prop := b_X5_testHolds_86 n Q k0 x1 xs0 d dl
def F_X5_testHolds (n : Nat) (k0 : Nat) (x1 : Int32) (x2 : Int32) (d : DD) (dl : LL) (Q : Int32 → DD → LL → Prop) : Prop := vp_in x1 8 ∧ ((d (58 + 6 * k0) x1.toNatClampNeg) = 60 → vp_in x1 8 ∧ ((d (59 + 6 * k0) x1.toNatClampNeg) ≤ x2 → b_X5_testHolds_47 n Q k0 x1 0 d dl) ∧ (¬ (d (59 + 6 * k0) x1.toNatClampNeg) ≤ x2 → b_X5_testHolds_47 n Q k0 x1 1 d dl)) ∧ ((d (58 + 6 * k0) x1.toNatClampNeg) = 61 → vp_in x1 8 ∧ (¬ x2 = (d (59 + 6 * k0) x1.toNatClampNeg) → b_X5_testHolds_66 n Q k0 x1 0 d dl) ∧ (x2 = (d (59 + 6 * k0) x1.toNatClampNeg) → b_X5_testHolds_66 n Q k0 x1 1 d dl)) ∧ (¬ (d (58 + 6 * k0) x1.toNatClampNeg) = 60 ∧ ¬ (d (58 + 6 * k0) x1.toNatClampNeg) = 61 → vp_in x1 8 ∧ (x2 ≤ (d (59 + 6 * k0) x1.toNatClampNeg) → b_X5_testHolds_85 n Q k0 x1 0 d dl) ∧ (¬ x2 ≤ (d (59 + 6 * k0) x1.toNatClampNeg) → b_X5_testHolds_85 n Q k0 x1 1 d dl))
set_option maxHeartbeats 4000000 in
set_option maxRecDepth 100000 in
theorem t_X5_testHolds_86 {g : Ex} {x : Fx} {n : Nat} {Q : Int32 → DD → LL → Prop} (C0 : Cx g x cX5_testHolds 4 (some .boolean) RX5 0 0) (hZ : Zi g x Q) : ∀ (k0 : Nat) (x1 : Int32) (x3 : Int32) (hk0 : k0 < 6) (d : DD) (dl : LL), b_X5_testHolds_86 n Q k0 x1 x3 d dl → FW g x 4 d dl 86 [(0, rf g (55 + 6 * k0)), (1, .int x1), (3, .int x3)] [] := by
  intro k0 x1 x3 hk0 d dl hw
  refine f_iload_n C0 dX5_testHolds_86 rfl 2 rfl ?_
  refine f_aload_n C0 dX5_testHolds_87 rfl 0 rfl ⟨_, rfl⟩ ?_
  refine gf_5_1 (r := (56 + 6 * k0)) C0 (by omega) (kn_rule_0 hk0) mw_309 dX5_testHolds_88 ?_
  refine f_iload_n C0 dX5_testHolds_91 rfl 1 rfl ?_
  obtain ⟨h4, hw⟩ := hw
  refine f_zald C0 (kn_rule_1 hk0) h4 dX5_testHolds_92 ?_
  refine f_icmp_eq (tgt := 100) C0 dX5_testHolds_93 (by decide) (fun h5 => ?_) (fun h5 => ?_)
  · have hw := hw.1 h5
    refine f_iconst (v := 0) C0 dX5_testHolds_100 rfl ?_
    exact f_zret C0 hZ (by decide) hw dX5_testHolds_101
  · have hw := hw.2 h5
    refine f_iconst (v := 1) C0 dX5_testHolds_96 rfl ?_
    refine f_goto (tgt := 101) C0 dX5_testHolds_97 (by decide) ?_
    exact f_zret C0 hZ (by decide) hw dX5_testHolds_101
set_option maxHeartbeats 4000000 in
set_option maxRecDepth 100000 in
theorem t_X5_testHolds_85 {g : Ex} {x : Fx} {n : Nat} {Q : Int32 → DD → LL → Prop} (C0 : Cx g x cX5_testHolds 4 (some .boolean) RX5 0 0) (hZ : Zi g x Q) : ∀ (k0 : Nat) (x1 : Int32) (xs0 : Int32) (hk0 : k0 < 6) (d : DD) (dl : LL), b_X5_testHolds_85 n Q k0 x1 xs0 d dl → FW g x 4 d dl 85 [(0, rf g (55 + 6 * k0)), (1, .int x1)] [.int xs0] := by
  intro k0 x1 xs0 hk0 d dl hw
  refine f_istore_n (lo' := [(3, .int xs0), (0, rf g (55 + 6 * k0)), (1, .int x1)]) C0 dX5_testHolds_85 rfl (by decide) rfl ?_
  refine f_sub [1, 2, 0] rfl ?_
  exact t_X5_testHolds_86 C0 hZ _ _ _ hk0 _ _ hw
set_option maxHeartbeats 4000000 in
set_option maxRecDepth 100000 in
theorem t_X5_testHolds_66 {g : Ex} {x : Fx} {n : Nat} {Q : Int32 → DD → LL → Prop} (C0 : Cx g x cX5_testHolds 4 (some .boolean) RX5 0 0) (hZ : Zi g x Q) : ∀ (k0 : Nat) (x1 : Int32) (xs0 : Int32) (hk0 : k0 < 6) (d : DD) (dl : LL), b_X5_testHolds_66 n Q k0 x1 xs0 d dl → FW g x 4 d dl 66 [(0, rf g (55 + 6 * k0)), (1, .int x1)] [.int xs0] := by
  intro k0 x1 xs0 hk0 d dl hw
  refine f_istore_n (lo' := [(3, .int xs0), (0, rf g (55 + 6 * k0)), (1, .int x1)]) C0 dX5_testHolds_66 rfl (by decide) rfl ?_
  refine f_goto (tgt := 86) C0 dX5_testHolds_67 (by decide) ?_
  refine f_sub [1, 2, 0] rfl ?_
  exact t_X5_testHolds_86 C0 hZ _ _ _ hk0 _ _ hw
set_option maxHeartbeats 4000000 in
set_option maxRecDepth 100000 in
theorem t_X5_testHolds_47 {g : Ex} {x : Fx} {n : Nat} {Q : Int32 → DD → LL → Prop} (C0 : Cx g x cX5_testHolds 4 (some .boolean) RX5 0 0) (hZ : Zi g x Q) : ∀ (k0 : Nat) (x1 : Int32) (xs0 : Int32) (hk0 : k0 < 6) (d : DD) (dl : LL), b_X5_testHolds_47 n Q k0 x1 xs0 d dl → FW g x 4 d dl 47 [(0, rf g (55 + 6 * k0)), (1, .int x1)] [.int xs0] := by
  intro k0 x1 xs0 hk0 d dl hw
  refine f_istore_n (lo' := [(3, .int xs0), (0, rf g (55 + 6 * k0)), (1, .int x1)]) C0 dX5_testHolds_47 rfl (by decide) rfl ?_
  refine f_goto (tgt := 86) C0 dX5_testHolds_48 (by decide) ?_
  refine f_sub [1, 2, 0] rfl ?_
  exact t_X5_testHolds_86 C0 hZ _ _ _ hk0 _ _ hw
set_option maxHeartbeats 4000000 in
set_option maxRecDepth 100000 in
theorem m_X5_testHolds {g : Ex} {n : Nat} {k0 : Nat} {x1 : Int32} {x2 : Int32} {d : DD} {dl : LL} {Q : Int32 → DD → LL → Prop} (hk0 : k0 < 6) (hw : F_X5_testHolds n k0 x1 x2 d dl Q) : Mi g yX5_testHolds cX5_testHolds 4 (some .boolean) 0 0 [rf g (55 + 6 * k0), .int x1, .int x2] d dl Q := by
  refine Mi.of (by decide) (Nat.le_of_ble_eq_true rfl) (fun x C0 hZ => ?_)
  have C0 : Cx g x cX5_testHolds 4 (some .boolean) RX5 0 0 := C0
  refine f_aload_n C0 dX5_testHolds_0 rfl 0 rfl ⟨_, rfl⟩ ?_
  refine gf_5_3 (r := (58 + 6 * k0)) C0 (by omega) (kn_rule_0 hk0) mw_313 dX5_testHolds_1 ?_
  refine f_iload_n C0 dX5_testHolds_4 rfl 1 rfl ?_
  obtain ⟨h1, hw⟩ := hw
  refine f_iald C0 (kn_rule_3 hk0) h1 dX5_testHolds_5 ?_
  by_cases h100 : (d (58 + 6 * k0) x1.toNatClampNeg) = 60
  · have hw := hw.1 h100
    refine f_lookAt (w := 60) (tgt := 32) C0 dX5_testHolds_6 h100 (by decide) rfl (by decide) ?_
    refine f_iload_n C0 dX5_testHolds_32 rfl 2 rfl ?_
    refine f_aload_n C0 dX5_testHolds_33 rfl 0 rfl ⟨_, rfl⟩ ?_
    refine gf_5_4 (r := (59 + 6 * k0)) C0 (by omega) (kn_rule_0 hk0) mw_315 dX5_testHolds_34 ?_
    refine f_iload_n C0 dX5_testHolds_37 rfl 1 rfl ?_
    obtain ⟨h2, hw⟩ := hw
    refine f_iald C0 (kn_rule_4 hk0) h2 dX5_testHolds_38 ?_
    refine f_icmp_ge (tgt := 46) C0 dX5_testHolds_39 (by decide) (fun h3 => ?_) (fun h3 => ?_)
    · have hw := hw.1 h3
      refine f_iconst (v := 0) C0 dX5_testHolds_46 rfl ?_
      refine f_sub [0, 1] rfl ?_
      exact t_X5_testHolds_47 C0 hZ _ _ _ hk0 _ _ hw
    · have hw := hw.2 h3
      refine f_iconst (v := 1) C0 dX5_testHolds_42 rfl ?_
      refine f_goto (tgt := 47) C0 dX5_testHolds_43 (by decide) ?_
      refine f_sub [0, 1] rfl ?_
      exact t_X5_testHolds_47 C0 hZ _ _ _ hk0 _ _ hw
  by_cases h101 : (d (58 + 6 * k0) x1.toNatClampNeg) = 61
  · have hw := hw.2.1 h101
    refine f_lookAt (w := 61) (tgt := 51) C0 dX5_testHolds_6 h101 (by decide) rfl (by decide) ?_
    refine f_iload_n C0 dX5_testHolds_51 rfl 2 rfl ?_
    refine f_aload_n C0 dX5_testHolds_52 rfl 0 rfl ⟨_, rfl⟩ ?_
    refine gf_5_4 (r := (59 + 6 * k0)) C0 (by omega) (kn_rule_0 hk0) mw_315 dX5_testHolds_53 ?_
    refine f_iload_n C0 dX5_testHolds_56 rfl 1 rfl ?_
    obtain ⟨h6, hw⟩ := hw
    refine f_iald C0 (kn_rule_4 hk0) h6 dX5_testHolds_57 ?_
    refine f_icmp_ne (tgt := 65) C0 dX5_testHolds_58 (by decide) (fun h7 => ?_) (fun h7 => ?_)
    · have hw := hw.1 h7
      refine f_iconst (v := 0) C0 dX5_testHolds_65 rfl ?_
      refine f_sub [0, 1] rfl ?_
      exact t_X5_testHolds_66 C0 hZ _ _ _ hk0 _ _ hw
    · have hw := hw.2 h7
      refine f_iconst (v := 1) C0 dX5_testHolds_61 rfl ?_
      refine f_goto (tgt := 66) C0 dX5_testHolds_62 (by decide) ?_
      refine f_sub [0, 1] rfl ?_
      exact t_X5_testHolds_66 C0 hZ _ _ _ hk0 _ _ hw
  have hw := hw.2.2 ⟨h100, h101⟩
  refine f_lookOut (tgt := 70) C0 dX5_testHolds_6 (by decide) (lk_2 h100 h101) (by decide) ?_
  refine f_iload_n C0 dX5_testHolds_70 rfl 2 rfl ?_
  refine f_aload_n C0 dX5_testHolds_71 rfl 0 rfl ⟨_, rfl⟩ ?_
  refine gf_5_4 (r := (59 + 6 * k0)) C0 (by omega) (kn_rule_0 hk0) mw_315 dX5_testHolds_72 ?_
  refine f_iload_n C0 dX5_testHolds_75 rfl 1 rfl ?_
  obtain ⟨h8, hw⟩ := hw
  refine f_iald C0 (kn_rule_4 hk0) h8 dX5_testHolds_76 ?_
  refine f_icmp_le (tgt := 84) C0 dX5_testHolds_77 (by decide) (fun h9 => ?_) (fun h9 => ?_)
  · have hw := hw.1 h9
    refine f_iconst (v := 0) C0 dX5_testHolds_84 rfl ?_
    refine f_sub [0, 1] rfl ?_
    exact t_X5_testHolds_85 C0 hZ _ _ _ hk0 _ _ hw
  · have hw := hw.2 h9
    refine f_iconst (v := 1) C0 dX5_testHolds_80 rfl ?_
    refine f_goto (tgt := 85) C0 dX5_testHolds_81 (by decide) ?_
    refine f_sub [0, 1] rfl ?_
    exact t_X5_testHolds_85 C0 hZ _ _ _ hk0 _ _ hw
def b_X5_holds_68 (n : Nat) (Q : Int32 → DD → LL → Prop) (K7 : Nat → Int32 → Int32 → Int32 → DD → LL → Prop) (k0 : Nat) (x2 : Int32) (x4 : Int32) (d : DD) (dl : LL) : Prop := K7 k0 x2 0 (x4 + 1) d dl
def b_X5_holds_42 (n : Nat) (Q : Int32 → DD → LL → Prop) (K7 : Nat → Int32 → Int32 → Int32 → DD → LL → Prop) (k0 : Nat) (x2 : Int32) (x3 : Int32) (x4 : Int32) (d : DD) (dl : LL) : Prop := (x3 = 0 → b_X5_holds_68 n Q K7 k0 x2 x4 d dl) ∧ (¬ x3 = 0 → vp_in x4 8 ∧ vp_in (d (57 + 6 * k0) x4.toNatClampNeg) 6 ∧ F_X5_testHolds n k0 x4 (d 27 (d (57 + 6 * k0) x4.toNatClampNeg).toNatClampNeg) d dl (fun r9 d10 l11 => (r9 = 0 → b_X5_holds_68 n Q K7 k0 x2 x4 d10 l11) ∧ (¬ r9 = 0 → K7 k0 x2 1 (x4 + 1) d10 l11)))
def b_X5_holds_39 (n : Nat) (Q : Int32 → DD → LL → Prop) (K7 : Nat → Int32 → Int32 → Int32 → DD → LL → Prop) (k0 : Nat) (x4 : Int32) (xs0 : Int32) (d : DD) (dl : LL) : Prop := b_X5_holds_42 n Q K7 k0 xs0 1 x4 d dl
def b_X5_holds_34 (n : Nat) (Q : Int32 → DD → LL → Prop) (K7 : Nat → Int32 → Int32 → Int32 → DD → LL → Prop) (k0 : Nat) (x4 : Int32) (d : DD) (dl : LL) : Prop := b_X5_holds_39 n Q K7 k0 x4 1 d dl
def b_X5_holds_7 (n : Nat) (Q : Int32 → DD → LL → Prop) : Nat → Nat → Int32 → Int32 → Int32 → DD → LL → Prop
  | 0 => fun _ _ _ _ _ _ => False
  | k + 1 => fun k0 x2 x3 x4 d dl => ((d (55 + 6 * k0) 0) ≤ x4 → (¬ x2 = 0 → Q 1 d dl) ∧ (x2 = 0 → (x3 = 0 → Q 0 d dl) ∧ (¬ x3 = 0 → Q 1 d dl))) ∧ (¬ (d (55 + 6 * k0) 0) ≤ x4 → vp_in x4 8 ∧ ((d (60 + 6 * k0) x4.toNatClampNeg) = 0 → b_X5_holds_42 n Q (b_X5_holds_7 n Q k) k0 x2 x3 x4 d dl) ∧ (¬ (d (60 + 6 * k0) x4.toNatClampNeg) = 0 → (¬ x2 = 0 → b_X5_holds_34 n Q (b_X5_holds_7 n Q k) k0 x4 d dl) ∧ (x2 = 0 → (x3 = 0 → b_X5_holds_39 n Q (b_X5_holds_7 n Q k) k0 x4 0 d dl) ∧ (¬ x3 = 0 → b_X5_holds_34 n Q (b_X5_holds_7 n Q k) k0 x4 d dl))))
def F_X5_holds (n : Nat) (k0 : Nat) (d : DD) (dl : LL) (Q : Int32 → DD → LL → Prop) : Prop := b_X5_holds_7 n Q n k0 0 1 0 d dl
set_option maxHeartbeats 4000000 in
set_option maxRecDepth 100000 in
theorem t_X5_holds_68 {g : Ex} {x : Fx} {n : Nat} {Q : Int32 → DD → LL → Prop} (C0 : Cx g x cX5_holds 5 (some .boolean) RX5 1 23) (hZ : Zi g x Q) {K7 : Nat → Int32 → Int32 → Int32 → DD → LL → Prop} (hK7 : ∀ (k0 : Nat) (x2 : Int32) (x3 : Int32) (x4 : Int32) (hk0 : k0 < 6) (d : DD) (dl : LL), K7 k0 x2 x3 x4 d dl → FW g x 5 d dl 7 [(0, rf g (55 + 6 * k0)), (1, rf g 27), (2, .int x2), (3, .int x3), (4, .int x4)] []) : ∀ (k0 : Nat) (x2 : Int32) (x4 : Int32) (hk0 : k0 < 6) (d : DD) (dl : LL), b_X5_holds_68 n Q K7 k0 x2 x4 d dl → FW g x 5 d dl 68 [(0, rf g (55 + 6 * k0)), (1, rf g 27), (2, .int x2), (4, .int x4)] [] := by
  intro k0 x2 x4 hk0 d dl hw
  refine f_iconst (v := 0) C0 dX5_holds_68 rfl ?_
  refine f_istore_n (lo' := [(3, .int 0), (0, rf g (55 + 6 * k0)), (1, rf g 27), (2, .int x2), (4, .int x4)]) C0 dX5_holds_69 rfl (by decide) rfl ?_
  refine f_iinc (lo' := [(4, .int (x4 + 1)), (3, .int 0), (0, rf g (55 + 6 * k0)), (1, rf g 27), (2, .int x2)]) C0 dX5_holds_70 4 rfl rfl (by decide) rfl ?_
  refine f_goto (tgt := 7) C0 dX5_holds_73 (by decide) ?_
  refine f_sub [2, 3, 4, 1, 0] rfl ?_
  exact hK7 _ _ _ _ hk0 _ _ hw
set_option maxHeartbeats 4000000 in
set_option maxRecDepth 100000 in
theorem t_X5_holds_42 {g : Ex} {x : Fx} {n : Nat} {Q : Int32 → DD → LL → Prop} (C0 : Cx g x cX5_holds 5 (some .boolean) RX5 1 23) (hZ : Zi g x Q) {K7 : Nat → Int32 → Int32 → Int32 → DD → LL → Prop} (hK7 : ∀ (k0 : Nat) (x2 : Int32) (x3 : Int32) (x4 : Int32) (hk0 : k0 < 6) (d : DD) (dl : LL), K7 k0 x2 x3 x4 d dl → FW g x 5 d dl 7 [(0, rf g (55 + 6 * k0)), (1, rf g 27), (2, .int x2), (3, .int x3), (4, .int x4)] []) : ∀ (k0 : Nat) (x2 : Int32) (x3 : Int32) (x4 : Int32) (hk0 : k0 < 6) (d : DD) (dl : LL), b_X5_holds_42 n Q K7 k0 x2 x3 x4 d dl → FW g x 5 d dl 42 [(0, rf g (55 + 6 * k0)), (1, rf g 27), (2, .int x2), (3, .int x3), (4, .int x4)] [] := by
  intro k0 x2 x3 x4 hk0 d dl hw
  refine f_iload_n C0 dX5_holds_42 rfl 3 rfl ?_
  refine f_if_eq (tgt := 68) C0 dX5_holds_43 (by decide) (fun h6 => ?_) (fun h6 => ?_)
  · have hw := hw.1 h6
    refine f_sub [0, 1, 2, 4] rfl ?_
    exact t_X5_holds_68 C0 hZ hK7 _ _ _ hk0 _ _ hw
  · have hw := hw.2 h6
    refine f_aload_n C0 dX5_holds_46 rfl 0 rfl ⟨_, rfl⟩ ?_
    refine f_iload C0 dX5_holds_47 4 rfl ?_
    refine f_aload_n C0 dX5_holds_49 rfl 1 rfl ⟨_, rfl⟩ ?_
    refine f_aload_n C0 dX5_holds_50 rfl 0 rfl ⟨_, rfl⟩ ?_
    refine gf_5_2 (r := (57 + 6 * k0)) C0 (by omega) (kn_rule_0 hk0) mw_311 dX5_holds_51 ?_
    refine f_iload C0 dX5_holds_54 4 rfl ?_
    obtain ⟨h7, hw⟩ := hw
    refine f_iald C0 (kn_rule_2 hk0) h7 dX5_holds_56 ?_
    obtain ⟨h8, hw⟩ := hw
    refine f_iald C0 kn_27 h8 dX5_holds_57 ?_
    refine f_callVi (As := [.int x4, .int (d 27 (d (57 + 6 * k0) x4.toNatClampNeg).toNatClampNeg)]) (rest := []) C0 (m_X5_testHolds hk0 hw) cw_X5_32 (kn_rule_0 hk0) (by decide) rfl rfl ⟨(Nat.le_of_ble_eq_true rfl), (Nat.le_of_ble_eq_true rfl)⟩ rfl rfl (Nat.le_of_ble_eq_true rfl) dX5_holds_58 ?_
    intro r9 d10 l11 hw
    refine f_if_eq (tgt := 68) C0 dX5_holds_61 (by decide) (fun h12 => ?_) (fun h12 => ?_)
    · have hw := hw.1 h12
      refine f_sub [0, 1, 2, 4] rfl ?_
      exact t_X5_holds_68 C0 hZ hK7 _ _ _ hk0 _ _ hw
    · have hw := hw.2 h12
      refine f_iconst (v := 1) C0 dX5_holds_64 rfl ?_
      refine f_goto (tgt := 69) C0 dX5_holds_65 (by decide) ?_
      refine f_istore_n (lo' := [(3, .int 1), (0, rf g (55 + 6 * k0)), (1, rf g 27), (2, .int x2), (4, .int x4)]) C0 dX5_holds_69 rfl (by decide) rfl ?_
      refine f_iinc (lo' := [(4, .int (x4 + 1)), (3, .int 1), (0, rf g (55 + 6 * k0)), (1, rf g 27), (2, .int x2)]) C0 dX5_holds_70 4 rfl rfl (by decide) rfl ?_
      refine f_goto (tgt := 7) C0 dX5_holds_73 (by decide) ?_
      refine f_sub [2, 3, 4, 1, 0] rfl ?_
      exact hK7 _ _ _ _ hk0 _ _ hw
set_option maxHeartbeats 4000000 in
set_option maxRecDepth 100000 in
theorem t_X5_holds_39 {g : Ex} {x : Fx} {n : Nat} {Q : Int32 → DD → LL → Prop} (C0 : Cx g x cX5_holds 5 (some .boolean) RX5 1 23) (hZ : Zi g x Q) {K7 : Nat → Int32 → Int32 → Int32 → DD → LL → Prop} (hK7 : ∀ (k0 : Nat) (x2 : Int32) (x3 : Int32) (x4 : Int32) (hk0 : k0 < 6) (d : DD) (dl : LL), K7 k0 x2 x3 x4 d dl → FW g x 5 d dl 7 [(0, rf g (55 + 6 * k0)), (1, rf g 27), (2, .int x2), (3, .int x3), (4, .int x4)] []) : ∀ (k0 : Nat) (x4 : Int32) (xs0 : Int32) (hk0 : k0 < 6) (d : DD) (dl : LL), b_X5_holds_39 n Q K7 k0 x4 xs0 d dl → FW g x 5 d dl 39 [(0, rf g (55 + 6 * k0)), (1, rf g 27), (4, .int x4)] [.int xs0] := by
  intro k0 x4 xs0 hk0 d dl hw
  refine f_istore_n (lo' := [(2, .int xs0), (0, rf g (55 + 6 * k0)), (1, rf g 27), (4, .int x4)]) C0 dX5_holds_39 rfl (by decide) rfl ?_
  refine f_iconst (v := 1) C0 dX5_holds_40 rfl ?_
  refine f_istore_n (lo' := [(3, .int 1), (2, .int xs0), (0, rf g (55 + 6 * k0)), (1, rf g 27), (4, .int x4)]) C0 dX5_holds_41 rfl (by decide) rfl ?_
  refine f_sub [2, 3, 1, 0, 4] rfl ?_
  exact t_X5_holds_42 C0 hZ hK7 _ _ _ _ hk0 _ _ hw
set_option maxHeartbeats 4000000 in
set_option maxRecDepth 100000 in
theorem t_X5_holds_34 {g : Ex} {x : Fx} {n : Nat} {Q : Int32 → DD → LL → Prop} (C0 : Cx g x cX5_holds 5 (some .boolean) RX5 1 23) (hZ : Zi g x Q) {K7 : Nat → Int32 → Int32 → Int32 → DD → LL → Prop} (hK7 : ∀ (k0 : Nat) (x2 : Int32) (x3 : Int32) (x4 : Int32) (hk0 : k0 < 6) (d : DD) (dl : LL), K7 k0 x2 x3 x4 d dl → FW g x 5 d dl 7 [(0, rf g (55 + 6 * k0)), (1, rf g 27), (2, .int x2), (3, .int x3), (4, .int x4)] []) : ∀ (k0 : Nat) (x4 : Int32) (hk0 : k0 < 6) (d : DD) (dl : LL), b_X5_holds_34 n Q K7 k0 x4 d dl → FW g x 5 d dl 34 [(0, rf g (55 + 6 * k0)), (1, rf g 27), (4, .int x4)] [] := by
  intro k0 x4 hk0 d dl hw
  refine f_iconst (v := 1) C0 dX5_holds_34 rfl ?_
  refine f_goto (tgt := 39) C0 dX5_holds_35 (by decide) ?_
  exact t_X5_holds_39 C0 hZ hK7 _ _ _ hk0 _ _ hw
set_option maxHeartbeats 4000000 in
set_option maxRecDepth 100000 in
theorem t_X5_holds_7 {g : Ex} {x : Fx} {n : Nat} {Q : Int32 → DD → LL → Prop} (C0 : Cx g x cX5_holds 5 (some .boolean) RX5 1 23) (hZ : Zi g x Q) : ∀ (j : Nat) (k0 : Nat) (x2 : Int32) (x3 : Int32) (x4 : Int32) (hk0 : k0 < 6) (d : DD) (dl : LL), b_X5_holds_7 n Q j k0 x2 x3 x4 d dl → FW g x 5 d dl 7 [(0, rf g (55 + 6 * k0)), (1, rf g 27), (2, .int x2), (3, .int x3), (4, .int x4)] [] := by
  intro j
  induction j with
  | zero =>
    intro k0 x2 x3 x4 hk0 d dl hw
    exact hw.elim
  | succ j hK7 =>
    intro k0 x2 x3 x4 hk0 d dl hw
    refine f_iload C0 dX5_holds_7 4 rfl ?_
    refine f_aload_n C0 dX5_holds_9 rfl 0 rfl ⟨_, rfl⟩ ?_
    refine gf_5_0 C0 (kn_rule_0 hk0) mw_307 dX5_holds_10 ?_
    refine f_icmp_ge (tgt := 76) C0 dX5_holds_13 (by decide) (fun h1 => ?_) (fun h1 => ?_)
    · have hw := hw.1 h1
      refine f_iload_n C0 dX5_holds_76 rfl 2 rfl ?_
      refine f_if_ne (tgt := 84) C0 dX5_holds_77 (by decide) (fun h2 => ?_) (fun h2 => ?_)
      · have hw := hw.1 h2
        refine f_iconst (v := 1) C0 dX5_holds_84 rfl ?_
        refine f_goto (tgt := 89) C0 dX5_holds_85 (by decide) ?_
        exact f_zret C0 hZ (by decide) hw dX5_holds_89
      · have hw := hw.2 h2
        refine f_iload_n C0 dX5_holds_80 rfl 3 rfl ?_
        refine f_if_eq (tgt := 88) C0 dX5_holds_81 (by decide) (fun h3 => ?_) (fun h3 => ?_)
        · have hw := hw.1 h3
          refine f_iconst (v := 0) C0 dX5_holds_88 rfl ?_
          exact f_zret C0 hZ (by decide) hw dX5_holds_89
        · have hw := hw.2 h3
          refine f_iconst (v := 1) C0 dX5_holds_84 rfl ?_
          refine f_goto (tgt := 89) C0 dX5_holds_85 (by decide) ?_
          exact f_zret C0 hZ (by decide) hw dX5_holds_89
    · have hw := hw.2 h1
      refine f_aload_n C0 dX5_holds_16 rfl 0 rfl ⟨_, rfl⟩ ?_
      refine gf_5_5 (r := (60 + 6 * k0)) C0 (by omega) (kn_rule_0 hk0) mw_317 dX5_holds_17 ?_
      refine f_iload C0 dX5_holds_20 4 rfl ?_
      obtain ⟨h4, hw⟩ := hw
      refine f_zald C0 (kn_rule_5 hk0) h4 dX5_holds_22 ?_
      refine f_if_eq (tgt := 42) C0 dX5_holds_23 (by decide) (fun h5 => ?_) (fun h5 => ?_)
      · have hw := hw.1 h5
        exact t_X5_holds_42 C0 hZ hK7 _ _ _ _ hk0 _ _ hw
      · have hw := hw.2 h5
        refine f_iload_n C0 dX5_holds_26 rfl 2 rfl ?_
        refine f_if_ne (tgt := 34) C0 dX5_holds_27 (by decide) (fun h13 => ?_) (fun h13 => ?_)
        · have hw := hw.1 h13
          refine f_sub [0, 1, 4] rfl ?_
          exact t_X5_holds_34 C0 hZ hK7 _ _ hk0 _ _ hw
        · have hw := hw.2 h13
          refine f_iload_n C0 dX5_holds_30 rfl 3 rfl ?_
          refine f_if_eq (tgt := 38) C0 dX5_holds_31 (by decide) (fun h14 => ?_) (fun h14 => ?_)
          · have hw := hw.1 h14
            refine f_iconst (v := 0) C0 dX5_holds_38 rfl ?_
            refine f_sub [0, 1, 4] rfl ?_
            exact t_X5_holds_39 C0 hZ hK7 _ _ _ hk0 _ _ hw
          · have hw := hw.2 h14
            refine f_sub [0, 1, 4] rfl ?_
            exact t_X5_holds_34 C0 hZ hK7 _ _ hk0 _ _ hw
set_option maxHeartbeats 4000000 in
set_option maxRecDepth 100000 in
theorem m_X5_holds {g : Ex} {n : Nat} {k0 : Nat} {d : DD} {dl : LL} {Q : Int32 → DD → LL → Prop} (hk0 : k0 < 6) (hw : F_X5_holds n k0 d dl Q) : Mi g yX5_holds cX5_holds 5 (some .boolean) 1 23 [rf g (55 + 6 * k0), rf g 27] d dl Q := by
  refine Mi.of (by decide) (Nat.le_of_ble_eq_true rfl) (fun x C0 hZ => ?_)
  have C0 : Cx g x cX5_holds 5 (some .boolean) RX5 1 23 := C0
  refine f_iconst (v := 0) C0 dX5_holds_0 rfl ?_
  refine f_istore_n (lo' := [(2, .int 0), (0, rf g (55 + 6 * k0)), (1, rf g 27)]) C0 dX5_holds_1 rfl (by decide) rfl ?_
  refine f_iconst (v := 1) C0 dX5_holds_2 rfl ?_
  refine f_istore_n (lo' := [(3, .int 1), (2, .int 0), (0, rf g (55 + 6 * k0)), (1, rf g 27)]) C0 dX5_holds_3 rfl (by decide) rfl ?_
  refine f_iconst (v := 0) C0 dX5_holds_4 rfl ?_
  refine f_istore (lo' := [(4, .int 0), (3, .int 1), (2, .int 0), (0, rf g (55 + 6 * k0)), (1, rf g 27)]) C0 dX5_holds_5 (by decide) rfl ?_
  refine f_sub [3, 4, 2, 1, 0] rfl ?_
  exact t_X5_holds_7 C0 hZ n _ _ _ _ hk0 _ _ hw
def F_X9_keeps (n : Nat) (x1 : Int32) (x2 : Int32) (d : DD) (dl : LL) (Q : Int32 → DD → LL → Prop) : Prop := F_X9_isCrew n x1 d dl (fun r1 d2 l3 => (r1 = 0 → Q (-1) d2 l3) ∧ (¬ r1 = 0 → F_X9_within n x2 0 ((d2 0 7) - 1) d2 l3 (fun r5 d6 l7 => (¬ r5 = 0 → vp_in x1 6 ∧ ∀ k10 : Nat, k10 = x1.toNatClampNeg → (¬ (d6 (37 + 3 * k10) 6) = 0 → vp_in x1 6 ∧ ∀ k13 : Nat, k13 = x1.toNatClampNeg → F_X9_tallySeated n k13 d6 l7 (fun d15 l16 => vp_in x2 6 ∧ ∀ k18 : Nat, k18 = x2.toNatClampNeg → F_X5_holds n k18 d15 l16 (fun r19 d20 l21 => (r19 = 0 → Q 0 d20 l21) ∧ (¬ r19 = 0 → Q 1 d20 l21)))) ∧ ((d6 (37 + 3 * k10) 6) = 0 → Q (-3) d6 l7)) ∧ (r5 = 0 → Q (-1) d6 l7))))
set_option maxHeartbeats 4000000 in
set_option maxRecDepth 100000 in
theorem m_X9_keeps {g : Ex} {n : Nat} {x1 : Int32} {x2 : Int32} {d : DD} {dl : LL} {Q : Int32 → DD → LL → Prop} (hw : F_X9_keeps n x1 x2 d dl Q) : Mi g yX9_keeps cX9_keeps 3 (some .int) 2 47 [rf g 0, .int x1, .int x2] d dl Q := by
  refine Mi.of (by decide) (Nat.le_of_ble_eq_true rfl) (fun x C0 hZ => ?_)
  have C0 : Cx g x cX9_keeps 3 (some .int) RX9 2 47 := C0
  refine f_aload_n C0 dX9_keeps_0 rfl 0 rfl ⟨_, rfl⟩ ?_
  refine f_iload_n C0 dX9_keeps_1 rfl 1 rfl ?_
  refine f_callVi (As := [.int x1]) (rest := []) C0 (m_X9_isCrew hw) cw_X9_126 kn_0 (by decide) rfl rfl ⟨(Nat.le_of_ble_eq_true rfl), (Nat.le_of_ble_eq_true rfl)⟩ rfl rfl (Nat.le_of_ble_eq_true rfl) dX9_keeps_2 ?_
  intro r1 d2 l3 hw
  refine f_if_eq (tgt := 22) C0 dX9_keeps_5 (by decide) (fun h4 => ?_) (fun h4 => ?_)
  · have hw := hw.1 h4
    refine f_iconst (v := (-1)) C0 dX9_keeps_22 rfl ?_
    exact f_iret C0 hZ hw dX9_keeps_23
  · have hw := hw.2 h4
    refine f_iload_n C0 dX9_keeps_8 rfl 2 rfl ?_
    refine f_iconst (v := 0) C0 dX9_keeps_9 rfl ?_
    refine f_aload_n C0 dX9_keeps_10 rfl 0 rfl ⟨_, rfl⟩ ?_
    refine gf_9_7 C0 kn_0 mw_375 dX9_keeps_11 ?_
    refine f_iconst (v := 1) C0 dX9_keeps_14 rfl ?_
    refine f_isub C0 dX9_keeps_15 ?_
    refine f_callSi (As := [.int x2, .int 0, .int ((d2 0 7) - 1)]) (rest := []) C0 (m_X9_within hw) cw_X9_97  ⟨(Nat.le_of_ble_eq_true rfl), (Nat.le_of_ble_eq_true rfl)⟩ rfl rfl (Nat.le_of_ble_eq_true rfl) dX9_keeps_16 ?_
    intro r5 d6 l7 hw
    refine f_if_ne (tgt := 24) C0 dX9_keeps_19 (by decide) (fun h8 => ?_) (fun h8 => ?_)
    · have hw := hw.1 h8
      refine f_aload_n C0 dX9_keeps_24 rfl 0 rfl ⟨_, rfl⟩ ?_
      refine gf_9_1 (r := 8) C0 rfl kn_0 mw_369 dX9_keeps_25 ?_
      refine f_iload_n C0 dX9_keeps_28 rfl 1 rfl ?_
      obtain ⟨h9, hw⟩ := hw
      refine f_aald14 C0 kn_8 h9 dX9_keeps_29 (fun k10 ek10 hk10 => ?_)
      have hw := hw k10 ek10
      refine gf_1_6 C0 (kn_crew_0 hk10) mw_279 dX9_keeps_30 ?_
      refine f_if_ne (tgt := 39) C0 dX9_keeps_33 (by decide) (fun h11 => ?_) (fun h11 => ?_)
      · have hw := hw.1 h11
        refine f_aload_n C0 dX9_keeps_39 rfl 0 rfl ⟨_, rfl⟩ ?_
        refine f_aload_n C0 dX9_keeps_40 rfl 0 rfl ⟨_, rfl⟩ ?_
        refine gf_9_1 (r := 8) C0 rfl kn_0 mw_369 dX9_keeps_41 ?_
        refine f_iload_n C0 dX9_keeps_44 rfl 1 rfl ?_
        obtain ⟨h12, hw⟩ := hw
        refine f_aald14 C0 kn_8 h12 dX9_keeps_45 (fun k13 ek13 hk13 => ?_)
        have hw := hw k13 ek13
        refine f_callVv (As := [rf g (37 + 3 * k13)]) (rest := []) C0 (m_X9_tallySeated hk13 hw) cw_X9_204 kn_0 (by decide) rfl rfl ⟨(Nat.le_of_ble_eq_true rfl), (Nat.le_of_ble_eq_true rfl)⟩ rfl rfl (Nat.le_of_ble_eq_true rfl) dX9_keeps_46 ?_
        intro d15 l16 hw
        refine f_aload_n C0 dX9_keeps_49 rfl 0 rfl ⟨_, rfl⟩ ?_
        refine gf_9_6 (r := 26) C0 rfl kn_0 mw_374 dX9_keeps_50 ?_
        refine f_iload_n C0 dX9_keeps_53 rfl 2 rfl ?_
        obtain ⟨h17, hw⟩ := hw
        refine f_aald15 C0 kn_26 h17 dX9_keeps_54 (fun k18 ek18 hk18 => ?_)
        have hw := hw k18 ek18
        refine f_aload_n C0 dX9_keeps_55 rfl 0 rfl ⟨_, rfl⟩ ?_
        refine gf_9_8 (r := 27) C0 rfl kn_0 mw_376 dX9_keeps_56 ?_
        refine f_callVi (As := [rf g 27]) (rest := []) C0 (m_X5_holds hk18 hw) cw_X9_207 (kn_rule_0 hk18) (by decide) rfl rfl ⟨(Nat.le_of_ble_eq_true rfl), (Nat.le_of_ble_eq_true rfl)⟩ rfl rfl (Nat.le_of_ble_eq_true rfl) dX9_keeps_59 ?_
        intro r19 d20 l21 hw
        refine f_if_eq (tgt := 69) C0 dX9_keeps_62 (by decide) (fun h22 => ?_) (fun h22 => ?_)
        · have hw := hw.1 h22
          refine f_iconst (v := 0) C0 dX9_keeps_69 rfl ?_
          exact f_iret C0 hZ hw dX9_keeps_70
        · have hw := hw.2 h22
          refine f_iconst (v := 1) C0 dX9_keeps_65 rfl ?_
          refine f_goto (tgt := 70) C0 dX9_keeps_66 (by decide) ?_
          exact f_iret C0 hZ hw dX9_keeps_70
      · have hw := hw.2 h11
        refine f_bipush (v := (-3)) C0 dX9_keeps_36 rfl ?_
        exact f_iret C0 hZ hw dX9_keeps_38
    · have hw := hw.2 h8
      refine f_iconst (v := (-1)) C0 dX9_keeps_22 rfl ?_
      exact f_iret C0 hZ hw dX9_keeps_23
def F_X9_rest (n : Nat) (x1 : Int32) (d : DD) (dl : LL) (Q : Int32 → DD → LL → Prop) : Prop := F_X9_within n x1 0 99 d dl (fun r1 d2 l3 => (¬ r1 = 0 → ∀ v5 : Int32, v5 = (d2 0 9) → ∀ d6 : DD, d6 = u2 d2 0 9 x1 → Q v5 d6 l3) ∧ (r1 = 0 → Q (-2) d2 l3))
set_option maxHeartbeats 4000000 in
set_option maxRecDepth 100000 in
theorem m_X9_rest {g : Ex} {n : Nat} {x1 : Int32} {d : DD} {dl : LL} {Q : Int32 → DD → LL → Prop} (hw : F_X9_rest n x1 d dl Q) : Mi g yX9_rest cX9_rest 3 (some .int) 1 22 [rf g 0, .int x1] d dl Q := by
  refine Mi.of (by decide) (Nat.le_of_ble_eq_true rfl) (fun x C0 hZ => ?_)
  have C0 : Cx g x cX9_rest 3 (some .int) RX9 1 22 := C0
  refine f_iload_n C0 dX9_rest_0 rfl 1 rfl ?_
  refine f_iconst (v := 0) C0 dX9_rest_1 rfl ?_
  refine f_bipush (v := 99) C0 dX9_rest_2 rfl ?_
  refine f_callSi (As := [.int x1, .int 0, .int 99]) (rest := []) C0 (m_X9_within hw) cw_X9_97  ⟨(Nat.le_of_ble_eq_true rfl), (Nat.le_of_ble_eq_true rfl)⟩ rfl rfl (Nat.le_of_ble_eq_true rfl) dX9_rest_4 ?_
  intro r1 d2 l3 hw
  refine f_if_ne (tgt := 13) C0 dX9_rest_7 (by decide) (fun h4 => ?_) (fun h4 => ?_)
  · have hw := hw.1 h4
    refine f_aload_n C0 dX9_rest_13 rfl 0 rfl ⟨_, rfl⟩ ?_
    refine gf_9_9 C0 kn_0 mw_377 dX9_rest_14 ?_
    refine f_topi (fun v5 e5 => ?_)
    have hw := hw v5 e5
    refine f_istore_n (lo' := [(2, .int v5), (0, rf g 0), (1, .int x1)]) C0 dX9_rest_17 rfl (by decide) rfl ?_
    refine f_aload_n C0 dX9_rest_18 rfl 1 rfl ⟨_, rfl⟩ ?_
    refine f_iload_n C0 dX9_rest_19 rfl 2 rfl ?_
    refine pf_9_9 C0 kn_0 mw_377 dX9_rest_20 (fun d6 ed6 => ?_)
    have hw := hw d6 ed6
    refine f_iload_n C0 dX9_rest_23 rfl 0 rfl ?_
    exact f_iret C0 hZ hw dX9_rest_24
  · have hw := hw.2 h4
    refine f_bipush (v := (-2)) C0 dX9_rest_10 rfl ?_
    exact f_iret C0 hZ hw dX9_rest_12
def F_X9_isLane (n : Nat) (x0 : Int32) (d : DD) (dl : LL) (Q : Int32 → DD → LL → Prop) : Prop := F_X9_within n x0 0 3 d dl (fun r1 d2 l3 => narrow .boolean (.int r1) = .int r1 ∧ Q r1 d2 l3)
set_option maxHeartbeats 4000000 in
set_option maxRecDepth 100000 in
theorem m_X9_isLane {g : Ex} {n : Nat} {x0 : Int32} {d : DD} {dl : LL} {Q : Int32 → DD → LL → Prop} (hw : F_X9_isLane n x0 d dl Q) : Mi g yX9_isLane cX9_isLane 1 (some .boolean) 1 22 [.int x0] d dl Q := by
  refine Mi.of (by decide) (Nat.le_of_ble_eq_true rfl) (fun x C0 hZ => ?_)
  have C0 : Cx g x cX9_isLane 1 (some .boolean) RX9 1 22 := C0
  refine f_iload_n C0 dX9_isLane_0 rfl 0 rfl ?_
  refine f_iconst (v := 0) C0 dX9_isLane_1 rfl ?_
  refine f_iconst (v := 3) C0 dX9_isLane_2 rfl ?_
  refine f_callSi (As := [.int x0, .int 0, .int 3]) (rest := []) C0 (m_X9_within hw) cw_X9_97  ⟨(Nat.le_of_ble_eq_true rfl), (Nat.le_of_ble_eq_true rfl)⟩ rfl rfl (Nat.le_of_ble_eq_true rfl) dX9_isLane_3 ?_
  intro r1 d2 l3 hw
  exact f_zret C0 hZ hw.1 hw.2 dX9_isLane_6
def b_X9_isMetByOneOf_2 (n : Nat) (Q : Int32 → DD → LL → Prop) : Nat → Nat → Int32 → Int32 → DD → LL → Prop
  | 0 => fun _ _ _ _ _ => False
  | k + 1 => fun c1 x2 x3 d dl => (4 ≤ x3 → Q 0 d dl) ∧ (¬ 4 ≤ x3 → vp_in x3 4 ∧ ∀ v3 : Int32, v3 = (d c1 x3.toNatClampNeg) → (v3 = (-1) → (b_X9_isMetByOneOf_2 n Q k) c1 x2 (x3 + 1) d dl) ∧ (¬ v3 = (-1) → (v3 = x2 → Q 1 d dl) ∧ (¬ v3 = x2 → vp_in v3 6 ∧ ∀ k7 : Nat, k7 = v3.toNatClampNeg → vp_in x2 6 ∧ ∀ k9 : Nat, k9 = x2.toNatClampNeg → ((lg_cmp ((dl (37 + 3 * k7) 5) &&& (dl (37 + 3 * k9) 5)) 0) = 0 → (b_X9_isMetByOneOf_2 n Q k) c1 x2 (x3 + 1) d dl) ∧ (¬ (lg_cmp ((dl (37 + 3 * k7) 5) &&& (dl (37 + 3 * k9) 5)) 0) = 0 → Q 1 d dl))))
def F_X9_isMetByOneOf (n : Nat) (c1 : Nat) (x2 : Int32) (d : DD) (dl : LL) (Q : Int32 → DD → LL → Prop) : Prop := b_X9_isMetByOneOf_2 n Q n c1 x2 0 d dl
set_option maxHeartbeats 4000000 in
set_option maxRecDepth 100000 in
theorem t_X9_isMetByOneOf_2 {g : Ex} {x : Fx} {n : Nat} {Q : Int32 → DD → LL → Prop} (C0 : Cx g x cX9_isMetByOneOf 5 (some .boolean) RX9 0 0) (hZ : Zi g x Q) : ∀ (j : Nat) (c1 : Nat) (x2 : Int32) (x3 : Int32) (hc1 : KL c1 11 4) (d : DD) (dl : LL), b_X9_isMetByOneOf_2 n Q j c1 x2 x3 d dl → FW g x 5 d dl 2 [(0, rf g 0), (1, rf g c1), (2, .int x2), (3, .int x3)] [] := by
  intro j
  induction j with
  | zero =>
    intro c1 x2 x3 hc1 d dl hw
    exact hw.elim
  | succ j hK2 =>
    intro c1 x2 x3 hc1 d dl hw
    refine f_iload_n C0 dX9_isMetByOneOf_2 rfl 3 rfl ?_
    refine f_iconst (v := 4) C0 dX9_isMetByOneOf_3 rfl ?_
    refine f_icmp_ge (tgt := 57) C0 dX9_isMetByOneOf_4 (by decide) (fun h1 => ?_) (fun h1 => ?_)
    · have hw := hw.1 h1
      refine f_iconst (v := 0) C0 dX9_isMetByOneOf_57 rfl ?_
      exact f_zret C0 hZ (by decide) hw dX9_isMetByOneOf_58
    · have hw := hw.2 h1
      refine f_aload_n C0 dX9_isMetByOneOf_7 rfl 1 rfl ⟨_, rfl⟩ ?_
      refine f_iload_n C0 dX9_isMetByOneOf_8 rfl 3 rfl ?_
      obtain ⟨h2, hw⟩ := hw
      refine f_iald C0 hc1 h2 dX9_isMetByOneOf_9 ?_
      refine f_topi (fun v3 e3 => ?_)
      have hw := hw v3 e3
      refine f_istore (lo' := [(4, .int v3), (0, rf g 0), (1, rf g c1), (2, .int x2), (3, .int x3)]) C0 dX9_isMetByOneOf_10 (by decide) rfl ?_
      refine f_iload C0 dX9_isMetByOneOf_12 0 rfl ?_
      refine f_iconst (v := (-1)) C0 dX9_isMetByOneOf_14 rfl ?_
      refine f_icmp_eq (tgt := 51) C0 dX9_isMetByOneOf_15 (by decide) (fun h4 => ?_) (fun h4 => ?_)
      · have hw := hw.1 h4
        refine f_iinc (lo' := [(3, .int (x3 + 1)), (4, .int v3), (0, rf g 0), (1, rf g c1), (2, .int x2)]) C0 dX9_isMetByOneOf_51 4 rfl rfl (by decide) rfl ?_
        refine f_goto (tgt := 2) C0 dX9_isMetByOneOf_54 (by decide) ?_
        refine f_sub [2, 3, 4, 0] rfl ?_
        exact hK2 _ _ _ hc1 _ _ hw
      · have hw := hw.2 h4
        refine f_iload C0 dX9_isMetByOneOf_18 0 rfl ?_
        refine f_iload_n C0 dX9_isMetByOneOf_20 rfl 3 rfl ?_
        refine f_icmp_eq (tgt := 49) C0 dX9_isMetByOneOf_21 (by decide) (fun h5 => ?_) (fun h5 => ?_)
        · have hw := hw.1 h5
          refine f_iconst (v := 1) C0 dX9_isMetByOneOf_49 rfl ?_
          exact f_zret C0 hZ (by decide) hw dX9_isMetByOneOf_50
        · have hw := hw.2 h5
          refine f_aload_n C0 dX9_isMetByOneOf_24 rfl 1 rfl ⟨_, rfl⟩ ?_
          refine gf_9_1 (r := 8) C0 rfl kn_0 mw_369 dX9_isMetByOneOf_25 ?_
          refine f_iload C0 dX9_isMetByOneOf_28 0 rfl ?_
          obtain ⟨h6, hw⟩ := hw
          refine f_aald14 C0 kn_8 h6 dX9_isMetByOneOf_30 (fun k7 ek7 hk7 => ?_)
          have hw := hw k7 ek7
          refine gf_1_5 C0 (kn_crew_0 hk7) mw_277 dX9_isMetByOneOf_31 ?_
          refine f_aload_n C0 dX9_isMetByOneOf_34 rfl 1 rfl ⟨_, rfl⟩ ?_
          refine gf_9_1 (r := 8) C0 rfl kn_0 mw_369 dX9_isMetByOneOf_35 ?_
          refine f_iload_n C0 dX9_isMetByOneOf_38 rfl 3 rfl ?_
          obtain ⟨h8, hw⟩ := hw
          refine f_aald14 C0 kn_8 h8 dX9_isMetByOneOf_39 (fun k9 ek9 hk9 => ?_)
          have hw := hw k9 ek9
          refine gf_1_5 C0 (kn_crew_0 hk9) mw_277 dX9_isMetByOneOf_40 ?_
          refine f_land C0 dX9_isMetByOneOf_43 ?_
          refine f_lconst (v := 0) C0 dX9_isMetByOneOf_44 rfl ?_
          refine f_lcmp C0 dX9_isMetByOneOf_45 ?_
          refine f_if_eq (tgt := 51) C0 dX9_isMetByOneOf_46 (by decide) (fun h10 => ?_) (fun h10 => ?_)
          · have hw := hw.1 h10
            refine f_iinc (lo' := [(3, .int (x3 + 1)), (4, .int v3), (0, rf g 0), (1, rf g c1), (2, .int x2)]) C0 dX9_isMetByOneOf_51 4 rfl rfl (by decide) rfl ?_
            refine f_goto (tgt := 2) C0 dX9_isMetByOneOf_54 (by decide) ?_
            refine f_sub [2, 3, 4, 0] rfl ?_
            exact hK2 _ _ _ hc1 _ _ hw
          · have hw := hw.2 h10
            refine f_iconst (v := 1) C0 dX9_isMetByOneOf_49 rfl ?_
            exact f_zret C0 hZ (by decide) hw dX9_isMetByOneOf_50
set_option maxHeartbeats 4000000 in
set_option maxRecDepth 100000 in
theorem m_X9_isMetByOneOf {g : Ex} {n : Nat} {c1 : Nat} {x2 : Int32} {d : DD} {dl : LL} {Q : Int32 → DD → LL → Prop} (hc1 : KL c1 11 4) (hw : F_X9_isMetByOneOf n c1 x2 d dl Q) : Mi g yX9_isMetByOneOf cX9_isMetByOneOf 5 (some .boolean) 0 0 [rf g 0, rf g c1, .int x2] d dl Q := by
  refine Mi.of (by decide) (Nat.le_of_ble_eq_true rfl) (fun x C0 hZ => ?_)
  have C0 : Cx g x cX9_isMetByOneOf 5 (some .boolean) RX9 0 0 := C0
  refine f_iconst (v := 0) C0 dX9_isMetByOneOf_0 rfl ?_
  refine f_istore_n (lo' := [(3, .int 0), (0, rf g 0), (1, rf g c1), (2, .int x2)]) C0 dX9_isMetByOneOf_1 rfl (by decide) rfl ?_
  refine f_sub [1, 2, 3, 0] rfl ?_
  exact t_X9_isMetByOneOf_2 C0 hZ n _ _ _ hc1 _ _ hw
def b_X9_howManyWait_25 (n : Nat) (Q : Int32 → DD → LL → Prop) (K4 : Int32 → Int32 → DD → LL → Prop) (x2 : Int32) (xs0 : Int32) (xs1 : Int32) (d : DD) (dl : LL) : Prop := ∀ v4 : Int32, v4 = (xs1 + xs0) → K4 v4 (x2 + 1) d dl
def b_X9_howManyWait_4 (n : Nat) (Q : Int32 → DD → LL → Prop) : Nat → Int32 → Int32 → DD → LL → Prop
  | 0 => fun _ _ _ _ => False
  | k + 1 => fun x1 x2 d dl => (4 ≤ x2 → Q x1 d dl) ∧ (¬ 4 ≤ x2 → vp_in x2 4 ∧ ((d 28 x2.toNatClampNeg) = (-1) → b_X9_howManyWait_25 n Q (b_X9_howManyWait_4 n Q k) x2 0 x1 d dl) ∧ (¬ (d 28 x2.toNatClampNeg) = (-1) → b_X9_howManyWait_25 n Q (b_X9_howManyWait_4 n Q k) x2 1 x1 d dl))
def F_X9_howManyWait (n : Nat) (d : DD) (dl : LL) (Q : Int32 → DD → LL → Prop) : Prop := b_X9_howManyWait_4 n Q n 0 0 d dl
set_option maxHeartbeats 4000000 in
set_option maxRecDepth 100000 in
theorem t_X9_howManyWait_25 {g : Ex} {x : Fx} {n : Nat} {Q : Int32 → DD → LL → Prop} (C0 : Cx g x cX9_howManyWait 3 (some .int) RX9 0 0) (hZ : Zi g x Q) {K4 : Int32 → Int32 → DD → LL → Prop} (hK4 : ∀ (x1 : Int32) (x2 : Int32) (d : DD) (dl : LL), K4 x1 x2 d dl → FW g x 3 d dl 4 [(0, rf g 0), (1, .int x1), (2, .int x2)] []) : ∀ (x2 : Int32) (xs0 : Int32) (xs1 : Int32) (d : DD) (dl : LL), b_X9_howManyWait_25 n Q K4 x2 xs0 xs1 d dl → FW g x 3 d dl 25 [(0, rf g 0), (2, .int x2)] [.int xs0, .int xs1] := by
  intro x2 xs0 xs1 d dl hw
  refine f_iadd C0 dX9_howManyWait_25 ?_
  refine f_topi (fun v4 e4 => ?_)
  have hw := hw v4 e4
  refine f_istore_n (lo' := [(1, .int v4), (0, rf g 0), (2, .int x2)]) C0 dX9_howManyWait_26 rfl (by decide) rfl ?_
  refine f_iinc (lo' := [(2, .int (x2 + 1)), (1, .int v4), (0, rf g 0)]) C0 dX9_howManyWait_27 2 rfl rfl (by decide) rfl ?_
  refine f_goto (tgt := 4) C0 dX9_howManyWait_30 (by decide) ?_
  refine f_sub [2, 1, 0] rfl ?_
  exact hK4 _ _ _ _ hw
set_option maxHeartbeats 4000000 in
set_option maxRecDepth 100000 in
theorem t_X9_howManyWait_4 {g : Ex} {x : Fx} {n : Nat} {Q : Int32 → DD → LL → Prop} (C0 : Cx g x cX9_howManyWait 3 (some .int) RX9 0 0) (hZ : Zi g x Q) : ∀ (j : Nat) (x1 : Int32) (x2 : Int32) (d : DD) (dl : LL), b_X9_howManyWait_4 n Q j x1 x2 d dl → FW g x 3 d dl 4 [(0, rf g 0), (1, .int x1), (2, .int x2)] [] := by
  intro j
  induction j with
  | zero =>
    intro x1 x2 d dl hw
    exact hw.elim
  | succ j hK4 =>
    intro x1 x2 d dl hw
    refine f_iload_n C0 dX9_howManyWait_4 rfl 2 rfl ?_
    refine f_iconst (v := 4) C0 dX9_howManyWait_5 rfl ?_
    refine f_icmp_ge (tgt := 33) C0 dX9_howManyWait_6 (by decide) (fun h1 => ?_) (fun h1 => ?_)
    · have hw := hw.1 h1
      refine f_iload_n C0 dX9_howManyWait_33 rfl 1 rfl ?_
      exact f_iret C0 hZ hw dX9_howManyWait_34
    · have hw := hw.2 h1
      refine f_iload_n C0 dX9_howManyWait_9 rfl 1 rfl ?_
      refine f_aload_n C0 dX9_howManyWait_10 rfl 0 rfl ⟨_, rfl⟩ ?_
      refine gf_9_10 (r := 28) C0 rfl kn_0 mw_378 dX9_howManyWait_11 ?_
      refine f_iload_n C0 dX9_howManyWait_14 rfl 2 rfl ?_
      obtain ⟨h2, hw⟩ := hw
      refine f_iald C0 kn_28 h2 dX9_howManyWait_15 ?_
      refine f_iconst (v := (-1)) C0 dX9_howManyWait_16 rfl ?_
      refine f_icmp_eq (tgt := 24) C0 dX9_howManyWait_17 (by decide) (fun h3 => ?_) (fun h3 => ?_)
      · have hw := hw.1 h3
        refine f_iconst (v := 0) C0 dX9_howManyWait_24 rfl ?_
        refine f_sub [0, 2] rfl ?_
        exact t_X9_howManyWait_25 C0 hZ hK4 _ _ _ _ _ hw
      · have hw := hw.2 h3
        refine f_iconst (v := 1) C0 dX9_howManyWait_20 rfl ?_
        refine f_goto (tgt := 25) C0 dX9_howManyWait_21 (by decide) ?_
        refine f_sub [0, 2] rfl ?_
        exact t_X9_howManyWait_25 C0 hZ hK4 _ _ _ _ _ hw
set_option maxHeartbeats 4000000 in
set_option maxRecDepth 100000 in
theorem m_X9_howManyWait {g : Ex} {n : Nat} {d : DD} {dl : LL} {Q : Int32 → DD → LL → Prop} (hw : F_X9_howManyWait n d dl Q) : Mi g yX9_howManyWait cX9_howManyWait 3 (some .int) 0 0 [rf g 0] d dl Q := by
  refine Mi.of (by decide) (Nat.le_of_ble_eq_true rfl) (fun x C0 hZ => ?_)
  have C0 : Cx g x cX9_howManyWait 3 (some .int) RX9 0 0 := C0
  refine f_iconst (v := 0) C0 dX9_howManyWait_0 rfl ?_
  refine f_istore_n (lo' := [(1, .int 0), (0, rf g 0)]) C0 dX9_howManyWait_1 rfl (by decide) rfl ?_
  refine f_iconst (v := 0) C0 dX9_howManyWait_2 rfl ?_
  refine f_istore_n (lo' := [(2, .int 0), (1, .int 0), (0, rf g 0)]) C0 dX9_howManyWait_3 rfl (by decide) rfl ?_
  refine f_sub [2, 1, 0] rfl ?_
  exact t_X9_howManyWait_4 C0 hZ n _ _ _ _ hw
def F_X9_lane (n : Nat) (x1 : Int32) (x2 : Int32) (d : DD) (dl : LL) (Q : Int32 → DD → LL → Prop) : Prop := F_X9_isCrew n x1 d dl (fun r1 d2 l3 => (r1 = 0 → Q (-1) d2 l3) ∧ (¬ r1 = 0 → F_X9_isLane n x2 d2 l3 (fun r5 d6 l7 => (¬ r5 = 0 → vp_in x2 4 ∧ (¬ (d6 28 x2.toNatClampNeg) = (-1) → Q (-3) d6 l7) ∧ ((d6 28 x2.toNatClampNeg) = (-1) → F_X9_isMetByOneOf n 28 x1 d6 l7 (fun r11 d12 l13 => (r11 = 0 → vp_in x2 4 ∧ ∀ d16 : DD, d16 = u2 d12 28 x2.toNatClampNeg x1 → F_X9_howManyWait n d16 l13 (fun r17 d18 l19 => Q r17 d18 l19)) ∧ (¬ r11 = 0 → Q (-3) d12 l13)))) ∧ (r5 = 0 → Q (-1) d6 l7))))
set_option maxHeartbeats 4000000 in
set_option maxRecDepth 100000 in
theorem m_X9_lane {g : Ex} {n : Nat} {x1 : Int32} {x2 : Int32} {d : DD} {dl : LL} {Q : Int32 → DD → LL → Prop} (hw : F_X9_lane n x1 x2 d dl Q) : Mi g yX9_lane cX9_lane 3 (some .int) 2 43 [rf g 0, .int x1, .int x2] d dl Q := by
  refine Mi.of (by decide) (Nat.le_of_ble_eq_true rfl) (fun x C0 hZ => ?_)
  have C0 : Cx g x cX9_lane 3 (some .int) RX9 2 43 := C0
  refine f_aload_n C0 dX9_lane_0 rfl 0 rfl ⟨_, rfl⟩ ?_
  refine f_iload_n C0 dX9_lane_1 rfl 1 rfl ?_
  refine f_callVi (As := [.int x1]) (rest := []) C0 (m_X9_isCrew hw) cw_X9_126 kn_0 (by decide) rfl rfl ⟨(Nat.le_of_ble_eq_true rfl), (Nat.le_of_ble_eq_true rfl)⟩ rfl rfl (Nat.le_of_ble_eq_true rfl) dX9_lane_2 ?_
  intro r1 d2 l3 hw
  refine f_if_eq (tgt := 15) C0 dX9_lane_5 (by decide) (fun h4 => ?_) (fun h4 => ?_)
  · have hw := hw.1 h4
    refine f_iconst (v := (-1)) C0 dX9_lane_15 rfl ?_
    exact f_iret C0 hZ hw dX9_lane_16
  · have hw := hw.2 h4
    refine f_iload_n C0 dX9_lane_8 rfl 2 rfl ?_
    refine f_callSi (As := [.int x2]) (rest := []) C0 (m_X9_isLane hw) cw_X9_211  ⟨(Nat.le_of_ble_eq_true rfl), (Nat.le_of_ble_eq_true rfl)⟩ rfl rfl (Nat.le_of_ble_eq_true rfl) dX9_lane_9 ?_
    intro r5 d6 l7 hw
    refine f_if_ne (tgt := 17) C0 dX9_lane_12 (by decide) (fun h8 => ?_) (fun h8 => ?_)
    · have hw := hw.1 h8
      refine f_aload_n C0 dX9_lane_17 rfl 0 rfl ⟨_, rfl⟩ ?_
      refine gf_9_10 (r := 28) C0 rfl kn_0 mw_378 dX9_lane_18 ?_
      refine f_iload_n C0 dX9_lane_21 rfl 2 rfl ?_
      obtain ⟨h9, hw⟩ := hw
      refine f_iald C0 kn_28 h9 dX9_lane_22 ?_
      refine f_iconst (v := (-1)) C0 dX9_lane_23 rfl ?_
      refine f_icmp_ne (tgt := 39) C0 dX9_lane_24 (by decide) (fun h10 => ?_) (fun h10 => ?_)
      · have hw := hw.1 h10
        refine f_bipush (v := (-3)) C0 dX9_lane_39 rfl ?_
        exact f_iret C0 hZ hw dX9_lane_41
      · have hw := hw.2 h10
        refine f_aload_n C0 dX9_lane_27 rfl 0 rfl ⟨_, rfl⟩ ?_
        refine f_aload_n C0 dX9_lane_28 rfl 0 rfl ⟨_, rfl⟩ ?_
        refine gf_9_10 (r := 28) C0 rfl kn_0 mw_378 dX9_lane_29 ?_
        refine f_iload_n C0 dX9_lane_32 rfl 1 rfl ?_
        refine f_callVi (As := [rf g 28, .int x1]) (rest := []) C0 (m_X9_isMetByOneOf kn_28 hw) cw_X9_214 kn_0 (by decide) rfl rfl ⟨(Nat.le_of_ble_eq_true rfl), (Nat.le_of_ble_eq_true rfl)⟩ rfl rfl (Nat.le_of_ble_eq_true rfl) dX9_lane_33 ?_
        intro r11 d12 l13 hw
        refine f_if_eq (tgt := 42) C0 dX9_lane_36 (by decide) (fun h14 => ?_) (fun h14 => ?_)
        · have hw := hw.1 h14
          refine f_aload_n C0 dX9_lane_42 rfl 0 rfl ⟨_, rfl⟩ ?_
          refine gf_9_10 (r := 28) C0 rfl kn_0 mw_378 dX9_lane_43 ?_
          refine f_iload_n C0 dX9_lane_46 rfl 2 rfl ?_
          refine f_iload_n C0 dX9_lane_47 rfl 1 rfl ?_
          obtain ⟨h15, hw⟩ := hw
          refine f_iast C0 kn_28 h15 dX9_lane_48 (fun d16 ed16 => ?_)
          have hw := hw d16 ed16
          refine f_aload_n C0 dX9_lane_49 rfl 0 rfl ⟨_, rfl⟩ ?_
          refine f_callVi (As := []) (rest := []) C0 (m_X9_howManyWait hw) cw_X9_218 kn_0 (by decide) rfl rfl ⟨(Nat.le_of_ble_eq_true rfl), (Nat.le_of_ble_eq_true rfl)⟩ rfl rfl (Nat.le_of_ble_eq_true rfl) dX9_lane_50 ?_
          intro r17 d18 l19 hw
          exact f_iret C0 hZ hw dX9_lane_53
        · have hw := hw.2 h14
          refine f_bipush (v := (-3)) C0 dX9_lane_39 rfl ?_
          exact f_iret C0 hZ hw dX9_lane_41
    · have hw := hw.2 h8
      refine f_iconst (v := (-1)) C0 dX9_lane_15 rfl ?_
      exact f_iret C0 hZ hw dX9_lane_16
def b_X3_set_13 (n : Nat) (Q : DD → LL → Prop) : Nat → Nat → Int32 → DD → LL → Prop
  | 0 => fun _ _ _ _ => False
  | k + 1 => fun k0 x4 d dl => (4 ≤ x4 → Q d dl) ∧ (¬ 4 ≤ x4 → vp_in x4 4 ∧ vp_in x4 4 ∧ ∀ d6 : DD, d6 = u2 d (92 + 5 * k0) x4.toNatClampNeg (d 28 x4.toNatClampNeg) → (b_X3_set_13 n Q k) k0 (x4 + 1) d6 dl)
def F_X3_set (n : Nat) (k0 : Nat) (x1 : Int32) (x2 : Int32) (d : DD) (dl : LL) (Q : DD → LL → Prop) : Prop := ∀ d1 : DD, d1 = u2 d (91 + 5 * k0) 0 x1 → ∀ d2 : DD, d2 = u2 d1 (91 + 5 * k0) 1 x2 → b_X3_set_13 n Q n k0 0 d2 dl
set_option maxHeartbeats 4000000 in
set_option maxRecDepth 100000 in
theorem t_X3_set_13 {g : Ex} {x : Fx} {n : Nat} {Q : DD → LL → Prop} (C0 : Cx g x cX3_set 5 none RX3 0 0) (hZ : Zv g x Q) : ∀ (j : Nat) (k0 : Nat) (x4 : Int32) (hk0 : k0 < 24) (d : DD) (dl : LL), b_X3_set_13 n Q j k0 x4 d dl → FW g x 5 d dl 13 [(0, rf g (91 + 5 * k0)), (3, rf g 28), (4, .int x4)] [] := by
  intro j
  induction j with
  | zero =>
    intro k0 x4 hk0 d dl hw
    exact hw.elim
  | succ j hK13 =>
    intro k0 x4 hk0 d dl hw
    refine f_iload C0 dX3_set_13 2 rfl ?_
    refine f_iconst (v := 4) C0 dX3_set_15 rfl ?_
    refine f_icmp_ge (tgt := 36) C0 dX3_set_16 (by decide) (fun h3 => ?_) (fun h3 => ?_)
    · have hw := hw.1 h3
      exact f_vret C0 hZ hw dX3_set_36
    · have hw := hw.2 h3
      refine f_aload_n C0 dX3_set_19 rfl 0 rfl ⟨_, rfl⟩ ?_
      refine gf_3_3 (r := (92 + 5 * k0)) C0 (by omega) (kn_race_0 hk0) mw_343 dX3_set_20 ?_
      refine f_iload C0 dX3_set_23 2 rfl ?_
      refine f_aload_n C0 dX3_set_25 rfl 1 rfl ⟨_, rfl⟩ ?_
      refine f_iload C0 dX3_set_26 2 rfl ?_
      obtain ⟨h4, hw⟩ := hw
      refine f_iald C0 kn_28 h4 dX3_set_28 ?_
      obtain ⟨h5, hw⟩ := hw
      refine f_iast C0 (kn_race_1 hk0) h5 dX3_set_29 (fun d6 ed6 => ?_)
      have hw := hw d6 ed6
      refine f_iinc (lo' := [(4, .int (x4 + 1)), (0, rf g (91 + 5 * k0)), (3, rf g 28)]) C0 dX3_set_30 2 rfl rfl (by decide) rfl ?_
      refine f_goto (tgt := 13) C0 dX3_set_33 (by decide) ?_
      refine f_sub [1, 2, 0] rfl ?_
      exact hK13 _ _ hk0 _ _ hw
set_option maxHeartbeats 4000000 in
set_option maxRecDepth 100000 in
theorem m_X3_set {g : Ex} {n : Nat} {k0 : Nat} {x1 : Int32} {x2 : Int32} {d : DD} {dl : LL} {Q : DD → LL → Prop} (hk0 : k0 < 24) (hw : F_X3_set n k0 x1 x2 d dl Q) : Mv g yX3_set cX3_set 5 none 0 0 [rf g (91 + 5 * k0), .int x1, .int x2, rf g 28] d dl Q := by
  refine Mv.of (by decide) (Nat.le_of_ble_eq_true rfl) (fun x C0 hZ => ?_)
  have C0 : Cx g x cX3_set 5 none RX3 0 0 := C0
  refine f_aload_n C0 dX3_set_0 rfl 0 rfl ⟨_, rfl⟩ ?_
  refine f_iload_n C0 dX3_set_1 rfl 1 rfl ?_
  refine pf_3_0 C0 (kn_race_0 hk0) mw_337 dX3_set_2 (fun d1 ed1 => ?_)
  have hw := hw d1 ed1
  refine f_aload_n C0 dX3_set_5 rfl 0 rfl ⟨_, rfl⟩ ?_
  refine f_iload_n C0 dX3_set_6 rfl 2 rfl ?_
  refine pf_3_1 C0 (kn_race_0 hk0) mw_338 dX3_set_7 (fun d2 ed2 => ?_)
  have hw := hw d2 ed2
  refine f_iconst (v := 0) C0 dX3_set_10 rfl ?_
  refine f_istore (lo' := [(4, .int 0), (0, rf g (91 + 5 * k0)), (1, .int x1), (2, .int x2), (3, rf g 28)]) C0 dX3_set_11 (by decide) rfl ?_
  refine f_sub [1, 4, 0] rfl ?_
  exact t_X3_set_13 C0 hZ n _ _ hk0 _ _ hw
def F_X3_minutesTo (n : Nat) (k0 : Nat) (k1 : Nat) (d : DD) (dl : LL) (Q : Int32 → DD → LL → Prop) : Prop := Q (if 0 ≤ ((d (91 + 5 * k0) 0) - (d (91 + 5 * k1) 0)) then ((d (91 + 5 * k0) 0) - (d (91 + 5 * k1) 0)) else -((d (91 + 5 * k0) 0) - (d (91 + 5 * k1) 0))) d dl
set_option maxHeartbeats 4000000 in
set_option maxRecDepth 100000 in
theorem m_X3_minutesTo {g : Ex} {n : Nat} {k0 : Nat} {k1 : Nat} {d : DD} {dl : LL} {Q : Int32 → DD → LL → Prop} (hk0 : k0 < 24) (hk1 : k1 < 24) (hw : F_X3_minutesTo n k0 k1 d dl Q) : Mi g yX3_minutesTo cX3_minutesTo 2 (some .int) 1 13 [rf g (91 + 5 * k0), rf g (91 + 5 * k1)] d dl Q := by
  refine Mi.of (by decide) (Nat.le_of_ble_eq_true rfl) (fun x C0 hZ => ?_)
  have C0 : Cx g x cX3_minutesTo 2 (some .int) RX3 1 13 := C0
  refine f_aload_n C0 dX3_minutesTo_0 rfl 0 rfl ⟨_, rfl⟩ ?_
  refine gf_3_0 C0 (kn_race_0 hk0) mw_337 dX3_minutesTo_1 ?_
  refine f_aload_n C0 dX3_minutesTo_4 rfl 1 rfl ⟨_, rfl⟩ ?_
  refine gf_3_0 C0 (kn_race_0 hk1) mw_337 dX3_minutesTo_5 ?_
  refine f_isub C0 dX3_minutesTo_8 ?_
  refine f_mabs (v := 0) C0 mw_732 mw_522 mw_59 mw_523 ⟨(Nat.le_of_ble_eq_true rfl), (Nat.le_of_ble_eq_true rfl)⟩ dX3_minutesTo_9 ?_
  exact f_iret C0 hZ hw dX3_minutesTo_12
def b_X9_racesMeet_2 (n : Nat) (Q : Int32 → DD → LL → Prop) : Nat → Nat → Nat → Int32 → DD → LL → Prop
  | 0 => fun _ _ _ _ _ => False
  | k + 1 => fun k1 k2 x3 d dl => (4 ≤ x3 → Q 0 d dl) ∧ (¬ 4 ≤ x3 → vp_in x3 4 ∧ ((d (92 + 5 * k1) x3.toNatClampNeg) = (-1) → (b_X9_racesMeet_2 n Q k) k1 k2 (x3 + 1) d dl) ∧ (¬ (d (92 + 5 * k1) x3.toNatClampNeg) = (-1) → vp_in x3 4 ∧ F_X9_isMetByOneOf n (92 + 5 * k2) (d (92 + 5 * k1) x3.toNatClampNeg) d dl (fun r5 d6 l7 => (r5 = 0 → (b_X9_racesMeet_2 n Q k) k1 k2 (x3 + 1) d6 l7) ∧ (¬ r5 = 0 → Q 1 d6 l7))))
def F_X9_racesMeet (n : Nat) (k1 : Nat) (k2 : Nat) (d : DD) (dl : LL) (Q : Int32 → DD → LL → Prop) : Prop := b_X9_racesMeet_2 n Q n k1 k2 0 d dl
set_option maxHeartbeats 4000000 in
set_option maxRecDepth 100000 in
theorem t_X9_racesMeet_2 {g : Ex} {x : Fx} {n : Nat} {Q : Int32 → DD → LL → Prop} (C0 : Cx g x cX9_racesMeet 4 (some .boolean) RX9 1 24) (hZ : Zi g x Q) : ∀ (j : Nat) (k1 : Nat) (k2 : Nat) (x3 : Int32) (hk1 : k1 < 24) (hk2 : k2 < 24) (d : DD) (dl : LL), b_X9_racesMeet_2 n Q j k1 k2 x3 d dl → FW g x 4 d dl 2 [(0, rf g 0), (1, rf g (91 + 5 * k1)), (2, rf g (91 + 5 * k2)), (3, .int x3)] [] := by
  intro j
  induction j with
  | zero =>
    intro k1 k2 x3 hk1 hk2 d dl hw
    exact hw.elim
  | succ j hK2 =>
    intro k1 k2 x3 hk1 hk2 d dl hw
    refine f_iload_n C0 dX9_racesMeet_2 rfl 3 rfl ?_
    refine f_iconst (v := 4) C0 dX9_racesMeet_3 rfl ?_
    refine f_icmp_ge (tgt := 42) C0 dX9_racesMeet_4 (by decide) (fun h1 => ?_) (fun h1 => ?_)
    · have hw := hw.1 h1
      refine f_iconst (v := 0) C0 dX9_racesMeet_42 rfl ?_
      exact f_zret C0 hZ (by decide) hw dX9_racesMeet_43
    · have hw := hw.2 h1
      refine f_aload_n C0 dX9_racesMeet_7 rfl 1 rfl ⟨_, rfl⟩ ?_
      refine gf_3_3 (r := (92 + 5 * k1)) C0 (by omega) (kn_race_0 hk1) mw_345 dX9_racesMeet_8 ?_
      refine f_iload_n C0 dX9_racesMeet_11 rfl 3 rfl ?_
      obtain ⟨h2, hw⟩ := hw
      refine f_iald C0 (kn_race_1 hk1) h2 dX9_racesMeet_12 ?_
      refine f_iconst (v := (-1)) C0 dX9_racesMeet_13 rfl ?_
      refine f_icmp_eq (tgt := 36) C0 dX9_racesMeet_14 (by decide) (fun h3 => ?_) (fun h3 => ?_)
      · have hw := hw.1 h3
        refine f_iinc (lo' := [(3, .int (x3 + 1)), (0, rf g 0), (1, rf g (91 + 5 * k1)), (2, rf g (91 + 5 * k2))]) C0 dX9_racesMeet_36 3 rfl rfl (by decide) rfl ?_
        refine f_goto (tgt := 2) C0 dX9_racesMeet_39 (by decide) ?_
        refine f_sub [1, 2, 3, 0] rfl ?_
        exact hK2 _ _ _ hk1 hk2 _ _ hw
      · have hw := hw.2 h3
        refine f_aload_n C0 dX9_racesMeet_17 rfl 0 rfl ⟨_, rfl⟩ ?_
        refine f_aload_n C0 dX9_racesMeet_18 rfl 2 rfl ⟨_, rfl⟩ ?_
        refine gf_3_3 (r := (92 + 5 * k2)) C0 (by omega) (kn_race_0 hk2) mw_345 dX9_racesMeet_19 ?_
        refine f_aload_n C0 dX9_racesMeet_22 rfl 1 rfl ⟨_, rfl⟩ ?_
        refine gf_3_3 (r := (92 + 5 * k1)) C0 (by omega) (kn_race_0 hk1) mw_345 dX9_racesMeet_23 ?_
        refine f_iload_n C0 dX9_racesMeet_26 rfl 3 rfl ?_
        obtain ⟨h4, hw⟩ := hw
        refine f_iald C0 (kn_race_1 hk1) h4 dX9_racesMeet_27 ?_
        refine f_callVi (As := [rf g (92 + 5 * k2), .int (d (92 + 5 * k1) x3.toNatClampNeg)]) (rest := []) C0 (m_X9_isMetByOneOf (kn_race_1 hk2) hw) cw_X9_214 kn_0 (by decide) rfl rfl ⟨(Nat.le_of_ble_eq_true rfl), (Nat.le_of_ble_eq_true rfl)⟩ rfl rfl (Nat.le_of_ble_eq_true rfl) dX9_racesMeet_28 ?_
        intro r5 d6 l7 hw
        refine f_if_eq (tgt := 36) C0 dX9_racesMeet_31 (by decide) (fun h8 => ?_) (fun h8 => ?_)
        · have hw := hw.1 h8
          refine f_iinc (lo' := [(3, .int (x3 + 1)), (0, rf g 0), (1, rf g (91 + 5 * k1)), (2, rf g (91 + 5 * k2))]) C0 dX9_racesMeet_36 3 rfl rfl (by decide) rfl ?_
          refine f_goto (tgt := 2) C0 dX9_racesMeet_39 (by decide) ?_
          refine f_sub [1, 2, 3, 0] rfl ?_
          exact hK2 _ _ _ hk1 hk2 _ _ hw
        · have hw := hw.2 h8
          refine f_iconst (v := 1) C0 dX9_racesMeet_34 rfl ?_
          exact f_zret C0 hZ (by decide) hw dX9_racesMeet_35
set_option maxHeartbeats 4000000 in
set_option maxRecDepth 100000 in
theorem m_X9_racesMeet {g : Ex} {n : Nat} {k1 : Nat} {k2 : Nat} {d : DD} {dl : LL} {Q : Int32 → DD → LL → Prop} (hk1 : k1 < 24) (hk2 : k2 < 24) (hw : F_X9_racesMeet n k1 k2 d dl Q) : Mi g yX9_racesMeet cX9_racesMeet 4 (some .boolean) 1 24 [rf g 0, rf g (91 + 5 * k1), rf g (91 + 5 * k2)] d dl Q := by
  refine Mi.of (by decide) (Nat.le_of_ble_eq_true rfl) (fun x C0 hZ => ?_)
  have C0 : Cx g x cX9_racesMeet 4 (some .boolean) RX9 1 24 := C0
  refine f_iconst (v := 0) C0 dX9_racesMeet_0 rfl ?_
  refine f_istore_n (lo' := [(3, .int 0), (0, rf g 0), (1, rf g (91 + 5 * k1)), (2, rf g (91 + 5 * k2))]) C0 dX9_racesMeet_1 rfl (by decide) rfl ?_
  refine f_sub [1, 2, 3, 0] rfl ?_
  exact t_X9_racesMeet_2 C0 hZ n _ _ _ hk1 hk2 _ _ hw
def b_X9_firstBarring_2 (n : Nat) (Q : Int32 → DD → LL → Prop) : Nat → Int32 → Int32 → DD → LL → Prop
  | 0 => fun _ _ _ _ => False
  | k + 1 => fun x1 x2 d dl => (x1 ≤ x2 → Q (-1) d dl) ∧ (¬ x1 ≤ x2 → vp_in x1 24 ∧ ∀ k3 : Nat, k3 = x1.toNatClampNeg → vp_in x2 24 ∧ ∀ k5 : Nat, k5 = x2.toNatClampNeg → F_X3_minutesTo n k3 k5 d dl (fun r6 d7 l8 => ((d7 0 9) ≤ r6 → (b_X9_firstBarring_2 n Q k) x1 (x2 + 1) d7 l8) ∧ (¬ (d7 0 9) ≤ r6 → vp_in x1 24 ∧ ∀ k11 : Nat, k11 = x1.toNatClampNeg → vp_in x2 24 ∧ ∀ k13 : Nat, k13 = x2.toNatClampNeg → F_X9_racesMeet n k11 k13 d7 l8 (fun r14 d15 l16 => (r14 = 0 → (b_X9_firstBarring_2 n Q k) x1 (x2 + 1) d15 l16) ∧ (¬ r14 = 0 → Q x2 d15 l16)))))
def F_X9_firstBarring (n : Nat) (x1 : Int32) (d : DD) (dl : LL) (Q : Int32 → DD → LL → Prop) : Prop := b_X9_firstBarring_2 n Q n x1 0 d dl
set_option maxHeartbeats 4000000 in
set_option maxRecDepth 100000 in
theorem t_X9_firstBarring_2 {g : Ex} {x : Fx} {n : Nat} {Q : Int32 → DD → LL → Prop} (C0 : Cx g x cX9_firstBarring 3 (some .int) RX9 2 47) (hZ : Zi g x Q) : ∀ (j : Nat) (x1 : Int32) (x2 : Int32) (d : DD) (dl : LL), b_X9_firstBarring_2 n Q j x1 x2 d dl → FW g x 3 d dl 2 [(0, rf g 0), (1, .int x1), (2, .int x2)] [] := by
  intro j
  induction j with
  | zero =>
    intro x1 x2 d dl hw
    exact hw.elim
  | succ j hK2 =>
    intro x1 x2 d dl hw
    refine f_iload_n C0 dX9_firstBarring_2 rfl 2 rfl ?_
    refine f_iload_n C0 dX9_firstBarring_3 rfl 1 rfl ?_
    refine f_icmp_ge (tgt := 56) C0 dX9_firstBarring_4 (by decide) (fun h1 => ?_) (fun h1 => ?_)
    · have hw := hw.1 h1
      refine f_iconst (v := (-1)) C0 dX9_firstBarring_56 rfl ?_
      exact f_iret C0 hZ hw dX9_firstBarring_57
    · have hw := hw.2 h1
      refine f_aload_n C0 dX9_firstBarring_7 rfl 0 rfl ⟨_, rfl⟩ ?_
      refine gf_9_12 (r := 30) C0 rfl kn_0 mw_380 dX9_firstBarring_8 ?_
      refine f_iload_n C0 dX9_firstBarring_11 rfl 1 rfl ?_
      obtain ⟨h2, hw⟩ := hw
      refine f_aald16 C0 kn_30 h2 dX9_firstBarring_12 (fun k3 ek3 hk3 => ?_)
      have hw := hw k3 ek3
      refine f_aload_n C0 dX9_firstBarring_13 rfl 0 rfl ⟨_, rfl⟩ ?_
      refine gf_9_12 (r := 30) C0 rfl kn_0 mw_380 dX9_firstBarring_14 ?_
      refine f_iload_n C0 dX9_firstBarring_17 rfl 2 rfl ?_
      obtain ⟨h4, hw⟩ := hw
      refine f_aald16 C0 kn_30 h4 dX9_firstBarring_18 (fun k5 ek5 hk5 => ?_)
      have hw := hw k5 ek5
      refine f_callVi (As := [rf g (91 + 5 * k5)]) (rest := []) C0 (m_X3_minutesTo hk3 hk5 hw) cw_X9_272 (kn_race_0 hk3) (by decide) rfl rfl ⟨(Nat.le_of_ble_eq_true rfl), (Nat.le_of_ble_eq_true rfl)⟩ rfl rfl (Nat.le_of_ble_eq_true rfl) dX9_firstBarring_19 ?_
      intro r6 d7 l8 hw
      refine f_aload_n C0 dX9_firstBarring_22 rfl 0 rfl ⟨_, rfl⟩ ?_
      refine gf_9_9 C0 kn_0 mw_377 dX9_firstBarring_23 ?_
      refine f_icmp_ge (tgt := 50) C0 dX9_firstBarring_26 (by decide) (fun h9 => ?_) (fun h9 => ?_)
      · have hw := hw.1 h9
        refine f_iinc (lo' := [(2, .int (x2 + 1)), (0, rf g 0), (1, .int x1)]) C0 dX9_firstBarring_50 2 rfl rfl (by decide) rfl ?_
        refine f_goto (tgt := 2) C0 dX9_firstBarring_53 (by decide) ?_
        refine f_sub [1, 2, 0] rfl ?_
        exact hK2 _ _ _ _ hw
      · have hw := hw.2 h9
        refine f_aload_n C0 dX9_firstBarring_29 rfl 0 rfl ⟨_, rfl⟩ ?_
        refine f_aload_n C0 dX9_firstBarring_30 rfl 0 rfl ⟨_, rfl⟩ ?_
        refine gf_9_12 (r := 30) C0 rfl kn_0 mw_380 dX9_firstBarring_31 ?_
        refine f_iload_n C0 dX9_firstBarring_34 rfl 1 rfl ?_
        obtain ⟨h10, hw⟩ := hw
        refine f_aald16 C0 kn_30 h10 dX9_firstBarring_35 (fun k11 ek11 hk11 => ?_)
        have hw := hw k11 ek11
        refine f_aload_n C0 dX9_firstBarring_36 rfl 0 rfl ⟨_, rfl⟩ ?_
        refine gf_9_12 (r := 30) C0 rfl kn_0 mw_380 dX9_firstBarring_37 ?_
        refine f_iload_n C0 dX9_firstBarring_40 rfl 2 rfl ?_
        obtain ⟨h12, hw⟩ := hw
        refine f_aald16 C0 kn_30 h12 dX9_firstBarring_41 (fun k13 ek13 hk13 => ?_)
        have hw := hw k13 ek13
        refine f_callVi (As := [rf g (91 + 5 * k11), rf g (91 + 5 * k13)]) (rest := []) C0 (m_X9_racesMeet hk11 hk13 hw) cw_X9_276 kn_0 (by decide) rfl rfl ⟨(Nat.le_of_ble_eq_true rfl), (Nat.le_of_ble_eq_true rfl)⟩ rfl rfl (Nat.le_of_ble_eq_true rfl) dX9_firstBarring_42 ?_
        intro r14 d15 l16 hw
        refine f_if_eq (tgt := 50) C0 dX9_firstBarring_45 (by decide) (fun h17 => ?_) (fun h17 => ?_)
        · have hw := hw.1 h17
          refine f_iinc (lo' := [(2, .int (x2 + 1)), (0, rf g 0), (1, .int x1)]) C0 dX9_firstBarring_50 2 rfl rfl (by decide) rfl ?_
          refine f_goto (tgt := 2) C0 dX9_firstBarring_53 (by decide) ?_
          refine f_sub [1, 2, 0] rfl ?_
          exact hK2 _ _ _ _ hw
        · have hw := hw.2 h17
          refine f_iload_n C0 dX9_firstBarring_48 rfl 2 rfl ?_
          exact f_iret C0 hZ hw dX9_firstBarring_49
set_option maxHeartbeats 4000000 in
set_option maxRecDepth 100000 in
theorem m_X9_firstBarring {g : Ex} {n : Nat} {x1 : Int32} {d : DD} {dl : LL} {Q : Int32 → DD → LL → Prop} (hw : F_X9_firstBarring n x1 d dl Q) : Mi g yX9_firstBarring cX9_firstBarring 3 (some .int) 2 47 [rf g 0, .int x1] d dl Q := by
  refine Mi.of (by decide) (Nat.le_of_ble_eq_true rfl) (fun x C0 hZ => ?_)
  have C0 : Cx g x cX9_firstBarring 3 (some .int) RX9 2 47 := C0
  refine f_iconst (v := 0) C0 dX9_firstBarring_0 rfl ?_
  refine f_istore_n (lo' := [(2, .int 0), (0, rf g 0), (1, .int x1)]) C0 dX9_firstBarring_1 rfl (by decide) rfl ?_
  refine f_sub [1, 2, 0] rfl ?_
  exact t_X9_firstBarring_2 C0 hZ n _ _ _ _ hw
def b_X9_race_86 (n : Nat) (Q : Int32 → DD → LL → Prop) : Nat → Int32 → DD → LL → Prop
  | 0 => fun _ _ _ => False
  | k + 1 => fun x4 d dl => (4 ≤ x4 → ∀ d24 : DD, d24 = u2 d 0 13 ((d 0 13) + 1) → Q ((d24 0 13) - 1) d24 dl) ∧ (¬ 4 ≤ x4 → vp_in x4 4 ∧ ∀ d26 : DD, d26 = u2 d 28 x4.toNatClampNeg (-1) → (b_X9_race_86 n Q k) (x4 + 1) d26 dl)
def F_X9_race (n : Nat) (x1 : Int32) (x2 : Int32) (d : DD) (dl : LL) (Q : Int32 → DD → LL → Prop) : Prop := F_X9_within n x1 0 999 d dl (fun r1 d2 l3 => (r1 = 0 → Q (-2) d2 l3) ∧ (¬ r1 = 0 → F_X9_within n x2 0 1 d2 l3 (fun r5 d6 l7 => (¬ r5 = 0 → F_X9_howManyWait n d6 l7 (fun r9 d10 l11 => (2 ≤ r9 → ((d10 0 13) < 24 → vp_in (d10 0 13) 24 ∧ ∀ k15 : Nat, k15 = (d10 0 13).toNatClampNeg → F_X3_set n k15 x1 x2 d10 l11 (fun d17 l18 => F_X9_firstBarring n (d17 0 13) d17 l18 (fun r19 d20 l21 => (r19 = (-1) → b_X9_race_86 n Q n 0 d20 l21) ∧ (¬ r19 = (-1) → Q (((-10) : Int32) - r19) d20 l21)))) ∧ (¬ (d10 0 13) < 24 → Q (-4) d10 l11)) ∧ (¬ 2 ≤ r9 → Q (-3) d10 l11))) ∧ (r5 = 0 → Q (-2) d6 l7))))
set_option maxHeartbeats 4000000 in
set_option maxRecDepth 100000 in
theorem t_X9_race_86 {g : Ex} {x : Fx} {n : Nat} {Q : Int32 → DD → LL → Prop} (C0 : Cx g x cX9_race 5 (some .int) RX9 3 69) (hZ : Zi g x Q) : ∀ (j : Nat) (x4 : Int32) (d : DD) (dl : LL), b_X9_race_86 n Q j x4 d dl → FW g x 5 d dl 86 [(0, rf g 0), (4, .int x4)] [] := by
  intro j
  induction j with
  | zero =>
    intro x4 d dl hw
    exact hw.elim
  | succ j hK86 =>
    intro x4 d dl hw
    refine f_iload C0 dX9_race_86 1 rfl ?_
    refine f_iconst (v := 4) C0 dX9_race_88 rfl ?_
    refine f_icmp_ge (tgt := 106) C0 dX9_race_89 (by decide) (fun h23 => ?_) (fun h23 => ?_)
    · have hw := hw.1 h23
      refine f_aload_n C0 dX9_race_106 rfl 0 rfl ⟨_, rfl⟩ ?_
      refine f_dup C0 dX9_race_107 rfl ?_
      refine gf_9_13 C0 kn_0 mw_381 dX9_race_108 ?_
      refine f_iconst (v := 1) C0 dX9_race_111 rfl ?_
      refine f_iadd C0 dX9_race_112 ?_
      refine pf_9_13 C0 kn_0 mw_381 dX9_race_113 (fun d24 ed24 => ?_)
      have hw := hw d24 ed24
      refine f_aload_n C0 dX9_race_116 rfl 0 rfl ⟨_, rfl⟩ ?_
      refine gf_9_13 C0 kn_0 mw_381 dX9_race_117 ?_
      refine f_iconst (v := 1) C0 dX9_race_120 rfl ?_
      refine f_isub C0 dX9_race_121 ?_
      exact f_iret C0 hZ hw dX9_race_122
    · have hw := hw.2 h23
      refine f_aload_n C0 dX9_race_92 rfl 0 rfl ⟨_, rfl⟩ ?_
      refine gf_9_10 (r := 28) C0 rfl kn_0 mw_378 dX9_race_93 ?_
      refine f_iload C0 dX9_race_96 1 rfl ?_
      refine f_iconst (v := (-1)) C0 dX9_race_98 rfl ?_
      obtain ⟨h25, hw⟩ := hw
      refine f_iast C0 kn_28 h25 dX9_race_99 (fun d26 ed26 => ?_)
      have hw := hw d26 ed26
      refine f_iinc (lo' := [(4, .int (x4 + 1)), (0, rf g 0)]) C0 dX9_race_100 1 rfl rfl (by decide) rfl ?_
      refine f_goto (tgt := 86) C0 dX9_race_103 (by decide) ?_
      refine f_sub [1, 0] rfl ?_
      exact hK86 _ _ _ hw
set_option maxHeartbeats 4000000 in
set_option maxRecDepth 100000 in
theorem m_X9_race {g : Ex} {n : Nat} {x1 : Int32} {x2 : Int32} {d : DD} {dl : LL} {Q : Int32 → DD → LL → Prop} (hw : F_X9_race n x1 x2 d dl Q) : Mi g yX9_race cX9_race 5 (some .int) 3 69 [rf g 0, .int x1, .int x2] d dl Q := by
  refine Mi.of (by decide) (Nat.le_of_ble_eq_true rfl) (fun x C0 hZ => ?_)
  have C0 : Cx g x cX9_race 5 (some .int) RX9 3 69 := C0
  refine f_iload_n C0 dX9_race_0 rfl 1 rfl ?_
  refine f_iconst (v := 0) C0 dX9_race_1 rfl ?_
  refine f_sipush (v := 999) C0 dX9_race_2 rfl ?_
  refine f_callSi (As := [.int x1, .int 0, .int 999]) (rest := []) C0 (m_X9_within hw) cw_X9_97  ⟨(Nat.le_of_ble_eq_true rfl), (Nat.le_of_ble_eq_true rfl)⟩ rfl rfl (Nat.le_of_ble_eq_true rfl) dX9_race_5 ?_
  intro r1 d2 l3 hw
  refine f_if_eq (tgt := 20) C0 dX9_race_8 (by decide) (fun h4 => ?_) (fun h4 => ?_)
  · have hw := hw.1 h4
    refine f_bipush (v := (-2)) C0 dX9_race_20 rfl ?_
    exact f_iret C0 hZ hw dX9_race_22
  · have hw := hw.2 h4
    refine f_iload_n C0 dX9_race_11 rfl 2 rfl ?_
    refine f_iconst (v := 0) C0 dX9_race_12 rfl ?_
    refine f_iconst (v := 1) C0 dX9_race_13 rfl ?_
    refine f_callSi (As := [.int x2, .int 0, .int 1]) (rest := []) C0 (m_X9_within hw) cw_X9_97  ⟨(Nat.le_of_ble_eq_true rfl), (Nat.le_of_ble_eq_true rfl)⟩ rfl rfl (Nat.le_of_ble_eq_true rfl) dX9_race_14 ?_
    intro r5 d6 l7 hw
    refine f_if_ne (tgt := 23) C0 dX9_race_17 (by decide) (fun h8 => ?_) (fun h8 => ?_)
    · have hw := hw.1 h8
      refine f_aload_n C0 dX9_race_23 rfl 0 rfl ⟨_, rfl⟩ ?_
      refine f_callVi (As := []) (rest := []) C0 (m_X9_howManyWait hw) cw_X9_218 kn_0 (by decide) rfl rfl ⟨(Nat.le_of_ble_eq_true rfl), (Nat.le_of_ble_eq_true rfl)⟩ rfl rfl (Nat.le_of_ble_eq_true rfl) dX9_race_24 ?_
      intro r9 d10 l11 hw
      refine f_iconst (v := 2) C0 dX9_race_27 rfl ?_
      refine f_icmp_ge (tgt := 34) C0 dX9_race_28 (by decide) (fun h12 => ?_) (fun h12 => ?_)
      · have hw := hw.1 h12
        refine f_aload_n C0 dX9_race_34 rfl 0 rfl ⟨_, rfl⟩ ?_
        refine gf_9_13 C0 kn_0 mw_381 dX9_race_35 ?_
        refine f_bipush (v := 24) C0 dX9_race_38 rfl ?_
        refine f_icmp_lt (tgt := 46) C0 dX9_race_40 (by decide) (fun h13 => ?_) (fun h13 => ?_)
        · have hw := hw.1 h13
          refine f_aload_n C0 dX9_race_46 rfl 0 rfl ⟨_, rfl⟩ ?_
          refine gf_9_12 (r := 30) C0 rfl kn_0 mw_380 dX9_race_47 ?_
          refine f_aload_n C0 dX9_race_50 rfl 0 rfl ⟨_, rfl⟩ ?_
          refine gf_9_13 C0 kn_0 mw_381 dX9_race_51 ?_
          obtain ⟨h14, hw⟩ := hw
          refine f_aald16 C0 kn_30 h14 dX9_race_54 (fun k15 ek15 hk15 => ?_)
          have hw := hw k15 ek15
          refine f_iload_n C0 dX9_race_55 rfl 1 rfl ?_
          refine f_iload_n C0 dX9_race_56 rfl 2 rfl ?_
          refine f_aload_n C0 dX9_race_57 rfl 0 rfl ⟨_, rfl⟩ ?_
          refine gf_9_10 (r := 28) C0 rfl kn_0 mw_378 dX9_race_58 ?_
          refine f_callVv (As := [.int x1, .int x2, rf g 28]) (rest := []) C0 (m_X3_set hk15 hw) cw_X9_221 (kn_race_0 hk15) (by decide) rfl rfl ⟨(Nat.le_of_ble_eq_true rfl), (Nat.le_of_ble_eq_true rfl)⟩ rfl rfl (Nat.le_of_ble_eq_true rfl) dX9_race_61 ?_
          intro d17 l18 hw
          refine f_aload_n C0 dX9_race_64 rfl 0 rfl ⟨_, rfl⟩ ?_
          refine f_aload_n C0 dX9_race_65 rfl 0 rfl ⟨_, rfl⟩ ?_
          refine gf_9_13 C0 kn_0 mw_381 dX9_race_66 ?_
          refine f_callVi (As := [.int (d17 0 13)]) (rest := []) C0 (m_X9_firstBarring hw) cw_X9_225 kn_0 (by decide) rfl rfl ⟨(Nat.le_of_ble_eq_true rfl), (Nat.le_of_ble_eq_true rfl)⟩ rfl rfl (Nat.le_of_ble_eq_true rfl) dX9_race_69 ?_
          intro r19 d20 l21 hw
          refine f_istore_n (lo' := [(3, .int r19), (0, rf g 0), (1, .int x1), (2, .int x2)]) C0 dX9_race_72 rfl (by decide) rfl ?_
          refine f_iload_n C0 dX9_race_73 rfl 0 rfl ?_
          refine f_iconst (v := (-1)) C0 dX9_race_74 rfl ?_
          refine f_icmp_eq (tgt := 83) C0 dX9_race_75 (by decide) (fun h22 => ?_) (fun h22 => ?_)
          · have hw := hw.1 h22
            refine f_iconst (v := 0) C0 dX9_race_83 rfl ?_
            refine f_istore (lo' := [(4, .int 0), (3, .int r19), (0, rf g 0), (1, .int x1), (2, .int x2)]) C0 dX9_race_84 (by decide) rfl ?_
            refine f_sub [2, 0] rfl ?_
            exact t_X9_race_86 C0 hZ n _ _ _ hw
          · have hw := hw.2 h22
            refine f_bipush (v := (-10)) C0 dX9_race_78 rfl ?_
            refine f_iload_n C0 dX9_race_80 rfl 0 rfl ?_
            refine f_isub C0 dX9_race_81 ?_
            exact f_iret C0 hZ hw dX9_race_82
        · have hw := hw.2 h13
          refine f_bipush (v := (-4)) C0 dX9_race_43 rfl ?_
          exact f_iret C0 hZ hw dX9_race_45
      · have hw := hw.2 h12
        refine f_bipush (v := (-3)) C0 dX9_race_31 rfl ?_
        exact f_iret C0 hZ hw dX9_race_33
    · have hw := hw.2 h8
      refine f_bipush (v := (-2)) C0 dX9_race_20 rfl ?_
      exact f_iret C0 hZ hw dX9_race_22
def F_X9_current (n : Nat) (x1 : Int32) (x2 : Int32) (d : DD) (dl : LL) (Q : Int32 → DD → LL → Prop) : Prop := F_X9_isLane n x1 d dl (fun r1 d2 l3 => (¬ r1 = 0 → F_X9_within n x2 (-9) 9 d2 l3 (fun r5 d6 l7 => (¬ r5 = 0 → vp_in x1 4 ∧ ∀ v10 : Int32, v10 = (d6 29 x1.toNatClampNeg) → vp_in x1 4 ∧ ∀ d12 : DD, d12 = u2 d6 29 x1.toNatClampNeg x2 → Q v10 d12 l7) ∧ (r5 = 0 → Q (-101) d6 l7))) ∧ (r1 = 0 → Q (-100) d2 l3))
set_option maxHeartbeats 4000000 in
set_option maxRecDepth 100000 in
theorem m_X9_current {g : Ex} {n : Nat} {x1 : Int32} {x2 : Int32} {d : DD} {dl : LL} {Q : Int32 → DD → LL → Prop} (hw : F_X9_current n x1 x2 d dl Q) : Mi g yX9_current cX9_current 4 (some .int) 2 42 [rf g 0, .int x1, .int x2] d dl Q := by
  refine Mi.of (by decide) (Nat.le_of_ble_eq_true rfl) (fun x C0 hZ => ?_)
  have C0 : Cx g x cX9_current 4 (some .int) RX9 2 42 := C0
  refine f_iload_n C0 dX9_current_0 rfl 1 rfl ?_
  refine f_callSi (As := [.int x1]) (rest := []) C0 (m_X9_isLane hw) cw_X9_211  ⟨(Nat.le_of_ble_eq_true rfl), (Nat.le_of_ble_eq_true rfl)⟩ rfl rfl (Nat.le_of_ble_eq_true rfl) dX9_current_1 ?_
  intro r1 d2 l3 hw
  refine f_if_ne (tgt := 10) C0 dX9_current_4 (by decide) (fun h4 => ?_) (fun h4 => ?_)
  · have hw := hw.1 h4
    refine f_iload_n C0 dX9_current_10 rfl 2 rfl ?_
    refine f_bipush (v := (-9)) C0 dX9_current_11 rfl ?_
    refine f_bipush (v := 9) C0 dX9_current_13 rfl ?_
    refine f_callSi (As := [.int x2, .int (-9), .int 9]) (rest := []) C0 (m_X9_within hw) cw_X9_97  ⟨(Nat.le_of_ble_eq_true rfl), (Nat.le_of_ble_eq_true rfl)⟩ rfl rfl (Nat.le_of_ble_eq_true rfl) dX9_current_15 ?_
    intro r5 d6 l7 hw
    refine f_if_ne (tgt := 24) C0 dX9_current_18 (by decide) (fun h8 => ?_) (fun h8 => ?_)
    · have hw := hw.1 h8
      refine f_aload_n C0 dX9_current_24 rfl 0 rfl ⟨_, rfl⟩ ?_
      refine gf_9_11 (r := 29) C0 rfl kn_0 mw_379 dX9_current_25 ?_
      refine f_iload_n C0 dX9_current_28 rfl 1 rfl ?_
      obtain ⟨h9, hw⟩ := hw
      refine f_iald C0 kn_29 h9 dX9_current_29 ?_
      refine f_topi (fun v10 e10 => ?_)
      have hw := hw v10 e10
      refine f_istore_n (lo' := [(3, .int v10), (0, rf g 0), (1, .int x1), (2, .int x2)]) C0 dX9_current_30 rfl (by decide) rfl ?_
      refine f_aload_n C0 dX9_current_31 rfl 1 rfl ⟨_, rfl⟩ ?_
      refine gf_9_11 (r := 29) C0 rfl kn_0 mw_379 dX9_current_32 ?_
      refine f_iload_n C0 dX9_current_35 rfl 2 rfl ?_
      refine f_iload_n C0 dX9_current_36 rfl 3 rfl ?_
      obtain ⟨h11, hw⟩ := hw
      refine f_iast C0 kn_29 h11 dX9_current_37 (fun d12 ed12 => ?_)
      have hw := hw d12 ed12
      refine f_iload_n C0 dX9_current_38 rfl 0 rfl ?_
      exact f_iret C0 hZ hw dX9_current_39
    · have hw := hw.2 h8
      refine f_bipush (v := (-101)) C0 dX9_current_21 rfl ?_
      exact f_iret C0 hZ hw dX9_current_23
  · have hw := hw.2 h4
    refine f_bipush (v := (-100)) C0 dX9_current_7 rfl ?_
    exact f_iret C0 hZ hw dX9_current_9
def F_X9_isRace (n : Nat) (x1 : Int32) (d : DD) (dl : LL) (Q : Int32 → DD → LL → Prop) : Prop := F_X9_within n x1 0 ((d 0 13) - 1) d dl (fun r1 d2 l3 => narrow .boolean (.int r1) = .int r1 ∧ Q r1 d2 l3)
set_option maxHeartbeats 4000000 in
set_option maxRecDepth 100000 in
theorem m_X9_isRace {g : Ex} {n : Nat} {x1 : Int32} {d : DD} {dl : LL} {Q : Int32 → DD → LL → Prop} (hw : F_X9_isRace n x1 d dl Q) : Mi g yX9_isRace cX9_isRace 2 (some .boolean) 1 22 [rf g 0, .int x1] d dl Q := by
  refine Mi.of (by decide) (Nat.le_of_ble_eq_true rfl) (fun x C0 hZ => ?_)
  have C0 : Cx g x cX9_isRace 2 (some .boolean) RX9 1 22 := C0
  refine f_iload_n C0 dX9_isRace_0 rfl 1 rfl ?_
  refine f_iconst (v := 0) C0 dX9_isRace_1 rfl ?_
  refine f_aload_n C0 dX9_isRace_2 rfl 0 rfl ⟨_, rfl⟩ ?_
  refine gf_9_13 C0 kn_0 mw_381 dX9_isRace_3 ?_
  refine f_iconst (v := 1) C0 dX9_isRace_6 rfl ?_
  refine f_isub C0 dX9_isRace_7 ?_
  refine f_callSi (As := [.int x1, .int 0, .int ((d 0 13) - 1)]) (rest := []) C0 (m_X9_within hw) cw_X9_97  ⟨(Nat.le_of_ble_eq_true rfl), (Nat.le_of_ble_eq_true rfl)⟩ rfl rfl (Nat.le_of_ble_eq_true rfl) dX9_isRace_8 ?_
  intro r1 d2 l3 hw
  exact f_zret C0 hZ hw.1 hw.2 dX9_isRace_11
def b_X0_driveOf_5 (n : Nat) (Q : Int32 → DD → LL → Prop) : Nat → Nat → Int32 → Int32 → Int32 → DD → LL → Prop
  | 0 => fun _ _ _ _ _ _ => False
  | k + 1 => fun k1 x2 x3 x4 d dl => F_X1_seatCount n k1 d dl (fun r1 d2 l3 => (r1 ≤ x4 → Q (x3 * (d2 (37 + 3 * k1) 2)) d2 l3) ∧ (¬ r1 ≤ x4 → vp_in x4 8 ∧ vp_in (d2 (39 + 3 * k1) x4.toNatClampNeg) 40 ∧ ∀ v7 : Int32, v7 = (x3 + (((d2 3 (d2 (39 + 3 * k1) x4.toNatClampNeg).toNatClampNeg) * x2) / 1000)) → (b_X0_driveOf_5 n Q k) k1 x2 v7 (x4 + 1) d2 l3))
def F_X0_driveOf (n : Nat) (k1 : Nat) (x2 : Int32) (d : DD) (dl : LL) (Q : Int32 → DD → LL → Prop) : Prop := b_X0_driveOf_5 n Q n k1 x2 0 0 d dl
set_option maxHeartbeats 4000000 in
set_option maxRecDepth 100000 in
theorem t_X0_driveOf_5 {g : Ex} {x : Fx} {n : Nat} {Q : Int32 → DD → LL → Prop} (C0 : Cx g x cX0_driveOf 5 (some .int) RX0 1 20) (hZ : Zi g x Q) : ∀ (j : Nat) (k1 : Nat) (x2 : Int32) (x3 : Int32) (x4 : Int32) (hk1 : k1 < 6) (d : DD) (dl : LL), b_X0_driveOf_5 n Q j k1 x2 x3 x4 d dl → FW g x 5 d dl 5 [(0, rf g 1), (1, rf g (37 + 3 * k1)), (2, .int x2), (3, .int x3), (4, .int x4)] [] := by
  intro j
  induction j with
  | zero =>
    intro k1 x2 x3 x4 hk1 d dl hw
    exact hw.elim
  | succ j hK5 =>
    intro k1 x2 x3 x4 hk1 d dl hw
    have hw : F_X1_seatCount n k1 d dl (fun r1 d2 l3 => (r1 ≤ x4 → Q (x3 * (d2 (37 + 3 * k1) 2)) d2 l3) ∧ (¬ r1 ≤ x4 → vp_in x4 8 ∧ vp_in (d2 (39 + 3 * k1) x4.toNatClampNeg) 40 ∧ ∀ v7 : Int32, v7 = (x3 + (((d2 3 (d2 (39 + 3 * k1) x4.toNatClampNeg).toNatClampNeg) * x2) / 1000)) → (b_X0_driveOf_5 n Q j) k1 x2 v7 (x4 + 1) d2 l3)) := hw
    refine f_iload C0 dX0_driveOf_5 4 rfl ?_
    refine f_aload_n C0 dX0_driveOf_7 rfl 1 rfl ⟨_, rfl⟩ ?_
    refine f_callVi (As := []) (rest := [.int x4]) C0 (m_X1_seatCount hk1 hw) cw_X0_31 (kn_crew_0 hk1) (by decide) rfl rfl ⟨(Nat.le_of_ble_eq_true rfl), (Nat.le_of_ble_eq_true rfl)⟩ rfl rfl (Nat.le_of_ble_eq_true rfl) dX0_driveOf_8 ?_
    intro r1 d2 l3 hw
    refine f_icmp_ge (tgt := 41) C0 dX0_driveOf_11 (by decide) (fun h4 => ?_) (fun h4 => ?_)
    · have hw := hw.1 h4
      refine f_iload_n C0 dX0_driveOf_41 rfl 3 rfl ?_
      refine f_aload_n C0 dX0_driveOf_42 rfl 1 rfl ⟨_, rfl⟩ ?_
      refine gf_1_2 C0 (kn_crew_0 hk1) mw_269 dX0_driveOf_43 ?_
      refine f_imul C0 dX0_driveOf_46 ?_
      exact f_iret C0 hZ hw dX0_driveOf_47
    · have hw := hw.2 h4
      refine f_iload_n C0 dX0_driveOf_14 rfl 3 rfl ?_
      refine f_aload_n C0 dX0_driveOf_15 rfl 0 rfl ⟨_, rfl⟩ ?_
      refine gf_4_2 (r := 3) C0 rfl kn_1 mw_86 dX0_driveOf_16 ?_
      refine f_aload_n C0 dX0_driveOf_19 rfl 1 rfl ⟨_, rfl⟩ ?_
      refine gf_1_7 (r := (39 + 3 * k1)) C0 (by omega) (kn_crew_0 hk1) mw_283 dX0_driveOf_20 ?_
      refine f_iload C0 dX0_driveOf_23 4 rfl ?_
      obtain ⟨h5, hw⟩ := hw
      refine f_iald C0 (kn_crew_2 hk1) h5 dX0_driveOf_25 ?_
      obtain ⟨h6, hw⟩ := hw
      refine f_iald C0 kn_3 h6 dX0_driveOf_26 ?_
      refine f_iload_n C0 dX0_driveOf_27 rfl 2 rfl ?_
      refine f_imul C0 dX0_driveOf_28 ?_
      refine f_sipush (v := 1000) C0 dX0_driveOf_29 rfl ?_
      refine f_idiv C0 dX0_driveOf_32 (by decide) ?_
      refine f_iadd C0 dX0_driveOf_33 ?_
      refine f_topi (fun v7 e7 => ?_)
      have hw := hw v7 e7
      refine f_istore_n (lo' := [(3, .int v7), (0, rf g 1), (1, rf g (37 + 3 * k1)), (2, .int x2), (4, .int x4)]) C0 dX0_driveOf_34 rfl (by decide) rfl ?_
      refine f_iinc (lo' := [(4, .int (x4 + 1)), (3, .int v7), (0, rf g 1), (1, rf g (37 + 3 * k1)), (2, .int x2)]) C0 dX0_driveOf_35 4 rfl rfl (by decide) rfl ?_
      refine f_goto (tgt := 5) C0 dX0_driveOf_38 (by decide) ?_
      refine f_sub [2, 3, 4, 1, 0] rfl ?_
      exact hK5 _ _ _ _ hk1 _ _ hw
set_option maxHeartbeats 4000000 in
set_option maxRecDepth 100000 in
theorem m_X0_driveOf {g : Ex} {n : Nat} {k1 : Nat} {x2 : Int32} {d : DD} {dl : LL} {Q : Int32 → DD → LL → Prop} (hk1 : k1 < 6) (hw : F_X0_driveOf n k1 x2 d dl Q) : Mi g yX0_driveOf cX0_driveOf 5 (some .int) 1 20 [rf g 1, rf g (37 + 3 * k1), .int x2] d dl Q := by
  refine Mi.of (by decide) (Nat.le_of_ble_eq_true rfl) (fun x C0 hZ => ?_)
  have C0 : Cx g x cX0_driveOf 5 (some .int) RX0 1 20 := C0
  refine f_iconst (v := 0) C0 dX0_driveOf_0 rfl ?_
  refine f_istore_n (lo' := [(3, .int 0), (0, rf g 1), (1, rf g (37 + 3 * k1)), (2, .int x2)]) C0 dX0_driveOf_1 rfl (by decide) rfl ?_
  refine f_iconst (v := 0) C0 dX0_driveOf_2 rfl ?_
  refine f_istore (lo' := [(4, .int 0), (3, .int 0), (0, rf g 1), (1, rf g (37 + 3 * k1)), (2, .int x2)]) C0 dX0_driveOf_3 (by decide) rfl ?_
  refine f_sub [2, 3, 4, 1, 0] rfl ?_
  exact t_X0_driveOf_5 C0 hZ n _ _ _ _ hk1 _ _ hw
def b_X0_paddle_96 (n : Nat) (Q : DD → LL → Prop) (K27 : Nat → Int32 → Int32 → Int32 → Int32 → Int32 → Int32 → DD → LL → Prop) (k2 : Nat) (x3 : Int32) (x4 : Int32) (x5 : Int32) (x6 : Int32) (x7 : Int32) (x8 : Int32) (x9 : Int32) (d : DD) (dl : LL) : Prop := ∀ d10 : DD, d10 = u2 d 31 1 ((d 31 1) + x9) → (x6 ≤ 200 → K27 k2 x3 x4 x5 x6 x7 (x8 + 1) d10 dl) ∧ (¬ x6 ≤ 200 → ∀ v12 : Int32, v12 = (if (200 : Int32) < (x6 - ((d10 (37 + 3 * k2) 2) * (d10 (37 + 3 * k2) 2))) then (x6 - ((d10 (37 + 3 * k2) 2) * (d10 (37 + 3 * k2) 2))) else 200) → F_X0_driveOf n k2 v12 d10 dl (fun r13 d14 l15 => K27 k2 x3 x4 x5 v12 r13 (x8 + 1) d14 l15))
def b_X0_paddle_27 (n : Nat) (Q : DD → LL → Prop) : Nat → Nat → Int32 → Int32 → Int32 → Int32 → Int32 → Int32 → DD → LL → Prop
  | 0 => fun _ _ _ _ _ _ _ _ _ => False
  | k + 1 => fun k2 x3 x4 x5 x6 x7 x8 d dl => (2000 ≤ x8 → Q d dl) ∧ (¬ 2000 ≤ x8 → (x5 ≤ (d 31 1) → Q d dl) ∧ (¬ x5 ≤ (d 31 1) → ∀ v8 : Int32, v8 = (if (1 : Int32) < ((if (1 : Int32) < (x7 - x3) then (x7 - x3) else 1) + x4) then ((if (1 : Int32) < (x7 - x3) then (x7 - x3) else 1) + x4) else 1) → (((d 31 1) + v8) < x5 → b_X0_paddle_96 n Q (b_X0_paddle_27 n Q k) k2 x3 x4 x5 x6 x7 x8 v8 d dl) ∧ (¬ ((d 31 1) + v8) < x5 → ¬ v8 = 0 ∧ ∀ d17 : DD, d17 = u2 d 31 0 (((100 : Int32) * x8) + (((x5 - (d 31 1)) * 100) / v8)) → b_X0_paddle_96 n Q (b_X0_paddle_27 n Q k) k2 x3 x4 x5 x6 x7 x8 v8 d17 dl)))
def F_X0_paddle (n : Nat) (k2 : Nat) (x3 : Int32) (x4 : Int32) (x5 : Int32) (d : DD) (dl : LL) (Q : DD → LL → Prop) : Prop := F_X0_driveOf n k2 1000 d dl (fun r1 d2 l3 => ∀ d4 : DD, d4 = u2 d2 31 0 0 → ∀ d5 : DD, d5 = u2 d4 31 1 0 → b_X0_paddle_27 n Q n k2 x3 x4 x5 1000 r1 0 d5 l3)
set_option maxHeartbeats 4000000 in
set_option maxRecDepth 100000 in
theorem t_X0_paddle_96 {g : Ex} {x : Fx} {n : Nat} {Q : DD → LL → Prop} (C0 : Cx g x cX0_paddle 10 none RX0 2 44) (hZ : Zv g x Q) {K27 : Nat → Int32 → Int32 → Int32 → Int32 → Int32 → Int32 → DD → LL → Prop} (hK27 : ∀ (k2 : Nat) (x3 : Int32) (x4 : Int32) (x5 : Int32) (x6 : Int32) (x7 : Int32) (x8 : Int32) (hk2 : k2 < 6) (d : DD) (dl : LL), K27 k2 x3 x4 x5 x6 x7 x8 d dl → FW g x 10 d dl 27 [(0, rf g 31), (1, rf g 1), (2, rf g (37 + 3 * k2)), (3, .int x3), (4, .int x4), (5, .int x5), (6, .int x6), (7, .int x7), (8, .int x8)] []) : ∀ (k2 : Nat) (x3 : Int32) (x4 : Int32) (x5 : Int32) (x6 : Int32) (x7 : Int32) (x8 : Int32) (x9 : Int32) (hk2 : k2 < 6) (d : DD) (dl : LL), b_X0_paddle_96 n Q K27 k2 x3 x4 x5 x6 x7 x8 x9 d dl → FW g x 10 d dl 96 [(0, rf g 31), (1, rf g 1), (2, rf g (37 + 3 * k2)), (3, .int x3), (4, .int x4), (5, .int x5), (6, .int x6), (7, .int x7), (8, .int x8), (9, .int x9)] [] := by
  intro k2 x3 x4 x5 x6 x7 x8 x9 hk2 d dl hw
  refine f_aload_n C0 dX0_paddle_96 rfl 0 rfl ⟨_, rfl⟩ ?_
  refine f_dup C0 dX0_paddle_97 rfl ?_
  refine gf_0_1 C0 kn_31 mw_226 dX0_paddle_98 ?_
  refine f_iload C0 dX0_paddle_101 9 rfl ?_
  refine f_iadd C0 dX0_paddle_103 ?_
  refine pf_0_1 C0 kn_31 mw_226 dX0_paddle_104 (fun d10 ed10 => ?_)
  have hw := hw d10 ed10
  refine f_iload C0 dX0_paddle_107 6 rfl ?_
  refine f_sipush (v := 200) C0 dX0_paddle_109 rfl ?_
  refine f_icmp_le (tgt := 144) C0 dX0_paddle_112 (by decide) (fun h11 => ?_) (fun h11 => ?_)
  · have hw := hw.1 h11
    refine f_iinc (lo' := [(8, .int (x8 + 1)), (0, rf g 31), (1, rf g 1), (2, rf g (37 + 3 * k2)), (3, .int x3), (4, .int x4), (5, .int x5), (6, .int x6), (7, .int x7), (9, .int x9)]) C0 dX0_paddle_144 8 rfl rfl (by decide) rfl ?_
    refine f_goto (tgt := 27) C0 dX0_paddle_147 (by decide) ?_
    refine f_sub [1, 2, 3, 4, 5, 6, 7, 8, 0] rfl ?_
    exact hK27 _ _ _ _ _ _ _ hk2 _ _ hw
  · have hw := hw.2 h11
    refine f_sipush (v := 200) C0 dX0_paddle_115 rfl ?_
    refine f_iload C0 dX0_paddle_118 6 rfl ?_
    refine f_aload_n C0 dX0_paddle_120 rfl 2 rfl ⟨_, rfl⟩ ?_
    refine gf_1_2 C0 (kn_crew_0 hk2) mw_269 dX0_paddle_121 ?_
    refine f_aload_n C0 dX0_paddle_124 rfl 2 rfl ⟨_, rfl⟩ ?_
    refine gf_1_2 C0 (kn_crew_0 hk2) mw_269 dX0_paddle_125 ?_
    refine f_imul C0 dX0_paddle_128 ?_
    refine f_isub C0 dX0_paddle_129 ?_
    refine f_mmax C0 mw_762 mw_496 mw_59 mw_497 ⟨(Nat.le_of_ble_eq_true rfl), (Nat.le_of_ble_eq_true rfl)⟩ dX0_paddle_130 ?_
    refine f_topi (fun v12 e12 => ?_)
    have hw := hw v12 e12
    refine f_istore (lo' := [(6, .int v12), (0, rf g 31), (1, rf g 1), (2, rf g (37 + 3 * k2)), (3, .int x3), (4, .int x4), (5, .int x5), (7, .int x7), (8, .int x8), (9, .int x9)]) C0 dX0_paddle_133 (by decide) rfl ?_
    refine f_aload_n C0 dX0_paddle_135 rfl 2 rfl ⟨_, rfl⟩ ?_
    refine f_aload_n C0 dX0_paddle_136 rfl 3 rfl ⟨_, rfl⟩ ?_
    refine f_iload C0 dX0_paddle_137 0 rfl ?_
    refine f_callSi (As := [rf g 1, rf g (37 + 3 * k2), .int v12]) (rest := []) C0 (m_X0_driveOf hk2 hw) cw_X0_16  ⟨(Nat.le_of_ble_eq_true rfl), (Nat.le_of_ble_eq_true rfl)⟩ rfl rfl (Nat.le_of_ble_eq_true rfl) dX0_paddle_139 ?_
    intro r13 d14 l15 hw
    refine f_istore (lo' := [(7, .int r13), (6, .int v12), (0, rf g 31), (1, rf g 1), (2, rf g (37 + 3 * k2)), (3, .int x3), (4, .int x4), (5, .int x5), (8, .int x8), (9, .int x9)]) C0 dX0_paddle_142 (by decide) rfl ?_
    refine f_iinc (lo' := [(8, .int (x8 + 1)), (7, .int r13), (6, .int v12), (0, rf g 31), (1, rf g 1), (2, rf g (37 + 3 * k2)), (3, .int x3), (4, .int x4), (5, .int x5), (9, .int x9)]) C0 dX0_paddle_144 8 rfl rfl (by decide) rfl ?_
    refine f_goto (tgt := 27) C0 dX0_paddle_147 (by decide) ?_
    refine f_sub [3, 4, 5, 6, 7, 8, 2, 1, 0] rfl ?_
    exact hK27 _ _ _ _ _ _ _ hk2 _ _ hw
set_option maxHeartbeats 4000000 in
set_option maxRecDepth 100000 in
theorem t_X0_paddle_27 {g : Ex} {x : Fx} {n : Nat} {Q : DD → LL → Prop} (C0 : Cx g x cX0_paddle 10 none RX0 2 44) (hZ : Zv g x Q) : ∀ (j : Nat) (k2 : Nat) (x3 : Int32) (x4 : Int32) (x5 : Int32) (x6 : Int32) (x7 : Int32) (x8 : Int32) (hk2 : k2 < 6) (d : DD) (dl : LL), b_X0_paddle_27 n Q j k2 x3 x4 x5 x6 x7 x8 d dl → FW g x 10 d dl 27 [(0, rf g 31), (1, rf g 1), (2, rf g (37 + 3 * k2)), (3, .int x3), (4, .int x4), (5, .int x5), (6, .int x6), (7, .int x7), (8, .int x8)] [] := by
  intro j
  induction j with
  | zero =>
    intro k2 x3 x4 x5 x6 x7 x8 hk2 d dl hw
    exact hw.elim
  | succ j hK27 =>
    intro k2 x3 x4 x5 x6 x7 x8 hk2 d dl hw
    refine f_iload C0 dX0_paddle_27 8 rfl ?_
    refine f_sipush (v := 2000) C0 dX0_paddle_29 rfl ?_
    refine f_icmp_ge (tgt := 150) C0 dX0_paddle_32 (by decide) (fun h6 => ?_) (fun h6 => ?_)
    · have hw := hw.1 h6
      exact f_vret C0 hZ hw dX0_paddle_150
    · have hw := hw.2 h6
      refine f_aload_n C0 dX0_paddle_35 rfl 0 rfl ⟨_, rfl⟩ ?_
      refine gf_0_1 C0 kn_31 mw_226 dX0_paddle_36 ?_
      refine f_iload C0 dX0_paddle_39 5 rfl ?_
      refine f_icmp_ge (tgt := 150) C0 dX0_paddle_41 (by decide) (fun h7 => ?_) (fun h7 => ?_)
      · have hw := hw.1 h7
        exact f_vret C0 hZ hw dX0_paddle_150
      · have hw := hw.2 h7
        refine f_iconst (v := 1) C0 dX0_paddle_44 rfl ?_
        refine f_iconst (v := 1) C0 dX0_paddle_45 rfl ?_
        refine f_iload C0 dX0_paddle_46 7 rfl ?_
        refine f_iload_n C0 dX0_paddle_48 rfl 3 rfl ?_
        refine f_isub C0 dX0_paddle_49 ?_
        refine f_mmax C0 mw_762 mw_496 mw_59 mw_497 ⟨(Nat.le_of_ble_eq_true rfl), (Nat.le_of_ble_eq_true rfl)⟩ dX0_paddle_50 ?_
        refine f_iload C0 dX0_paddle_53 4 rfl ?_
        refine f_iadd C0 dX0_paddle_55 ?_
        refine f_mmax C0 mw_762 mw_496 mw_59 mw_497 ⟨(Nat.le_of_ble_eq_true rfl), (Nat.le_of_ble_eq_true rfl)⟩ dX0_paddle_56 ?_
        refine f_topi (fun v8 e8 => ?_)
        have hw := hw v8 e8
        refine f_istore (lo' := [(9, .int v8), (0, rf g 31), (1, rf g 1), (2, rf g (37 + 3 * k2)), (3, .int x3), (4, .int x4), (5, .int x5), (6, .int x6), (7, .int x7), (8, .int x8)]) C0 dX0_paddle_59 (by decide) rfl ?_
        refine f_aload_n C0 dX0_paddle_61 rfl 1 rfl ⟨_, rfl⟩ ?_
        refine gf_0_1 C0 kn_31 mw_226 dX0_paddle_62 ?_
        refine f_iload C0 dX0_paddle_65 0 rfl ?_
        refine f_iadd C0 dX0_paddle_67 ?_
        refine f_iload C0 dX0_paddle_68 6 rfl ?_
        refine f_icmp_lt (tgt := 96) C0 dX0_paddle_70 (by decide) (fun h9 => ?_) (fun h9 => ?_)
        · have hw := hw.1 h9
          refine f_sub [1, 2, 3, 4, 5, 6, 7, 8, 9, 0] rfl ?_
          exact t_X0_paddle_96 C0 hZ hK27 _ _ _ _ _ _ _ _ hk2 _ _ hw
        · have hw := hw.2 h9
          refine f_aload_n C0 dX0_paddle_73 rfl 1 rfl ⟨_, rfl⟩ ?_
          refine f_bipush (v := 100) C0 dX0_paddle_74 rfl ?_
          refine f_iload C0 dX0_paddle_76 9 rfl ?_
          refine f_imul C0 dX0_paddle_78 ?_
          refine f_iload C0 dX0_paddle_79 6 rfl ?_
          refine f_aload_n C0 dX0_paddle_81 rfl 1 rfl ⟨_, rfl⟩ ?_
          refine gf_0_1 C0 kn_31 mw_226 dX0_paddle_82 ?_
          refine f_isub C0 dX0_paddle_85 ?_
          refine f_bipush (v := 100) C0 dX0_paddle_86 rfl ?_
          refine f_imul C0 dX0_paddle_88 ?_
          refine f_iload C0 dX0_paddle_89 0 rfl ?_
          obtain ⟨h16, hw⟩ := hw
          refine f_idiv C0 dX0_paddle_91 h16 ?_
          refine f_iadd C0 dX0_paddle_92 ?_
          refine pf_0_0 C0 kn_31 mw_224 dX0_paddle_93 (fun d17 ed17 => ?_)
          have hw := hw d17 ed17
          refine f_sub [1, 2, 3, 4, 5, 6, 7, 8, 9, 0] rfl ?_
          exact t_X0_paddle_96 C0 hZ hK27 _ _ _ _ _ _ _ _ hk2 _ _ hw
set_option maxHeartbeats 4000000 in
set_option maxRecDepth 100000 in
theorem m_X0_paddle {g : Ex} {n : Nat} {k2 : Nat} {x3 : Int32} {x4 : Int32} {x5 : Int32} {d : DD} {dl : LL} {Q : DD → LL → Prop} (hk2 : k2 < 6) (hw : F_X0_paddle n k2 x3 x4 x5 d dl Q) : Mv g yX0_paddle cX0_paddle 10 none 2 44 [rf g 31, rf g 1, rf g (37 + 3 * k2), .int x3, .int x4, .int x5] d dl Q := by
  refine Mv.of (by decide) (Nat.le_of_ble_eq_true rfl) (fun x C0 hZ => ?_)
  have C0 : Cx g x cX0_paddle 10 none RX0 2 44 := C0
  refine f_sipush (v := 1000) C0 dX0_paddle_0 rfl ?_
  refine f_istore (lo' := [(6, .int 1000), (0, rf g 31), (1, rf g 1), (2, rf g (37 + 3 * k2)), (3, .int x3), (4, .int x4), (5, .int x5)]) C0 dX0_paddle_3 (by decide) rfl ?_
  refine f_aload_n C0 dX0_paddle_5 rfl 2 rfl ⟨_, rfl⟩ ?_
  refine f_aload_n C0 dX0_paddle_6 rfl 3 rfl ⟨_, rfl⟩ ?_
  refine f_iload C0 dX0_paddle_7 0 rfl ?_
  refine f_callSi (As := [rf g 1, rf g (37 + 3 * k2), .int 1000]) (rest := []) C0 (m_X0_driveOf hk2 hw) cw_X0_16  ⟨(Nat.le_of_ble_eq_true rfl), (Nat.le_of_ble_eq_true rfl)⟩ rfl rfl (Nat.le_of_ble_eq_true rfl) dX0_paddle_9 ?_
  intro r1 d2 l3 hw
  refine f_istore (lo' := [(7, .int r1), (6, .int 1000), (0, rf g 31), (1, rf g 1), (2, rf g (37 + 3 * k2)), (3, .int x3), (4, .int x4), (5, .int x5)]) C0 dX0_paddle_12 (by decide) rfl ?_
  refine f_aload_n C0 dX0_paddle_14 rfl 2 rfl ⟨_, rfl⟩ ?_
  refine f_iconst (v := 0) C0 dX0_paddle_15 rfl ?_
  refine pf_0_0 C0 kn_31 mw_224 dX0_paddle_16 (fun d4 ed4 => ?_)
  have hw := hw d4 ed4
  refine f_aload_n C0 dX0_paddle_19 rfl 2 rfl ⟨_, rfl⟩ ?_
  refine f_iconst (v := 0) C0 dX0_paddle_20 rfl ?_
  refine pf_0_1 C0 kn_31 mw_226 dX0_paddle_21 (fun d5 ed5 => ?_)
  have hw := hw d5 ed5
  refine f_iconst (v := 0) C0 dX0_paddle_24 rfl ?_
  refine f_istore (lo' := [(8, .int 0), (7, .int r1), (6, .int 1000), (0, rf g 31), (1, rf g 1), (2, rf g (37 + 3 * k2)), (3, .int x3), (4, .int x4), (5, .int x5)]) C0 dX0_paddle_25 (by decide) rfl ?_
  refine f_sub [3, 4, 5, 6, 7, 8, 2, 1, 0] rfl ?_
  exact t_X0_paddle_27 C0 hZ n _ _ _ _ _ _ _ hk2 _ _ hw
def F_X9_goDown (n : Nat) (k1 : Nat) (x2 : Int32) (x3 : Int32) (d : DD) (dl : LL) (Q : DD → LL → Prop) : Prop := vp_in x2 4 ∧ vp_in (d (92 + 5 * k1) x2.toNatClampNeg) 6 ∧ ∀ k3 : Nat, k3 = (d (92 + 5 * k1) x2.toNatClampNeg).toNatClampNeg → (¬ (d (37 + 3 * k3) 6) = 0 → F_X8_weigh n k3 d dl (fun d6 l7 => F_X8_tilt n d6 l7 (fun r8 d9 l10 => ∀ v11 : Int32, v11 = ((if (0 : Int32) < r8 then r8 else 0) / 10) → vp_in x2 4 ∧ F_X0_paddle n k3 v11 (d9 29 x2.toNatClampNeg) ((10 : Int32) * x3) d9 l10 (fun d14 l15 => vp_in x2 4 ∧ ∀ d17 : DD, d17 = u2 d14 (93 + 5 * k1) x2.toNatClampNeg (d14 31 0) → vp_in x2 4 ∧ ∀ d19 : DD, d19 = u2 d17 (94 + 5 * k1) x2.toNatClampNeg (d17 31 1) → Q d19 l15)))) ∧ ((d (37 + 3 * k3) 6) = 0 → Q d dl)
set_option maxHeartbeats 4000000 in
set_option maxRecDepth 100000 in
theorem m_X9_goDown {g : Ex} {n : Nat} {k1 : Nat} {x2 : Int32} {x3 : Int32} {d : DD} {dl : LL} {Q : DD → LL → Prop} (hk1 : k1 < 24) (hw : F_X9_goDown n k1 x2 x3 d dl Q) : Mv g yX9_goDown cX9_goDown 6 none 3 73 [rf g 0, rf g (91 + 5 * k1), .int x2, .int x3] d dl Q := by
  refine Mv.of (by decide) (Nat.le_of_ble_eq_true rfl) (fun x C0 hZ => ?_)
  have C0 : Cx g x cX9_goDown 6 none RX9 3 73 := C0
  refine f_aload_n C0 dX9_goDown_0 rfl 0 rfl ⟨_, rfl⟩ ?_
  refine gf_9_1 (r := 8) C0 rfl kn_0 mw_369 dX9_goDown_1 ?_
  refine f_aload_n C0 dX9_goDown_4 rfl 1 rfl ⟨_, rfl⟩ ?_
  refine gf_3_3 (r := (92 + 5 * k1)) C0 (by omega) (kn_race_0 hk1) mw_345 dX9_goDown_5 ?_
  refine f_iload_n C0 dX9_goDown_8 rfl 2 rfl ?_
  obtain ⟨h1, hw⟩ := hw
  refine f_iald C0 (kn_race_1 hk1) h1 dX9_goDown_9 ?_
  obtain ⟨h2, hw⟩ := hw
  refine f_aald14 C0 kn_8 h2 dX9_goDown_10 (fun k3 ek3 hk3 => ?_)
  have hw := hw k3 ek3
  refine f_astore (lo' := [(4, rf g (37 + 3 * k3)), (0, rf g 0), (1, rf g (91 + 5 * k1)), (2, .int x2), (3, .int x3)]) C0 dX9_goDown_11 (by decide) rfl ⟨_, rfl⟩ ?_
  refine f_aload C0 dX9_goDown_13 0 rfl ⟨_, rfl⟩ ?_
  refine gf_1_6 C0 (kn_crew_0 hk3) mw_279 dX9_goDown_15 ?_
  refine f_if_ne (tgt := 22) C0 dX9_goDown_18 (by decide) (fun h4 => ?_) (fun h4 => ?_)
  · have hw := hw.1 h4
    refine f_aload_n C0 dX9_goDown_22 rfl 1 rfl ⟨_, rfl⟩ ?_
    refine gf_9_3 (r := 9) C0 rfl kn_0 mw_371 dX9_goDown_23 ?_
    refine f_aload_n C0 dX9_goDown_26 rfl 1 rfl ⟨_, rfl⟩ ?_
    refine gf_9_0 (r := 1) C0 rfl kn_0 mw_368 dX9_goDown_27 ?_
    refine f_aload C0 dX9_goDown_30 0 rfl ⟨_, rfl⟩ ?_
    refine f_callVv (As := [rf g 1, rf g (37 + 3 * k3)]) (rest := []) C0 (m_X8_weigh hk3 hw) cw_X9_162 kn_9 (by decide) rfl rfl ⟨(Nat.le_of_ble_eq_true rfl), (Nat.le_of_ble_eq_true rfl)⟩ rfl rfl (Nat.le_of_ble_eq_true rfl) dX9_goDown_32 ?_
    intro d6 l7 hw
    refine f_iconst (v := 0) C0 dX9_goDown_35 rfl ?_
    refine f_aload_n C0 dX9_goDown_36 rfl 1 rfl ⟨_, rfl⟩ ?_
    refine gf_9_3 (r := 9) C0 rfl kn_0 mw_371 dX9_goDown_37 ?_
    refine f_callVi (As := []) (rest := [.int 0]) C0 (m_X8_tilt hw) cw_X9_189 kn_9 (by decide) rfl rfl ⟨(Nat.le_of_ble_eq_true rfl), (Nat.le_of_ble_eq_true rfl)⟩ rfl rfl (Nat.le_of_ble_eq_true rfl) dX9_goDown_40 ?_
    intro r8 d9 l10 hw
    refine f_mmax C0 mw_753 mw_496 mw_59 mw_497 ⟨(Nat.le_of_ble_eq_true rfl), (Nat.le_of_ble_eq_true rfl)⟩ dX9_goDown_43 ?_
    refine f_bipush (v := 10) C0 dX9_goDown_46 rfl ?_
    refine f_idiv C0 dX9_goDown_48 (by decide) ?_
    refine f_topi (fun v11 e11 => ?_)
    have hw := hw v11 e11
    refine f_istore (lo' := [(5, .int v11), (4, rf g (37 + 3 * k3)), (0, rf g 0), (1, rf g (91 + 5 * k1)), (2, .int x2), (3, .int x3)]) C0 dX9_goDown_49 (by decide) rfl ?_
    refine f_aload_n C0 dX9_goDown_51 rfl 2 rfl ⟨_, rfl⟩ ?_
    refine gf_9_14 (r := 31) C0 rfl kn_0 mw_382 dX9_goDown_52 ?_
    refine f_aload_n C0 dX9_goDown_55 rfl 2 rfl ⟨_, rfl⟩ ?_
    refine gf_9_0 (r := 1) C0 rfl kn_0 mw_368 dX9_goDown_56 ?_
    refine f_aload C0 dX9_goDown_59 1 rfl ⟨_, rfl⟩ ?_
    refine f_iload C0 dX9_goDown_61 0 rfl ?_
    refine f_aload_n C0 dX9_goDown_63 rfl 2 rfl ⟨_, rfl⟩ ?_
    refine gf_9_11 (r := 29) C0 rfl kn_0 mw_379 dX9_goDown_64 ?_
    refine f_iload_n C0 dX9_goDown_67 rfl 4 rfl ?_
    obtain ⟨h12, hw⟩ := hw
    refine f_iald C0 kn_29 h12 dX9_goDown_68 ?_
    refine f_bipush (v := 10) C0 dX9_goDown_69 rfl ?_
    refine f_iload_n C0 dX9_goDown_71 rfl 5 rfl ?_
    refine f_imul C0 dX9_goDown_72 ?_
    refine f_callVv (As := [rf g 1, rf g (37 + 3 * k3), .int v11, .int (d9 29 x2.toNatClampNeg), .int ((10 : Int32) * x3)]) (rest := []) C0 (m_X0_paddle hk3 hw) cw_X9_324 kn_31 (by decide) rfl rfl ⟨(Nat.le_of_ble_eq_true rfl), (Nat.le_of_ble_eq_true rfl)⟩ rfl rfl (Nat.le_of_ble_eq_true rfl) dX9_goDown_73 ?_
    intro d14 l15 hw
    refine f_aload_n C0 dX9_goDown_76 rfl 3 rfl ⟨_, rfl⟩ ?_
    refine gf_3_4 (r := (93 + 5 * k1)) C0 (by omega) (kn_race_0 hk1) mw_348 dX9_goDown_77 ?_
    refine f_iload_n C0 dX9_goDown_80 rfl 4 rfl ?_
    refine f_aload_n C0 dX9_goDown_81 rfl 2 rfl ⟨_, rfl⟩ ?_
    refine gf_9_14 (r := 31) C0 rfl kn_0 mw_382 dX9_goDown_82 ?_
    refine gf_0_0 C0 kn_31 mw_225 dX9_goDown_85 ?_
    obtain ⟨h16, hw⟩ := hw
    refine f_iast C0 (kn_race_2 hk1) h16 dX9_goDown_88 (fun d17 ed17 => ?_)
    have hw := hw d17 ed17
    refine f_aload_n C0 dX9_goDown_89 rfl 3 rfl ⟨_, rfl⟩ ?_
    refine gf_3_5 (r := (94 + 5 * k1)) C0 (by omega) (kn_race_0 hk1) mw_350 dX9_goDown_90 ?_
    refine f_iload_n C0 dX9_goDown_93 rfl 4 rfl ?_
    refine f_aload_n C0 dX9_goDown_94 rfl 2 rfl ⟨_, rfl⟩ ?_
    refine gf_9_14 (r := 31) C0 rfl kn_0 mw_382 dX9_goDown_95 ?_
    refine gf_0_1 C0 kn_31 mw_227 dX9_goDown_98 ?_
    obtain ⟨h18, hw⟩ := hw
    refine f_iast C0 (kn_race_3 hk1) h18 dX9_goDown_101 (fun d19 ed19 => ?_)
    have hw := hw d19 ed19
    exact f_vret C0 hZ hw dX9_goDown_102
  · have hw := hw.2 h4
    exact f_vret C0 hZ hw dX9_goDown_21
def b_X3_timeCount_24 (n : Nat) (Q : Int32 → DD → LL → Prop) (K4 : Nat → Int32 → Int32 → DD → LL → Prop) (k0 : Nat) (x2 : Int32) (xs0 : Int32) (xs1 : Int32) (d : DD) (dl : LL) : Prop := ∀ v4 : Int32, v4 = (xs1 + xs0) → K4 k0 v4 (x2 + 1) d dl
def b_X3_timeCount_4 (n : Nat) (Q : Int32 → DD → LL → Prop) : Nat → Nat → Int32 → Int32 → DD → LL → Prop
  | 0 => fun _ _ _ _ _ => False
  | k + 1 => fun k0 x1 x2 d dl => (4 ≤ x2 → Q x1 d dl) ∧ (¬ 4 ≤ x2 → vp_in x2 4 ∧ ((d (93 + 5 * k0) x2.toNatClampNeg) ≤ 0 → b_X3_timeCount_24 n Q (b_X3_timeCount_4 n Q k) k0 x2 0 x1 d dl) ∧ (¬ (d (93 + 5 * k0) x2.toNatClampNeg) ≤ 0 → b_X3_timeCount_24 n Q (b_X3_timeCount_4 n Q k) k0 x2 1 x1 d dl))
def F_X3_timeCount (n : Nat) (k0 : Nat) (d : DD) (dl : LL) (Q : Int32 → DD → LL → Prop) : Prop := b_X3_timeCount_4 n Q n k0 0 0 d dl
set_option maxHeartbeats 4000000 in
set_option maxRecDepth 100000 in
theorem t_X3_timeCount_24 {g : Ex} {x : Fx} {n : Nat} {Q : Int32 → DD → LL → Prop} (C0 : Cx g x cX3_timeCount 3 (some .int) RX3 0 0) (hZ : Zi g x Q) {K4 : Nat → Int32 → Int32 → DD → LL → Prop} (hK4 : ∀ (k0 : Nat) (x1 : Int32) (x2 : Int32) (hk0 : k0 < 24) (d : DD) (dl : LL), K4 k0 x1 x2 d dl → FW g x 3 d dl 4 [(0, rf g (91 + 5 * k0)), (1, .int x1), (2, .int x2)] []) : ∀ (k0 : Nat) (x2 : Int32) (xs0 : Int32) (xs1 : Int32) (hk0 : k0 < 24) (d : DD) (dl : LL), b_X3_timeCount_24 n Q K4 k0 x2 xs0 xs1 d dl → FW g x 3 d dl 24 [(0, rf g (91 + 5 * k0)), (2, .int x2)] [.int xs0, .int xs1] := by
  intro k0 x2 xs0 xs1 hk0 d dl hw
  refine f_iadd C0 dX3_timeCount_24 ?_
  refine f_topi (fun v4 e4 => ?_)
  have hw := hw v4 e4
  refine f_istore_n (lo' := [(1, .int v4), (0, rf g (91 + 5 * k0)), (2, .int x2)]) C0 dX3_timeCount_25 rfl (by decide) rfl ?_
  refine f_iinc (lo' := [(2, .int (x2 + 1)), (1, .int v4), (0, rf g (91 + 5 * k0))]) C0 dX3_timeCount_26 2 rfl rfl (by decide) rfl ?_
  refine f_goto (tgt := 4) C0 dX3_timeCount_29 (by decide) ?_
  refine f_sub [2, 1, 0] rfl ?_
  exact hK4 _ _ _ hk0 _ _ hw
set_option maxHeartbeats 4000000 in
set_option maxRecDepth 100000 in
theorem t_X3_timeCount_4 {g : Ex} {x : Fx} {n : Nat} {Q : Int32 → DD → LL → Prop} (C0 : Cx g x cX3_timeCount 3 (some .int) RX3 0 0) (hZ : Zi g x Q) : ∀ (j : Nat) (k0 : Nat) (x1 : Int32) (x2 : Int32) (hk0 : k0 < 24) (d : DD) (dl : LL), b_X3_timeCount_4 n Q j k0 x1 x2 d dl → FW g x 3 d dl 4 [(0, rf g (91 + 5 * k0)), (1, .int x1), (2, .int x2)] [] := by
  intro j
  induction j with
  | zero =>
    intro k0 x1 x2 hk0 d dl hw
    exact hw.elim
  | succ j hK4 =>
    intro k0 x1 x2 hk0 d dl hw
    refine f_iload_n C0 dX3_timeCount_4 rfl 2 rfl ?_
    refine f_iconst (v := 4) C0 dX3_timeCount_5 rfl ?_
    refine f_icmp_ge (tgt := 32) C0 dX3_timeCount_6 (by decide) (fun h1 => ?_) (fun h1 => ?_)
    · have hw := hw.1 h1
      refine f_iload_n C0 dX3_timeCount_32 rfl 1 rfl ?_
      exact f_iret C0 hZ hw dX3_timeCount_33
    · have hw := hw.2 h1
      refine f_iload_n C0 dX3_timeCount_9 rfl 1 rfl ?_
      refine f_aload_n C0 dX3_timeCount_10 rfl 0 rfl ⟨_, rfl⟩ ?_
      refine gf_3_4 (r := (93 + 5 * k0)) C0 (by omega) (kn_race_0 hk0) mw_346 dX3_timeCount_11 ?_
      refine f_iload_n C0 dX3_timeCount_14 rfl 2 rfl ?_
      obtain ⟨h2, hw⟩ := hw
      refine f_iald C0 (kn_race_2 hk0) h2 dX3_timeCount_15 ?_
      refine f_if_le (tgt := 23) C0 dX3_timeCount_16 (by decide) (fun h3 => ?_) (fun h3 => ?_)
      · have hw := hw.1 h3
        refine f_iconst (v := 0) C0 dX3_timeCount_23 rfl ?_
        refine f_sub [0, 2] rfl ?_
        exact t_X3_timeCount_24 C0 hZ hK4 _ _ _ _ hk0 _ _ hw
      · have hw := hw.2 h3
        refine f_iconst (v := 1) C0 dX3_timeCount_19 rfl ?_
        refine f_goto (tgt := 24) C0 dX3_timeCount_20 (by decide) ?_
        refine f_sub [0, 2] rfl ?_
        exact t_X3_timeCount_24 C0 hZ hK4 _ _ _ _ hk0 _ _ hw
set_option maxHeartbeats 4000000 in
set_option maxRecDepth 100000 in
theorem m_X3_timeCount {g : Ex} {n : Nat} {k0 : Nat} {d : DD} {dl : LL} {Q : Int32 → DD → LL → Prop} (hk0 : k0 < 24) (hw : F_X3_timeCount n k0 d dl Q) : Mi g yX3_timeCount cX3_timeCount 3 (some .int) 0 0 [rf g (91 + 5 * k0)] d dl Q := by
  refine Mi.of (by decide) (Nat.le_of_ble_eq_true rfl) (fun x C0 hZ => ?_)
  have C0 : Cx g x cX3_timeCount 3 (some .int) RX3 0 0 := C0
  refine f_iconst (v := 0) C0 dX3_timeCount_0 rfl ?_
  refine f_istore_n (lo' := [(1, .int 0), (0, rf g (91 + 5 * k0))]) C0 dX3_timeCount_1 rfl (by decide) rfl ?_
  refine f_iconst (v := 0) C0 dX3_timeCount_2 rfl ?_
  refine f_istore_n (lo' := [(2, .int 0), (1, .int 0), (0, rf g (91 + 5 * k0))]) C0 dX3_timeCount_3 rfl (by decide) rfl ?_
  refine f_sub [2, 1, 0] rfl ?_
  exact t_X3_timeCount_4 C0 hZ n _ _ _ hk0 _ _ hw
def b_X9_run_50 (n : Nat) (Q : Int32 → DD → LL → Prop) : Nat → Int32 → Nat → Int32 → DD → LL → Prop
  | 0 => fun _ _ _ _ _ => False
  | k + 1 => fun x2 k3 x4 d dl => (4 ≤ x4 → F_X3_timeCount n k3 d dl (fun r14 d15 l16 => Q r14 d15 l16)) ∧ (¬ 4 ≤ x4 → vp_in x4 4 ∧ ((d (92 + 5 * k3) x4.toNatClampNeg) = (-1) → (b_X9_run_50 n Q k) x2 k3 (x4 + 1) d dl) ∧ (¬ (d (92 + 5 * k3) x4.toNatClampNeg) = (-1) → vp_in x4 4 ∧ (¬ (d (95 + 5 * k3) x4.toNatClampNeg) = 0 → (b_X9_run_50 n Q k) x2 k3 (x4 + 1) d dl) ∧ ((d (95 + 5 * k3) x4.toNatClampNeg) = 0 → F_X9_goDown n k3 x4 x2 d dl (fun d22 l23 => (b_X9_run_50 n Q k) x2 k3 (x4 + 1) d22 l23))))
def F_X9_run (n : Nat) (x1 : Int32) (x2 : Int32) (d : DD) (dl : LL) (Q : Int32 → DD → LL → Prop) : Prop := F_X9_isRace n x1 d dl (fun r1 d2 l3 => (¬ r1 = 0 → F_X9_within n x2 100 2000 d2 l3 (fun r5 d6 l7 => (¬ r5 = 0 → vp_in x1 24 ∧ ∀ k10 : Nat, k10 = x1.toNatClampNeg → ((d6 (91 + 5 * k10) 2) = 0 → ∀ d12 : DD, d12 = u2 d6 (91 + 5 * k10) 2 1 → b_X9_run_50 n Q n x2 k10 0 d12 l7) ∧ (¬ (d6 (91 + 5 * k10) 2) = 0 → Q (-3) d6 l7)) ∧ (r5 = 0 → Q (-2) d6 l7))) ∧ (r1 = 0 → Q (-1) d2 l3))
set_option maxHeartbeats 4000000 in
set_option maxRecDepth 100000 in
theorem t_X9_run_50 {g : Ex} {x : Fx} {n : Nat} {Q : Int32 → DD → LL → Prop} (C0 : Cx g x cX9_run 5 (some .int) RX9 4 98) (hZ : Zi g x Q) : ∀ (j : Nat) (x2 : Int32) (k3 : Nat) (x4 : Int32) (hk3 : k3 < 24) (d : DD) (dl : LL), b_X9_run_50 n Q j x2 k3 x4 d dl → FW g x 5 d dl 50 [(0, rf g 0), (2, .int x2), (3, rf g (91 + 5 * k3)), (4, .int x4)] [] := by
  intro j
  induction j with
  | zero =>
    intro x2 k3 x4 hk3 d dl hw
    exact hw.elim
  | succ j hK50 =>
    intro x2 k3 x4 hk3 d dl hw
    refine f_iload C0 dX9_run_50 3 rfl ?_
    refine f_iconst (v := 4) C0 dX9_run_52 rfl ?_
    refine f_icmp_ge (tgt := 91) C0 dX9_run_53 (by decide) (fun h13 => ?_) (fun h13 => ?_)
    · have hw := hw.1 h13
      refine f_aload_n C0 dX9_run_91 rfl 2 rfl ⟨_, rfl⟩ ?_
      refine f_callVi (As := []) (rest := []) C0 (m_X3_timeCount hk3 hw) cw_X9_245 (kn_race_0 hk3) (by decide) rfl rfl ⟨(Nat.le_of_ble_eq_true rfl), (Nat.le_of_ble_eq_true rfl)⟩ rfl rfl (Nat.le_of_ble_eq_true rfl) dX9_run_92 ?_
      intro r14 d15 l16 hw
      exact f_iret C0 hZ hw dX9_run_95
    · have hw := hw.2 h13
      refine f_aload_n C0 dX9_run_56 rfl 2 rfl ⟨_, rfl⟩ ?_
      refine gf_3_3 (r := (92 + 5 * k3)) C0 (by omega) (kn_race_0 hk3) mw_345 dX9_run_57 ?_
      refine f_iload C0 dX9_run_60 3 rfl ?_
      obtain ⟨h17, hw⟩ := hw
      refine f_iald C0 (kn_race_1 hk3) h17 dX9_run_62 ?_
      refine f_iconst (v := (-1)) C0 dX9_run_63 rfl ?_
      refine f_icmp_eq (tgt := 85) C0 dX9_run_64 (by decide) (fun h18 => ?_) (fun h18 => ?_)
      · have hw := hw.1 h18
        refine f_iinc (lo' := [(4, .int (x4 + 1)), (0, rf g 0), (2, .int x2), (3, rf g (91 + 5 * k3))]) C0 dX9_run_85 3 rfl rfl (by decide) rfl ?_
        refine f_goto (tgt := 50) C0 dX9_run_88 (by decide) ?_
        refine f_sub [1, 2, 3, 0] rfl ?_
        exact hK50 _ _ _ hk3 _ _ hw
      · have hw := hw.2 h18
        refine f_aload_n C0 dX9_run_67 rfl 2 rfl ⟨_, rfl⟩ ?_
        refine gf_3_6 (r := (95 + 5 * k3)) C0 (by omega) (kn_race_0 hk3) mw_352 dX9_run_68 ?_
        refine f_iload C0 dX9_run_71 3 rfl ?_
        obtain ⟨h19, hw⟩ := hw
        refine f_zald C0 (kn_race_4 hk3) h19 dX9_run_73 ?_
        refine f_if_ne (tgt := 85) C0 dX9_run_74 (by decide) (fun h20 => ?_) (fun h20 => ?_)
        · have hw := hw.1 h20
          refine f_iinc (lo' := [(4, .int (x4 + 1)), (0, rf g 0), (2, .int x2), (3, rf g (91 + 5 * k3))]) C0 dX9_run_85 3 rfl rfl (by decide) rfl ?_
          refine f_goto (tgt := 50) C0 dX9_run_88 (by decide) ?_
          refine f_sub [1, 2, 3, 0] rfl ?_
          exact hK50 _ _ _ hk3 _ _ hw
        · have hw := hw.2 h20
          refine f_aload_n C0 dX9_run_77 rfl 0 rfl ⟨_, rfl⟩ ?_
          refine f_aload_n C0 dX9_run_78 rfl 2 rfl ⟨_, rfl⟩ ?_
          refine f_iload C0 dX9_run_79 3 rfl ?_
          refine f_iload_n C0 dX9_run_81 rfl 1 rfl ?_
          refine f_callVv (As := [rf g (91 + 5 * k3), .int x4, .int x2]) (rest := []) C0 (m_X9_goDown hk3 hw) cw_X9_241 kn_0 (by decide) rfl rfl ⟨(Nat.le_of_ble_eq_true rfl), (Nat.le_of_ble_eq_true rfl)⟩ rfl rfl (Nat.le_of_ble_eq_true rfl) dX9_run_82 ?_
          intro d22 l23 hw
          refine f_iinc (lo' := [(4, .int (x4 + 1)), (0, rf g 0), (2, .int x2), (3, rf g (91 + 5 * k3))]) C0 dX9_run_85 3 rfl rfl (by decide) rfl ?_
          refine f_goto (tgt := 50) C0 dX9_run_88 (by decide) ?_
          refine f_sub [1, 2, 3, 0] rfl ?_
          exact hK50 _ _ _ hk3 _ _ hw
set_option maxHeartbeats 4000000 in
set_option maxRecDepth 100000 in
theorem m_X9_run {g : Ex} {n : Nat} {x1 : Int32} {x2 : Int32} {d : DD} {dl : LL} {Q : Int32 → DD → LL → Prop} (hw : F_X9_run n x1 x2 d dl Q) : Mi g yX9_run cX9_run 5 (some .int) 4 98 [rf g 0, .int x1, .int x2] d dl Q := by
  refine Mi.of (by decide) (Nat.le_of_ble_eq_true rfl) (fun x C0 hZ => ?_)
  have C0 : Cx g x cX9_run 5 (some .int) RX9 4 98 := C0
  refine f_aload_n C0 dX9_run_0 rfl 0 rfl ⟨_, rfl⟩ ?_
  refine f_iload_n C0 dX9_run_1 rfl 1 rfl ?_
  refine f_callVi (As := [.int x1]) (rest := []) C0 (m_X9_isRace hw) cw_X9_229 kn_0 (by decide) rfl rfl ⟨(Nat.le_of_ble_eq_true rfl), (Nat.le_of_ble_eq_true rfl)⟩ rfl rfl (Nat.le_of_ble_eq_true rfl) dX9_run_2 ?_
  intro r1 d2 l3 hw
  refine f_if_ne (tgt := 10) C0 dX9_run_5 (by decide) (fun h4 => ?_) (fun h4 => ?_)
  · have hw := hw.1 h4
    refine f_iload_n C0 dX9_run_10 rfl 2 rfl ?_
    refine f_bipush (v := 100) C0 dX9_run_11 rfl ?_
    refine f_sipush (v := 2000) C0 dX9_run_13 rfl ?_
    refine f_callSi (As := [.int x2, .int 100, .int 2000]) (rest := []) C0 (m_X9_within hw) cw_X9_97  ⟨(Nat.le_of_ble_eq_true rfl), (Nat.le_of_ble_eq_true rfl)⟩ rfl rfl (Nat.le_of_ble_eq_true rfl) dX9_run_16 ?_
    intro r5 d6 l7 hw
    refine f_if_ne (tgt := 25) C0 dX9_run_19 (by decide) (fun h8 => ?_) (fun h8 => ?_)
    · have hw := hw.1 h8
      refine f_aload_n C0 dX9_run_25 rfl 0 rfl ⟨_, rfl⟩ ?_
      refine gf_9_12 (r := 30) C0 rfl kn_0 mw_380 dX9_run_26 ?_
      refine f_iload_n C0 dX9_run_29 rfl 1 rfl ?_
      obtain ⟨h9, hw⟩ := hw
      refine f_aald16 C0 kn_30 h9 dX9_run_30 (fun k10 ek10 hk10 => ?_)
      have hw := hw k10 ek10
      refine f_astore_n (lo' := [(3, rf g (91 + 5 * k10)), (0, rf g 0), (1, .int x1), (2, .int x2)]) C0 dX9_run_31 rfl (by decide) rfl ⟨_, rfl⟩ ?_
      refine f_aload_n C0 dX9_run_32 rfl 0 rfl ⟨_, rfl⟩ ?_
      refine gf_3_2 C0 (kn_race_0 hk10) mw_342 dX9_run_33 ?_
      refine f_if_eq (tgt := 42) C0 dX9_run_36 (by decide) (fun h11 => ?_) (fun h11 => ?_)
      · have hw := hw.1 h11
        refine f_aload_n C0 dX9_run_42 rfl 0 rfl ⟨_, rfl⟩ ?_
        refine f_iconst (v := 1) C0 dX9_run_43 rfl ?_
        refine pf_3_2 C0 (kn_race_0 hk10) (by decide) mw_342 dX9_run_44 (fun d12 ed12 => ?_)
        have hw := hw d12 ed12
        refine f_iconst (v := 0) C0 dX9_run_47 rfl ?_
        refine f_istore (lo' := [(4, .int 0), (3, rf g (91 + 5 * k10)), (0, rf g 0), (1, .int x1), (2, .int x2)]) C0 dX9_run_48 (by decide) rfl ?_
        refine f_sub [2, 4, 1, 0] rfl ?_
        exact t_X9_run_50 C0 hZ n _ _ _ hk10 _ _ hw
      · have hw := hw.2 h11
        refine f_bipush (v := (-3)) C0 dX9_run_39 rfl ?_
        exact f_iret C0 hZ hw dX9_run_41
    · have hw := hw.2 h8
      refine f_bipush (v := (-2)) C0 dX9_run_22 rfl ?_
      exact f_iret C0 hZ hw dX9_run_24
  · have hw := hw.2 h4
    refine f_iconst (v := (-1)) C0 dX9_run_8 rfl ?_
    exact f_iret C0 hZ hw dX9_run_9
def F_X9_time (n : Nat) (x1 : Int32) (x2 : Int32) (x3 : Int32) (d : DD) (dl : LL) (Q : Int32 → DD → LL → Prop) : Prop := F_X9_isRace n x1 d dl (fun r1 d2 l3 => (r1 = 0 → Q (-1) d2 l3) ∧ (¬ r1 = 0 → F_X9_isLane n x2 d2 l3 (fun r5 d6 l7 => (r5 = 0 → Q (-1) d6 l7) ∧ (¬ r5 = 0 → vp_in x1 24 ∧ ∀ k10 : Nat, k10 = x1.toNatClampNeg → vp_in x2 4 ∧ (¬ (d6 (92 + 5 * k10) x2.toNatClampNeg) = (-1) → F_X9_within n x3 0 99999 d6 l7 (fun r13 d14 l15 => (¬ r13 = 0 → vp_in x1 24 ∧ ∀ k18 : Nat, k18 = x1.toNatClampNeg → vp_in x2 4 ∧ ((d14 (95 + 5 * k18) x2.toNatClampNeg) = 0 → vp_in x2 4 ∧ ∀ v22 : Int32, v22 = (d14 (93 + 5 * k18) x2.toNatClampNeg) → vp_in x2 4 ∧ ∀ d24 : DD, d24 = u2 d14 (93 + 5 * k18) x2.toNatClampNeg x3 → (¬ (d24 (91 + 5 * k18) 2) = 0 → ∀ d26 : DD, d26 = u2 d24 (91 + 5 * k18) 2 1 → Q v22 d26 l15) ∧ ((d24 (91 + 5 * k18) 2) = 0 → (x3 ≤ 0 → ∀ d28 : DD, d28 = u2 d24 (91 + 5 * k18) 2 0 → Q v22 d28 l15) ∧ (¬ x3 ≤ 0 → ∀ d29 : DD, d29 = u2 d24 (91 + 5 * k18) 2 1 → Q v22 d29 l15))) ∧ (¬ (d14 (95 + 5 * k18) x2.toNatClampNeg) = 0 → Q (-3) d14 l15)) ∧ (r13 = 0 → Q (-2) d14 l15))) ∧ ((d6 (92 + 5 * k10) x2.toNatClampNeg) = (-1) → Q (-1) d6 l7)))))
set_option maxHeartbeats 4000000 in
set_option maxRecDepth 100000 in
theorem m_X9_time {g : Ex} {n : Nat} {x1 : Int32} {x2 : Int32} {x3 : Int32} {d : DD} {dl : LL} {Q : Int32 → DD → LL → Prop} (hw : F_X9_time n x1 x2 x3 d dl Q) : Mi g yX9_time cX9_time 6 (some .int) 2 43 [rf g 0, .int x1, .int x2, .int x3] d dl Q := by
  refine Mi.of (by decide) (Nat.le_of_ble_eq_true rfl) (fun x C0 hZ => ?_)
  have C0 : Cx g x cX9_time 6 (some .int) RX9 2 43 := C0
  refine f_aload_n C0 dX9_time_0 rfl 0 rfl ⟨_, rfl⟩ ?_
  refine f_iload_n C0 dX9_time_1 rfl 1 rfl ?_
  refine f_callVi (As := [.int x1]) (rest := []) C0 (m_X9_isRace hw) cw_X9_229 kn_0 (by decide) rfl rfl ⟨(Nat.le_of_ble_eq_true rfl), (Nat.le_of_ble_eq_true rfl)⟩ rfl rfl (Nat.le_of_ble_eq_true rfl) dX9_time_2 ?_
  intro r1 d2 l3 hw
  refine f_if_eq (tgt := 30) C0 dX9_time_5 (by decide) (fun h4 => ?_) (fun h4 => ?_)
  · have hw := hw.1 h4
    refine f_iconst (v := (-1)) C0 dX9_time_30 rfl ?_
    exact f_iret C0 hZ hw dX9_time_31
  · have hw := hw.2 h4
    refine f_iload_n C0 dX9_time_8 rfl 2 rfl ?_
    refine f_callSi (As := [.int x2]) (rest := []) C0 (m_X9_isLane hw) cw_X9_211  ⟨(Nat.le_of_ble_eq_true rfl), (Nat.le_of_ble_eq_true rfl)⟩ rfl rfl (Nat.le_of_ble_eq_true rfl) dX9_time_9 ?_
    intro r5 d6 l7 hw
    refine f_if_eq (tgt := 30) C0 dX9_time_12 (by decide) (fun h8 => ?_) (fun h8 => ?_)
    · have hw := hw.1 h8
      refine f_iconst (v := (-1)) C0 dX9_time_30 rfl ?_
      exact f_iret C0 hZ hw dX9_time_31
    · have hw := hw.2 h8
      refine f_aload_n C0 dX9_time_15 rfl 0 rfl ⟨_, rfl⟩ ?_
      refine gf_9_12 (r := 30) C0 rfl kn_0 mw_380 dX9_time_16 ?_
      refine f_iload_n C0 dX9_time_19 rfl 1 rfl ?_
      obtain ⟨h9, hw⟩ := hw
      refine f_aald16 C0 kn_30 h9 dX9_time_20 (fun k10 ek10 hk10 => ?_)
      have hw := hw k10 ek10
      refine gf_3_3 (r := (92 + 5 * k10)) C0 (by omega) (kn_race_0 hk10) mw_345 dX9_time_21 ?_
      refine f_iload_n C0 dX9_time_24 rfl 2 rfl ?_
      obtain ⟨h11, hw⟩ := hw
      refine f_iald C0 (kn_race_1 hk10) h11 dX9_time_25 ?_
      refine f_iconst (v := (-1)) C0 dX9_time_26 rfl ?_
      refine f_icmp_ne (tgt := 32) C0 dX9_time_27 (by decide) (fun h12 => ?_) (fun h12 => ?_)
      · have hw := hw.1 h12
        refine f_iload_n C0 dX9_time_32 rfl 3 rfl ?_
        refine f_iconst (v := 0) C0 dX9_time_33 rfl ?_
        refine f_ldc (v := 99999) C0 mw_771 dX9_time_34 ?_
        refine f_callSi (As := [.int x3, .int 0, .int 99999]) (rest := []) C0 (m_X9_within hw) cw_X9_97  ⟨(Nat.le_of_ble_eq_true rfl), (Nat.le_of_ble_eq_true rfl)⟩ rfl rfl (Nat.le_of_ble_eq_true rfl) dX9_time_36 ?_
        intro r13 d14 l15 hw
        refine f_if_ne (tgt := 45) C0 dX9_time_39 (by decide) (fun h16 => ?_) (fun h16 => ?_)
        · have hw := hw.1 h16
          refine f_aload_n C0 dX9_time_45 rfl 0 rfl ⟨_, rfl⟩ ?_
          refine gf_9_12 (r := 30) C0 rfl kn_0 mw_380 dX9_time_46 ?_
          refine f_iload_n C0 dX9_time_49 rfl 1 rfl ?_
          obtain ⟨h17, hw⟩ := hw
          refine f_aald16 C0 kn_30 h17 dX9_time_50 (fun k18 ek18 hk18 => ?_)
          have hw := hw k18 ek18
          refine f_astore (lo' := [(4, rf g (91 + 5 * k18)), (0, rf g 0), (1, .int x1), (2, .int x2), (3, .int x3)]) C0 dX9_time_51 (by decide) rfl ⟨_, rfl⟩ ?_
          refine f_aload C0 dX9_time_53 0 rfl ⟨_, rfl⟩ ?_
          refine gf_3_6 (r := (95 + 5 * k18)) C0 (by omega) (kn_race_0 hk18) mw_352 dX9_time_55 ?_
          refine f_iload_n C0 dX9_time_58 rfl 3 rfl ?_
          obtain ⟨h19, hw⟩ := hw
          refine f_zald C0 (kn_race_4 hk18) h19 dX9_time_59 ?_
          refine f_if_eq (tgt := 66) C0 dX9_time_60 (by decide) (fun h20 => ?_) (fun h20 => ?_)
          · have hw := hw.1 h20
            refine f_aload C0 dX9_time_66 0 rfl ⟨_, rfl⟩ ?_
            refine gf_3_4 (r := (93 + 5 * k18)) C0 (by omega) (kn_race_0 hk18) mw_348 dX9_time_68 ?_
            refine f_iload_n C0 dX9_time_71 rfl 3 rfl ?_
            obtain ⟨h21, hw⟩ := hw
            refine f_iald C0 (kn_race_2 hk18) h21 dX9_time_72 ?_
            refine f_topi (fun v22 e22 => ?_)
            have hw := hw v22 e22
            refine f_istore (lo' := [(5, .int v22), (4, rf g (91 + 5 * k18)), (0, rf g 0), (1, .int x1), (2, .int x2), (3, .int x3)]) C0 dX9_time_73 (by decide) rfl ?_
            refine f_aload C0 dX9_time_75 1 rfl ⟨_, rfl⟩ ?_
            refine gf_3_4 (r := (93 + 5 * k18)) C0 (by omega) (kn_race_0 hk18) mw_348 dX9_time_77 ?_
            refine f_iload_n C0 dX9_time_80 rfl 4 rfl ?_
            refine f_iload_n C0 dX9_time_81 rfl 5 rfl ?_
            obtain ⟨h23, hw⟩ := hw
            refine f_iast C0 (kn_race_2 hk18) h23 dX9_time_82 (fun d24 ed24 => ?_)
            have hw := hw d24 ed24
            refine f_aload C0 dX9_time_83 1 rfl ⟨_, rfl⟩ ?_
            refine f_aload C0 dX9_time_85 1 rfl ⟨_, rfl⟩ ?_
            refine gf_3_2 C0 (kn_race_0 hk18) mw_342 dX9_time_87 ?_
            refine f_if_ne (tgt := 97) C0 dX9_time_90 (by decide) (fun h25 => ?_) (fun h25 => ?_)
            · have hw := hw.1 h25
              refine f_iconst (v := 1) C0 dX9_time_97 rfl ?_
              refine f_goto (tgt := 102) C0 dX9_time_98 (by decide) ?_
              refine pf_3_2 C0 (kn_race_0 hk18) (by decide) mw_342 dX9_time_102 (fun d26 ed26 => ?_)
              have hw := hw d26 ed26
              refine f_iload C0 dX9_time_105 0 rfl ?_
              exact f_iret C0 hZ hw dX9_time_107
            · have hw := hw.2 h25
              refine f_iload_n C0 dX9_time_93 rfl 5 rfl ?_
              refine f_if_le (tgt := 101) C0 dX9_time_94 (by decide) (fun h27 => ?_) (fun h27 => ?_)
              · have hw := hw.1 h27
                refine f_iconst (v := 0) C0 dX9_time_101 rfl ?_
                refine pf_3_2 C0 (kn_race_0 hk18) (by decide) mw_342 dX9_time_102 (fun d28 ed28 => ?_)
                have hw := hw d28 ed28
                refine f_iload C0 dX9_time_105 0 rfl ?_
                exact f_iret C0 hZ hw dX9_time_107
              · have hw := hw.2 h27
                refine f_iconst (v := 1) C0 dX9_time_97 rfl ?_
                refine f_goto (tgt := 102) C0 dX9_time_98 (by decide) ?_
                refine pf_3_2 C0 (kn_race_0 hk18) (by decide) mw_342 dX9_time_102 (fun d29 ed29 => ?_)
                have hw := hw d29 ed29
                refine f_iload C0 dX9_time_105 0 rfl ?_
                exact f_iret C0 hZ hw dX9_time_107
          · have hw := hw.2 h20
            refine f_bipush (v := (-3)) C0 dX9_time_63 rfl ?_
            exact f_iret C0 hZ hw dX9_time_65
        · have hw := hw.2 h16
          refine f_bipush (v := (-2)) C0 dX9_time_42 rfl ?_
          exact f_iret C0 hZ hw dX9_time_44
      · have hw := hw.2 h12
        refine f_iconst (v := (-1)) C0 dX9_time_30 rfl ?_
        exact f_iret C0 hZ hw dX9_time_31
