def F_X6_find (n : Nat) (k2 : Nat) (d : DD) (dl : LL) (Q : Int32 → DD → LL → Prop) : Prop := ∀ d1 : DD, d1 = u2 d 10 1 0 → ∀ d2 : DD, d2 = u2 d1 10 0 0 → F_X1_seatCount n k2 d2 dl (fun r3 d4 l5 => ∀ d6 : DD, d6 = u2 d4 10 2 (if (8 : Int32) < r3 then 8 else r3) → ∀ d7 : DD, d7 = u2 d6 10 3 (if (8 : Int32) < (d6 (37 + 3 * k2) 3) then 8 else (d6 (37 + 3 * k2) 3)) → ((d7 10 2) ≤ (d7 10 3) → F_X6_loadMembers n k2 d7 l5 (fun d10 l11 => F_X6_loadBounds n k2 d10 l11 (fun d13 l14 => F_X1_drummerPitch n k2 d13 l14 (fun r15 d16 l17 => F_X6_fillFrom n 9 0 0 0 r15 0 d16 l17 (fun d19 l20 => narrow .boolean (.int (d19 10 1)) = .int (d19 10 1) ∧ Q (d19 10 1) d19 l20))))) ∧ (¬ (d7 10 2) ≤ (d7 10 3) → Q 0 d7 l5))
set_option maxHeartbeats 4000000 in
set_option maxRecDepth 100000 in
theorem m_X6_find {g : Ex} {n : Nat} {k2 : Nat} {d : DD} {dl : LL} {Q : Int32 → DD → LL → Prop} (hk2 : k2 < 6) (hw : F_X6_find n k2 d dl Q) : Mi g yX6_find cX6_find 3 (some .boolean) 12 315 [rf g 10, rf g 1, rf g (37 + 3 * k2)] d dl Q := by
  refine Mi.of (by decide) (Nat.le_of_ble_eq_true rfl) (fun x C0 hZ => ?_)
  have C0 : Cx g x cX6_find 3 (some .boolean) RX6 12 315 := C0
  refine f_aload_n C0 dX6_find_0 rfl 0 rfl ⟨_, rfl⟩ ?_
  refine f_iconst (v := 0) C0 dX6_find_1 rfl ?_
  refine pf_6_1 C0 kn_10 (by decide) mw_145 dX6_find_2 (fun d1 ed1 => ?_)
  have hw := hw d1 ed1
  refine f_aload_n C0 dX6_find_5 rfl 0 rfl ⟨_, rfl⟩ ?_
  refine f_iconst (v := 0) C0 dX6_find_6 rfl ?_
  refine pf_6_0 C0 kn_10 mw_143 dX6_find_7 (fun d2 ed2 => ?_)
  have hw := hw d2 ed2
  refine f_aload_n C0 dX6_find_10 rfl 0 rfl ⟨_, rfl⟩ ?_
  refine f_aload_n C0 dX6_find_11 rfl 2 rfl ⟨_, rfl⟩ ?_
  refine f_callVi (As := []) (rest := [rf g 10]) C0 (m_X1_seatCount hk2 hw) cw_X6_65 (kn_crew_0 hk2) (by decide) rfl rfl ⟨(Nat.le_of_ble_eq_true rfl), (Nat.le_of_ble_eq_true rfl)⟩ rfl rfl (Nat.le_of_ble_eq_true rfl) dX6_find_12 ?_
  intro r3 d4 l5 hw
  refine f_bipush (v := 8) C0 dX6_find_15 rfl ?_
  refine f_mmin C0 mw_483 mw_484 mw_59 mw_485 ⟨(Nat.le_of_ble_eq_true rfl), (Nat.le_of_ble_eq_true rfl)⟩ dX6_find_17 ?_
  refine pf_6_2 C0 kn_10 mw_146 dX6_find_20 (fun d6 ed6 => ?_)
  have hw := hw d6 ed6
  refine f_aload_n C0 dX6_find_23 rfl 0 rfl ⟨_, rfl⟩ ?_
  refine f_aload_n C0 dX6_find_24 rfl 2 rfl ⟨_, rfl⟩ ?_
  refine gf_1_3 C0 (kn_crew_0 hk2) mw_272 dX6_find_25 ?_
  refine f_bipush (v := 8) C0 dX6_find_28 rfl ?_
  refine f_mmin C0 mw_483 mw_484 mw_59 mw_485 ⟨(Nat.le_of_ble_eq_true rfl), (Nat.le_of_ble_eq_true rfl)⟩ dX6_find_30 ?_
  refine pf_6_3 C0 kn_10 mw_147 dX6_find_33 (fun d7 ed7 => ?_)
  have hw := hw d7 ed7
  refine f_aload_n C0 dX6_find_36 rfl 0 rfl ⟨_, rfl⟩ ?_
  refine gf_6_3 C0 kn_10 mw_147 dX6_find_37 ?_
  refine f_aload_n C0 dX6_find_40 rfl 0 rfl ⟨_, rfl⟩ ?_
  refine gf_6_2 C0 kn_10 mw_146 dX6_find_41 ?_
  refine f_icmp_ge (tgt := 49) C0 dX6_find_44 (by decide) (fun h8 => ?_) (fun h8 => ?_)
  · have hw := hw.1 h8
    refine f_aload_n C0 dX6_find_49 rfl 0 rfl ⟨_, rfl⟩ ?_
    refine f_aload_n C0 dX6_find_50 rfl 1 rfl ⟨_, rfl⟩ ?_
    refine f_aload_n C0 dX6_find_51 rfl 2 rfl ⟨_, rfl⟩ ?_
    refine f_callVv (As := [rf g 1, rf g (37 + 3 * k2)]) (rest := []) C0 (m_X6_loadMembers hk2 hw) cw_X6_80 kn_10 (by decide) rfl rfl ⟨(Nat.le_of_ble_eq_true rfl), (Nat.le_of_ble_eq_true rfl)⟩ rfl rfl (Nat.le_of_ble_eq_true rfl) dX6_find_52 ?_
    intro d10 l11 hw
    refine f_aload_n C0 dX6_find_55 rfl 0 rfl ⟨_, rfl⟩ ?_
    refine f_aload_n C0 dX6_find_56 rfl 2 rfl ⟨_, rfl⟩ ?_
    refine f_callVv (As := [rf g (37 + 3 * k2)]) (rest := []) C0 (m_X6_loadBounds hk2 hw) cw_X6_84 kn_10 (by decide) rfl rfl ⟨(Nat.le_of_ble_eq_true rfl), (Nat.le_of_ble_eq_true rfl)⟩ rfl rfl (Nat.le_of_ble_eq_true rfl) dX6_find_57 ?_
    intro d13 l14 hw
    refine f_aload_n C0 dX6_find_60 rfl 0 rfl ⟨_, rfl⟩ ?_
    refine f_iconst (v := 0) C0 dX6_find_61 rfl ?_
    refine f_iconst (v := 0) C0 dX6_find_62 rfl ?_
    refine f_iconst (v := 0) C0 dX6_find_63 rfl ?_
    refine f_aload_n C0 dX6_find_64 rfl 2 rfl ⟨_, rfl⟩ ?_
    refine f_callVi (As := []) (rest := [.int 0, .int 0, .int 0, rf g 10]) C0 (m_X1_drummerPitch hk2 hw) cw_X6_88 (kn_crew_0 hk2) (by decide) rfl rfl ⟨(Nat.le_of_ble_eq_true rfl), (Nat.le_of_ble_eq_true rfl)⟩ rfl rfl (Nat.le_of_ble_eq_true rfl) dX6_find_65 ?_
    intro r15 d16 l17 hw
    refine f_iconst (v := 0) C0 dX6_find_68 rfl ?_
    refine f_callSv (As := [rf g 10, .int 0, .int 0, .int 0, .int r15, .int 0]) (rest := []) C0 (m_X6_fillFrom hw) cw_X6_91  ⟨(Nat.le_of_ble_eq_true rfl), (Nat.le_of_ble_eq_true rfl)⟩ rfl rfl (Nat.le_of_ble_eq_true rfl) dX6_find_69 ?_
    intro d19 l20 hw
    refine f_aload_n C0 dX6_find_72 rfl 0 rfl ⟨_, rfl⟩ ?_
    refine gf_6_1 C0 kn_10 mw_145 dX6_find_73 ?_
    exact f_zret C0 hZ hw.1 hw.2 dX6_find_76
  · have hw := hw.2 h8
    refine f_iconst (v := 0) C0 dX6_find_47 rfl ?_
    exact f_zret C0 hZ (by decide) hw dX6_find_48
def b_X6_copyBestTo_2 (n : Nat) (Q : DD → LL → Prop) : Nat → Nat → Int32 → DD → LL → Prop
  | 0 => fun _ _ _ _ => False
  | k + 1 => fun k1 x2 d dl => ((d 10 2) ≤ x2 → Q d dl) ∧ (¬ (d 10 2) ≤ x2 → vp_in x2 8 ∧ vp_in (d 18 x2.toNatClampNeg) 8 ∧ vp_in x2 8 ∧ ∀ d5 : DD, d5 = u2 d (39 + 3 * k1) x2.toNatClampNeg (d (38 + 3 * k1) (d 18 x2.toNatClampNeg).toNatClampNeg) → (b_X6_copyBestTo_2 n Q k) k1 (x2 + 1) d5 dl)
def F_X6_copyBestTo (n : Nat) (k1 : Nat) (d : DD) (dl : LL) (Q : DD → LL → Prop) : Prop := b_X6_copyBestTo_2 n Q n k1 0 d dl
set_option maxHeartbeats 4000000 in
set_option maxRecDepth 100000 in
theorem t_X6_copyBestTo_2 {g : Ex} {x : Fx} {n : Nat} {Q : DD → LL → Prop} (C0 : Cx g x cX6_copyBestTo 3 none RX6 0 0) (hZ : Zv g x Q) : ∀ (j : Nat) (k1 : Nat) (x2 : Int32) (hk1 : k1 < 6) (d : DD) (dl : LL), b_X6_copyBestTo_2 n Q j k1 x2 d dl → FW g x 3 d dl 2 [(0, rf g 10), (1, rf g (37 + 3 * k1)), (2, .int x2)] [] := by
  intro j
  induction j with
  | zero =>
    intro k1 x2 hk1 d dl hw
    exact hw.elim
  | succ j hK2 =>
    intro k1 x2 hk1 d dl hw
    refine f_iload_n C0 dX6_copyBestTo_2 rfl 2 rfl ?_
    refine f_aload_n C0 dX6_copyBestTo_3 rfl 0 rfl ⟨_, rfl⟩ ?_
    refine gf_6_2 C0 kn_10 mw_146 dX6_copyBestTo_4 ?_
    refine f_icmp_ge (tgt := 33) C0 dX6_copyBestTo_7 (by decide) (fun h1 => ?_) (fun h1 => ?_)
    · have hw := hw.1 h1
      exact f_vret C0 hZ hw dX6_copyBestTo_33
    · have hw := hw.2 h1
      refine f_aload_n C0 dX6_copyBestTo_10 rfl 1 rfl ⟨_, rfl⟩ ?_
      refine gf_1_7 (r := (39 + 3 * k1)) C0 (by omega) (kn_crew_0 hk1) mw_282 dX6_copyBestTo_11 ?_
      refine f_iload_n C0 dX6_copyBestTo_14 rfl 2 rfl ?_
      refine f_aload_n C0 dX6_copyBestTo_15 rfl 1 rfl ⟨_, rfl⟩ ?_
      refine gf_1_4 (r := (38 + 3 * k1)) C0 (by omega) (kn_crew_0 hk1) mw_275 dX6_copyBestTo_16 ?_
      refine f_aload_n C0 dX6_copyBestTo_19 rfl 0 rfl ⟨_, rfl⟩ ?_
      refine gf_6_11 (r := 18) C0 rfl kn_10 mw_155 dX6_copyBestTo_20 ?_
      refine f_iload_n C0 dX6_copyBestTo_23 rfl 2 rfl ?_
      obtain ⟨h2, hw⟩ := hw
      refine f_iald C0 kn_18 h2 dX6_copyBestTo_24 ?_
      obtain ⟨h3, hw⟩ := hw
      refine f_iald C0 (kn_crew_1 hk1) h3 dX6_copyBestTo_25 ?_
      obtain ⟨h4, hw⟩ := hw
      refine f_iast C0 (kn_crew_2 hk1) h4 dX6_copyBestTo_26 (fun d5 ed5 => ?_)
      have hw := hw d5 ed5
      refine f_iinc (lo' := [(2, .int (x2 + 1)), (0, rf g 10), (1, rf g (37 + 3 * k1))]) C0 dX6_copyBestTo_27 2 rfl rfl (by decide) rfl ?_
      refine f_goto (tgt := 2) C0 dX6_copyBestTo_30 (by decide) ?_
      refine f_sub [1, 2, 0] rfl ?_
      exact hK2 _ _ hk1 _ _ hw
set_option maxHeartbeats 4000000 in
set_option maxRecDepth 100000 in
theorem m_X6_copyBestTo {g : Ex} {n : Nat} {k1 : Nat} {d : DD} {dl : LL} {Q : DD → LL → Prop} (hk1 : k1 < 6) (hw : F_X6_copyBestTo n k1 d dl Q) : Mv g yX6_copyBestTo cX6_copyBestTo 3 none 0 0 [rf g 10, rf g (37 + 3 * k1)] d dl Q := by
  refine Mv.of (by decide) (Nat.le_of_ble_eq_true rfl) (fun x C0 hZ => ?_)
  have C0 : Cx g x cX6_copyBestTo 3 none RX6 0 0 := C0
  refine f_iconst (v := 0) C0 dX6_copyBestTo_0 rfl ?_
  refine f_istore_n (lo' := [(2, .int 0), (0, rf g 10), (1, rf g (37 + 3 * k1))]) C0 dX6_copyBestTo_1 rfl (by decide) rfl ?_
  refine f_sub [1, 2, 0] rfl ?_
  exact t_X6_copyBestTo_2 C0 hZ n _ _ hk1 _ _ hw
def F_X9_seat (n : Nat) (x1 : Int32) (d : DD) (dl : LL) (Q : Int32 → DD → LL → Prop) : Prop := F_X9_isCrew n x1 d dl (fun r1 d2 l3 => (¬ r1 = 0 → vp_in x1 6 ∧ ∀ k6 : Nat, k6 = x1.toNatClampNeg → F_X6_find n k6 d2 l3 (fun r7 d8 l9 => (r7 = 0 ∨ r7 = 1) ∧ ∀ d10 : DD, d10 = u2 d8 (37 + 3 * k6) 6 r7 → (¬ (d10 (37 + 3 * k6) 6) = 0 → F_X6_copyBestTo n k6 d10 l9 (fun d14 l15 => Q (d14 10 0) d14 l15)) ∧ ((d10 (37 + 3 * k6) 6) = 0 → Q (-100001) d10 l9))) ∧ (r1 = 0 → Q (-100000) d2 l3))
set_option maxHeartbeats 4000000 in
set_option maxRecDepth 100000 in
theorem m_X9_seat {g : Ex} {n : Nat} {x1 : Int32} {d : DD} {dl : LL} {Q : Int32 → DD → LL → Prop} (hw : F_X9_seat n x1 d dl Q) : Mi g yX9_seat cX9_seat 3 (some .int) 13 337 [rf g 0, .int x1] d dl Q := by
  refine Mi.of (by decide) (Nat.le_of_ble_eq_true rfl) (fun x C0 hZ => ?_)
  have C0 : Cx g x cX9_seat 3 (some .int) RX9 13 337 := C0
  refine f_aload_n C0 dX9_seat_0 rfl 0 rfl ⟨_, rfl⟩ ?_
  refine f_iload_n C0 dX9_seat_1 rfl 1 rfl ?_
  refine f_callVi (As := [.int x1]) (rest := []) C0 (m_X9_isCrew hw) cw_X9_126 kn_0 (by decide) rfl rfl ⟨(Nat.le_of_ble_eq_true rfl), (Nat.le_of_ble_eq_true rfl)⟩ rfl rfl (Nat.le_of_ble_eq_true rfl) dX9_seat_2 ?_
  intro r1 d2 l3 hw
  refine f_if_ne (tgt := 11) C0 dX9_seat_5 (by decide) (fun h4 => ?_) (fun h4 => ?_)
  · have hw := hw.1 h4
    refine f_aload_n C0 dX9_seat_11 rfl 0 rfl ⟨_, rfl⟩ ?_
    refine gf_9_1 (r := 8) C0 rfl kn_0 mw_369 dX9_seat_12 ?_
    refine f_iload_n C0 dX9_seat_15 rfl 1 rfl ?_
    obtain ⟨h5, hw⟩ := hw
    refine f_aald14 C0 kn_8 h5 dX9_seat_16 (fun k6 ek6 hk6 => ?_)
    have hw := hw k6 ek6
    refine f_astore_n (lo' := [(2, rf g (37 + 3 * k6)), (0, rf g 0), (1, .int x1)]) C0 dX9_seat_17 rfl (by decide) rfl ⟨_, rfl⟩ ?_
    refine f_aload_n C0 dX9_seat_18 rfl 0 rfl ⟨_, rfl⟩ ?_
    refine f_aload_n C0 dX9_seat_19 rfl 1 rfl ⟨_, rfl⟩ ?_
    refine gf_9_4 (r := 10) C0 rfl kn_0 mw_372 dX9_seat_20 ?_
    refine f_aload_n C0 dX9_seat_23 rfl 1 rfl ⟨_, rfl⟩ ?_
    refine gf_9_0 (r := 1) C0 rfl kn_0 mw_368 dX9_seat_24 ?_
    refine f_aload_n C0 dX9_seat_27 rfl 0 rfl ⟨_, rfl⟩ ?_
    refine f_callVi (As := [rf g 1, rf g (37 + 3 * k6)]) (rest := [rf g (37 + 3 * k6)]) C0 (m_X6_find hk6 hw) cw_X9_143 kn_10 (by decide) rfl rfl ⟨(Nat.le_of_ble_eq_true rfl), (Nat.le_of_ble_eq_true rfl)⟩ rfl rfl (Nat.le_of_ble_eq_true rfl) dX9_seat_28 ?_
    intro r7 d8 l9 hw
    obtain ⟨h11, hw⟩ := hw
    refine pf_1_6 C0 (kn_crew_0 hk6) h11 mw_279 dX9_seat_31 (fun d10 ed10 => ?_)
    have hw := hw d10 ed10
    refine f_aload_n C0 dX9_seat_34 rfl 0 rfl ⟨_, rfl⟩ ?_
    refine gf_1_6 C0 (kn_crew_0 hk6) mw_279 dX9_seat_35 ?_
    refine f_if_ne (tgt := 44) C0 dX9_seat_38 (by decide) (fun h12 => ?_) (fun h12 => ?_)
    · have hw := hw.1 h12
      refine f_aload_n C0 dX9_seat_44 rfl 1 rfl ⟨_, rfl⟩ ?_
      refine gf_9_4 (r := 10) C0 rfl kn_0 mw_372 dX9_seat_45 ?_
      refine f_aload_n C0 dX9_seat_48 rfl 0 rfl ⟨_, rfl⟩ ?_
      refine f_callVv (As := [rf g (37 + 3 * k6)]) (rest := []) C0 (m_X6_copyBestTo hk6 hw) cw_X9_152 kn_10 (by decide) rfl rfl ⟨(Nat.le_of_ble_eq_true rfl), (Nat.le_of_ble_eq_true rfl)⟩ rfl rfl (Nat.le_of_ble_eq_true rfl) dX9_seat_49 ?_
      intro d14 l15 hw
      refine f_aload_n C0 dX9_seat_52 rfl 1 rfl ⟨_, rfl⟩ ?_
      refine gf_9_4 (r := 10) C0 rfl kn_0 mw_372 dX9_seat_53 ?_
      refine gf_6_0 C0 kn_10 mw_144 dX9_seat_56 ?_
      exact f_iret C0 hZ hw dX9_seat_59
    · have hw := hw.2 h12
      refine f_ldc (v := (-100001)) C0 mw_532 dX9_seat_41 ?_
      exact f_iret C0 hZ hw dX9_seat_43
  · have hw := hw.2 h4
    refine f_ldc (v := (-100000)) C0 mw_474 dX9_seat_8 ?_
    exact f_iret C0 hZ hw dX9_seat_10
def F_X9_sits (n : Nat) (x1 : Int32) (x2 : Int32) (x3 : Int32) (d : DD) (dl : LL) (Q : Int32 → DD → LL → Prop) : Prop := F_X9_isCrew n x1 d dl (fun r1 d2 l3 => (r1 = 0 → Q (-1) d2 l3) ∧ (¬ r1 = 0 → vp_in x1 6 ∧ ∀ k6 : Nat, k6 = x1.toNatClampNeg → F_X9_within n x2 0 ((d2 (37 + 3 * k6) 0) - 1) d2 l3 (fun r7 d8 l9 => (r7 = 0 → Q (-1) d8 l9) ∧ (¬ r7 = 0 → F_X9_within n x3 0 1 d8 l9 (fun r11 d12 l13 => (r11 = 0 → Q (-1) d12 l13) ∧ (¬ r11 = 0 → vp_in x1 6 ∧ ∀ k16 : Nat, k16 = x1.toNatClampNeg → (¬ (d12 (37 + 3 * k16) 6) = 0 → vp_in x1 6 ∧ ∀ k19 : Nat, k19 = x1.toNatClampNeg → vp_in (((2 : Int32) * x2) + x3) 8 ∧ Q (d12 (39 + 3 * k19) (((2 : Int32) * x2) + x3).toNatClampNeg) d12 l13) ∧ ((d12 (37 + 3 * k16) 6) = 0 → Q (-1) d12 l13)))))))
set_option maxHeartbeats 4000000 in
set_option maxRecDepth 100000 in
theorem m_X9_sits {g : Ex} {n : Nat} {x1 : Int32} {x2 : Int32} {x3 : Int32} {d : DD} {dl : LL} {Q : Int32 → DD → LL → Prop} (hw : F_X9_sits n x1 x2 x3 d dl Q) : Mi g yX9_sits cX9_sits 4 (some .int) 2 43 [rf g 0, .int x1, .int x2, .int x3] d dl Q := by
  refine Mi.of (by decide) (Nat.le_of_ble_eq_true rfl) (fun x C0 hZ => ?_)
  have C0 : Cx g x cX9_sits 4 (some .int) RX9 2 43 := C0
  refine f_aload_n C0 dX9_sits_0 rfl 0 rfl ⟨_, rfl⟩ ?_
  refine f_iload_n C0 dX9_sits_1 rfl 1 rfl ?_
  refine f_callVi (As := [.int x1]) (rest := []) C0 (m_X9_isCrew hw) cw_X9_126 kn_0 (by decide) rfl rfl ⟨(Nat.le_of_ble_eq_true rfl), (Nat.le_of_ble_eq_true rfl)⟩ rfl rfl (Nat.le_of_ble_eq_true rfl) dX9_sits_2 ?_
  intro r1 d2 l3 hw
  refine f_if_eq (tgt := 48) C0 dX9_sits_5 (by decide) (fun h4 => ?_) (fun h4 => ?_)
  · have hw := hw.1 h4
    refine f_iconst (v := (-1)) C0 dX9_sits_48 rfl ?_
    exact f_iret C0 hZ hw dX9_sits_49
  · have hw := hw.2 h4
    refine f_iload_n C0 dX9_sits_8 rfl 2 rfl ?_
    refine f_iconst (v := 0) C0 dX9_sits_9 rfl ?_
    refine f_aload_n C0 dX9_sits_10 rfl 0 rfl ⟨_, rfl⟩ ?_
    refine gf_9_1 (r := 8) C0 rfl kn_0 mw_369 dX9_sits_11 ?_
    refine f_iload_n C0 dX9_sits_14 rfl 1 rfl ?_
    obtain ⟨h5, hw⟩ := hw
    refine f_aald14 C0 kn_8 h5 dX9_sits_15 (fun k6 ek6 hk6 => ?_)
    have hw := hw k6 ek6
    refine gf_1_0 C0 (kn_crew_0 hk6) mw_265 dX9_sits_16 ?_
    refine f_iconst (v := 1) C0 dX9_sits_19 rfl ?_
    refine f_isub C0 dX9_sits_20 ?_
    refine f_callSi (As := [.int x2, .int 0, .int ((d2 (37 + 3 * k6) 0) - 1)]) (rest := []) C0 (m_X9_within hw) cw_X9_97  ⟨(Nat.le_of_ble_eq_true rfl), (Nat.le_of_ble_eq_true rfl)⟩ rfl rfl (Nat.le_of_ble_eq_true rfl) dX9_sits_21 ?_
    intro r7 d8 l9 hw
    refine f_if_eq (tgt := 48) C0 dX9_sits_24 (by decide) (fun h10 => ?_) (fun h10 => ?_)
    · have hw := hw.1 h10
      refine f_iconst (v := (-1)) C0 dX9_sits_48 rfl ?_
      exact f_iret C0 hZ hw dX9_sits_49
    · have hw := hw.2 h10
      refine f_iload_n C0 dX9_sits_27 rfl 3 rfl ?_
      refine f_iconst (v := 0) C0 dX9_sits_28 rfl ?_
      refine f_iconst (v := 1) C0 dX9_sits_29 rfl ?_
      refine f_callSi (As := [.int x3, .int 0, .int 1]) (rest := []) C0 (m_X9_within hw) cw_X9_97  ⟨(Nat.le_of_ble_eq_true rfl), (Nat.le_of_ble_eq_true rfl)⟩ rfl rfl (Nat.le_of_ble_eq_true rfl) dX9_sits_30 ?_
      intro r11 d12 l13 hw
      refine f_if_eq (tgt := 48) C0 dX9_sits_33 (by decide) (fun h14 => ?_) (fun h14 => ?_)
      · have hw := hw.1 h14
        refine f_iconst (v := (-1)) C0 dX9_sits_48 rfl ?_
        exact f_iret C0 hZ hw dX9_sits_49
      · have hw := hw.2 h14
        refine f_aload_n C0 dX9_sits_36 rfl 0 rfl ⟨_, rfl⟩ ?_
        refine gf_9_1 (r := 8) C0 rfl kn_0 mw_369 dX9_sits_37 ?_
        refine f_iload_n C0 dX9_sits_40 rfl 1 rfl ?_
        obtain ⟨h15, hw⟩ := hw
        refine f_aald14 C0 kn_8 h15 dX9_sits_41 (fun k16 ek16 hk16 => ?_)
        have hw := hw k16 ek16
        refine gf_1_6 C0 (kn_crew_0 hk16) mw_279 dX9_sits_42 ?_
        refine f_if_ne (tgt := 50) C0 dX9_sits_45 (by decide) (fun h17 => ?_) (fun h17 => ?_)
        · have hw := hw.1 h17
          refine f_aload_n C0 dX9_sits_50 rfl 0 rfl ⟨_, rfl⟩ ?_
          refine gf_9_1 (r := 8) C0 rfl kn_0 mw_369 dX9_sits_51 ?_
          refine f_iload_n C0 dX9_sits_54 rfl 1 rfl ?_
          obtain ⟨h18, hw⟩ := hw
          refine f_aald14 C0 kn_8 h18 dX9_sits_55 (fun k19 ek19 hk19 => ?_)
          have hw := hw k19 ek19
          refine gf_1_7 (r := (39 + 3 * k19)) C0 (by omega) (kn_crew_0 hk19) mw_284 dX9_sits_56 ?_
          refine f_iconst (v := 2) C0 dX9_sits_59 rfl ?_
          refine f_iload_n C0 dX9_sits_60 rfl 2 rfl ?_
          refine f_imul C0 dX9_sits_61 ?_
          refine f_iload_n C0 dX9_sits_62 rfl 3 rfl ?_
          refine f_iadd C0 dX9_sits_63 ?_
          obtain ⟨h20, hw⟩ := hw
          refine f_iald C0 (kn_crew_2 hk19) h20 dX9_sits_64 ?_
          exact f_iret C0 hZ hw dX9_sits_65
        · have hw := hw.2 h17
          refine f_iconst (v := (-1)) C0 dX9_sits_48 rfl ?_
          exact f_iret C0 hZ hw dX9_sits_49
def b_X8_weigh_151 (n : Nat) (Q : DD → LL → Prop) (K21 : Nat → Int32 → Int32 → Int32 → DD → LL → Prop) (k2 : Nat) (x3 : Int32) (x4 : Int32) (x5 : Int32) (xs0 : Int32) (xs1 : Int32) (d : DD) (dl : LL) : Prop := ∀ d32 : DD, d32 = u2 d 9 3 (xs1 + xs0) → K21 k2 x3 x4 (x5 + 1) d32 dl
def b_X8_weigh_21 (n : Nat) (Q : DD → LL → Prop) : Nat → Nat → Int32 → Int32 → Int32 → DD → LL → Prop
  | 0 => fun _ _ _ _ _ _ => False
  | k + 1 => fun k2 x3 x4 x5 d dl => ((d (37 + 3 * k2) 0) ≤ x5 → ∀ d7 : DD, d7 = u2 d 9 0 (if 0 ≤ x3 then x3 else -x3) → ∀ d8 : DD, d8 = u2 d7 9 1 (if 0 ≤ x4 then x4 else -x4) → Q d8 dl) ∧ (¬ (d (37 + 3 * k2) 0) ≤ x5 → vp_in ((2 : Int32) * x5) 8 ∧ ∀ v10 : Int32, v10 = (d (39 + 3 * k2) ((2 : Int32) * x5).toNatClampNeg) → vp_in (((2 : Int32) * x5) + 1) 8 ∧ ∀ v12 : Int32, v12 = (d (39 + 3 * k2) (((2 : Int32) * x5) + 1).toNatClampNeg) → vp_in v10 40 ∧ vp_in v12 40 ∧ ∀ v15 : Int32, v15 = (x3 + ((d 2 v10.toNatClampNeg) - (d 2 v12.toNatClampNeg))) → vp_in v10 40 ∧ vp_in v12 40 ∧ F_X1_pitchFactor n k2 x5 d dl (fun r18 d19 l20 => ∀ v21 : Int32, v21 = (x4 + (((d 2 v10.toNatClampNeg) + (d 2 v12.toNatClampNeg)) * r18)) → vp_in v10 40 ∧ vp_in v12 40 ∧ F_X1_middleFactor n k2 x5 d19 l20 (fun r24 d25 l26 => ∀ d27 : DD, d27 = u2 d25 9 2 ((d19 9 2) + (((d19 3 v10.toNatClampNeg) + (d19 3 v12.toNatClampNeg)) * r24)) → F_X4_areFriends n v10 v12 d27 l26 (fun r28 d29 l30 => (r28 = 0 → b_X8_weigh_151 n Q (b_X8_weigh_21 n Q k) k2 v15 v21 x5 0 (d27 9 3) d29 l30) ∧ (¬ r28 = 0 → b_X8_weigh_151 n Q (b_X8_weigh_21 n Q k) k2 v15 v21 x5 1 (d27 9 3) d29 l30)))))
def F_X8_weigh (n : Nat) (k2 : Nat) (d : DD) (dl : LL) (Q : DD → LL → Prop) : Prop := F_X1_drummerPitch n k2 d dl (fun r1 d2 l3 => ∀ d4 : DD, d4 = u2 d2 9 2 0 → ∀ d5 : DD, d5 = u2 d4 9 3 0 → b_X8_weigh_21 n Q n k2 0 r1 0 d5 l3)
set_option maxHeartbeats 4000000 in
set_option maxRecDepth 100000 in
theorem t_X8_weigh_151 {g : Ex} {x : Fx} {n : Nat} {Q : DD → LL → Prop} (C0 : Cx g x cX8_weigh 8 none RX8 2 34) (hZ : Zv g x Q) {K21 : Nat → Int32 → Int32 → Int32 → DD → LL → Prop} (hK21 : ∀ (k2 : Nat) (x3 : Int32) (x4 : Int32) (x5 : Int32) (hk2 : k2 < 6) (d : DD) (dl : LL), K21 k2 x3 x4 x5 d dl → FW g x 8 d dl 21 [(0, rf g 9), (1, rf g 1), (2, rf g (37 + 3 * k2)), (3, .int x3), (4, .int x4), (5, .int x5)] []) : ∀ (k2 : Nat) (x3 : Int32) (x4 : Int32) (x5 : Int32) (xs0 : Int32) (xs1 : Int32) (hk2 : k2 < 6) (d : DD) (dl : LL), b_X8_weigh_151 n Q K21 k2 x3 x4 x5 xs0 xs1 d dl → FW g x 8 d dl 151 [(0, rf g 9), (1, rf g 1), (2, rf g (37 + 3 * k2)), (3, .int x3), (4, .int x4), (5, .int x5)] [.int xs0, .int xs1, rf g 9] := by
  intro k2 x3 x4 x5 xs0 xs1 hk2 d dl hw
  refine f_iadd C0 dX8_weigh_151 ?_
  refine pf_8_3 C0 kn_9 mw_126 dX8_weigh_152 (fun d32 ed32 => ?_)
  have hw := hw d32 ed32
  refine f_iinc (lo' := [(5, .int (x5 + 1)), (0, rf g 9), (1, rf g 1), (2, rf g (37 + 3 * k2)), (3, .int x3), (4, .int x4)]) C0 dX8_weigh_155 5 rfl rfl (by decide) rfl ?_
  refine f_goto (tgt := 21) C0 dX8_weigh_158 (by decide) ?_
  refine f_sub [1, 2, 3, 4, 5, 0] rfl ?_
  exact hK21 _ _ _ _ hk2 _ _ hw
set_option maxHeartbeats 4000000 in
set_option maxRecDepth 100000 in
theorem t_X8_weigh_21 {g : Ex} {x : Fx} {n : Nat} {Q : DD → LL → Prop} (C0 : Cx g x cX8_weigh 8 none RX8 2 34) (hZ : Zv g x Q) : ∀ (j : Nat) (k2 : Nat) (x3 : Int32) (x4 : Int32) (x5 : Int32) (hk2 : k2 < 6) (d : DD) (dl : LL), b_X8_weigh_21 n Q j k2 x3 x4 x5 d dl → FW g x 8 d dl 21 [(0, rf g 9), (1, rf g 1), (2, rf g (37 + 3 * k2)), (3, .int x3), (4, .int x4), (5, .int x5)] [] := by
  intro j
  induction j with
  | zero =>
    intro k2 x3 x4 x5 hk2 d dl hw
    exact hw.elim
  | succ j hK21 =>
    intro k2 x3 x4 x5 hk2 d dl hw
    refine f_iload C0 dX8_weigh_21 5 rfl ?_
    refine f_aload_n C0 dX8_weigh_23 rfl 2 rfl ⟨_, rfl⟩ ?_
    refine gf_1_0 C0 (kn_crew_0 hk2) mw_264 dX8_weigh_24 ?_
    refine f_icmp_ge (tgt := 161) C0 dX8_weigh_27 (by decide) (fun h6 => ?_) (fun h6 => ?_)
    · have hw := hw.1 h6
      refine f_aload_n C0 dX8_weigh_161 rfl 0 rfl ⟨_, rfl⟩ ?_
      refine f_iload_n C0 dX8_weigh_162 rfl 3 rfl ?_
      refine f_mabs (v := 0) C0 mw_553 mw_522 mw_59 mw_523 ⟨(Nat.le_of_ble_eq_true rfl), (Nat.le_of_ble_eq_true rfl)⟩ dX8_weigh_163 ?_
      refine pf_8_0 C0 kn_9 mw_120 dX8_weigh_166 (fun d7 ed7 => ?_)
      have hw := hw d7 ed7
      refine f_aload_n C0 dX8_weigh_169 rfl 0 rfl ⟨_, rfl⟩ ?_
      refine f_iload C0 dX8_weigh_170 4 rfl ?_
      refine f_mabs (v := 0) C0 mw_553 mw_522 mw_59 mw_523 ⟨(Nat.le_of_ble_eq_true rfl), (Nat.le_of_ble_eq_true rfl)⟩ dX8_weigh_172 ?_
      refine pf_8_1 C0 kn_9 mw_122 dX8_weigh_175 (fun d8 ed8 => ?_)
      have hw := hw d8 ed8
      exact f_vret C0 hZ hw dX8_weigh_178
    · have hw := hw.2 h6
      refine f_aload_n C0 dX8_weigh_30 rfl 2 rfl ⟨_, rfl⟩ ?_
      refine gf_1_7 (r := (39 + 3 * k2)) C0 (by omega) (kn_crew_0 hk2) mw_281 dX8_weigh_31 ?_
      refine f_iconst (v := 2) C0 dX8_weigh_34 rfl ?_
      refine f_iload C0 dX8_weigh_35 5 rfl ?_
      refine f_imul C0 dX8_weigh_37 ?_
      obtain ⟨h9, hw⟩ := hw
      refine f_iald C0 (kn_crew_2 hk2) h9 dX8_weigh_38 ?_
      refine f_topi (fun v10 e10 => ?_)
      have hw := hw v10 e10
      refine f_istore (lo' := [(6, .int v10), (0, rf g 9), (1, rf g 1), (2, rf g (37 + 3 * k2)), (3, .int x3), (4, .int x4), (5, .int x5)]) C0 dX8_weigh_39 (by decide) rfl ?_
      refine f_aload_n C0 dX8_weigh_41 rfl 3 rfl ⟨_, rfl⟩ ?_
      refine gf_1_7 (r := (39 + 3 * k2)) C0 (by omega) (kn_crew_0 hk2) mw_281 dX8_weigh_42 ?_
      refine f_iconst (v := 2) C0 dX8_weigh_45 rfl ?_
      refine f_iload C0 dX8_weigh_46 6 rfl ?_
      refine f_imul C0 dX8_weigh_48 ?_
      refine f_iconst (v := 1) C0 dX8_weigh_49 rfl ?_
      refine f_iadd C0 dX8_weigh_50 ?_
      obtain ⟨h11, hw⟩ := hw
      refine f_iald C0 (kn_crew_2 hk2) h11 dX8_weigh_51 ?_
      refine f_topi (fun v12 e12 => ?_)
      have hw := hw v12 e12
      refine f_istore (lo' := [(7, .int v12), (6, .int v10), (0, rf g 9), (1, rf g 1), (2, rf g (37 + 3 * k2)), (3, .int x3), (4, .int x4), (5, .int x5)]) C0 dX8_weigh_52 (by decide) rfl ?_
      refine f_iload_n C0 dX8_weigh_54 rfl 5 rfl ?_
      refine f_aload_n C0 dX8_weigh_55 rfl 3 rfl ⟨_, rfl⟩ ?_
      refine gf_4_1 (r := 2) C0 rfl kn_1 mw_81 dX8_weigh_56 ?_
      refine f_iload C0 dX8_weigh_59 1 rfl ?_
      obtain ⟨h13, hw⟩ := hw
      refine f_iald C0 kn_2 h13 dX8_weigh_61 ?_
      refine f_aload_n C0 dX8_weigh_62 rfl 3 rfl ⟨_, rfl⟩ ?_
      refine gf_4_1 (r := 2) C0 rfl kn_1 mw_81 dX8_weigh_63 ?_
      refine f_iload C0 dX8_weigh_66 0 rfl ?_
      obtain ⟨h14, hw⟩ := hw
      refine f_iald C0 kn_2 h14 dX8_weigh_68 ?_
      refine f_isub C0 dX8_weigh_69 ?_
      refine f_iadd C0 dX8_weigh_70 ?_
      refine f_topi (fun v15 e15 => ?_)
      have hw := hw v15 e15
      refine f_istore_n (lo' := [(3, .int v15), (7, .int v12), (6, .int v10), (0, rf g 9), (1, rf g 1), (2, rf g (37 + 3 * k2)), (4, .int x4), (5, .int x5)]) C0 dX8_weigh_71 rfl (by decide) rfl ?_
      refine f_iload C0 dX8_weigh_72 6 rfl ?_
      refine f_aload_n C0 dX8_weigh_74 rfl 4 rfl ⟨_, rfl⟩ ?_
      refine gf_4_1 (r := 2) C0 rfl kn_1 mw_81 dX8_weigh_75 ?_
      refine f_iload C0 dX8_weigh_78 2 rfl ?_
      obtain ⟨h16, hw⟩ := hw
      refine f_iald C0 kn_2 h16 dX8_weigh_80 ?_
      refine f_aload_n C0 dX8_weigh_81 rfl 4 rfl ⟨_, rfl⟩ ?_
      refine gf_4_1 (r := 2) C0 rfl kn_1 mw_81 dX8_weigh_82 ?_
      refine f_iload C0 dX8_weigh_85 1 rfl ?_
      obtain ⟨h17, hw⟩ := hw
      refine f_iald C0 kn_2 h17 dX8_weigh_87 ?_
      refine f_iadd C0 dX8_weigh_88 ?_
      refine f_aload_n C0 dX8_weigh_89 rfl 5 rfl ⟨_, rfl⟩ ?_
      refine f_iload C0 dX8_weigh_90 7 rfl ?_
      refine f_callVi (As := [.int x5]) (rest := [.int ((d 2 v10.toNatClampNeg) + (d 2 v12.toNatClampNeg)), .int x4]) C0 (m_X1_pitchFactor hk2 hw) cw_X8_40 (kn_crew_0 hk2) (by decide) rfl rfl ⟨(Nat.le_of_ble_eq_true rfl), (Nat.le_of_ble_eq_true rfl)⟩ rfl rfl (Nat.le_of_ble_eq_true rfl) dX8_weigh_92 ?_
      intro r18 d19 l20 hw
      refine f_imul C0 dX8_weigh_95 ?_
      refine f_iadd C0 dX8_weigh_96 ?_
      refine f_topi (fun v21 e21 => ?_)
      have hw := hw v21 e21
      refine f_istore (lo' := [(4, .int v21), (3, .int v15), (7, .int v12), (6, .int v10), (0, rf g 9), (1, rf g 1), (2, rf g (37 + 3 * k2)), (5, .int x5)]) C0 dX8_weigh_97 (by decide) rfl ?_
      refine f_aload_n C0 dX8_weigh_99 rfl 4 rfl ⟨_, rfl⟩ ?_
      refine f_dup C0 dX8_weigh_100 rfl ?_
      refine gf_8_2 C0 kn_9 mw_124 dX8_weigh_101 ?_
      refine f_aload_n C0 dX8_weigh_104 rfl 5 rfl ⟨_, rfl⟩ ?_
      refine gf_4_2 (r := 3) C0 rfl kn_1 mw_85 dX8_weigh_105 ?_
      refine f_iload C0 dX8_weigh_108 3 rfl ?_
      obtain ⟨h22, hw⟩ := hw
      refine f_iald C0 kn_3 h22 dX8_weigh_110 ?_
      refine f_aload_n C0 dX8_weigh_111 rfl 5 rfl ⟨_, rfl⟩ ?_
      refine gf_4_2 (r := 3) C0 rfl kn_1 mw_85 dX8_weigh_112 ?_
      refine f_iload C0 dX8_weigh_115 2 rfl ?_
      obtain ⟨h23, hw⟩ := hw
      refine f_iald C0 kn_3 h23 dX8_weigh_117 ?_
      refine f_iadd C0 dX8_weigh_118 ?_
      refine f_aload_n C0 dX8_weigh_119 rfl 6 rfl ⟨_, rfl⟩ ?_
      refine f_iload C0 dX8_weigh_120 7 rfl ?_
      refine f_callVi (As := [.int x5]) (rest := [.int ((d19 3 v10.toNatClampNeg) + (d19 3 v12.toNatClampNeg)), .int (d19 9 2), rf g 9]) C0 (m_X1_middleFactor hk2 hw) cw_X8_47 (kn_crew_0 hk2) (by decide) rfl rfl ⟨(Nat.le_of_ble_eq_true rfl), (Nat.le_of_ble_eq_true rfl)⟩ rfl rfl (Nat.le_of_ble_eq_true rfl) dX8_weigh_122 ?_
      intro r24 d25 l26 hw
      refine f_imul C0 dX8_weigh_125 ?_
      refine f_iadd C0 dX8_weigh_126 ?_
      refine pf_8_2 C0 kn_9 mw_124 dX8_weigh_127 (fun d27 ed27 => ?_)
      have hw := hw d27 ed27
      refine f_aload_n C0 dX8_weigh_130 rfl 4 rfl ⟨_, rfl⟩ ?_
      refine f_dup C0 dX8_weigh_131 rfl ?_
      refine gf_8_3 C0 kn_9 mw_126 dX8_weigh_132 ?_
      refine f_aload_n C0 dX8_weigh_135 rfl 5 rfl ⟨_, rfl⟩ ?_
      refine f_iload C0 dX8_weigh_136 3 rfl ?_
      refine f_iload C0 dX8_weigh_138 2 rfl ?_
      refine f_callVi (As := [.int v10, .int v12]) (rest := [.int (d27 9 3), rf g 9]) C0 (m_X4_areFriends hw) cw_X8_50 kn_1 (by decide) rfl rfl ⟨(Nat.le_of_ble_eq_true rfl), (Nat.le_of_ble_eq_true rfl)⟩ rfl rfl (Nat.le_of_ble_eq_true rfl) dX8_weigh_140 ?_
      intro r28 d29 l30 hw
      refine f_if_eq (tgt := 150) C0 dX8_weigh_143 (by decide) (fun h31 => ?_) (fun h31 => ?_)
      · have hw := hw.1 h31
        refine f_iconst (v := 0) C0 dX8_weigh_150 rfl ?_
        refine f_sub [4, 5, 6, 1, 0, 7] rfl ?_
        exact t_X8_weigh_151 C0 hZ hK21 _ _ _ _ _ _ hk2 _ _ hw
      · have hw := hw.2 h31
        refine f_iconst (v := 1) C0 dX8_weigh_146 rfl ?_
        refine f_goto (tgt := 151) C0 dX8_weigh_147 (by decide) ?_
        refine f_sub [4, 5, 6, 1, 0, 7] rfl ?_
        exact t_X8_weigh_151 C0 hZ hK21 _ _ _ _ _ _ hk2 _ _ hw
set_option maxHeartbeats 4000000 in
set_option maxRecDepth 100000 in
theorem m_X8_weigh {g : Ex} {n : Nat} {k2 : Nat} {d : DD} {dl : LL} {Q : DD → LL → Prop} (hk2 : k2 < 6) (hw : F_X8_weigh n k2 d dl Q) : Mv g yX8_weigh cX8_weigh 8 none 2 34 [rf g 9, rf g 1, rf g (37 + 3 * k2)] d dl Q := by
  refine Mv.of (by decide) (Nat.le_of_ble_eq_true rfl) (fun x C0 hZ => ?_)
  have C0 : Cx g x cX8_weigh 8 none RX8 2 34 := C0
  refine f_iconst (v := 0) C0 dX8_weigh_0 rfl ?_
  refine f_istore_n (lo' := [(3, .int 0), (0, rf g 9), (1, rf g 1), (2, rf g (37 + 3 * k2))]) C0 dX8_weigh_1 rfl (by decide) rfl ?_
  refine f_aload_n C0 dX8_weigh_2 rfl 3 rfl ⟨_, rfl⟩ ?_
  refine f_callVi (As := []) (rest := []) C0 (m_X1_drummerPitch hk2 hw) cw_X8_22 (kn_crew_0 hk2) (by decide) rfl rfl ⟨(Nat.le_of_ble_eq_true rfl), (Nat.le_of_ble_eq_true rfl)⟩ rfl rfl (Nat.le_of_ble_eq_true rfl) dX8_weigh_3 ?_
  intro r1 d2 l3 hw
  refine f_istore (lo' := [(4, .int r1), (3, .int 0), (0, rf g 9), (1, rf g 1), (2, rf g (37 + 3 * k2))]) C0 dX8_weigh_6 (by decide) rfl ?_
  refine f_aload_n C0 dX8_weigh_8 rfl 2 rfl ⟨_, rfl⟩ ?_
  refine f_iconst (v := 0) C0 dX8_weigh_9 rfl ?_
  refine pf_8_2 C0 kn_9 mw_124 dX8_weigh_10 (fun d4 ed4 => ?_)
  have hw := hw d4 ed4
  refine f_aload_n C0 dX8_weigh_13 rfl 2 rfl ⟨_, rfl⟩ ?_
  refine f_iconst (v := 0) C0 dX8_weigh_14 rfl ?_
  refine pf_8_3 C0 kn_9 mw_126 dX8_weigh_15 (fun d5 ed5 => ?_)
  have hw := hw d5 ed5
  refine f_iconst (v := 0) C0 dX8_weigh_18 rfl ?_
  refine f_istore (lo' := [(5, .int 0), (4, .int r1), (3, .int 0), (0, rf g 9), (1, rf g 1), (2, rf g (37 + 3 * k2))]) C0 dX8_weigh_19 (by decide) rfl ?_
  refine f_sub [3, 4, 5, 2, 1, 0] rfl ?_
  exact t_X8_weigh_21 C0 hZ n _ _ _ _ hk2 _ _ hw
def F_X9_trim (n : Nat) (x1 : Int32) (x2 : Int32) (d : DD) (dl : LL) (Q : Int32 → DD → LL → Prop) : Prop := F_X9_isCrew n x1 d dl (fun r1 d2 l3 => (r1 = 0 → Q (-1) d2 l3) ∧ (¬ r1 = 0 → F_X9_within n x2 0 3 d2 l3 (fun r5 d6 l7 => (¬ r5 = 0 → vp_in x1 6 ∧ ∀ k10 : Nat, k10 = x1.toNatClampNeg → (¬ (d6 (37 + 3 * k10) 6) = 0 → vp_in x1 6 ∧ ∀ k13 : Nat, k13 = x1.toNatClampNeg → F_X8_weigh n k13 d6 l7 (fun d15 l16 => (x2 = 0 → Q (d15 9 0) d15 l16) ∧ (x2 = 1 → Q (d15 9 1) d15 l16) ∧ (x2 = 2 → Q (d15 9 2) d15 l16) ∧ (x2.toInt < 0 ∨ 2 < x2.toInt → Q (d15 9 3) d15 l16))) ∧ ((d6 (37 + 3 * k10) 6) = 0 → Q (-3) d6 l7)) ∧ (r5 = 0 → Q (-1) d6 l7))))
set_option maxHeartbeats 4000000 in
set_option maxRecDepth 100000 in
theorem m_X9_trim {g : Ex} {n : Nat} {x1 : Int32} {x2 : Int32} {d : DD} {dl : LL} {Q : Int32 → DD → LL → Prop} (hw : F_X9_trim n x1 x2 d dl Q) : Mi g yX9_trim cX9_trim 3 (some .int) 3 61 [rf g 0, .int x1, .int x2] d dl Q := by
  refine Mi.of (by decide) (Nat.le_of_ble_eq_true rfl) (fun x C0 hZ => ?_)
  have C0 : Cx g x cX9_trim 3 (some .int) RX9 3 61 := C0
  refine f_aload_n C0 dX9_trim_0 rfl 0 rfl ⟨_, rfl⟩ ?_
  refine f_iload_n C0 dX9_trim_1 rfl 1 rfl ?_
  refine f_callVi (As := [.int x1]) (rest := []) C0 (m_X9_isCrew hw) cw_X9_126 kn_0 (by decide) rfl rfl ⟨(Nat.le_of_ble_eq_true rfl), (Nat.le_of_ble_eq_true rfl)⟩ rfl rfl (Nat.le_of_ble_eq_true rfl) dX9_trim_2 ?_
  intro r1 d2 l3 hw
  refine f_if_eq (tgt := 17) C0 dX9_trim_5 (by decide) (fun h4 => ?_) (fun h4 => ?_)
  · have hw := hw.1 h4
    refine f_iconst (v := (-1)) C0 dX9_trim_17 rfl ?_
    exact f_iret C0 hZ hw dX9_trim_18
  · have hw := hw.2 h4
    refine f_iload_n C0 dX9_trim_8 rfl 2 rfl ?_
    refine f_iconst (v := 0) C0 dX9_trim_9 rfl ?_
    refine f_iconst (v := 3) C0 dX9_trim_10 rfl ?_
    refine f_callSi (As := [.int x2, .int 0, .int 3]) (rest := []) C0 (m_X9_within hw) cw_X9_97  ⟨(Nat.le_of_ble_eq_true rfl), (Nat.le_of_ble_eq_true rfl)⟩ rfl rfl (Nat.le_of_ble_eq_true rfl) dX9_trim_11 ?_
    intro r5 d6 l7 hw
    refine f_if_ne (tgt := 19) C0 dX9_trim_14 (by decide) (fun h8 => ?_) (fun h8 => ?_)
    · have hw := hw.1 h8
      refine f_aload_n C0 dX9_trim_19 rfl 0 rfl ⟨_, rfl⟩ ?_
      refine gf_9_1 (r := 8) C0 rfl kn_0 mw_369 dX9_trim_20 ?_
      refine f_iload_n C0 dX9_trim_23 rfl 1 rfl ?_
      obtain ⟨h9, hw⟩ := hw
      refine f_aald14 C0 kn_8 h9 dX9_trim_24 (fun k10 ek10 hk10 => ?_)
      have hw := hw k10 ek10
      refine gf_1_6 C0 (kn_crew_0 hk10) mw_279 dX9_trim_25 ?_
      refine f_if_ne (tgt := 34) C0 dX9_trim_28 (by decide) (fun h11 => ?_) (fun h11 => ?_)
      · have hw := hw.1 h11
        refine f_aload_n C0 dX9_trim_34 rfl 0 rfl ⟨_, rfl⟩ ?_
        refine gf_9_3 (r := 9) C0 rfl kn_0 mw_371 dX9_trim_35 ?_
        refine f_aload_n C0 dX9_trim_38 rfl 0 rfl ⟨_, rfl⟩ ?_
        refine gf_9_0 (r := 1) C0 rfl kn_0 mw_368 dX9_trim_39 ?_
        refine f_aload_n C0 dX9_trim_42 rfl 0 rfl ⟨_, rfl⟩ ?_
        refine gf_9_1 (r := 8) C0 rfl kn_0 mw_369 dX9_trim_43 ?_
        refine f_iload_n C0 dX9_trim_46 rfl 1 rfl ?_
        obtain ⟨h12, hw⟩ := hw
        refine f_aald14 C0 kn_8 h12 dX9_trim_47 (fun k13 ek13 hk13 => ?_)
        have hw := hw k13 ek13
        refine f_callVv (As := [rf g 1, rf g (37 + 3 * k13)]) (rest := []) C0 (m_X8_weigh hk13 hw) cw_X9_162 kn_9 (by decide) rfl rfl ⟨(Nat.le_of_ble_eq_true rfl), (Nat.le_of_ble_eq_true rfl)⟩ rfl rfl (Nat.le_of_ble_eq_true rfl) dX9_trim_48 ?_
        intro d15 l16 hw
        refine f_iload_n C0 dX9_trim_51 rfl 2 rfl ?_
        rcases sw_2 x2 with h17 | h17 | h17 | h17
        · have hw := hw.2.2.2 h17
          refine f_tableOut (tgt := 104) C0 dX9_trim_52 h17 (by decide) ?_
          refine f_aload_n C0 dX9_trim_104 rfl 0 rfl ⟨_, rfl⟩ ?_
          refine gf_9_3 (r := 9) C0 rfl kn_0 mw_371 dX9_trim_105 ?_
          refine gf_8_3 C0 kn_9 mw_127 dX9_trim_108 ?_
          exact f_iret C0 hZ hw dX9_trim_111
        · have hw := hw.1 h17
          refine f_tableAt (w := 0) (tgt := 80) C0 dX9_trim_52 h17 (by decide) (by decide) rfl (by decide) ?_
          refine f_aload_n C0 dX9_trim_80 rfl 0 rfl ⟨_, rfl⟩ ?_
          refine gf_9_3 (r := 9) C0 rfl kn_0 mw_371 dX9_trim_81 ?_
          refine gf_8_0 C0 kn_9 mw_121 dX9_trim_84 ?_
          exact f_iret C0 hZ hw dX9_trim_87
        · have hw := hw.2.1 h17
          refine f_tableAt (w := 1) (tgt := 88) C0 dX9_trim_52 h17 (by decide) (by decide) rfl (by decide) ?_
          refine f_aload_n C0 dX9_trim_88 rfl 0 rfl ⟨_, rfl⟩ ?_
          refine gf_9_3 (r := 9) C0 rfl kn_0 mw_371 dX9_trim_89 ?_
          refine gf_8_1 C0 kn_9 mw_123 dX9_trim_92 ?_
          exact f_iret C0 hZ hw dX9_trim_95
        · have hw := hw.2.2.1 h17
          refine f_tableAt (w := 2) (tgt := 96) C0 dX9_trim_52 h17 (by decide) (by decide) rfl (by decide) ?_
          refine f_aload_n C0 dX9_trim_96 rfl 0 rfl ⟨_, rfl⟩ ?_
          refine gf_9_3 (r := 9) C0 rfl kn_0 mw_371 dX9_trim_97 ?_
          refine gf_8_2 C0 kn_9 mw_125 dX9_trim_100 ?_
          exact f_iret C0 hZ hw dX9_trim_103
      · have hw := hw.2 h11
        refine f_bipush (v := (-3)) C0 dX9_trim_31 rfl ?_
        exact f_iret C0 hZ hw dX9_trim_33
    · have hw := hw.2 h8
      refine f_iconst (v := (-1)) C0 dX9_trim_17 rfl ?_
      exact f_iret C0 hZ hw dX9_trim_18
def F_X4_maySit (n : Nat) (x1 : Int32) (x2 : Int32) (d : DD) (dl : LL) (Q : Int32 → DD → LL → Prop) : Prop := vp_in x1 40 ∧ ((d 4 x1.toNatClampNeg) = ((1 : Int32) - x2) → Q 0 d dl) ∧ (¬ (d 4 x1.toNatClampNeg) = ((1 : Int32) - x2) → Q 1 d dl)
set_option maxHeartbeats 4000000 in
set_option maxRecDepth 100000 in
theorem m_X4_maySit {g : Ex} {n : Nat} {x1 : Int32} {x2 : Int32} {d : DD} {dl : LL} {Q : Int32 → DD → LL → Prop} (hw : F_X4_maySit n x1 x2 d dl Q) : Mi g yX4_maySit cX4_maySit 3 (some .boolean) 0 0 [rf g 1, .int x1, .int x2] d dl Q := by
  refine Mi.of (by decide) (Nat.le_of_ble_eq_true rfl) (fun x C0 hZ => ?_)
  have C0 : Cx g x cX4_maySit 3 (some .boolean) RX4 0 0 := C0
  refine f_aload_n C0 dX4_maySit_0 rfl 0 rfl ⟨_, rfl⟩ ?_
  refine gf_4_3 (r := 4) C0 rfl kn_1 mw_88 dX4_maySit_1 ?_
  refine f_iload_n C0 dX4_maySit_4 rfl 1 rfl ?_
  obtain ⟨h1, hw⟩ := hw
  refine f_iald C0 kn_4 h1 dX4_maySit_5 ?_
  refine f_iconst (v := 1) C0 dX4_maySit_6 rfl ?_
  refine f_iload_n C0 dX4_maySit_7 rfl 2 rfl ?_
  refine f_isub C0 dX4_maySit_8 ?_
  refine f_icmp_eq (tgt := 16) C0 dX4_maySit_9 (by decide) (fun h2 => ?_) (fun h2 => ?_)
  · have hw := hw.1 h2
    refine f_iconst (v := 0) C0 dX4_maySit_16 rfl ?_
    exact f_zret C0 hZ (by decide) hw dX4_maySit_17
  · have hw := hw.2 h2
    refine f_iconst (v := 1) C0 dX4_maySit_12 rfl ?_
    refine f_goto (tgt := 17) C0 dX4_maySit_13 (by decide) ?_
    exact f_zret C0 hZ (by decide) hw dX4_maySit_17
def F_X1_swapSeats (n : Nat) (k0 : Nat) (x1 : Int32) (x2 : Int32) (d : DD) (dl : LL) (Q : DD → LL → Prop) : Prop := vp_in x1 8 ∧ ∀ v2 : Int32, v2 = (d (39 + 3 * k0) x1.toNatClampNeg) → vp_in x2 8 ∧ vp_in x1 8 ∧ ∀ d5 : DD, d5 = u2 d (39 + 3 * k0) x1.toNatClampNeg (d (39 + 3 * k0) x2.toNatClampNeg) → vp_in x2 8 ∧ ∀ d7 : DD, d7 = u2 d5 (39 + 3 * k0) x2.toNatClampNeg v2 → Q d7 dl
set_option maxHeartbeats 4000000 in
set_option maxRecDepth 100000 in
theorem m_X1_swapSeats {g : Ex} {n : Nat} {k0 : Nat} {x1 : Int32} {x2 : Int32} {d : DD} {dl : LL} {Q : DD → LL → Prop} (hk0 : k0 < 6) (hw : F_X1_swapSeats n k0 x1 x2 d dl Q) : Mv g yX1_swapSeats cX1_swapSeats 4 none 0 0 [rf g (37 + 3 * k0), .int x1, .int x2] d dl Q := by
  refine Mv.of (by decide) (Nat.le_of_ble_eq_true rfl) (fun x C0 hZ => ?_)
  have C0 : Cx g x cX1_swapSeats 4 none RX1 0 0 := C0
  refine f_aload_n C0 dX1_swapSeats_0 rfl 0 rfl ⟨_, rfl⟩ ?_
  refine gf_1_7 (r := (39 + 3 * k0)) C0 (by omega) (kn_crew_0 hk0) mw_280 dX1_swapSeats_1 ?_
  refine f_iload_n C0 dX1_swapSeats_4 rfl 1 rfl ?_
  obtain ⟨h1, hw⟩ := hw
  refine f_iald C0 (kn_crew_2 hk0) h1 dX1_swapSeats_5 ?_
  refine f_topi (fun v2 e2 => ?_)
  have hw := hw v2 e2
  refine f_istore_n (lo' := [(3, .int v2), (0, rf g (37 + 3 * k0)), (1, .int x1), (2, .int x2)]) C0 dX1_swapSeats_6 rfl (by decide) rfl ?_
  refine f_aload_n C0 dX1_swapSeats_7 rfl 1 rfl ⟨_, rfl⟩ ?_
  refine gf_1_7 (r := (39 + 3 * k0)) C0 (by omega) (kn_crew_0 hk0) mw_280 dX1_swapSeats_8 ?_
  refine f_iload_n C0 dX1_swapSeats_11 rfl 2 rfl ?_
  refine f_aload_n C0 dX1_swapSeats_12 rfl 1 rfl ⟨_, rfl⟩ ?_
  refine gf_1_7 (r := (39 + 3 * k0)) C0 (by omega) (kn_crew_0 hk0) mw_280 dX1_swapSeats_13 ?_
  refine f_iload_n C0 dX1_swapSeats_16 rfl 3 rfl ?_
  obtain ⟨h3, hw⟩ := hw
  refine f_iald C0 (kn_crew_2 hk0) h3 dX1_swapSeats_17 ?_
  obtain ⟨h4, hw⟩ := hw
  refine f_iast C0 (kn_crew_2 hk0) h4 dX1_swapSeats_18 (fun d5 ed5 => ?_)
  have hw := hw d5 ed5
  refine f_aload_n C0 dX1_swapSeats_19 rfl 1 rfl ⟨_, rfl⟩ ?_
  refine gf_1_7 (r := (39 + 3 * k0)) C0 (by omega) (kn_crew_0 hk0) mw_280 dX1_swapSeats_20 ?_
  refine f_iload_n C0 dX1_swapSeats_23 rfl 3 rfl ?_
  refine f_iload_n C0 dX1_swapSeats_24 rfl 0 rfl ?_
  obtain ⟨h6, hw⟩ := hw
  refine f_iast C0 (kn_crew_2 hk0) h6 dX1_swapSeats_25 (fun d7 ed7 => ?_)
  have hw := hw d7 ed7
  exact f_vret C0 hZ hw dX1_swapSeats_26
def F_X8_tilt (n : Nat) (d : DD) (dl : LL) (Q : Int32 → DD → LL → Prop) : Prop := Q (((((4 : Int32) * (d 9 0)) + (d 9 1)) - (d 9 2)) - ((20 : Int32) * (d 9 3))) d dl
set_option maxHeartbeats 4000000 in
set_option maxRecDepth 100000 in
theorem m_X8_tilt {g : Ex} {n : Nat} {d : DD} {dl : LL} {Q : Int32 → DD → LL → Prop} (hw : F_X8_tilt n d dl Q) : Mi g yX8_tilt cX8_tilt 1 (some .int) 0 0 [rf g 9] d dl Q := by
  refine Mi.of (by decide) (Nat.le_of_ble_eq_true rfl) (fun x C0 hZ => ?_)
  have C0 : Cx g x cX8_tilt 1 (some .int) RX8 0 0 := C0
  refine f_iconst (v := 4) C0 dX8_tilt_0 rfl ?_
  refine f_aload_n C0 dX8_tilt_1 rfl 0 rfl ⟨_, rfl⟩ ?_
  refine gf_8_0 C0 kn_9 mw_120 dX8_tilt_2 ?_
  refine f_imul C0 dX8_tilt_5 ?_
  refine f_aload_n C0 dX8_tilt_6 rfl 0 rfl ⟨_, rfl⟩ ?_
  refine gf_8_1 C0 kn_9 mw_122 dX8_tilt_7 ?_
  refine f_iadd C0 dX8_tilt_10 ?_
  refine f_aload_n C0 dX8_tilt_11 rfl 0 rfl ⟨_, rfl⟩ ?_
  refine gf_8_2 C0 kn_9 mw_124 dX8_tilt_12 ?_
  refine f_isub C0 dX8_tilt_15 ?_
  refine f_bipush (v := 20) C0 dX8_tilt_16 rfl ?_
  refine f_aload_n C0 dX8_tilt_18 rfl 0 rfl ⟨_, rfl⟩ ?_
  refine gf_8_3 C0 kn_9 mw_126 dX8_tilt_19 ?_
  refine f_imul C0 dX8_tilt_22 ?_
  refine f_isub C0 dX8_tilt_23 ?_
  exact f_iret C0 hZ hw dX8_tilt_24
def F_X9_change (n : Nat) (x1 : Int32) (x2 : Int32) (x3 : Int32) (d : DD) (dl : LL) (Q : Int32 → DD → LL → Prop) : Prop := F_X9_isCrew n x1 d dl (fun r1 d2 l3 => (¬ r1 = 0 → vp_in x1 6 ∧ ∀ k6 : Nat, k6 = x1.toNatClampNeg → F_X1_seatCount n k6 d2 l3 (fun r7 d8 l9 => ∀ v10 : Int32, v10 = (r7 - 1) → F_X9_within n x2 0 v10 d8 l9 (fun r11 d12 l13 => (r11 = 0 → Q (-100000) d12 l13) ∧ (¬ r11 = 0 → F_X9_within n x3 0 v10 d12 l13 (fun r15 d16 l17 => (¬ r15 = 0 → ((d16 (37 + 3 * k6) 6) = 0 → Q (-100001) d16 l17) ∧ (¬ (d16 (37 + 3 * k6) 6) = 0 → vp_in x2 8 ∧ F_X4_maySit n (d16 (39 + 3 * k6) x2.toNatClampNeg) (irem x3 2) d16 l17 (fun r21 d22 l23 => (r21 = 0 → Q (-100001) d22 l23) ∧ (¬ r21 = 0 → vp_in x3 8 ∧ F_X4_maySit n (d22 (39 + 3 * k6) x3.toNatClampNeg) (irem x2 2) d22 l23 (fun r26 d27 l28 => (¬ r26 = 0 → F_X1_swapSeats n k6 x2 x3 d27 l28 (fun d31 l32 => F_X8_weigh n k6 d31 l32 (fun d34 l35 => F_X1_swapSeats n k6 x2 x3 d34 l35 (fun d37 l38 => F_X8_tilt n d37 l38 (fun r39 d40 l41 => Q r39 d40 l41))))) ∧ (r26 = 0 → Q (-100001) d27 l28)))))) ∧ (r15 = 0 → Q (-100000) d16 l17)))))) ∧ (r1 = 0 → Q (-100000) d2 l3))
set_option maxHeartbeats 4000000 in
set_option maxRecDepth 100000 in
theorem m_X9_change {g : Ex} {n : Nat} {x1 : Int32} {x2 : Int32} {x3 : Int32} {d : DD} {dl : LL} {Q : Int32 → DD → LL → Prop} (hw : F_X9_change n x1 x2 x3 d dl Q) : Mi g yX9_change cX9_change 6 (some .int) 3 61 [rf g 0, .int x1, .int x2, .int x3] d dl Q := by
  refine Mi.of (by decide) (Nat.le_of_ble_eq_true rfl) (fun x C0 hZ => ?_)
  have C0 : Cx g x cX9_change 6 (some .int) RX9 3 61 := C0
  refine f_aload_n C0 dX9_change_0 rfl 0 rfl ⟨_, rfl⟩ ?_
  refine f_iload_n C0 dX9_change_1 rfl 1 rfl ?_
  refine f_callVi (As := [.int x1]) (rest := []) C0 (m_X9_isCrew hw) cw_X9_126 kn_0 (by decide) rfl rfl ⟨(Nat.le_of_ble_eq_true rfl), (Nat.le_of_ble_eq_true rfl)⟩ rfl rfl (Nat.le_of_ble_eq_true rfl) dX9_change_2 ?_
  intro r1 d2 l3 hw
  refine f_if_ne (tgt := 11) C0 dX9_change_5 (by decide) (fun h4 => ?_) (fun h4 => ?_)
  · have hw := hw.1 h4
    refine f_aload_n C0 dX9_change_11 rfl 0 rfl ⟨_, rfl⟩ ?_
    refine gf_9_1 (r := 8) C0 rfl kn_0 mw_369 dX9_change_12 ?_
    refine f_iload_n C0 dX9_change_15 rfl 1 rfl ?_
    obtain ⟨h5, hw⟩ := hw
    refine f_aald14 C0 kn_8 h5 dX9_change_16 (fun k6 ek6 hk6 => ?_)
    have hw := hw k6 ek6
    refine f_astore (lo' := [(4, rf g (37 + 3 * k6)), (0, rf g 0), (1, .int x1), (2, .int x2), (3, .int x3)]) C0 dX9_change_17 (by decide) rfl ⟨_, rfl⟩ ?_
    refine f_aload C0 dX9_change_19 0 rfl ⟨_, rfl⟩ ?_
    refine f_callVi (As := []) (rest := []) C0 (m_X1_seatCount hk6 hw) cw_X9_178 (kn_crew_0 hk6) (by decide) rfl rfl ⟨(Nat.le_of_ble_eq_true rfl), (Nat.le_of_ble_eq_true rfl)⟩ rfl rfl (Nat.le_of_ble_eq_true rfl) dX9_change_21 ?_
    intro r7 d8 l9 hw
    refine f_iconst (v := 1) C0 dX9_change_24 rfl ?_
    refine f_isub C0 dX9_change_25 ?_
    refine f_topi (fun v10 e10 => ?_)
    have hw := hw v10 e10
    refine f_istore (lo' := [(5, .int v10), (4, rf g (37 + 3 * k6)), (0, rf g 0), (1, .int x1), (2, .int x2), (3, .int x3)]) C0 dX9_change_26 (by decide) rfl ?_
    refine f_iload_n C0 dX9_change_28 rfl 4 rfl ?_
    refine f_iconst (v := 0) C0 dX9_change_29 rfl ?_
    refine f_iload C0 dX9_change_30 0 rfl ?_
    refine f_callSi (As := [.int x2, .int 0, .int v10]) (rest := []) C0 (m_X9_within hw) cw_X9_97  ⟨(Nat.le_of_ble_eq_true rfl), (Nat.le_of_ble_eq_true rfl)⟩ rfl rfl (Nat.le_of_ble_eq_true rfl) dX9_change_32 ?_
    intro r11 d12 l13 hw
    refine f_if_eq (tgt := 48) C0 dX9_change_35 (by decide) (fun h14 => ?_) (fun h14 => ?_)
    · have hw := hw.1 h14
      refine f_ldc (v := (-100000)) C0 mw_474 dX9_change_48 ?_
      exact f_iret C0 hZ hw dX9_change_50
    · have hw := hw.2 h14
      refine f_iload_n C0 dX9_change_38 rfl 5 rfl ?_
      refine f_iconst (v := 0) C0 dX9_change_39 rfl ?_
      refine f_iload C0 dX9_change_40 0 rfl ?_
      refine f_callSi (As := [.int x3, .int 0, .int v10]) (rest := []) C0 (m_X9_within hw) cw_X9_97  ⟨(Nat.le_of_ble_eq_true rfl), (Nat.le_of_ble_eq_true rfl)⟩ rfl rfl (Nat.le_of_ble_eq_true rfl) dX9_change_42 ?_
      intro r15 d16 l17 hw
      refine f_if_ne (tgt := 51) C0 dX9_change_45 (by decide) (fun h18 => ?_) (fun h18 => ?_)
      · have hw := hw.1 h18
        refine f_aload C0 dX9_change_51 1 rfl ⟨_, rfl⟩ ?_
        refine gf_1_6 C0 (kn_crew_0 hk6) mw_279 dX9_change_53 ?_
        refine f_if_eq (tgt := 99) C0 dX9_change_56 (by decide) (fun h19 => ?_) (fun h19 => ?_)
        · have hw := hw.1 h19
          refine f_ldc (v := (-100001)) C0 mw_532 dX9_change_99 ?_
          exact f_iret C0 hZ hw dX9_change_101
        · have hw := hw.2 h19
          refine f_aload_n C0 dX9_change_59 rfl 2 rfl ⟨_, rfl⟩ ?_
          refine gf_9_0 (r := 1) C0 rfl kn_0 mw_368 dX9_change_60 ?_
          refine f_aload C0 dX9_change_63 1 rfl ⟨_, rfl⟩ ?_
          refine gf_1_7 (r := (39 + 3 * k6)) C0 (by omega) (kn_crew_0 hk6) mw_284 dX9_change_65 ?_
          refine f_iload_n C0 dX9_change_68 rfl 4 rfl ?_
          obtain ⟨h20, hw⟩ := hw
          refine f_iald C0 (kn_crew_2 hk6) h20 dX9_change_69 ?_
          refine f_iload_n C0 dX9_change_70 rfl 5 rfl ?_
          refine f_iconst (v := 2) C0 dX9_change_71 rfl ?_
          refine f_irem C0 dX9_change_72 (by decide) ?_
          refine f_callVi (As := [.int (d16 (39 + 3 * k6) x2.toNatClampNeg), .int (irem x3 2)]) (rest := []) C0 (m_X4_maySit hw) cw_X9_182 kn_1 (by decide) rfl rfl ⟨(Nat.le_of_ble_eq_true rfl), (Nat.le_of_ble_eq_true rfl)⟩ rfl rfl (Nat.le_of_ble_eq_true rfl) dX9_change_73 ?_
          intro r21 d22 l23 hw
          refine f_if_eq (tgt := 99) C0 dX9_change_76 (by decide) (fun h24 => ?_) (fun h24 => ?_)
          · have hw := hw.1 h24
            refine f_ldc (v := (-100001)) C0 mw_532 dX9_change_99 ?_
            exact f_iret C0 hZ hw dX9_change_101
          · have hw := hw.2 h24
            refine f_aload_n C0 dX9_change_79 rfl 2 rfl ⟨_, rfl⟩ ?_
            refine gf_9_0 (r := 1) C0 rfl kn_0 mw_368 dX9_change_80 ?_
            refine f_aload C0 dX9_change_83 1 rfl ⟨_, rfl⟩ ?_
            refine gf_1_7 (r := (39 + 3 * k6)) C0 (by omega) (kn_crew_0 hk6) mw_284 dX9_change_85 ?_
            refine f_iload_n C0 dX9_change_88 rfl 5 rfl ?_
            obtain ⟨h25, hw⟩ := hw
            refine f_iald C0 (kn_crew_2 hk6) h25 dX9_change_89 ?_
            refine f_iload_n C0 dX9_change_90 rfl 4 rfl ?_
            refine f_iconst (v := 2) C0 dX9_change_91 rfl ?_
            refine f_irem C0 dX9_change_92 (by decide) ?_
            refine f_callVi (As := [.int (d22 (39 + 3 * k6) x3.toNatClampNeg), .int (irem x2 2)]) (rest := []) C0 (m_X4_maySit hw) cw_X9_182 kn_1 (by decide) rfl rfl ⟨(Nat.le_of_ble_eq_true rfl), (Nat.le_of_ble_eq_true rfl)⟩ rfl rfl (Nat.le_of_ble_eq_true rfl) dX9_change_93 ?_
            intro r26 d27 l28 hw
            refine f_if_ne (tgt := 102) C0 dX9_change_96 (by decide) (fun h29 => ?_) (fun h29 => ?_)
            · have hw := hw.1 h29
              refine f_aload C0 dX9_change_102 1 rfl ⟨_, rfl⟩ ?_
              refine f_iload_n C0 dX9_change_104 rfl 4 rfl ?_
              refine f_iload_n C0 dX9_change_105 rfl 5 rfl ?_
              refine f_callVv (As := [.int x2, .int x3]) (rest := []) C0 (m_X1_swapSeats hk6 hw) cw_X9_185 (kn_crew_0 hk6) (by decide) rfl rfl ⟨(Nat.le_of_ble_eq_true rfl), (Nat.le_of_ble_eq_true rfl)⟩ rfl rfl (Nat.le_of_ble_eq_true rfl) dX9_change_106 ?_
              intro d31 l32 hw
              refine f_aload_n C0 dX9_change_109 rfl 2 rfl ⟨_, rfl⟩ ?_
              refine gf_9_3 (r := 9) C0 rfl kn_0 mw_371 dX9_change_110 ?_
              refine f_aload_n C0 dX9_change_113 rfl 2 rfl ⟨_, rfl⟩ ?_
              refine gf_9_0 (r := 1) C0 rfl kn_0 mw_368 dX9_change_114 ?_
              refine f_aload C0 dX9_change_117 1 rfl ⟨_, rfl⟩ ?_
              refine f_callVv (As := [rf g 1, rf g (37 + 3 * k6)]) (rest := []) C0 (m_X8_weigh hk6 hw) cw_X9_162 kn_9 (by decide) rfl rfl ⟨(Nat.le_of_ble_eq_true rfl), (Nat.le_of_ble_eq_true rfl)⟩ rfl rfl (Nat.le_of_ble_eq_true rfl) dX9_change_119 ?_
              intro d34 l35 hw
              refine f_aload C0 dX9_change_122 1 rfl ⟨_, rfl⟩ ?_
              refine f_iload_n C0 dX9_change_124 rfl 4 rfl ?_
              refine f_iload_n C0 dX9_change_125 rfl 5 rfl ?_
              refine f_callVv (As := [.int x2, .int x3]) (rest := []) C0 (m_X1_swapSeats hk6 hw) cw_X9_185 (kn_crew_0 hk6) (by decide) rfl rfl ⟨(Nat.le_of_ble_eq_true rfl), (Nat.le_of_ble_eq_true rfl)⟩ rfl rfl (Nat.le_of_ble_eq_true rfl) dX9_change_126 ?_
              intro d37 l38 hw
              refine f_aload_n C0 dX9_change_129 rfl 2 rfl ⟨_, rfl⟩ ?_
              refine gf_9_3 (r := 9) C0 rfl kn_0 mw_371 dX9_change_130 ?_
              refine f_callVi (As := []) (rest := []) C0 (m_X8_tilt hw) cw_X9_189 kn_9 (by decide) rfl rfl ⟨(Nat.le_of_ble_eq_true rfl), (Nat.le_of_ble_eq_true rfl)⟩ rfl rfl (Nat.le_of_ble_eq_true rfl) dX9_change_133 ?_
              intro r39 d40 l41 hw
              exact f_iret C0 hZ hw dX9_change_136
            · have hw := hw.2 h29
              refine f_ldc (v := (-100001)) C0 mw_532 dX9_change_99 ?_
              exact f_iret C0 hZ hw dX9_change_101
      · have hw := hw.2 h18
        refine f_ldc (v := (-100000)) C0 mw_474 dX9_change_48 ?_
        exact f_iret C0 hZ hw dX9_change_50
  · have hw := hw.2 h4
    refine f_ldc (v := (-100000)) C0 mw_474 dX9_change_8 ?_
    exact f_iret C0 hZ hw dX9_change_10
def b_X7_append_5 (n : Nat) (Q : DD → LL → Prop) : Nat → Int64 → Int32 → DD → LL → Prop
  | 0 => fun _ _ _ _ => False
  | k + 1 => fun y1 x4 d dl => (x4 < 0 → Q d dl) ∧ (¬ x4 < 0 → (120 ≤ (d 24 0) → Q d dl) ∧ (¬ 120 ≤ (d 24 0) → vp_in (d 24 0) 120 ∧ ∀ d5 : DD, d5 = u2 d 25 (d 24 0).toNatClampNeg (((lushr y1 ((8 : Int32) * x4)) &&& 255).toInt32) → ∀ d6 : DD, d6 = u2 d5 24 0 ((d5 24 0) + 1) → (b_X7_append_5 n Q k) y1 (x4 + (-1)) d6 dl))
def F_X7_append (n : Nat) (y1 : Int64) (x3 : Int32) (d : DD) (dl : LL) (Q : DD → LL → Prop) : Prop := ∀ v1 : Int32, v1 = (x3 - 1) → b_X7_append_5 n Q n y1 v1 d dl
set_option maxHeartbeats 4000000 in
set_option maxRecDepth 100000 in
theorem t_X7_append_5 {g : Ex} {x : Fx} {n : Nat} {Q : DD → LL → Prop} (C0 : Cx g x cX7_append 5 none RX7 0 0) (hZ : Zv g x Q) : ∀ (j : Nat) (y1 : Int64) (x4 : Int32) (d : DD) (dl : LL), b_X7_append_5 n Q j y1 x4 d dl → FW g x 5 d dl 5 [(0, rf g 24), (1, .long y1), (4, .int x4)] [] := by
  intro j
  induction j with
  | zero =>
    intro y1 x4 d dl hw
    exact hw.elim
  | succ j hK5 =>
    intro y1 x4 d dl hw
    refine f_iload C0 dX7_append_5 2 rfl ?_
    refine f_if_lt (tgt := 56) C0 dX7_append_7 (by decide) (fun h2 => ?_) (fun h2 => ?_)
    · have hw := hw.1 h2
      exact f_vret C0 hZ hw dX7_append_56
    · have hw := hw.2 h2
      refine f_aload_n C0 dX7_append_10 rfl 0 rfl ⟨_, rfl⟩ ?_
      refine gf_7_0 C0 kn_24 mw_202 dX7_append_11 ?_
      refine f_bipush (v := 120) C0 dX7_append_14 rfl ?_
      refine f_icmp_ge (tgt := 56) C0 dX7_append_16 (by decide) (fun h3 => ?_) (fun h3 => ?_)
      · have hw := hw.1 h3
        exact f_vret C0 hZ hw dX7_append_56
      · have hw := hw.2 h3
        refine f_aload_n C0 dX7_append_19 rfl 0 rfl ⟨_, rfl⟩ ?_
        refine gf_7_2 (r := 25) C0 rfl kn_24 mw_206 dX7_append_20 ?_
        refine f_aload_n C0 dX7_append_23 rfl 0 rfl ⟨_, rfl⟩ ?_
        refine gf_7_0 C0 kn_24 mw_202 dX7_append_24 ?_
        refine f_lload_n C0 dX7_append_27 rfl 1 rfl ?_
        refine f_bipush (v := 8) C0 dX7_append_28 rfl ?_
        refine f_iload C0 dX7_append_30 2 rfl ?_
        refine f_imul C0 dX7_append_32 ?_
        refine f_lushr C0 dX7_append_33 ?_
        refine f_ldc2 (v := 255) C0 mw_579 dX7_append_34 ?_
        refine f_land C0 dX7_append_37 ?_
        refine f_l2i C0 dX7_append_38 ?_
        obtain ⟨h4, hw⟩ := hw
        refine f_iast C0 kn_25 h4 dX7_append_39 (fun d5 ed5 => ?_)
        have hw := hw d5 ed5
        refine f_aload_n C0 dX7_append_40 rfl 0 rfl ⟨_, rfl⟩ ?_
        refine f_dup C0 dX7_append_41 rfl ?_
        refine gf_7_0 C0 kn_24 mw_202 dX7_append_42 ?_
        refine f_iconst (v := 1) C0 dX7_append_45 rfl ?_
        refine f_iadd C0 dX7_append_46 ?_
        refine pf_7_0 C0 kn_24 mw_202 dX7_append_47 (fun d6 ed6 => ?_)
        have hw := hw d6 ed6
        refine f_iinc (lo' := [(4, .int (x4 + (-1))), (0, rf g 24), (1, .long y1)]) C0 dX7_append_50 2 rfl rfl (by decide) rfl ?_
        refine f_goto (tgt := 5) C0 dX7_append_53 (by decide) ?_
        refine f_sub [1, 2, 0] rfl ?_
        exact hK5 _ _ _ _ hw
set_option maxHeartbeats 4000000 in
set_option maxRecDepth 100000 in
theorem m_X7_append {g : Ex} {n : Nat} {y1 : Int64} {x3 : Int32} {d : DD} {dl : LL} {Q : DD → LL → Prop} (hw : F_X7_append n y1 x3 d dl Q) : Mv g yX7_append cX7_append 5 none 0 0 [rf g 24, .long y1, .int x3] d dl Q := by
  refine Mv.of (by decide) (Nat.le_of_ble_eq_true rfl) (fun x C0 hZ => ?_)
  have C0 : Cx g x cX7_append 5 none RX7 0 0 := C0
  refine f_iload_n C0 dX7_append_0 rfl 2 rfl ?_
  refine f_iconst (v := 1) C0 dX7_append_1 rfl ?_
  refine f_isub C0 dX7_append_2 ?_
  refine f_topi (fun v1 e1 => ?_)
  have hw := hw v1 e1
  refine f_istore (lo' := [(4, .int v1), (0, rf g 24), (1, .long y1), (3, .int x3)]) C0 dX7_append_3 (by decide) rfl ?_
  refine f_sub [1, 2, 0] rfl ?_
  exact t_X7_append_5 C0 hZ n _ _ _ _ hw
def F_X9_feed (n : Nat) (y1 : Int64) (x3 : Int32) (d : DD) (dl : LL) (Q : Int32 → DD → LL → Prop) : Prop := F_X9_within n x3 1 8 d dl (fun r1 d2 l3 => (¬ r1 = 0 → (((d2 24 0) + x3) ≤ 120 → F_X7_append n y1 x3 d2 l3 (fun d7 l8 => Q (d7 24 0) d7 l8)) ∧ (¬ ((d2 24 0) + x3) ≤ 120 → Q (-4) d2 l3)) ∧ (r1 = 0 → Q (-2) d2 l3))
set_option maxHeartbeats 4000000 in
set_option maxRecDepth 100000 in
theorem m_X9_feed {g : Ex} {n : Nat} {y1 : Int64} {x3 : Int32} {d : DD} {dl : LL} {Q : Int32 → DD → LL → Prop} (hw : F_X9_feed n y1 x3 d dl Q) : Mi g yX9_feed cX9_feed 4 (some .int) 1 24 [rf g 0, .long y1, .int x3] d dl Q := by
  refine Mi.of (by decide) (Nat.le_of_ble_eq_true rfl) (fun x C0 hZ => ?_)
  have C0 : Cx g x cX9_feed 4 (some .int) RX9 1 24 := C0
  refine f_iload_n C0 dX9_feed_0 rfl 2 rfl ?_
  refine f_iconst (v := 1) C0 dX9_feed_1 rfl ?_
  refine f_bipush (v := 8) C0 dX9_feed_2 rfl ?_
  refine f_callSi (As := [.int x3, .int 1, .int 8]) (rest := []) C0 (m_X9_within hw) cw_X9_97  ⟨(Nat.le_of_ble_eq_true rfl), (Nat.le_of_ble_eq_true rfl)⟩ rfl rfl (Nat.le_of_ble_eq_true rfl) dX9_feed_4 ?_
  intro r1 d2 l3 hw
  refine f_if_ne (tgt := 13) C0 dX9_feed_7 (by decide) (fun h4 => ?_) (fun h4 => ?_)
  · have hw := hw.1 h4
    refine f_aload_n C0 dX9_feed_13 rfl 0 rfl ⟨_, rfl⟩ ?_
    refine gf_9_5 (r := 24) C0 rfl kn_0 mw_373 dX9_feed_14 ?_
    refine gf_7_0 C0 kn_24 mw_203 dX9_feed_17 ?_
    refine f_iload_n C0 dX9_feed_20 rfl 2 rfl ?_
    refine f_iadd C0 dX9_feed_21 ?_
    refine f_bipush (v := 120) C0 dX9_feed_22 rfl ?_
    refine f_icmp_le (tgt := 30) C0 dX9_feed_24 (by decide) (fun h5 => ?_) (fun h5 => ?_)
    · have hw := hw.1 h5
      refine f_aload_n C0 dX9_feed_30 rfl 0 rfl ⟨_, rfl⟩ ?_
      refine gf_9_5 (r := 24) C0 rfl kn_0 mw_373 dX9_feed_31 ?_
      refine f_lload_n C0 dX9_feed_34 rfl 1 rfl ?_
      refine f_iload_n C0 dX9_feed_35 rfl 2 rfl ?_
      refine f_callVv (As := [.long y1, .int x3]) (rest := []) C0 (m_X7_append hw) cw_X9_193 kn_24 (by decide) rfl rfl ⟨(Nat.le_of_ble_eq_true rfl), (Nat.le_of_ble_eq_true rfl)⟩ rfl rfl (Nat.le_of_ble_eq_true rfl) dX9_feed_36 ?_
      intro d7 l8 hw
      refine f_aload_n C0 dX9_feed_39 rfl 0 rfl ⟨_, rfl⟩ ?_
      refine gf_9_5 (r := 24) C0 rfl kn_0 mw_373 dX9_feed_40 ?_
      refine gf_7_0 C0 kn_24 mw_203 dX9_feed_43 ?_
      exact f_iret C0 hZ hw dX9_feed_46
    · have hw := hw.2 h5
      refine f_bipush (v := (-4)) C0 dX9_feed_27 rfl ?_
      exact f_iret C0 hZ hw dX9_feed_29
  · have hw := hw.2 h4
    refine f_bipush (v := (-2)) C0 dX9_feed_10 rfl ?_
    exact f_iret C0 hZ hw dX9_feed_12
def F_X7_wordOf (n : Nat) (x0 : Int32) (d : DD) (dl : LL) (Q : Nat → DD → LL → Prop) : Prop := (x0 = 0 → Q 0 d dl) ∧ (x0 = 1 → Q 1 d dl) ∧ (x0 = 2 → Q 2 d dl) ∧ (x0 = 3 → Q 3 d dl) ∧ (x0 = 4 → Q 4 d dl) ∧ (x0 = 5 → Q 5 d dl) ∧ (x0 = 6 → Q 6 d dl) ∧ (x0 = 7 → Q 7 d dl) ∧ (x0.toInt < 0 ∨ 7 < x0.toInt → Q 8 d dl)
set_option maxHeartbeats 4000000 in
set_option maxRecDepth 100000 in
theorem m_X7_wordOf {g : Ex} {n : Nat} {x0 : Int32} {d : DD} {dl : LL} {Q : Nat → DD → LL → Prop} (hw : F_X7_wordOf n x0 d dl Q) : Mr g yX7_wordOf cX7_wordOf 1 (some (.object "java/lang/String")) 0 0 [.int x0] d dl Q := by
  refine Mr.of (by decide) (Nat.le_of_ble_eq_true rfl) (fun x C0 hZ => ?_)
  have C0 : Cx g x cX7_wordOf 1 (some (.object "java/lang/String")) RX7 0 0 := C0
  refine f_iload_n C0 dX7_wordOf_0 rfl 0 rfl ?_
  rcases sw_7 x0 with h1 | h1 | h1 | h1 | h1 | h1 | h1 | h1 | h1
  · have hw := hw.2.2.2.2.2.2.2.2 h1
    refine f_tableOut (tgt := 72) C0 dX7_wordOf_1 h1 (by decide) ?_
    refine f_ldcS (w := 8) C0 (Nat.le_of_ble_eq_true rfl) rfl rfl dX7_wordOf_72 ?_
    exact f_aret C0 hZ hw dX7_wordOf_74
  · have hw := hw.1 h1
    refine f_tableAt (w := 0) (tgt := 48) C0 dX7_wordOf_1 h1 (by decide) (by decide) rfl (by decide) ?_
    refine f_ldcS (w := 0) C0 (Nat.le_of_ble_eq_true rfl) rfl rfl dX7_wordOf_48 ?_
    exact f_aret C0 hZ hw dX7_wordOf_50
  · have hw := hw.2.1 h1
    refine f_tableAt (w := 1) (tgt := 51) C0 dX7_wordOf_1 h1 (by decide) (by decide) rfl (by decide) ?_
    refine f_ldcS (w := 1) C0 (Nat.le_of_ble_eq_true rfl) rfl rfl dX7_wordOf_51 ?_
    exact f_aret C0 hZ hw dX7_wordOf_53
  · have hw := hw.2.2.1 h1
    refine f_tableAt (w := 2) (tgt := 54) C0 dX7_wordOf_1 h1 (by decide) (by decide) rfl (by decide) ?_
    refine f_ldcS (w := 2) C0 (Nat.le_of_ble_eq_true rfl) rfl rfl dX7_wordOf_54 ?_
    exact f_aret C0 hZ hw dX7_wordOf_56
  · have hw := hw.2.2.2.1 h1
    refine f_tableAt (w := 3) (tgt := 57) C0 dX7_wordOf_1 h1 (by decide) (by decide) rfl (by decide) ?_
    refine f_ldcS (w := 3) C0 (Nat.le_of_ble_eq_true rfl) rfl rfl dX7_wordOf_57 ?_
    exact f_aret C0 hZ hw dX7_wordOf_59
  · have hw := hw.2.2.2.2.1 h1
    refine f_tableAt (w := 4) (tgt := 60) C0 dX7_wordOf_1 h1 (by decide) (by decide) rfl (by decide) ?_
    refine f_ldcS (w := 4) C0 (Nat.le_of_ble_eq_true rfl) rfl rfl dX7_wordOf_60 ?_
    exact f_aret C0 hZ hw dX7_wordOf_62
  · have hw := hw.2.2.2.2.2.1 h1
    refine f_tableAt (w := 5) (tgt := 63) C0 dX7_wordOf_1 h1 (by decide) (by decide) rfl (by decide) ?_
    refine f_ldcS (w := 5) C0 (Nat.le_of_ble_eq_true rfl) rfl rfl dX7_wordOf_63 ?_
    exact f_aret C0 hZ hw dX7_wordOf_65
  · have hw := hw.2.2.2.2.2.2.1 h1
    refine f_tableAt (w := 6) (tgt := 66) C0 dX7_wordOf_1 h1 (by decide) (by decide) rfl (by decide) ?_
    refine f_ldcS (w := 6) C0 (Nat.le_of_ble_eq_true rfl) rfl rfl dX7_wordOf_66 ?_
    exact f_aret C0 hZ hw dX7_wordOf_68
  · have hw := hw.2.2.2.2.2.2.2.1 h1
    refine f_tableAt (w := 7) (tgt := 69) C0 dX7_wordOf_1 h1 (by decide) (by decide) rfl (by decide) ?_
    refine f_ldcS (w := 7) C0 (Nat.le_of_ble_eq_true rfl) rfl rfl dX7_wordOf_69 ?_
    exact f_aret C0 hZ hw dX7_wordOf_71
def F_X7_peek (n : Nat) (d : DD) (dl : LL) (Q : Int32 → DD → LL → Prop) : Prop := ((d 24 0) ≤ (d 24 1) → Q (-1) d dl) ∧ (¬ (d 24 0) ≤ (d 24 1) → vp_in (d 24 1) 120 ∧ Q (d 25 (d 24 1).toNatClampNeg) d dl)
set_option maxHeartbeats 4000000 in
set_option maxRecDepth 100000 in
theorem m_X7_peek {g : Ex} {n : Nat} {d : DD} {dl : LL} {Q : Int32 → DD → LL → Prop} (hw : F_X7_peek n d dl Q) : Mi g yX7_peek cX7_peek 1 (some .int) 0 0 [rf g 24] d dl Q := by
  refine Mi.of (by decide) (Nat.le_of_ble_eq_true rfl) (fun x C0 hZ => ?_)
  have C0 : Cx g x cX7_peek 1 (some .int) RX7 0 0 := C0
  refine f_aload_n C0 dX7_peek_0 rfl 0 rfl ⟨_, rfl⟩ ?_
  refine gf_7_1 C0 kn_24 mw_204 dX7_peek_1 ?_
  refine f_aload_n C0 dX7_peek_4 rfl 0 rfl ⟨_, rfl⟩ ?_
  refine gf_7_0 C0 kn_24 mw_202 dX7_peek_5 ?_
  refine f_icmp_ge (tgt := 23) C0 dX7_peek_8 (by decide) (fun h1 => ?_) (fun h1 => ?_)
  · have hw := hw.1 h1
    refine f_iconst (v := (-1)) C0 dX7_peek_23 rfl ?_
    exact f_iret C0 hZ hw dX7_peek_24
  · have hw := hw.2 h1
    refine f_aload_n C0 dX7_peek_11 rfl 0 rfl ⟨_, rfl⟩ ?_
    refine gf_7_2 (r := 25) C0 rfl kn_24 mw_206 dX7_peek_12 ?_
    refine f_aload_n C0 dX7_peek_15 rfl 0 rfl ⟨_, rfl⟩ ?_
    refine gf_7_1 C0 kn_24 mw_204 dX7_peek_16 ?_
    obtain ⟨h2, hw⟩ := hw
    refine f_iald C0 kn_25 h2 dX7_peek_19 ?_
    refine f_goto (tgt := 24) C0 dX7_peek_20 (by decide) ?_
    exact f_iret C0 hZ hw dX7_peek_24
def F_J0_coder_7d493 (n : Nat) (w0 : Nat) (d : DD) (dl : LL) (Q : Int32 → DD → LL → Prop) : Prop := Q 0 d dl
set_option maxHeartbeats 4000000 in
set_option maxRecDepth 100000 in
theorem m_J0_coder_7d493 {g : Ex} {n : Nat} {w0 : Nat} {d : DD} {dl : LL} {Q : Int32 → DD → LL → Prop} (hw0 : w0 < 19) (hw : F_J0_coder_7d493 n w0 d dl Q) : Mi g yJ0_coder_7d493 cJ0_coder_7d493 1 (some .byte) 0 0 [rs g w0] d dl Q := by
  refine Mi.of (by decide) (Nat.le_of_ble_eq_true rfl) (fun x C0 hZ => ?_)
  have C0 : Cx g x cJ0_coder_7d493 1 (some .byte) RJ0 0 0 := C0
  refine f_compact C0 mw_623 dJ0_coder_7d493_0 ?_
  refine f_if_eq (tgt := 13) C0 dJ0_coder_7d493_3 (by decide) (fun c9 => absurd c9 (by decide)) (fun _ => ?_)
  refine f_aload_n C0 dJ0_coder_7d493_6 rfl 0 rfl ⟨_, rfl⟩ ?_
  refine f_scoder C0 hw0 mw_1236 dJ0_coder_7d493_7 ?_
  refine f_goto (tgt := 14) C0 dJ0_coder_7d493_10 (by decide) ?_
  exact f_zret C0 hZ (by decide) hw dJ0_coder_7d493_14
def F_J0_length_8abf5 (n : Nat) (w0 : Nat) (d : DD) (dl : LL) (Q : Int32 → DD → LL → Prop) : Prop := F_J0_coder_7d493 n w0 d dl (fun r1 d2 l3 => Q ((Int32.ofNat (sbs w0).length) >>> (r1 &&& 31)) d2 l3)
set_option maxHeartbeats 4000000 in
set_option maxRecDepth 100000 in
theorem m_J0_length_8abf5 {g : Ex} {n : Nat} {w0 : Nat} {d : DD} {dl : LL} {Q : Int32 → DD → LL → Prop} (hw0 : w0 < 19) (hw : F_J0_length_8abf5 n w0 d dl Q) : Mi g yJ0_length_8abf5 cJ0_length_8abf5 1 (some .int) 1 20 [rs g w0] d dl Q := by
  refine Mi.of (by decide) (Nat.le_of_ble_eq_true rfl) (fun x C0 hZ => ?_)
  have C0 : Cx g x cJ0_length_8abf5 1 (some .int) RJ0 1 20 := C0
  refine f_aload_n C0 dJ0_length_8abf5_0 rfl 0 rfl ⟨_, rfl⟩ ?_
  refine f_svalue C0 hw0 mw_1235 dJ0_length_8abf5_1 ?_
  refine f_slen C0 hw0 dJ0_length_8abf5_4 ?_
  refine f_aload_n C0 dJ0_length_8abf5_5 rfl 0 rfl ⟨_, rfl⟩ ?_
  refine f_callTi (As := []) (rest := [.int (Int32.ofNat (sbs w0).length)]) C0 (m_J0_coder_7d493 hw0 hw) cw_J0_335 hw0 rfl ⟨(Nat.le_of_ble_eq_true rfl), (Nat.le_of_ble_eq_true rfl)⟩ rfl rfl (Nat.le_of_ble_eq_true rfl) dJ0_length_8abf5_6 ?_
  intro r1 d2 l3 hw
  refine f_ishr C0 dJ0_length_8abf5_9 ?_
  exact f_iret C0 hZ hw dJ0_length_8abf5_10
def F_J0_isLatin1_aae02 (n : Nat) (w0 : Nat) (d : DD) (dl : LL) (Q : Int32 → DD → LL → Prop) : Prop := Q 1 d dl
set_option maxHeartbeats 4000000 in
set_option maxRecDepth 100000 in
theorem m_J0_isLatin1_aae02 {g : Ex} {n : Nat} {w0 : Nat} {d : DD} {dl : LL} {Q : Int32 → DD → LL → Prop} (hw0 : w0 < 19) (hw : F_J0_isLatin1_aae02 n w0 d dl Q) : Mi g yJ0_isLatin1_aae02 cJ0_isLatin1_aae02 1 (some .boolean) 0 0 [rs g w0] d dl Q := by
  refine Mi.of (by decide) (Nat.le_of_ble_eq_true rfl) (fun x C0 hZ => ?_)
  have C0 : Cx g x cJ0_isLatin1_aae02 1 (some .boolean) RJ0 0 0 := C0
  refine f_compact C0 mw_623 dJ0_isLatin1_aae02_0 ?_
  refine f_if_eq (tgt := 17) C0 dJ0_isLatin1_aae02_3 (by decide) (fun c9 => absurd c9 (by decide)) (fun _ => ?_)
  refine f_aload_n C0 dJ0_isLatin1_aae02_6 rfl 0 rfl ⟨_, rfl⟩ ?_
  refine f_scoder C0 hw0 mw_1236 dJ0_isLatin1_aae02_7 ?_
  refine f_if_ne (tgt := 17) C0 dJ0_isLatin1_aae02_10 (by decide) (fun c9 => absurd c9 (by decide)) (fun _ => ?_)
  refine f_iconst (v := 1) C0 dJ0_isLatin1_aae02_13 rfl ?_
  refine f_goto (tgt := 18) C0 dJ0_isLatin1_aae02_14 (by decide) ?_
  exact f_zret C0 hZ (by decide) hw dJ0_isLatin1_aae02_18
def F_J3_checkIndex_8e157 (n : Nat) (x0 : Int32) (x1 : Int32) (d : DD) (dl : LL) (Q : Int32 → DD → LL → Prop) : Prop := (x0 < 0 → False) ∧ (¬ x0 < 0 → (x0 < x1 → Q x0 d dl) ∧ (¬ x0 < x1 → False))
set_option maxHeartbeats 4000000 in
set_option maxRecDepth 100000 in
theorem m_J3_checkIndex_8e157 {g : Ex} {n : Nat} {x0 : Int32} {x1 : Int32} {d : DD} {dl : LL} {Q : Int32 → DD → LL → Prop} (hz : (rz g).category = 1) (hw : F_J3_checkIndex_8e157 n x0 x1 d dl Q) : Mi g yJ3_checkIndex_8e157 cJ3_checkIndex_8e157 3 (some .int) 0 0 [.int x0, .int x1, rz g] d dl Q := by
  refine Mi.of (by decide) (fmt_len hz) (fun x C0 hZ => ?_)
  have C0 : Cx g x cJ3_checkIndex_8e157 3 (some .int) RJ3 0 0 := C0
  refine f_iload_n C0 dJ3_checkIndex_8e157_0 rfl 0 rfl ?_
  refine f_if_lt (tgt := 9) C0 dJ3_checkIndex_8e157_1 (by decide) (fun h1 => ?_) (fun h1 => ?_)
  · have hw := hw.1 h1
    exact hw.elim
  · have hw := hw.2 h1
    refine f_iload_n C0 dJ3_checkIndex_8e157_4 rfl 0 rfl ?_
    refine f_iload_n C0 dJ3_checkIndex_8e157_5 rfl 1 rfl ?_
    refine f_icmp_lt (tgt := 16) C0 dJ3_checkIndex_8e157_6 (by decide) (fun h2 => ?_) (fun h2 => ?_)
    · have hw := hw.1 h2
      refine f_iload_n C0 dJ3_checkIndex_8e157_16 rfl 0 rfl ?_
      exact f_iret C0 hZ hw dJ3_checkIndex_8e157_17
    · have hw := hw.2 h2
      exact hw.elim
def F_J0_checkIndex_df160 (n : Nat) (x0 : Int32) (x1 : Int32) (d : DD) (dl : LL) (Q : DD → LL → Prop) : Prop := F_J3_checkIndex_8e157 n x0 x1 d dl (fun r1 d2 l3 => Q d2 l3)
set_option maxHeartbeats 4000000 in
set_option maxRecDepth 100000 in
theorem m_J0_checkIndex_df160 {g : Ex} {n : Nat} {x0 : Int32} {x1 : Int32} {d : DD} {dl : LL} {Q : DD → LL → Prop} (hw : F_J0_checkIndex_df160 n x0 x1 d dl Q) : Mv g yJ0_checkIndex_df160 cJ0_checkIndex_df160 2 none 1 22 [.int x0, .int x1] d dl Q := by
  refine Mv.of (by decide) (Nat.le_of_ble_eq_true rfl) (fun x C0 hZ => ?_)
  have C0 : Cx g x cJ0_checkIndex_df160 2 none RJ0 1 22 := C0
  refine f_iload_n C0 dJ0_checkIndex_df160_0 rfl 0 rfl ?_
  refine f_iload_n C0 dJ0_checkIndex_df160_1 rfl 1 rfl ?_
  refine f_form C0 mw_639 dJ0_checkIndex_df160_2 ?_
  refine f_callSi (As := [.int x0, .int x1, rz g]) (rest := []) C0 (m_J3_checkIndex_8e157 (rz_cat C0) hw) cw_J0_1059  ⟨(Nat.le_of_ble_eq_true rfl), (Nat.le_of_ble_eq_true rfl)⟩ rfl rfl (Nat.le_of_ble_eq_true rfl) dJ0_checkIndex_df160_5 ?_
  intro r1 d2 l3 hw
  refine f_pop C0 dJ0_checkIndex_df160_8 rfl ?_
  exact f_vret C0 hZ hw dJ0_checkIndex_df160_9
def F_J1_charAt_3b067 (n : Nat) (w0 : Nat) (x1 : Int32) (d : DD) (dl : LL) (Q : Int32 → DD → LL → Prop) : Prop := F_J0_checkIndex_df160 n x1 (Int32.ofNat (sbs w0).length) d dl (fun d2 l3 => vp_in x1 (sbs w0).length ∧ narrow .char (.int (((((sbs w0).getD x1.toNatClampNeg 0) &&& 255).toUInt32 % 65536).toInt32)) = .int (((((sbs w0).getD x1.toNatClampNeg 0) &&& 255).toUInt32 % 65536).toInt32) ∧ Q (((((sbs w0).getD x1.toNatClampNeg 0) &&& 255).toUInt32 % 65536).toInt32) d2 l3)
set_option maxHeartbeats 4000000 in
set_option maxRecDepth 100000 in
theorem m_J1_charAt_3b067 {g : Ex} {n : Nat} {w0 : Nat} {x1 : Int32} {d : DD} {dl : LL} {Q : Int32 → DD → LL → Prop} (hw0 : w0 < 19) (hw : F_J1_charAt_3b067 n w0 x1 d dl Q) : Mi g yJ1_charAt_3b067 cJ1_charAt_3b067 2 (some .char) 2 43 [rv g w0, .int x1] d dl Q := by
  refine Mi.of (by decide) (Nat.le_of_ble_eq_true rfl) (fun x C0 hZ => ?_)
  have C0 : Cx g x cJ1_charAt_3b067 2 (some .char) RJ1 2 43 := C0
  refine f_iload_n C0 dJ1_charAt_3b067_0 rfl 1 rfl ?_
  refine f_aload_n C0 dJ1_charAt_3b067_1 rfl 0 rfl ⟨_, rfl⟩ ?_
  refine f_slen C0 hw0 dJ1_charAt_3b067_2 ?_
  refine f_callSv (As := [.int x1, .int (Int32.ofNat (sbs w0).length)]) (rest := []) C0 (m_J0_checkIndex_df160 hw) cw_J1_9  ⟨(Nat.le_of_ble_eq_true rfl), (Nat.le_of_ble_eq_true rfl)⟩ rfl rfl (Nat.le_of_ble_eq_true rfl) dJ1_charAt_3b067_3 ?_
  intro d2 l3 hw
  refine f_aload_n C0 dJ1_charAt_3b067_6 rfl 0 rfl ⟨_, rfl⟩ ?_
  refine f_iload_n C0 dJ1_charAt_3b067_7 rfl 1 rfl ?_
  obtain ⟨h4, hw⟩ := hw
  refine f_sald C0 hw0 h4 dJ1_charAt_3b067_8 ?_
  refine f_sipush (v := 255) C0 dJ1_charAt_3b067_9 rfl ?_
  refine f_iand C0 dJ1_charAt_3b067_12 ?_
  refine f_i2c C0 dJ1_charAt_3b067_13 ?_
  exact f_zret C0 hZ hw.1 hw.2 dJ1_charAt_3b067_14
def F_J0_charAt_5068e (n : Nat) (w0 : Nat) (x1 : Int32) (d : DD) (dl : LL) (Q : Int32 → DD → LL → Prop) : Prop := F_J0_isLatin1_aae02 n w0 d dl (fun r1 d2 l3 => (r1 = 0 → False) ∧ (¬ r1 = 0 → F_J1_charAt_3b067 n w0 x1 d2 l3 (fun r5 d6 l7 => narrow .char (.int r5) = .int r5 ∧ Q r5 d6 l7)))
set_option maxHeartbeats 4000000 in
set_option maxRecDepth 100000 in
theorem m_J0_charAt_5068e {g : Ex} {n : Nat} {w0 : Nat} {x1 : Int32} {d : DD} {dl : LL} {Q : Int32 → DD → LL → Prop} (hw0 : w0 < 19) (hw : F_J0_charAt_5068e n w0 x1 d dl Q) : Mi g yJ0_charAt_5068e cJ0_charAt_5068e 2 (some .char) 3 64 [rs g w0, .int x1] d dl Q := by
  refine Mi.of (by decide) (Nat.le_of_ble_eq_true rfl) (fun x C0 hZ => ?_)
  have C0 : Cx g x cJ0_charAt_5068e 2 (some .char) RJ0 3 64 := C0
  refine f_aload_n C0 dJ0_charAt_5068e_0 rfl 0 rfl ⟨_, rfl⟩ ?_
  refine f_callTi (As := []) (rest := []) C0 (m_J0_isLatin1_aae02 hw0 hw) cw_J0_492 hw0 rfl ⟨(Nat.le_of_ble_eq_true rfl), (Nat.le_of_ble_eq_true rfl)⟩ rfl rfl (Nat.le_of_ble_eq_true rfl) dJ0_charAt_5068e_1 ?_
  intro r1 d2 l3 hw
  refine f_if_eq (tgt := 16) C0 dJ0_charAt_5068e_4 (by decide) (fun h4 => ?_) (fun h4 => ?_)
  · have hw := hw.1 h4
    exact hw.elim
  · have hw := hw.2 h4
    refine f_aload_n C0 dJ0_charAt_5068e_7 rfl 0 rfl ⟨_, rfl⟩ ?_
    refine f_svalue C0 hw0 mw_1235 dJ0_charAt_5068e_8 ?_
    refine f_iload_n C0 dJ0_charAt_5068e_11 rfl 1 rfl ?_
    refine f_callSi (As := [rv g w0, .int x1]) (rest := []) C0 (m_J1_charAt_3b067 hw0 hw) cw_J0_495  ⟨(Nat.le_of_ble_eq_true rfl), (Nat.le_of_ble_eq_true rfl)⟩ rfl rfl (Nat.le_of_ble_eq_true rfl) dJ0_charAt_5068e_12 ?_
    intro r5 d6 l7 hw
    exact f_zret C0 hZ hw.1 hw.2 dJ0_charAt_5068e_15
def F_X7_hasSign (n : Nat) (w0 : Nat) (x1 : Int32) (x2 : Int32) (d : DD) (dl : LL) (Q : Int32 → DD → LL → Prop) : Prop := F_J0_length_8abf5 n w0 d dl (fun r1 d2 l3 => (r1 ≤ x1 → Q 0 d2 l3) ∧ (¬ r1 ≤ x1 → F_J0_charAt_5068e n w0 x1 d2 l3 (fun r5 d6 l7 => (¬ r5 = x2 → Q 0 d6 l7) ∧ (r5 = x2 → Q 1 d6 l7))))
set_option maxHeartbeats 4000000 in
set_option maxRecDepth 100000 in
theorem m_X7_hasSign {g : Ex} {n : Nat} {w0 : Nat} {x1 : Int32} {x2 : Int32} {d : DD} {dl : LL} {Q : Int32 → DD → LL → Prop} (hw0 : w0 < 19) (hw : F_X7_hasSign n w0 x1 x2 d dl Q) : Mi g yX7_hasSign cX7_hasSign 3 (some .boolean) 4 85 [rs g w0, .int x1, .int x2] d dl Q := by
  refine Mi.of (by decide) (Nat.le_of_ble_eq_true rfl) (fun x C0 hZ => ?_)
  have C0 : Cx g x cX7_hasSign 3 (some .boolean) RX7 4 85 := C0
  refine f_iload_n C0 dX7_hasSign_0 rfl 1 rfl ?_
  refine f_aload_n C0 dX7_hasSign_1 rfl 0 rfl ⟨_, rfl⟩ ?_
  refine f_callTi (As := []) (rest := [.int x1]) C0 (m_J0_length_8abf5 hw0 hw) cw_X7_82 hw0 rfl ⟨(Nat.le_of_ble_eq_true rfl), (Nat.le_of_ble_eq_true rfl)⟩ rfl rfl (Nat.le_of_ble_eq_true rfl) dX7_hasSign_2 ?_
  intro r1 d2 l3 hw
  refine f_icmp_ge (tgt := 21) C0 dX7_hasSign_5 (by decide) (fun h4 => ?_) (fun h4 => ?_)
  · have hw := hw.1 h4
    refine f_iconst (v := 0) C0 dX7_hasSign_21 rfl ?_
    exact f_zret C0 hZ (by decide) hw dX7_hasSign_22
  · have hw := hw.2 h4
    refine f_aload_n C0 dX7_hasSign_8 rfl 0 rfl ⟨_, rfl⟩ ?_
    refine f_iload_n C0 dX7_hasSign_9 rfl 1 rfl ?_
    refine f_callTi (As := [.int x1]) (rest := []) C0 (m_J0_charAt_5068e hw0 hw) cw_X7_87 hw0 rfl ⟨(Nat.le_of_ble_eq_true rfl), (Nat.le_of_ble_eq_true rfl)⟩ rfl rfl (Nat.le_of_ble_eq_true rfl) dX7_hasSign_10 ?_
    intro r5 d6 l7 hw
    refine f_iload_n C0 dX7_hasSign_13 rfl 2 rfl ?_
    refine f_icmp_ne (tgt := 21) C0 dX7_hasSign_14 (by decide) (fun h8 => ?_) (fun h8 => ?_)
    · have hw := hw.1 h8
      refine f_iconst (v := 0) C0 dX7_hasSign_21 rfl ?_
      exact f_zret C0 hZ (by decide) hw dX7_hasSign_22
    · have hw := hw.2 h8
      refine f_iconst (v := 1) C0 dX7_hasSign_17 rfl ?_
      refine f_goto (tgt := 22) C0 dX7_hasSign_18 (by decide) ?_
      exact f_zret C0 hZ (by decide) hw dX7_hasSign_22
def b_X7_readWord_88 (n : Nat) (Q : Int32 → DD → LL → Prop) (K5 : Int32 → Int32 → Int32 → Int32 → DD → LL → Prop) : Nat → Int32 → Int32 → Int32 → Int32 → Int32 → DD → LL → Prop
  | 0 => fun _ _ _ _ _ _ _ => False
  | k + 1 => fun x1 x2 x3 x4 x6 d dl => (x2 < x6 → K5 x1 x2 x3 (x4 + 1) d dl) ∧ (¬ x2 < x6 → (((ushr x3 x6) &&& 1) = 0 → (b_X7_readWord_88 n Q K5 k) x1 x2 x3 x4 (x6 + 1) d dl) ∧ (¬ ((ushr x3 x6) &&& 1) = 0 → F_X7_wordOf n x6 d dl (fun r7 d8 l9 => r7 < 19 ∧ F_J0_length_8abf5 n r7 d8 l9 (fun r10 d11 l12 => (¬ r10 = (x4 + 1) → (b_X7_readWord_88 n Q K5 k) x1 x2 x3 x4 (x6 + 1) d11 l12) ∧ (r10 = (x4 + 1) → Q x6 d11 l12)))))
def b_X7_readWord_18 (n : Nat) (Q : Int32 → DD → LL → Prop) (K5 : Int32 → Int32 → Int32 → Int32 → DD → LL → Prop) : Nat → Int32 → Int32 → Int32 → Int32 → Int32 → Int32 → DD → LL → Prop
  | 0 => fun _ _ _ _ _ _ _ _ => False
  | k + 1 => fun x1 x2 x3 x4 x5 x6 d dl => (x2 < x6 → (¬ x5 = 0 → ∀ d4 : DD, d4 = u2 d 24 1 ((d 24 1) + 1) → b_X7_readWord_88 n Q K5 n x1 x2 x5 x4 x1 d4 dl) ∧ (x5 = 0 → Q (-1) d dl)) ∧ (¬ x2 < x6 → (((ushr x3 x6) &&& 1) = 0 → (b_X7_readWord_18 n Q K5 k) x1 x2 x3 x4 x5 (x6 + 1) d dl) ∧ (¬ ((ushr x3 x6) &&& 1) = 0 → F_X7_wordOf n x6 d dl (fun r15 d16 l17 => r15 < 19 ∧ F_X7_peek n d16 l17 (fun r18 d19 l20 => F_X7_hasSign n r15 x4 r18 d19 l20 (fun r21 d22 l23 => (r21 = 0 → (b_X7_readWord_18 n Q K5 k) x1 x2 x3 x4 x5 (x6 + 1) d22 l23) ∧ (¬ r21 = 0 → ∀ v25 : Int32, v25 = (x5 ||| ((1 : Int32) <<< (x6 &&& 31))) → (b_X7_readWord_18 n Q K5 k) x1 x2 x3 x4 v25 (x6 + 1) d22 l23))))))
def b_X7_readWord_5 (n : Nat) (Q : Int32 → DD → LL → Prop) : Nat → Int32 → Int32 → Int32 → Int32 → DD → LL → Prop
  | 0 => fun _ _ _ _ _ _ => False
  | k + 1 => fun x1 x2 x3 x4 d dl => (6 ≤ x4 → Q (-1) d dl) ∧ (¬ 6 ≤ x4 → b_X7_readWord_18 n Q (b_X7_readWord_5 n Q k) n x1 x2 x3 x4 0 x1 d dl)
def F_X7_readWord (n : Nat) (x1 : Int32) (x2 : Int32) (d : DD) (dl : LL) (Q : Int32 → DD → LL → Prop) : Prop := b_X7_readWord_5 n Q n x1 x2 (-1) 0 d dl
set_option maxHeartbeats 4000000 in
set_option maxRecDepth 100000 in
theorem t_X7_readWord_88 {g : Ex} {x : Fx} {n : Nat} {Q : Int32 → DD → LL → Prop} (C0 : Cx g x cX7_readWord 7 (some .int) RX7 5 107) (hZ : Zi g x Q) {K5 : Int32 → Int32 → Int32 → Int32 → DD → LL → Prop} (hK5 : ∀ (x1 : Int32) (x2 : Int32) (x3 : Int32) (x4 : Int32) (d : DD) (dl : LL), K5 x1 x2 x3 x4 d dl → FW g x 7 d dl 5 [(0, rf g 24), (1, .int x1), (2, .int x2), (3, .int x3), (4, .int x4)] []) : ∀ (j : Nat) (x1 : Int32) (x2 : Int32) (x3 : Int32) (x4 : Int32) (x6 : Int32) (d : DD) (dl : LL), b_X7_readWord_88 n Q K5 j x1 x2 x3 x4 x6 d dl → FW g x 7 d dl 88 [(0, rf g 24), (1, .int x1), (2, .int x2), (3, .int x3), (4, .int x4), (6, .int x6)] [] := by
  intro j
  induction j with
  | zero =>
    intro x1 x2 x3 x4 x6 d dl hw
    exact hw.elim
  | succ j hK88 =>
    intro x1 x2 x3 x4 x6 d dl hw
    refine f_iload C0 dX7_readWord_88 5 rfl ?_
    refine f_iload_n C0 dX7_readWord_90 rfl 2 rfl ?_
    refine f_icmp_gt (tgt := 127) C0 dX7_readWord_91 (by decide) (fun h5 => ?_) (fun h5 => ?_)
    · have hw := hw.1 h5
      refine f_iinc (lo' := [(4, .int (x4 + 1)), (0, rf g 24), (1, .int x1), (2, .int x2), (3, .int x3), (6, .int x6)]) C0 dX7_readWord_127 4 rfl rfl (by decide) rfl ?_
      refine f_goto (tgt := 5) C0 dX7_readWord_130 (by decide) ?_
      refine f_sub [1, 2, 3, 4, 0] rfl ?_
      exact hK5 _ _ _ _ _ _ hw
    · have hw := hw.2 h5
      refine f_iload_n C0 dX7_readWord_94 rfl 3 rfl ?_
      refine f_iload C0 dX7_readWord_95 5 rfl ?_
      refine f_iushr C0 dX7_readWord_97 ?_
      refine f_iconst (v := 1) C0 dX7_readWord_98 rfl ?_
      refine f_iand C0 dX7_readWord_99 ?_
      refine f_if_eq (tgt := 121) C0 dX7_readWord_100 (by decide) (fun h6 => ?_) (fun h6 => ?_)
      · have hw := hw.1 h6
        refine f_iinc (lo' := [(6, .int (x6 + 1)), (0, rf g 24), (1, .int x1), (2, .int x2), (3, .int x3), (4, .int x4)]) C0 dX7_readWord_121 5 rfl rfl (by decide) rfl ?_
        refine f_goto (tgt := 88) C0 dX7_readWord_124 (by decide) ?_
        refine f_sub [1, 2, 3, 4, 5, 0] rfl ?_
        exact hK88 _ _ _ _ _ _ _ hw
      · have hw := hw.2 h6
        refine f_iload C0 dX7_readWord_103 5 rfl ?_
        refine f_callSr (As := [.int x6]) (rest := []) C0 (m_X7_wordOf hw) cw_X7_74  ⟨(Nat.le_of_ble_eq_true rfl), (Nat.le_of_ble_eq_true rfl)⟩ rfl rfl (Nat.le_of_ble_eq_true rfl) dX7_readWord_105 ?_
        intro r7 d8 l9 hw
        obtain ⟨hr7, hw⟩ := hw
        refine f_callTi (As := []) (rest := []) C0 (m_J0_length_8abf5 hr7 hw) cw_X7_82 hr7 rfl ⟨(Nat.le_of_ble_eq_true rfl), (Nat.le_of_ble_eq_true rfl)⟩ rfl rfl (Nat.le_of_ble_eq_true rfl) dX7_readWord_108 ?_
        intro r10 d11 l12 hw
        refine f_iload C0 dX7_readWord_111 4 rfl ?_
        refine f_iconst (v := 1) C0 dX7_readWord_113 rfl ?_
        refine f_iadd C0 dX7_readWord_114 ?_
        refine f_icmp_ne (tgt := 121) C0 dX7_readWord_115 (by decide) (fun h13 => ?_) (fun h13 => ?_)
        · have hw := hw.1 h13
          refine f_iinc (lo' := [(6, .int (x6 + 1)), (0, rf g 24), (1, .int x1), (2, .int x2), (3, .int x3), (4, .int x4)]) C0 dX7_readWord_121 5 rfl rfl (by decide) rfl ?_
          refine f_goto (tgt := 88) C0 dX7_readWord_124 (by decide) ?_
          refine f_sub [1, 2, 3, 4, 5, 0] rfl ?_
          exact hK88 _ _ _ _ _ _ _ hw
        · have hw := hw.2 h13
          refine f_iload C0 dX7_readWord_118 5 rfl ?_
          exact f_iret C0 hZ hw dX7_readWord_120
set_option maxHeartbeats 4000000 in
set_option maxRecDepth 100000 in
theorem t_X7_readWord_18 {g : Ex} {x : Fx} {n : Nat} {Q : Int32 → DD → LL → Prop} (C0 : Cx g x cX7_readWord 7 (some .int) RX7 5 107) (hZ : Zi g x Q) {K5 : Int32 → Int32 → Int32 → Int32 → DD → LL → Prop} (hK5 : ∀ (x1 : Int32) (x2 : Int32) (x3 : Int32) (x4 : Int32) (d : DD) (dl : LL), K5 x1 x2 x3 x4 d dl → FW g x 7 d dl 5 [(0, rf g 24), (1, .int x1), (2, .int x2), (3, .int x3), (4, .int x4)] []) : ∀ (j : Nat) (x1 : Int32) (x2 : Int32) (x3 : Int32) (x4 : Int32) (x5 : Int32) (x6 : Int32) (d : DD) (dl : LL), b_X7_readWord_18 n Q K5 j x1 x2 x3 x4 x5 x6 d dl → FW g x 7 d dl 18 [(0, rf g 24), (1, .int x1), (2, .int x2), (3, .int x3), (4, .int x4), (5, .int x5), (6, .int x6)] [] := by
  intro j
  induction j with
  | zero =>
    intro x1 x2 x3 x4 x5 x6 d dl hw
    exact hw.elim
  | succ j hK18 =>
    intro x1 x2 x3 x4 x5 x6 d dl hw
    refine f_iload C0 dX7_readWord_18 6 rfl ?_
    refine f_iload_n C0 dX7_readWord_20 rfl 2 rfl ?_
    refine f_icmp_gt (tgt := 65) C0 dX7_readWord_21 (by decide) (fun h2 => ?_) (fun h2 => ?_)
    · have hw := hw.1 h2
      refine f_iload C0 dX7_readWord_65 5 rfl ?_
      refine f_if_ne (tgt := 72) C0 dX7_readWord_67 (by decide) (fun h3 => ?_) (fun h3 => ?_)
      · have hw := hw.1 h3
        refine f_aload_n C0 dX7_readWord_72 rfl 0 rfl ⟨_, rfl⟩ ?_
        refine f_dup C0 dX7_readWord_73 rfl ?_
        refine gf_7_1 C0 kn_24 mw_204 dX7_readWord_74 ?_
        refine f_iconst (v := 1) C0 dX7_readWord_77 rfl ?_
        refine f_iadd C0 dX7_readWord_78 ?_
        refine pf_7_1 C0 kn_24 mw_204 dX7_readWord_79 (fun d4 ed4 => ?_)
        have hw := hw d4 ed4
        refine f_iload C0 dX7_readWord_82 5 rfl ?_
        refine f_istore_n (lo' := [(3, .int x5), (0, rf g 24), (1, .int x1), (2, .int x2), (4, .int x4), (5, .int x5), (6, .int x6)]) C0 dX7_readWord_84 rfl (by decide) rfl ?_
        refine f_iload_n C0 dX7_readWord_85 rfl 2 rfl ?_
        refine f_istore (lo' := [(6, .int x1), (3, .int x5), (0, rf g 24), (1, .int x1), (2, .int x2), (4, .int x4), (5, .int x5)]) C0 dX7_readWord_86 (by decide) rfl ?_
        refine f_sub [2, 3, 4, 1, 5, 0] rfl ?_
        exact t_X7_readWord_88 C0 hZ hK5 n _ _ _ _ _ _ _ hw
      · have hw := hw.2 h3
        refine f_iconst (v := (-1)) C0 dX7_readWord_70 rfl ?_
        exact f_iret C0 hZ hw dX7_readWord_71
    · have hw := hw.2 h2
      refine f_iload_n C0 dX7_readWord_24 rfl 3 rfl ?_
      refine f_iload C0 dX7_readWord_25 6 rfl ?_
      refine f_iushr C0 dX7_readWord_27 ?_
      refine f_iconst (v := 1) C0 dX7_readWord_28 rfl ?_
      refine f_iand C0 dX7_readWord_29 ?_
      refine f_if_eq (tgt := 59) C0 dX7_readWord_30 (by decide) (fun h14 => ?_) (fun h14 => ?_)
      · have hw := hw.1 h14
        refine f_iinc (lo' := [(6, .int (x6 + 1)), (0, rf g 24), (1, .int x1), (2, .int x2), (3, .int x3), (4, .int x4), (5, .int x5)]) C0 dX7_readWord_59 6 rfl rfl (by decide) rfl ?_
        refine f_goto (tgt := 18) C0 dX7_readWord_62 (by decide) ?_
        refine f_sub [1, 2, 3, 4, 5, 6, 0] rfl ?_
        exact hK18 _ _ _ _ _ _ _ _ hw
      · have hw := hw.2 h14
        refine f_iload C0 dX7_readWord_33 6 rfl ?_
        refine f_callSr (As := [.int x6]) (rest := []) C0 (m_X7_wordOf hw) cw_X7_74  ⟨(Nat.le_of_ble_eq_true rfl), (Nat.le_of_ble_eq_true rfl)⟩ rfl rfl (Nat.le_of_ble_eq_true rfl) dX7_readWord_35 ?_
        intro r15 d16 l17 hw
        obtain ⟨hr15, hw⟩ := hw
        refine f_iload C0 dX7_readWord_38 4 rfl ?_
        refine f_aload_n C0 dX7_readWord_40 rfl 0 rfl ⟨_, rfl⟩ ?_
        refine f_callVi (As := []) (rest := [.int x4, rs g r15]) C0 (m_X7_peek hw) cw_X7_60 kn_24 (by decide) rfl rfl ⟨(Nat.le_of_ble_eq_true rfl), (Nat.le_of_ble_eq_true rfl)⟩ rfl rfl (Nat.le_of_ble_eq_true rfl) dX7_readWord_41 ?_
        intro r18 d19 l20 hw
        refine f_callSi (As := [rs g r15, .int x4, .int r18]) (rest := []) C0 (m_X7_hasSign hr15 hw) cw_X7_78  ⟨(Nat.le_of_ble_eq_true rfl), (Nat.le_of_ble_eq_true rfl)⟩ rfl rfl (Nat.le_of_ble_eq_true rfl) dX7_readWord_44 ?_
        intro r21 d22 l23 hw
        refine f_if_eq (tgt := 59) C0 dX7_readWord_47 (by decide) (fun h24 => ?_) (fun h24 => ?_)
        · have hw := hw.1 h24
          refine f_iinc (lo' := [(6, .int (x6 + 1)), (0, rf g 24), (1, .int x1), (2, .int x2), (3, .int x3), (4, .int x4), (5, .int x5)]) C0 dX7_readWord_59 6 rfl rfl (by decide) rfl ?_
          refine f_goto (tgt := 18) C0 dX7_readWord_62 (by decide) ?_
          refine f_sub [1, 2, 3, 4, 5, 6, 0] rfl ?_
          exact hK18 _ _ _ _ _ _ _ _ hw
        · have hw := hw.2 h24
          refine f_iload C0 dX7_readWord_50 5 rfl ?_
          refine f_iconst (v := 1) C0 dX7_readWord_52 rfl ?_
          refine f_iload C0 dX7_readWord_53 6 rfl ?_
          refine f_ishl C0 dX7_readWord_55 ?_
          refine f_ior C0 dX7_readWord_56 ?_
          refine f_topi (fun v25 e25 => ?_)
          have hw := hw v25 e25
          refine f_istore (lo' := [(5, .int v25), (0, rf g 24), (1, .int x1), (2, .int x2), (3, .int x3), (4, .int x4), (6, .int x6)]) C0 dX7_readWord_57 (by decide) rfl ?_
          refine f_iinc (lo' := [(6, .int (x6 + 1)), (5, .int v25), (0, rf g 24), (1, .int x1), (2, .int x2), (3, .int x3), (4, .int x4)]) C0 dX7_readWord_59 6 rfl rfl (by decide) rfl ?_
          refine f_goto (tgt := 18) C0 dX7_readWord_62 (by decide) ?_
          refine f_sub [2, 3, 4, 5, 6, 1, 0] rfl ?_
          exact hK18 _ _ _ _ _ _ _ _ hw
set_option maxHeartbeats 4000000 in
set_option maxRecDepth 100000 in
theorem t_X7_readWord_5 {g : Ex} {x : Fx} {n : Nat} {Q : Int32 → DD → LL → Prop} (C0 : Cx g x cX7_readWord 7 (some .int) RX7 5 107) (hZ : Zi g x Q) : ∀ (j : Nat) (x1 : Int32) (x2 : Int32) (x3 : Int32) (x4 : Int32) (d : DD) (dl : LL), b_X7_readWord_5 n Q j x1 x2 x3 x4 d dl → FW g x 7 d dl 5 [(0, rf g 24), (1, .int x1), (2, .int x2), (3, .int x3), (4, .int x4)] [] := by
  intro j
  induction j with
  | zero =>
    intro x1 x2 x3 x4 d dl hw
    exact hw.elim
  | succ j hK5 =>
    intro x1 x2 x3 x4 d dl hw
    refine f_iload C0 dX7_readWord_5 4 rfl ?_
    refine f_bipush (v := 6) C0 dX7_readWord_7 rfl ?_
    refine f_icmp_ge (tgt := 133) C0 dX7_readWord_9 (by decide) (fun h1 => ?_) (fun h1 => ?_)
    · have hw := hw.1 h1
      refine f_iconst (v := (-1)) C0 dX7_readWord_133 rfl ?_
      exact f_iret C0 hZ hw dX7_readWord_134
    · have hw := hw.2 h1
      refine f_iconst (v := 0) C0 dX7_readWord_12 rfl ?_
      refine f_istore (lo' := [(5, .int 0), (0, rf g 24), (1, .int x1), (2, .int x2), (3, .int x3), (4, .int x4)]) C0 dX7_readWord_13 (by decide) rfl ?_
      refine f_iload_n C0 dX7_readWord_15 rfl 2 rfl ?_
      refine f_istore (lo' := [(6, .int x1), (5, .int 0), (0, rf g 24), (1, .int x1), (2, .int x2), (3, .int x3), (4, .int x4)]) C0 dX7_readWord_16 (by decide) rfl ?_
      refine f_sub [2, 3, 4, 5, 6, 1, 0] rfl ?_
      exact t_X7_readWord_18 C0 hZ hK5 n _ _ _ _ _ _ _ _ hw
set_option maxHeartbeats 4000000 in
set_option maxRecDepth 100000 in
theorem m_X7_readWord {g : Ex} {n : Nat} {x1 : Int32} {x2 : Int32} {d : DD} {dl : LL} {Q : Int32 → DD → LL → Prop} (hw : F_X7_readWord n x1 x2 d dl Q) : Mi g yX7_readWord cX7_readWord 7 (some .int) 5 107 [rf g 24, .int x1, .int x2] d dl Q := by
  refine Mi.of (by decide) (Nat.le_of_ble_eq_true rfl) (fun x C0 hZ => ?_)
  have C0 : Cx g x cX7_readWord 7 (some .int) RX7 5 107 := C0
  refine f_iconst (v := (-1)) C0 dX7_readWord_0 rfl ?_
  refine f_istore_n (lo' := [(3, .int (-1)), (0, rf g 24), (1, .int x1), (2, .int x2)]) C0 dX7_readWord_1 rfl (by decide) rfl ?_
  refine f_iconst (v := 0) C0 dX7_readWord_2 rfl ?_
  refine f_istore (lo' := [(4, .int 0), (3, .int (-1)), (0, rf g 24), (1, .int x1), (2, .int x2)]) C0 dX7_readWord_3 (by decide) rfl ?_
  refine f_sub [2, 3, 4, 1, 0] rfl ?_
  exact t_X7_readWord_5 C0 hZ n _ _ _ _ _ _ hw
def F_X7_readBlank (n : Nat) (d : DD) (dl : LL) (Q : Int32 → DD → LL → Prop) : Prop := F_X7_peek n d dl (fun r1 d2 l3 => (r1 = 32 → ∀ d5 : DD, d5 = u2 d2 24 1 ((d2 24 1) + 1) → Q 1 d5 l3) ∧ (¬ r1 = 32 → Q 0 d2 l3))
set_option maxHeartbeats 4000000 in
set_option maxRecDepth 100000 in
theorem m_X7_readBlank {g : Ex} {n : Nat} {d : DD} {dl : LL} {Q : Int32 → DD → LL → Prop} (hw : F_X7_readBlank n d dl Q) : Mi g yX7_readBlank cX7_readBlank 1 (some .boolean) 1 20 [rf g 24] d dl Q := by
  refine Mi.of (by decide) (Nat.le_of_ble_eq_true rfl) (fun x C0 hZ => ?_)
  have C0 : Cx g x cX7_readBlank 1 (some .boolean) RX7 1 20 := C0
  refine f_aload_n C0 dX7_readBlank_0 rfl 0 rfl ⟨_, rfl⟩ ?_
  refine f_callVi (As := []) (rest := []) C0 (m_X7_peek hw) cw_X7_60 kn_24 (by decide) rfl rfl ⟨(Nat.le_of_ble_eq_true rfl), (Nat.le_of_ble_eq_true rfl)⟩ rfl rfl (Nat.le_of_ble_eq_true rfl) dX7_readBlank_1 ?_
  intro r1 d2 l3 hw
  refine f_bipush (v := 32) C0 dX7_readBlank_4 rfl ?_
  refine f_icmp_eq (tgt := 11) C0 dX7_readBlank_6 (by decide) (fun h4 => ?_) (fun h4 => ?_)
  · have hw := hw.1 h4
    refine f_aload_n C0 dX7_readBlank_11 rfl 0 rfl ⟨_, rfl⟩ ?_
    refine f_dup C0 dX7_readBlank_12 rfl ?_
    refine gf_7_1 C0 kn_24 mw_204 dX7_readBlank_13 ?_
    refine f_iconst (v := 1) C0 dX7_readBlank_16 rfl ?_
    refine f_iadd C0 dX7_readBlank_17 ?_
    refine pf_7_1 C0 kn_24 mw_204 dX7_readBlank_18 (fun d5 ed5 => ?_)
    have hw := hw d5 ed5
    refine f_iconst (v := 1) C0 dX7_readBlank_21 rfl ?_
    exact f_zret C0 hZ (by decide) hw dX7_readBlank_22
  · have hw := hw.2 h4
    refine f_iconst (v := 0) C0 dX7_readBlank_9 rfl ?_
    exact f_zret C0 hZ (by decide) hw dX7_readBlank_10
def b_X7_readSign_25 (n : Nat) (Q : Int32 → DD → LL → Prop) (k1 : Nat) (x2 : Int32) (x3 : Int32) (d : DD) (dl : LL) : Prop := vp_in x2 8 ∧ ∀ d6 : DD, d6 = u2 d (58 + 6 * k1) x2.toNatClampNeg x3 → ∀ d7 : DD, d7 = u2 d6 24 1 ((d6 24 1) + 1) → Q 1 d7 dl
def F_X7_readSign (n : Nat) (k1 : Nat) (x2 : Int32) (d : DD) (dl : LL) (Q : Int32 → DD → LL → Prop) : Prop := F_X7_peek n d dl (fun r1 d2 l3 => (r1 = 60 → b_X7_readSign_25 n Q k1 x2 r1 d2 l3) ∧ (¬ r1 = 60 → (r1 = 61 → b_X7_readSign_25 n Q k1 x2 r1 d2 l3) ∧ (¬ r1 = 61 → (r1 = 62 → b_X7_readSign_25 n Q k1 x2 r1 d2 l3) ∧ (¬ r1 = 62 → Q 0 d2 l3))))
set_option maxHeartbeats 4000000 in
set_option maxRecDepth 100000 in
theorem t_X7_readSign_25 {g : Ex} {x : Fx} {n : Nat} {Q : Int32 → DD → LL → Prop} (C0 : Cx g x cX7_readSign 4 (some .boolean) RX7 1 20) (hZ : Zi g x Q) : ∀ (k1 : Nat) (x2 : Int32) (x3 : Int32) (hk1 : k1 < 6) (d : DD) (dl : LL), b_X7_readSign_25 n Q k1 x2 x3 d dl → FW g x 4 d dl 25 [(0, rf g 24), (1, rf g (55 + 6 * k1)), (2, .int x2), (3, .int x3)] [] := by
  intro k1 x2 x3 hk1 d dl hw
  refine f_aload_n C0 dX7_readSign_25 rfl 1 rfl ⟨_, rfl⟩ ?_
  refine gf_5_3 (r := (58 + 6 * k1)) C0 (by omega) (kn_rule_0 hk1) mw_314 dX7_readSign_26 ?_
  refine f_iload_n C0 dX7_readSign_29 rfl 2 rfl ?_
  refine f_iload_n C0 dX7_readSign_30 rfl 3 rfl ?_
  obtain ⟨h5, hw⟩ := hw
  refine f_iast C0 (kn_rule_3 hk1) h5 dX7_readSign_31 (fun d6 ed6 => ?_)
  have hw := hw d6 ed6
  refine f_aload_n C0 dX7_readSign_32 rfl 0 rfl ⟨_, rfl⟩ ?_
  refine f_dup C0 dX7_readSign_33 rfl ?_
  refine gf_7_1 C0 kn_24 mw_204 dX7_readSign_34 ?_
  refine f_iconst (v := 1) C0 dX7_readSign_37 rfl ?_
  refine f_iadd C0 dX7_readSign_38 ?_
  refine pf_7_1 C0 kn_24 mw_204 dX7_readSign_39 (fun d7 ed7 => ?_)
  have hw := hw d7 ed7
  refine f_iconst (v := 1) C0 dX7_readSign_42 rfl ?_
  exact f_zret C0 hZ (by decide) hw dX7_readSign_43
set_option maxHeartbeats 4000000 in
set_option maxRecDepth 100000 in
theorem m_X7_readSign {g : Ex} {n : Nat} {k1 : Nat} {x2 : Int32} {d : DD} {dl : LL} {Q : Int32 → DD → LL → Prop} (hk1 : k1 < 6) (hw : F_X7_readSign n k1 x2 d dl Q) : Mi g yX7_readSign cX7_readSign 4 (some .boolean) 1 20 [rf g 24, rf g (55 + 6 * k1), .int x2] d dl Q := by
  refine Mi.of (by decide) (Nat.le_of_ble_eq_true rfl) (fun x C0 hZ => ?_)
  have C0 : Cx g x cX7_readSign 4 (some .boolean) RX7 1 20 := C0
  refine f_aload_n C0 dX7_readSign_0 rfl 0 rfl ⟨_, rfl⟩ ?_
  refine f_callVi (As := []) (rest := []) C0 (m_X7_peek hw) cw_X7_60 kn_24 (by decide) rfl rfl ⟨(Nat.le_of_ble_eq_true rfl), (Nat.le_of_ble_eq_true rfl)⟩ rfl rfl (Nat.le_of_ble_eq_true rfl) dX7_readSign_1 ?_
  intro r1 d2 l3 hw
  refine f_istore_n (lo' := [(3, .int r1), (0, rf g 24), (1, rf g (55 + 6 * k1)), (2, .int x2)]) C0 dX7_readSign_4 rfl (by decide) rfl ?_
  refine f_iload_n C0 dX7_readSign_5 rfl 0 rfl ?_
  refine f_bipush (v := 60) C0 dX7_readSign_6 rfl ?_
  refine f_icmp_eq (tgt := 25) C0 dX7_readSign_8 (by decide) (fun h4 => ?_) (fun h4 => ?_)
  · have hw := hw.1 h4
    refine f_sub [1, 2, 3, 0] rfl ?_
    exact t_X7_readSign_25 C0 hZ _ _ _ hk1 _ _ hw
  · have hw := hw.2 h4
    refine f_iload_n C0 dX7_readSign_11 rfl 0 rfl ?_
    refine f_bipush (v := 61) C0 dX7_readSign_12 rfl ?_
    refine f_icmp_eq (tgt := 25) C0 dX7_readSign_14 (by decide) (fun h8 => ?_) (fun h8 => ?_)
    · have hw := hw.1 h8
      refine f_sub [1, 2, 3, 0] rfl ?_
      exact t_X7_readSign_25 C0 hZ _ _ _ hk1 _ _ hw
    · have hw := hw.2 h8
      refine f_iload_n C0 dX7_readSign_17 rfl 0 rfl ?_
      refine f_bipush (v := 62) C0 dX7_readSign_18 rfl ?_
      refine f_icmp_eq (tgt := 25) C0 dX7_readSign_20 (by decide) (fun h9 => ?_) (fun h9 => ?_)
      · have hw := hw.1 h9
        refine f_sub [1, 2, 3, 0] rfl ?_
        exact t_X7_readSign_25 C0 hZ _ _ _ hk1 _ _ hw
      · have hw := hw.2 h9
        refine f_iconst (v := 0) C0 dX7_readSign_23 rfl ?_
        exact f_zret C0 hZ (by decide) hw dX7_readSign_24
def b_X7_readNumber_54 (n : Nat) (Q : Int32 → DD → LL → Prop) (k1 : Nat) (x2 : Int32) (x3 : Int32) (x4 : Int32) (d : DD) (dl : LL) : Prop := vp_in x2 8 ∧ ∀ d3 : DD, d3 = u2 d (59 + 6 * k1) x2.toNatClampNeg x3 → (x4 ≤ 0 → Q 0 d3 dl) ∧ (¬ x4 ≤ 0 → Q 1 d3 dl)
def b_X7_readNumber_5 (n : Nat) (Q : Int32 → DD → LL → Prop) : Nat → Nat → Int32 → Int32 → Int32 → DD → LL → Prop
  | 0 => fun _ _ _ _ _ _ => False
  | k + 1 => fun k1 x2 x3 x4 d dl => (4 ≤ x4 → b_X7_readNumber_54 n Q k1 x2 x3 x4 d dl) ∧ (¬ 4 ≤ x4 → F_X7_peek n d dl (fun r5 d6 l7 => F_X9_within n r5 48 57 d6 l7 (fun r8 d9 l10 => (r8 = 0 → b_X7_readNumber_54 n Q k1 x2 x3 x4 d9 l10) ∧ (¬ r8 = 0 → F_X7_peek n d9 l10 (fun r12 d13 l14 => ∀ v15 : Int32, v15 = (((10 : Int32) * x3) + (r12 - 48)) → ∀ d16 : DD, d16 = u2 d13 24 1 ((d13 24 1) + 1) → (b_X7_readNumber_5 n Q k) k1 x2 v15 (x4 + 1) d16 l14)))))
def F_X7_readNumber (n : Nat) (k1 : Nat) (x2 : Int32) (d : DD) (dl : LL) (Q : Int32 → DD → LL → Prop) : Prop := b_X7_readNumber_5 n Q n k1 x2 0 0 d dl
set_option maxHeartbeats 4000000 in
set_option maxRecDepth 100000 in
theorem t_X7_readNumber_54 {g : Ex} {x : Fx} {n : Nat} {Q : Int32 → DD → LL → Prop} (C0 : Cx g x cX7_readNumber 5 (some .boolean) RX7 1 22) (hZ : Zi g x Q) : ∀ (k1 : Nat) (x2 : Int32) (x3 : Int32) (x4 : Int32) (hk1 : k1 < 6) (d : DD) (dl : LL), b_X7_readNumber_54 n Q k1 x2 x3 x4 d dl → FW g x 5 d dl 54 [(1, rf g (55 + 6 * k1)), (2, .int x2), (3, .int x3), (4, .int x4)] [] := by
  intro k1 x2 x3 x4 hk1 d dl hw
  refine f_aload_n C0 dX7_readNumber_54 rfl 0 rfl ⟨_, rfl⟩ ?_
  refine gf_5_4 (r := (59 + 6 * k1)) C0 (by omega) (kn_rule_0 hk1) mw_316 dX7_readNumber_55 ?_
  refine f_iload_n C0 dX7_readNumber_58 rfl 1 rfl ?_
  refine f_iload_n C0 dX7_readNumber_59 rfl 2 rfl ?_
  obtain ⟨h2, hw⟩ := hw
  refine f_iast C0 (kn_rule_4 hk1) h2 dX7_readNumber_60 (fun d3 ed3 => ?_)
  have hw := hw d3 ed3
  refine f_iload C0 dX7_readNumber_61 3 rfl ?_
  refine f_if_le (tgt := 70) C0 dX7_readNumber_63 (by decide) (fun h4 => ?_) (fun h4 => ?_)
  · have hw := hw.1 h4
    refine f_iconst (v := 0) C0 dX7_readNumber_70 rfl ?_
    exact f_zret C0 hZ (by decide) hw dX7_readNumber_71
  · have hw := hw.2 h4
    refine f_iconst (v := 1) C0 dX7_readNumber_66 rfl ?_
    refine f_goto (tgt := 71) C0 dX7_readNumber_67 (by decide) ?_
    exact f_zret C0 hZ (by decide) hw dX7_readNumber_71
set_option maxHeartbeats 4000000 in
set_option maxRecDepth 100000 in
theorem t_X7_readNumber_5 {g : Ex} {x : Fx} {n : Nat} {Q : Int32 → DD → LL → Prop} (C0 : Cx g x cX7_readNumber 5 (some .boolean) RX7 1 22) (hZ : Zi g x Q) : ∀ (j : Nat) (k1 : Nat) (x2 : Int32) (x3 : Int32) (x4 : Int32) (hk1 : k1 < 6) (d : DD) (dl : LL), b_X7_readNumber_5 n Q j k1 x2 x3 x4 d dl → FW g x 5 d dl 5 [(0, rf g 24), (1, rf g (55 + 6 * k1)), (2, .int x2), (3, .int x3), (4, .int x4)] [] := by
  intro j
  induction j with
  | zero =>
    intro k1 x2 x3 x4 hk1 d dl hw
    exact hw.elim
  | succ j hK5 =>
    intro k1 x2 x3 x4 hk1 d dl hw
    refine f_iload C0 dX7_readNumber_5 4 rfl ?_
    refine f_iconst (v := 4) C0 dX7_readNumber_7 rfl ?_
    refine f_icmp_ge (tgt := 54) C0 dX7_readNumber_8 (by decide) (fun h1 => ?_) (fun h1 => ?_)
    · have hw := hw.1 h1
      refine f_sub [1, 2, 3, 4] rfl ?_
      exact t_X7_readNumber_54 C0 hZ _ _ _ _ hk1 _ _ hw
    · have hw := hw.2 h1
      refine f_aload_n C0 dX7_readNumber_11 rfl 0 rfl ⟨_, rfl⟩ ?_
      refine f_callVi (As := []) (rest := []) C0 (m_X7_peek hw) cw_X7_60 kn_24 (by decide) rfl rfl ⟨(Nat.le_of_ble_eq_true rfl), (Nat.le_of_ble_eq_true rfl)⟩ rfl rfl (Nat.le_of_ble_eq_true rfl) dX7_readNumber_12 ?_
      intro r5 d6 l7 hw
      refine f_bipush (v := 48) C0 dX7_readNumber_15 rfl ?_
      refine f_bipush (v := 57) C0 dX7_readNumber_17 rfl ?_
      refine f_callNi (As := [.int r5, .int 48, .int 57]) (rest := []) C0 (m_X9_within hw) cw_X7_67 (fun U h => h.2.1) ⟨(Nat.le_of_ble_eq_true rfl), (Nat.le_of_ble_eq_true rfl)⟩ rfl rfl (Nat.le_of_ble_eq_true rfl) dX7_readNumber_19 ?_
      intro r8 d9 l10 hw
      refine f_if_eq (tgt := 54) C0 dX7_readNumber_22 (by decide) (fun h11 => ?_) (fun h11 => ?_)
      · have hw := hw.1 h11
        refine f_sub [1, 2, 3, 4] rfl ?_
        exact t_X7_readNumber_54 C0 hZ _ _ _ _ hk1 _ _ hw
      · have hw := hw.2 h11
        refine f_bipush (v := 10) C0 dX7_readNumber_25 rfl ?_
        refine f_iload_n C0 dX7_readNumber_27 rfl 3 rfl ?_
        refine f_imul C0 dX7_readNumber_28 ?_
        refine f_aload_n C0 dX7_readNumber_29 rfl 0 rfl ⟨_, rfl⟩ ?_
        refine f_callVi (As := []) (rest := [.int ((10 : Int32) * x3)]) C0 (m_X7_peek hw) cw_X7_60 kn_24 (by decide) rfl rfl ⟨(Nat.le_of_ble_eq_true rfl), (Nat.le_of_ble_eq_true rfl)⟩ rfl rfl (Nat.le_of_ble_eq_true rfl) dX7_readNumber_30 ?_
        intro r12 d13 l14 hw
        refine f_bipush (v := 48) C0 dX7_readNumber_33 rfl ?_
        refine f_isub C0 dX7_readNumber_35 ?_
        refine f_iadd C0 dX7_readNumber_36 ?_
        refine f_topi (fun v15 e15 => ?_)
        have hw := hw v15 e15
        refine f_istore_n (lo' := [(3, .int v15), (0, rf g 24), (1, rf g (55 + 6 * k1)), (2, .int x2), (4, .int x4)]) C0 dX7_readNumber_37 rfl (by decide) rfl ?_
        refine f_iinc (lo' := [(4, .int (x4 + 1)), (3, .int v15), (0, rf g 24), (1, rf g (55 + 6 * k1)), (2, .int x2)]) C0 dX7_readNumber_38 4 rfl rfl (by decide) rfl ?_
        refine f_aload_n C0 dX7_readNumber_41 rfl 2 rfl ⟨_, rfl⟩ ?_
        refine f_dup C0 dX7_readNumber_42 rfl ?_
        refine gf_7_1 C0 kn_24 mw_204 dX7_readNumber_43 ?_
        refine f_iconst (v := 1) C0 dX7_readNumber_46 rfl ?_
        refine f_iadd C0 dX7_readNumber_47 ?_
        refine pf_7_1 C0 kn_24 mw_204 dX7_readNumber_48 (fun d16 ed16 => ?_)
        have hw := hw d16 ed16
        refine f_goto (tgt := 5) C0 dX7_readNumber_51 (by decide) ?_
        refine f_sub [2, 3, 4, 1, 0] rfl ?_
        exact hK5 _ _ _ _ hk1 _ _ hw
set_option maxHeartbeats 4000000 in
set_option maxRecDepth 100000 in
theorem m_X7_readNumber {g : Ex} {n : Nat} {k1 : Nat} {x2 : Int32} {d : DD} {dl : LL} {Q : Int32 → DD → LL → Prop} (hk1 : k1 < 6) (hw : F_X7_readNumber n k1 x2 d dl Q) : Mi g yX7_readNumber cX7_readNumber 5 (some .boolean) 1 22 [rf g 24, rf g (55 + 6 * k1), .int x2] d dl Q := by
  refine Mi.of (by decide) (Nat.le_of_ble_eq_true rfl) (fun x C0 hZ => ?_)
  have C0 : Cx g x cX7_readNumber 5 (some .boolean) RX7 1 22 := C0
  refine f_iconst (v := 0) C0 dX7_readNumber_0 rfl ?_
  refine f_istore_n (lo' := [(3, .int 0), (0, rf g 24), (1, rf g (55 + 6 * k1)), (2, .int x2)]) C0 dX7_readNumber_1 rfl (by decide) rfl ?_
  refine f_iconst (v := 0) C0 dX7_readNumber_2 rfl ?_
  refine f_istore (lo' := [(4, .int 0), (3, .int 0), (0, rf g 24), (1, rf g (55 + 6 * k1)), (2, .int x2)]) C0 dX7_readNumber_3 (by decide) rfl ?_
  refine f_sub [2, 3, 4, 1, 0] rfl ?_
  exact t_X7_readNumber_5 C0 hZ n _ _ _ _ hk1 _ _ hw
def b_X7_readTest_49 (n : Nat) (Q : Int32 → DD → LL → Prop) (k1 : Nat) (x2 : Int32) (x3 : Int32) (d : DD) (dl : LL) : Prop := (¬ x3 = (-1) → vp_in x2 8 ∧ ∀ d10 : DD, d10 = u2 d (57 + 6 * k1) x2.toNatClampNeg x3 → F_X7_readSign n k1 x2 d10 dl (fun r11 d12 l13 => (r11 = 0 → Q 0 d12 l13) ∧ (¬ r11 = 0 → F_X7_readNumber n k1 x2 d12 l13 (fun r15 d16 l17 => (r15 = 0 → Q 0 d16 l17) ∧ (¬ r15 = 0 → Q 1 d16 l17))))) ∧ (x3 = (-1) → Q 0 d dl)
def b_X7_readTest_48 (n : Nat) (Q : Int32 → DD → LL → Prop) (k1 : Nat) (x2 : Int32) (xs0 : Int32) (d : DD) (dl : LL) : Prop := b_X7_readTest_49 n Q k1 x2 xs0 d dl
def b_X7_readTest_24 (n : Nat) (Q : Int32 → DD → LL → Prop) (k1 : Nat) (x2 : Int32) (x3 : Int32) (xs0 : Int32) (xs1 : Int32) (ks2 : Nat) (d : DD) (dl : LL) : Prop := vp_in xs1 8 ∧ ∀ d6 : DD, d6 = u2 d (56 + 6 * ks2) xs1.toNatClampNeg (vp_nar .boolean xs0) → (¬ x3 = 6 → b_X7_readTest_49 n Q k1 x2 x3 d6 dl) ∧ (x3 = 6 → F_X7_readBlank n d6 dl (fun r19 d20 l21 => (r19 = 0 → b_X7_readTest_48 n Q k1 x2 (-1) d20 l21) ∧ (¬ r19 = 0 → F_X7_readWord n 0 5 d20 l21 (fun r23 d24 l25 => b_X7_readTest_48 n Q k1 x2 r23 d24 l25))))
def F_X7_readTest (n : Nat) (k1 : Nat) (x2 : Int32) (d : DD) (dl : LL) (Q : Int32 → DD → LL → Prop) : Prop := F_X7_readWord n 0 6 d dl (fun r1 d2 l3 => (¬ r1 = 6 → b_X7_readTest_24 n Q k1 x2 r1 0 x2 k1 d2 l3) ∧ (r1 = 6 → b_X7_readTest_24 n Q k1 x2 r1 1 x2 k1 d2 l3))
set_option maxHeartbeats 4000000 in
set_option maxRecDepth 100000 in
theorem t_X7_readTest_49 {g : Ex} {x : Fx} {n : Nat} {Q : Int32 → DD → LL → Prop} (C0 : Cx g x cX7_readTest 4 (some .boolean) RX7 6 133) (hZ : Zi g x Q) : ∀ (k1 : Nat) (x2 : Int32) (x3 : Int32) (hk1 : k1 < 6) (d : DD) (dl : LL), b_X7_readTest_49 n Q k1 x2 x3 d dl → FW g x 4 d dl 49 [(0, rf g 24), (1, rf g (55 + 6 * k1)), (2, .int x2), (3, .int x3)] [] := by
  intro k1 x2 x3 hk1 d dl hw
  refine f_iload_n C0 dX7_readTest_49 rfl 3 rfl ?_
  refine f_iconst (v := (-1)) C0 dX7_readTest_50 rfl ?_
  refine f_icmp_ne (tgt := 56) C0 dX7_readTest_51 (by decide) (fun h8 => ?_) (fun h8 => ?_)
  · have hw := hw.1 h8
    refine f_aload_n C0 dX7_readTest_56 rfl 1 rfl ⟨_, rfl⟩ ?_
    refine gf_5_2 (r := (57 + 6 * k1)) C0 (by omega) (kn_rule_0 hk1) mw_312 dX7_readTest_57 ?_
    refine f_iload_n C0 dX7_readTest_60 rfl 2 rfl ?_
    refine f_iload_n C0 dX7_readTest_61 rfl 3 rfl ?_
    obtain ⟨h9, hw⟩ := hw
    refine f_iast C0 (kn_rule_2 hk1) h9 dX7_readTest_62 (fun d10 ed10 => ?_)
    have hw := hw d10 ed10
    refine f_aload_n C0 dX7_readTest_63 rfl 0 rfl ⟨_, rfl⟩ ?_
    refine f_aload_n C0 dX7_readTest_64 rfl 1 rfl ⟨_, rfl⟩ ?_
    refine f_iload_n C0 dX7_readTest_65 rfl 2 rfl ?_
    refine f_callVi (As := [rf g (55 + 6 * k1), .int x2]) (rest := []) C0 (m_X7_readSign hk1 hw) cw_X7_54 kn_24 (by decide) rfl rfl ⟨(Nat.le_of_ble_eq_true rfl), (Nat.le_of_ble_eq_true rfl)⟩ rfl rfl (Nat.le_of_ble_eq_true rfl) dX7_readTest_66 ?_
    intro r11 d12 l13 hw
    refine f_if_eq (tgt := 85) C0 dX7_readTest_69 (by decide) (fun h14 => ?_) (fun h14 => ?_)
    · have hw := hw.1 h14
      refine f_iconst (v := 0) C0 dX7_readTest_85 rfl ?_
      exact f_zret C0 hZ (by decide) hw dX7_readTest_86
    · have hw := hw.2 h14
      refine f_aload_n C0 dX7_readTest_72 rfl 0 rfl ⟨_, rfl⟩ ?_
      refine f_aload_n C0 dX7_readTest_73 rfl 1 rfl ⟨_, rfl⟩ ?_
      refine f_iload_n C0 dX7_readTest_74 rfl 2 rfl ?_
      refine f_callVi (As := [rf g (55 + 6 * k1), .int x2]) (rest := []) C0 (m_X7_readNumber hk1 hw) cw_X7_57 kn_24 (by decide) rfl rfl ⟨(Nat.le_of_ble_eq_true rfl), (Nat.le_of_ble_eq_true rfl)⟩ rfl rfl (Nat.le_of_ble_eq_true rfl) dX7_readTest_75 ?_
      intro r15 d16 l17 hw
      refine f_if_eq (tgt := 85) C0 dX7_readTest_78 (by decide) (fun h18 => ?_) (fun h18 => ?_)
      · have hw := hw.1 h18
        refine f_iconst (v := 0) C0 dX7_readTest_85 rfl ?_
        exact f_zret C0 hZ (by decide) hw dX7_readTest_86
      · have hw := hw.2 h18
        refine f_iconst (v := 1) C0 dX7_readTest_81 rfl ?_
        refine f_goto (tgt := 86) C0 dX7_readTest_82 (by decide) ?_
        exact f_zret C0 hZ (by decide) hw dX7_readTest_86
  · have hw := hw.2 h8
    refine f_iconst (v := 0) C0 dX7_readTest_54 rfl ?_
    exact f_zret C0 hZ (by decide) hw dX7_readTest_55
set_option maxHeartbeats 4000000 in
set_option maxRecDepth 100000 in
theorem t_X7_readTest_48 {g : Ex} {x : Fx} {n : Nat} {Q : Int32 → DD → LL → Prop} (C0 : Cx g x cX7_readTest 4 (some .boolean) RX7 6 133) (hZ : Zi g x Q) : ∀ (k1 : Nat) (x2 : Int32) (xs0 : Int32) (hk1 : k1 < 6) (d : DD) (dl : LL), b_X7_readTest_48 n Q k1 x2 xs0 d dl → FW g x 4 d dl 48 [(0, rf g 24), (1, rf g (55 + 6 * k1)), (2, .int x2)] [.int xs0] := by
  intro k1 x2 xs0 hk1 d dl hw
  refine f_istore_n (lo' := [(3, .int xs0), (0, rf g 24), (1, rf g (55 + 6 * k1)), (2, .int x2)]) C0 dX7_readTest_48 rfl (by decide) rfl ?_
  refine f_sub [1, 2, 3, 0] rfl ?_
  exact t_X7_readTest_49 C0 hZ _ _ _ hk1 _ _ hw
set_option maxHeartbeats 4000000 in
set_option maxRecDepth 100000 in
theorem t_X7_readTest_24 {g : Ex} {x : Fx} {n : Nat} {Q : Int32 → DD → LL → Prop} (C0 : Cx g x cX7_readTest 4 (some .boolean) RX7 6 133) (hZ : Zi g x Q) : ∀ (k1 : Nat) (x2 : Int32) (x3 : Int32) (xs0 : Int32) (xs1 : Int32) (ks2 : Nat) (hk1 : k1 < 6) (hks2 : ks2 < 6) (d : DD) (dl : LL), b_X7_readTest_24 n Q k1 x2 x3 xs0 xs1 ks2 d dl → FW g x 4 d dl 24 [(0, rf g 24), (1, rf g (55 + 6 * k1)), (2, .int x2), (3, .int x3)] [.int xs0, .int xs1, rf g (56 + 6 * ks2)] := by
  intro k1 x2 x3 xs0 xs1 ks2 hk1 hks2 d dl hw
  obtain ⟨h5, hw⟩ := hw
  refine f_zast C0 (kn_rule_1 hks2) h5 dX7_readTest_24 (fun d6 ed6 => ?_)
  have hw := hw d6 ed6
  refine f_iload_n C0 dX7_readTest_25 rfl 3 rfl ?_
  refine f_bipush (v := 6) C0 dX7_readTest_26 rfl ?_
  refine f_icmp_ne (tgt := 49) C0 dX7_readTest_28 (by decide) (fun h7 => ?_) (fun h7 => ?_)
  · have hw := hw.1 h7
    exact t_X7_readTest_49 C0 hZ _ _ _ hk1 _ _ hw
  · have hw := hw.2 h7
    refine f_aload_n C0 dX7_readTest_31 rfl 0 rfl ⟨_, rfl⟩ ?_
    refine f_callVi (As := []) (rest := []) C0 (m_X7_readBlank hw) cw_X7_40 kn_24 (by decide) rfl rfl ⟨(Nat.le_of_ble_eq_true rfl), (Nat.le_of_ble_eq_true rfl)⟩ rfl rfl (Nat.le_of_ble_eq_true rfl) dX7_readTest_32 ?_
    intro r19 d20 l21 hw
    refine f_if_eq (tgt := 47) C0 dX7_readTest_35 (by decide) (fun h22 => ?_) (fun h22 => ?_)
    · have hw := hw.1 h22
      refine f_iconst (v := (-1)) C0 dX7_readTest_47 rfl ?_
      refine f_sub [0, 1, 2] rfl ?_
      exact t_X7_readTest_48 C0 hZ _ _ _ hk1 _ _ hw
    · have hw := hw.2 h22
      refine f_aload_n C0 dX7_readTest_38 rfl 0 rfl ⟨_, rfl⟩ ?_
      refine f_iconst (v := 0) C0 dX7_readTest_39 rfl ?_
      refine f_iconst (v := 5) C0 dX7_readTest_40 rfl ?_
      refine f_callVi (As := [.int 0, .int 5]) (rest := []) C0 (m_X7_readWord hw) cw_X7_44 kn_24 (by decide) rfl rfl ⟨(Nat.le_of_ble_eq_true rfl), (Nat.le_of_ble_eq_true rfl)⟩ rfl rfl (Nat.le_of_ble_eq_true rfl) dX7_readTest_41 ?_
      intro r23 d24 l25 hw
      refine f_goto (tgt := 48) C0 dX7_readTest_44 (by decide) ?_
      refine f_sub [0, 1, 2] rfl ?_
      exact t_X7_readTest_48 C0 hZ _ _ _ hk1 _ _ hw
set_option maxHeartbeats 4000000 in
set_option maxRecDepth 100000 in
theorem m_X7_readTest {g : Ex} {n : Nat} {k1 : Nat} {x2 : Int32} {d : DD} {dl : LL} {Q : Int32 → DD → LL → Prop} (hk1 : k1 < 6) (hw : F_X7_readTest n k1 x2 d dl Q) : Mi g yX7_readTest cX7_readTest 4 (some .boolean) 6 133 [rf g 24, rf g (55 + 6 * k1), .int x2] d dl Q := by
  refine Mi.of (by decide) (Nat.le_of_ble_eq_true rfl) (fun x C0 hZ => ?_)
  have C0 : Cx g x cX7_readTest 4 (some .boolean) RX7 6 133 := C0
  refine f_aload_n C0 dX7_readTest_0 rfl 0 rfl ⟨_, rfl⟩ ?_
  refine f_iconst (v := 0) C0 dX7_readTest_1 rfl ?_
  refine f_bipush (v := 6) C0 dX7_readTest_2 rfl ?_
  refine f_callVi (As := [.int 0, .int 6]) (rest := []) C0 (m_X7_readWord hw) cw_X7_44 kn_24 (by decide) rfl rfl ⟨(Nat.le_of_ble_eq_true rfl), (Nat.le_of_ble_eq_true rfl)⟩ rfl rfl (Nat.le_of_ble_eq_true rfl) dX7_readTest_4 ?_
  intro r1 d2 l3 hw
  refine f_istore_n (lo' := [(3, .int r1), (0, rf g 24), (1, rf g (55 + 6 * k1)), (2, .int x2)]) C0 dX7_readTest_7 rfl (by decide) rfl ?_
  refine f_aload_n C0 dX7_readTest_8 rfl 2 rfl ⟨_, rfl⟩ ?_
  refine gf_5_1 (r := (56 + 6 * k1)) C0 (by omega) (kn_rule_0 hk1) mw_310 dX7_readTest_9 ?_
  refine f_iload_n C0 dX7_readTest_12 rfl 3 rfl ?_
  refine f_iload_n C0 dX7_readTest_13 rfl 0 rfl ?_
  refine f_bipush (v := 6) C0 dX7_readTest_14 rfl ?_
  refine f_icmp_ne (tgt := 23) C0 dX7_readTest_16 (by decide) (fun h4 => ?_) (fun h4 => ?_)
  · have hw := hw.1 h4
    refine f_iconst (v := 0) C0 dX7_readTest_23 rfl ?_
    refine f_sub [1, 2, 3, 0] rfl ?_
    exact t_X7_readTest_24 C0 hZ _ _ _ _ _ _ hk1 hk1 _ _ hw
  · have hw := hw.2 h4
    refine f_iconst (v := 1) C0 dX7_readTest_19 rfl ?_
    refine f_goto (tgt := 24) C0 dX7_readTest_20 (by decide) ?_
    refine f_sub [1, 2, 3, 0] rfl ?_
    exact t_X7_readTest_24 C0 hZ _ _ _ _ _ _ hk1 hk1 _ _ hw
def b_X7_readJoint_34 (n : Nat) (Q : Int32 → DD → LL → Prop) (x3 : Int32) (xs0 : Int32) (xs1 : Int32) (ks2 : Nat) (d : DD) (dl : LL) : Prop := vp_in xs1 8 ∧ ∀ d10 : DD, d10 = u2 d (60 + 6 * ks2) xs1.toNatClampNeg (vp_nar .boolean xs0) → (x3 = (-1) → Q 0 d10 dl) ∧ (¬ x3 = (-1) → F_X7_readBlank n d10 dl (fun r12 d13 l14 => (r12 = 0 → Q 0 d13 l14) ∧ (¬ r12 = 0 → Q 1 d13 l14)))
def F_X7_readJoint (n : Nat) (k1 : Nat) (x2 : Int32) (d : DD) (dl : LL) (Q : Int32 → DD → LL → Prop) : Prop := F_X7_readBlank n d dl (fun r1 d2 l3 => (¬ r1 = 0 → F_X7_readWord n 7 8 d2 l3 (fun r5 d6 l7 => (¬ r5 = 7 → b_X7_readJoint_34 n Q r5 0 x2 k1 d6 l7) ∧ (r5 = 7 → b_X7_readJoint_34 n Q r5 1 x2 k1 d6 l7))) ∧ (r1 = 0 → Q 0 d2 l3))
set_option maxHeartbeats 4000000 in
set_option maxRecDepth 100000 in
theorem t_X7_readJoint_34 {g : Ex} {x : Fx} {n : Nat} {Q : Int32 → DD → LL → Prop} (C0 : Cx g x cX7_readJoint 4 (some .boolean) RX7 6 133) (hZ : Zi g x Q) : ∀ (x3 : Int32) (xs0 : Int32) (xs1 : Int32) (ks2 : Nat) (hks2 : ks2 < 6) (d : DD) (dl : LL), b_X7_readJoint_34 n Q x3 xs0 xs1 ks2 d dl → FW g x 4 d dl 34 [(0, rf g 24), (3, .int x3)] [.int xs0, .int xs1, rf g (60 + 6 * ks2)] := by
  intro x3 xs0 xs1 ks2 hks2 d dl hw
  obtain ⟨h9, hw⟩ := hw
  refine f_zast C0 (kn_rule_5 hks2) h9 dX7_readJoint_34 (fun d10 ed10 => ?_)
  have hw := hw d10 ed10
  refine f_iload_n C0 dX7_readJoint_35 rfl 1 rfl ?_
  refine f_iconst (v := (-1)) C0 dX7_readJoint_36 rfl ?_
  refine f_icmp_eq (tgt := 51) C0 dX7_readJoint_37 (by decide) (fun h11 => ?_) (fun h11 => ?_)
  · have hw := hw.1 h11
    refine f_iconst (v := 0) C0 dX7_readJoint_51 rfl ?_
    exact f_zret C0 hZ (by decide) hw dX7_readJoint_52
  · have hw := hw.2 h11
    refine f_aload_n C0 dX7_readJoint_40 rfl 0 rfl ⟨_, rfl⟩ ?_
    refine f_callVi (As := []) (rest := []) C0 (m_X7_readBlank hw) cw_X7_40 kn_24 (by decide) rfl rfl ⟨(Nat.le_of_ble_eq_true rfl), (Nat.le_of_ble_eq_true rfl)⟩ rfl rfl (Nat.le_of_ble_eq_true rfl) dX7_readJoint_41 ?_
    intro r12 d13 l14 hw
    refine f_if_eq (tgt := 51) C0 dX7_readJoint_44 (by decide) (fun h15 => ?_) (fun h15 => ?_)
    · have hw := hw.1 h15
      refine f_iconst (v := 0) C0 dX7_readJoint_51 rfl ?_
      exact f_zret C0 hZ (by decide) hw dX7_readJoint_52
    · have hw := hw.2 h15
      refine f_iconst (v := 1) C0 dX7_readJoint_47 rfl ?_
      refine f_goto (tgt := 52) C0 dX7_readJoint_48 (by decide) ?_
      exact f_zret C0 hZ (by decide) hw dX7_readJoint_52
set_option maxHeartbeats 4000000 in
set_option maxRecDepth 100000 in
theorem m_X7_readJoint {g : Ex} {n : Nat} {k1 : Nat} {x2 : Int32} {d : DD} {dl : LL} {Q : Int32 → DD → LL → Prop} (hk1 : k1 < 6) (hw : F_X7_readJoint n k1 x2 d dl Q) : Mi g yX7_readJoint cX7_readJoint 4 (some .boolean) 6 133 [rf g 24, rf g (55 + 6 * k1), .int x2] d dl Q := by
  refine Mi.of (by decide) (Nat.le_of_ble_eq_true rfl) (fun x C0 hZ => ?_)
  have C0 : Cx g x cX7_readJoint 4 (some .boolean) RX7 6 133 := C0
  refine f_aload_n C0 dX7_readJoint_0 rfl 0 rfl ⟨_, rfl⟩ ?_
  refine f_callVi (As := []) (rest := []) C0 (m_X7_readBlank hw) cw_X7_40 kn_24 (by decide) rfl rfl ⟨(Nat.le_of_ble_eq_true rfl), (Nat.le_of_ble_eq_true rfl)⟩ rfl rfl (Nat.le_of_ble_eq_true rfl) dX7_readJoint_1 ?_
  intro r1 d2 l3 hw
  refine f_if_ne (tgt := 9) C0 dX7_readJoint_4 (by decide) (fun h4 => ?_) (fun h4 => ?_)
  · have hw := hw.1 h4
    refine f_aload_n C0 dX7_readJoint_9 rfl 0 rfl ⟨_, rfl⟩ ?_
    refine f_bipush (v := 7) C0 dX7_readJoint_10 rfl ?_
    refine f_bipush (v := 8) C0 dX7_readJoint_12 rfl ?_
    refine f_callVi (As := [.int 7, .int 8]) (rest := []) C0 (m_X7_readWord hw) cw_X7_44 kn_24 (by decide) rfl rfl ⟨(Nat.le_of_ble_eq_true rfl), (Nat.le_of_ble_eq_true rfl)⟩ rfl rfl (Nat.le_of_ble_eq_true rfl) dX7_readJoint_14 ?_
    intro r5 d6 l7 hw
    refine f_istore_n (lo' := [(3, .int r5), (0, rf g 24), (1, rf g (55 + 6 * k1)), (2, .int x2)]) C0 dX7_readJoint_17 rfl (by decide) rfl ?_
    refine f_aload_n C0 dX7_readJoint_18 rfl 2 rfl ⟨_, rfl⟩ ?_
    refine gf_5_5 (r := (60 + 6 * k1)) C0 (by omega) (kn_rule_0 hk1) mw_318 dX7_readJoint_19 ?_
    refine f_iload_n C0 dX7_readJoint_22 rfl 3 rfl ?_
    refine f_iload_n C0 dX7_readJoint_23 rfl 0 rfl ?_
    refine f_bipush (v := 7) C0 dX7_readJoint_24 rfl ?_
    refine f_icmp_ne (tgt := 33) C0 dX7_readJoint_26 (by decide) (fun h8 => ?_) (fun h8 => ?_)
    · have hw := hw.1 h8
      refine f_iconst (v := 0) C0 dX7_readJoint_33 rfl ?_
      refine f_sub [1, 0] rfl ?_
      exact t_X7_readJoint_34 C0 hZ _ _ _ _ hk1 _ _ hw
    · have hw := hw.2 h8
      refine f_iconst (v := 1) C0 dX7_readJoint_29 rfl ?_
      refine f_goto (tgt := 34) C0 dX7_readJoint_30 (by decide) ?_
      refine f_sub [1, 0] rfl ?_
      exact t_X7_readJoint_34 C0 hZ _ _ _ _ hk1 _ _ hw
  · have hw := hw.2 h4
    refine f_iconst (v := 0) C0 dX7_readJoint_7 rfl ?_
    exact f_zret C0 hZ (by decide) hw dX7_readJoint_8
def b_X7_readInto_19 (n : Nat) (Q : Int32 → DD → LL → Prop) : Nat → Nat → Int32 → DD → LL → Prop
  | 0 => fun _ _ _ _ => False
  | k + 1 => fun k1 x2 d dl => (8 ≤ x2 → Q 0 d dl) ∧ (¬ 8 ≤ x2 → F_X7_readTest n k1 x2 d dl (fun r6 d7 l8 => (¬ r6 = 0 → ∀ d10 : DD, d10 = u2 d7 (55 + 6 * k1) 0 (x2 + 1) → ((d10 24 1) < (d10 24 0) → (8 ≤ (x2 + 1) → Q 0 d10 l8) ∧ (¬ 8 ≤ (x2 + 1) → F_X7_readJoint n k1 (x2 + 1) d10 l8 (fun r13 d14 l15 => (¬ r13 = 0 → (b_X7_readInto_19 n Q k) k1 (x2 + 1) d14 l15) ∧ (r13 = 0 → Q 0 d14 l15)))) ∧ (¬ (d10 24 1) < (d10 24 0) → Q 1 d10 l8)) ∧ (r6 = 0 → Q 0 d7 l8)))
def F_X7_readInto (n : Nat) (k1 : Nat) (d : DD) (dl : LL) (Q : Int32 → DD → LL → Prop) : Prop := ∀ d1 : DD, d1 = u2 d 24 1 0 → ∀ d2 : DD, d2 = u2 d1 (55 + 6 * k1) 0 0 → ∀ d4 : DD, d4 = u2 d2 (60 + 6 * k1) (0 : Int32).toNatClampNeg (vp_nar .boolean 0) → b_X7_readInto_19 n Q n k1 0 d4 dl
set_option maxHeartbeats 4000000 in
set_option maxRecDepth 100000 in
theorem t_X7_readInto_19 {g : Ex} {x : Fx} {n : Nat} {Q : Int32 → DD → LL → Prop} (C0 : Cx g x cX7_readInto 3 (some .boolean) RX7 7 156) (hZ : Zi g x Q) : ∀ (j : Nat) (k1 : Nat) (x2 : Int32) (hk1 : k1 < 6) (d : DD) (dl : LL), b_X7_readInto_19 n Q j k1 x2 d dl → FW g x 3 d dl 19 [(0, rf g 24), (1, rf g (55 + 6 * k1)), (2, .int x2)] [] := by
  intro j
  induction j with
  | zero =>
    intro k1 x2 hk1 d dl hw
    exact hw.elim
  | succ j hK19 =>
    intro k1 x2 hk1 d dl hw
    refine f_iload_n C0 dX7_readInto_19 rfl 2 rfl ?_
    refine f_bipush (v := 8) C0 dX7_readInto_20 rfl ?_
    refine f_icmp_ge (tgt := 83) C0 dX7_readInto_22 (by decide) (fun h5 => ?_) (fun h5 => ?_)
    · have hw := hw.1 h5
      refine f_iconst (v := 0) C0 dX7_readInto_83 rfl ?_
      exact f_zret C0 hZ (by decide) hw dX7_readInto_84
    · have hw := hw.2 h5
      refine f_aload_n C0 dX7_readInto_25 rfl 0 rfl ⟨_, rfl⟩ ?_
      refine f_aload_n C0 dX7_readInto_26 rfl 1 rfl ⟨_, rfl⟩ ?_
      refine f_iload_n C0 dX7_readInto_27 rfl 2 rfl ?_
      refine f_callVi (As := [rf g (55 + 6 * k1), .int x2]) (rest := []) C0 (m_X7_readTest hk1 hw) cw_X7_33 kn_24 (by decide) rfl rfl ⟨(Nat.le_of_ble_eq_true rfl), (Nat.le_of_ble_eq_true rfl)⟩ rfl rfl (Nat.le_of_ble_eq_true rfl) dX7_readInto_28 ?_
      intro r6 d7 l8 hw
      refine f_if_ne (tgt := 36) C0 dX7_readInto_31 (by decide) (fun h9 => ?_) (fun h9 => ?_)
      · have hw := hw.1 h9
        refine f_aload_n C0 dX7_readInto_36 rfl 1 rfl ⟨_, rfl⟩ ?_
        refine f_iload_n C0 dX7_readInto_37 rfl 2 rfl ?_
        refine f_iconst (v := 1) C0 dX7_readInto_38 rfl ?_
        refine f_iadd C0 dX7_readInto_39 ?_
        refine pf_5_0 C0 (kn_rule_0 hk1) mw_308 dX7_readInto_40 (fun d10 ed10 => ?_)
        have hw := hw d10 ed10
        refine f_aload_n C0 dX7_readInto_43 rfl 0 rfl ⟨_, rfl⟩ ?_
        refine gf_7_1 C0 kn_24 mw_204 dX7_readInto_44 ?_
        refine f_aload_n C0 dX7_readInto_47 rfl 0 rfl ⟨_, rfl⟩ ?_
        refine gf_7_0 C0 kn_24 mw_202 dX7_readInto_48 ?_
        refine f_icmp_lt (tgt := 56) C0 dX7_readInto_51 (by decide) (fun h11 => ?_) (fun h11 => ?_)
        · have hw := hw.1 h11
          refine f_iload_n C0 dX7_readInto_56 rfl 2 rfl ?_
          refine f_iconst (v := 1) C0 dX7_readInto_57 rfl ?_
          refine f_iadd C0 dX7_readInto_58 ?_
          refine f_bipush (v := 8) C0 dX7_readInto_59 rfl ?_
          refine f_icmp_ge (tgt := 75) C0 dX7_readInto_61 (by decide) (fun h12 => ?_) (fun h12 => ?_)
          · have hw := hw.1 h12
            refine f_iconst (v := 0) C0 dX7_readInto_75 rfl ?_
            exact f_zret C0 hZ (by decide) hw dX7_readInto_76
          · have hw := hw.2 h12
            refine f_aload_n C0 dX7_readInto_64 rfl 0 rfl ⟨_, rfl⟩ ?_
            refine f_aload_n C0 dX7_readInto_65 rfl 1 rfl ⟨_, rfl⟩ ?_
            refine f_iload_n C0 dX7_readInto_66 rfl 2 rfl ?_
            refine f_iconst (v := 1) C0 dX7_readInto_67 rfl ?_
            refine f_iadd C0 dX7_readInto_68 ?_
            refine f_callVi (As := [rf g (55 + 6 * k1), .int (x2 + 1)]) (rest := []) C0 (m_X7_readJoint hk1 hw) cw_X7_37 kn_24 (by decide) rfl rfl ⟨(Nat.le_of_ble_eq_true rfl), (Nat.le_of_ble_eq_true rfl)⟩ rfl rfl (Nat.le_of_ble_eq_true rfl) dX7_readInto_69 ?_
            intro r13 d14 l15 hw
            refine f_if_ne (tgt := 77) C0 dX7_readInto_72 (by decide) (fun h16 => ?_) (fun h16 => ?_)
            · have hw := hw.1 h16
              refine f_iinc (lo' := [(2, .int (x2 + 1)), (0, rf g 24), (1, rf g (55 + 6 * k1))]) C0 dX7_readInto_77 2 rfl rfl (by decide) rfl ?_
              refine f_goto (tgt := 19) C0 dX7_readInto_80 (by decide) ?_
              refine f_sub [1, 2, 0] rfl ?_
              exact hK19 _ _ hk1 _ _ hw
            · have hw := hw.2 h16
              refine f_iconst (v := 0) C0 dX7_readInto_75 rfl ?_
              exact f_zret C0 hZ (by decide) hw dX7_readInto_76
        · have hw := hw.2 h11
          refine f_iconst (v := 1) C0 dX7_readInto_54 rfl ?_
          exact f_zret C0 hZ (by decide) hw dX7_readInto_55
      · have hw := hw.2 h9
        refine f_iconst (v := 0) C0 dX7_readInto_34 rfl ?_
        exact f_zret C0 hZ (by decide) hw dX7_readInto_35
set_option maxHeartbeats 4000000 in
set_option maxRecDepth 100000 in
theorem m_X7_readInto {g : Ex} {n : Nat} {k1 : Nat} {d : DD} {dl : LL} {Q : Int32 → DD → LL → Prop} (hk1 : k1 < 6) (hw : F_X7_readInto n k1 d dl Q) : Mi g yX7_readInto cX7_readInto 3 (some .boolean) 7 156 [rf g 24, rf g (55 + 6 * k1)] d dl Q := by
  refine Mi.of (by decide) (Nat.le_of_ble_eq_true rfl) (fun x C0 hZ => ?_)
  have C0 : Cx g x cX7_readInto 3 (some .boolean) RX7 7 156 := C0
  refine f_aload_n C0 dX7_readInto_0 rfl 0 rfl ⟨_, rfl⟩ ?_
  refine f_iconst (v := 0) C0 dX7_readInto_1 rfl ?_
  refine pf_7_1 C0 kn_24 mw_204 dX7_readInto_2 (fun d1 ed1 => ?_)
  have hw := hw d1 ed1
  refine f_aload_n C0 dX7_readInto_5 rfl 1 rfl ⟨_, rfl⟩ ?_
  refine f_iconst (v := 0) C0 dX7_readInto_6 rfl ?_
  refine pf_5_0 C0 (kn_rule_0 hk1) mw_308 dX7_readInto_7 (fun d2 ed2 => ?_)
  have hw := hw d2 ed2
  refine f_aload_n C0 dX7_readInto_10 rfl 1 rfl ⟨_, rfl⟩ ?_
  refine gf_5_5 (r := (60 + 6 * k1)) C0 (by omega) (kn_rule_0 hk1) mw_318 dX7_readInto_11 ?_
  refine f_iconst (v := 0) C0 dX7_readInto_14 rfl ?_
  refine f_iconst (v := 0) C0 dX7_readInto_15 rfl ?_
  refine f_zast C0 (kn_rule_5 hk1) (by unfold vp_in; decide) dX7_readInto_16 (fun d4 ed4 => ?_)
  have hw := hw d4 ed4
  refine f_iconst (v := 0) C0 dX7_readInto_17 rfl ?_
  refine f_istore_n (lo' := [(2, .int 0), (0, rf g 24), (1, rf g (55 + 6 * k1))]) C0 dX7_readInto_18 rfl (by decide) rfl ?_
  refine f_sub [1, 2, 0] rfl ?_
  exact t_X7_readInto_19 C0 hZ n _ _ hk1 _ _ hw
def F_X9_rule (n : Nat) (d : DD) (dl : LL) (Q : Int32 → DD → LL → Prop) : Prop := ((d 0 7) < 6 → vp_in (d 0 7) 6 ∧ ∀ k3 : Nat, k3 = (d 0 7).toNatClampNeg → F_X7_readInto n k3 d dl (fun r4 d5 l6 => ∀ d7 : DD, d7 = u2 d5 24 0 0 → (¬ r4 = 0 → ∀ d9 : DD, d9 = u2 d7 0 7 ((d7 0 7) + 1) → Q ((d9 0 7) - 1) d9 l6) ∧ (r4 = 0 → Q (((-10) : Int32) - (d7 24 1)) d7 l6))) ∧ (¬ (d 0 7) < 6 → Q (-4) d dl)
set_option maxHeartbeats 4000000 in
set_option maxRecDepth 100000 in
theorem m_X9_rule {g : Ex} {n : Nat} {d : DD} {dl : LL} {Q : Int32 → DD → LL → Prop} (hw : F_X9_rule n d dl Q) : Mi g yX9_rule cX9_rule 2 (some .int) 8 178 [rf g 0] d dl Q := by
  refine Mi.of (by decide) (Nat.le_of_ble_eq_true rfl) (fun x C0 hZ => ?_)
  have C0 : Cx g x cX9_rule 2 (some .int) RX9 8 178 := C0
  refine f_aload_n C0 dX9_rule_0 rfl 0 rfl ⟨_, rfl⟩ ?_
  refine gf_9_7 C0 kn_0 mw_375 dX9_rule_1 ?_
  refine f_bipush (v := 6) C0 dX9_rule_4 rfl ?_
  refine f_icmp_lt (tgt := 12) C0 dX9_rule_6 (by decide) (fun h1 => ?_) (fun h1 => ?_)
  · have hw := hw.1 h1
    refine f_aload_n C0 dX9_rule_12 rfl 0 rfl ⟨_, rfl⟩ ?_
    refine gf_9_5 (r := 24) C0 rfl kn_0 mw_373 dX9_rule_13 ?_
    refine f_aload_n C0 dX9_rule_16 rfl 0 rfl ⟨_, rfl⟩ ?_
    refine gf_9_6 (r := 26) C0 rfl kn_0 mw_374 dX9_rule_17 ?_
    refine f_aload_n C0 dX9_rule_20 rfl 0 rfl ⟨_, rfl⟩ ?_
    refine gf_9_7 C0 kn_0 mw_375 dX9_rule_21 ?_
    obtain ⟨h2, hw⟩ := hw
    refine f_aald15 C0 kn_26 h2 dX9_rule_24 (fun k3 ek3 hk3 => ?_)
    have hw := hw k3 ek3
    refine f_callVi (As := [rf g (55 + 6 * k3)]) (rest := []) C0 (m_X7_readInto hk3 hw) cw_X9_197 kn_24 (by decide) rfl rfl ⟨(Nat.le_of_ble_eq_true rfl), (Nat.le_of_ble_eq_true rfl)⟩ rfl rfl (Nat.le_of_ble_eq_true rfl) dX9_rule_25 ?_
    intro r4 d5 l6 hw
    refine f_istore_n (lo' := [(1, .int r4), (0, rf g 0)]) C0 dX9_rule_28 rfl (by decide) rfl ?_
    refine f_aload_n C0 dX9_rule_29 rfl 1 rfl ⟨_, rfl⟩ ?_
    refine gf_9_5 (r := 24) C0 rfl kn_0 mw_373 dX9_rule_30 ?_
    refine f_iconst (v := 0) C0 dX9_rule_33 rfl ?_
    refine pf_7_0 C0 kn_24 mw_203 dX9_rule_34 (fun d7 ed7 => ?_)
    have hw := hw d7 ed7
    refine f_iload_n C0 dX9_rule_37 rfl 0 rfl ?_
    refine f_if_ne (tgt := 52) C0 dX9_rule_38 (by decide) (fun h8 => ?_) (fun h8 => ?_)
    · have hw := hw.1 h8
      refine f_aload_n C0 dX9_rule_52 rfl 1 rfl ⟨_, rfl⟩ ?_
      refine f_dup C0 dX9_rule_53 rfl ?_
      refine gf_9_7 C0 kn_0 mw_375 dX9_rule_54 ?_
      refine f_iconst (v := 1) C0 dX9_rule_57 rfl ?_
      refine f_iadd C0 dX9_rule_58 ?_
      refine pf_9_7 C0 kn_0 mw_375 dX9_rule_59 (fun d9 ed9 => ?_)
      have hw := hw d9 ed9
      refine f_aload_n C0 dX9_rule_62 rfl 1 rfl ⟨_, rfl⟩ ?_
      refine gf_9_7 C0 kn_0 mw_375 dX9_rule_63 ?_
      refine f_iconst (v := 1) C0 dX9_rule_66 rfl ?_
      refine f_isub C0 dX9_rule_67 ?_
      exact f_iret C0 hZ hw dX9_rule_68
    · have hw := hw.2 h8
      refine f_bipush (v := (-10)) C0 dX9_rule_41 rfl ?_
      refine f_aload_n C0 dX9_rule_43 rfl 1 rfl ⟨_, rfl⟩ ?_
      refine gf_9_5 (r := 24) C0 rfl kn_0 mw_373 dX9_rule_44 ?_
      refine gf_7_1 C0 kn_24 mw_205 dX9_rule_47 ?_
      refine f_isub C0 dX9_rule_50 ?_
      exact f_iret C0 hZ hw dX9_rule_51
  · have hw := hw.2 h1
    refine f_bipush (v := (-4)) C0 dX9_rule_9 rfl ?_
    exact f_iret C0 hZ hw dX9_rule_11
