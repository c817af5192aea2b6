def b_X10_race_201 (n : Nat) (Q : Int32 → DD → LL → Prop) : Nat → Int32 → DD → LL → Prop
  | 0 => fun _ _ _ => False
  | k + 1 => fun x3 d dl => (4 ≤ x3 → ∀ d15 : DD, d15 = u2 d 211 6 0 → ∀ d16 : DD, d16 = u2 d15 211 3 ((d15 211 3) + 1) → Q (d15 211 3) d16 dl) ∧ (¬ 4 ≤ x3 → vp_in x3 4 ∧ vp_in (((4 : Int32) * (d 211 3)) + x3) 96 ∧ ∀ d19 : DD, d19 = u2 d 234 (((4 : Int32) * (d 211 3)) + x3).toNatClampNeg (d 239 x3.toNatClampNeg) → vp_in (((4 : Int32) * (d19 211 3)) + x3) 96 ∧ ∀ d21 : DD, d21 = u2 d19 235 (((4 : Int32) * (d19 211 3)) + x3).toNatClampNeg 0 → vp_in (((4 : Int32) * (d21 211 3)) + x3) 96 ∧ ∀ d23 : DD, d23 = u2 d21 236 (((4 : Int32) * (d21 211 3)) + x3).toNatClampNeg 0 → vp_in (((4 : Int32) * (d23 211 3)) + x3) 96 ∧ ∀ d25 : DD, d25 = u2 d23 237 (((4 : Int32) * (d23 211 3)) + x3).toNatClampNeg (vp_nar .boolean 0) → vp_in x3 4 ∧ ∀ d27 : DD, d27 = u2 d25 239 x3.toNatClampNeg (-1) → (b_X10_race_201 n Q k) (x3 + 1) d27 dl)
def b_X10_race_89 (n : Nat) (Q : Int32 → DD → LL → Prop) (K48 : Int32 → Int32 → Int32 → DD → LL → Prop) (K80 : Int32 → Int32 → Int32 → Int32 → DD → LL → Prop) : Nat → Int32 → Int32 → Int32 → Int32 → Int32 → DD → LL → Prop
  | 0 => fun _ _ _ _ _ _ _ => False
  | k + 1 => fun x1 x2 x3 x4 x5 d dl => (4 ≤ x5 → K80 x1 x2 x3 (x4 + 1) d dl) ∧ (¬ 4 ≤ x5 → vp_in x4 4 ∧ ((d 239 x4.toNatClampNeg) = (-1) → (b_X10_race_89 n Q K48 K80 k) x1 x2 x3 x4 (x5 + 1) d dl) ∧ (¬ (d 239 x4.toNatClampNeg) = (-1) → vp_in (((4 : Int32) * x3) + x5) 96 ∧ ((d 234 (((4 : Int32) * x3) + x5).toNatClampNeg) = (-1) → (b_X10_race_89 n Q K48 K80 k) x1 x2 x3 x4 (x5 + 1) d dl) ∧ (¬ (d 234 (((4 : Int32) * x3) + x5).toNatClampNeg) = (-1) → vp_in x4 4 ∧ vp_in (((4 : Int32) * x3) + x5) 96 ∧ F_X10_haveCommon n (d 239 x4.toNatClampNeg) (d 234 (((4 : Int32) * x3) + x5).toNatClampNeg) d dl (fun r41 d42 l43 => (r41 = 0 → (b_X10_race_89 n Q K48 K80 k) x1 x2 x3 x4 (x5 + 1) d42 l43) ∧ (¬ r41 = 0 → Q (((-10) : Int32) - x3) d42 l43)))))
def b_X10_race_80 (n : Nat) (Q : Int32 → DD → LL → Prop) (K48 : Int32 → Int32 → Int32 → DD → LL → Prop) : Nat → Int32 → Int32 → Int32 → Int32 → DD → LL → Prop
  | 0 => fun _ _ _ _ _ _ => False
  | k + 1 => fun x1 x2 x3 x4 d dl => (4 ≤ x4 → K48 x1 x2 (x3 + 1) d dl) ∧ (¬ 4 ≤ x4 → b_X10_race_89 n Q K48 (b_X10_race_80 n Q K48 k) n x1 x2 x3 x4 0 d dl)
def b_X10_race_48 (n : Nat) (Q : Int32 → DD → LL → Prop) : Nat → Int32 → Int32 → Int32 → DD → LL → Prop
  | 0 => fun _ _ _ _ _ => False
  | k + 1 => fun x1 x2 x3 d dl => ((d 211 3) ≤ x3 → vp_in (d 211 3) 24 ∧ ∀ d9 : DD, d9 = u2 d 232 (d 211 3).toNatClampNeg x1 → vp_in (d9 211 3) 24 ∧ ∀ d11 : DD, d11 = u2 d9 233 (d9 211 3).toNatClampNeg x2 → vp_in (d11 211 3) 24 ∧ ∀ d13 : DD, d13 = u2 d11 238 (d11 211 3).toNatClampNeg (vp_nar .boolean 0) → b_X10_race_201 n Q n 0 d13 dl) ∧ (¬ (d 211 3) ≤ x3 → vp_in x3 24 ∧ F_X10_size n ((d 232 x3.toNatClampNeg) - x1) d dl (fun r29 d30 l31 => (r29 < (d30 211 5) → b_X10_race_80 n Q (b_X10_race_48 n Q k) n x1 x2 x3 0 d30 l31) ∧ (¬ r29 < (d30 211 5) → (b_X10_race_48 n Q k) x1 x2 (x3 + 1) d30 l31)))
def F_X10_race (n : Nat) (x1 : Int32) (x2 : Int32) (d : DD) (dl : LL) (Q : Int32 → DD → LL → Prop) : Prop := (x1 < 0 → Q (-2) d dl) ∧ (¬ x1 < 0 → (999 < x1 → Q (-2) d dl) ∧ (¬ 999 < x1 → (x2 < 0 → Q (-2) d dl) ∧ (¬ x2 < 0 → (x2 ≤ 1 → (2 ≤ (d 211 6) → (¬ (d 211 3) = 24 → b_X10_race_48 n Q n x1 x2 0 d dl) ∧ ((d 211 3) = 24 → Q (-4) d dl)) ∧ (¬ 2 ≤ (d 211 6) → Q (-3) d dl)) ∧ (¬ x2 ≤ 1 → Q (-2) d dl))))
set_option maxHeartbeats 4000000 in
set_option maxRecDepth 100000 in
theorem t_X10_race_201 {g : Ex} {x : Fx} {n : Nat} {Q : Int32 → DD → LL → Prop} (C0 : Cx g x cX10_race 6 (some .int) RX10 2 46) (hZ : Zi g x Q) : ∀ (j : Nat) (x3 : Int32) (d : DD) (dl : LL), b_X10_race_201 n Q j x3 d dl → FW g x 6 d dl 201 [(0, rf g 211), (3, .int x3)] [] := by
  intro j
  induction j with
  | zero =>
    intro x3 d dl hw
    exact hw.elim
  | succ j hK201 =>
    intro x3 d dl hw
    refine f_iload_n C0 dX10_race_201 rfl 1 rfl ?_
    refine f_iconst (v := 4) C0 dX10_race_202 rfl ?_
    refine f_icmp_ge (tgt := 280) C0 dX10_race_203 (by decide) (fun h14 => ?_) (fun h14 => ?_)
    · have hw := hw.1 h14
      refine f_aload_n C0 dX10_race_280 rfl 0 rfl ⟨_, rfl⟩ ?_
      refine f_iconst (v := 0) C0 dX10_race_281 rfl ?_
      refine pf_10_6 C0 kn_211 mw_892 dX10_race_282 (fun d15 ed15 => ?_)
      have hw := hw d15 ed15
      refine f_aload_n C0 dX10_race_285 rfl 0 rfl ⟨_, rfl⟩ ?_
      refine f_dup C0 dX10_race_286 rfl ?_
      refine gf_10_3 C0 kn_211 mw_889 dX10_race_287 ?_
      refine f_dup_x1 C0 dX10_race_290 rfl rfl ?_
      refine f_iconst (v := 1) C0 dX10_race_291 rfl ?_
      refine f_iadd C0 dX10_race_292 ?_
      refine pf_10_3 C0 kn_211 mw_889 dX10_race_293 (fun d16 ed16 => ?_)
      have hw := hw d16 ed16
      exact f_iret C0 hZ hw dX10_race_296
    · have hw := hw.2 h14
      refine f_aload_n C0 dX10_race_206 rfl 0 rfl ⟨_, rfl⟩ ?_
      refine gf_10_30 (r := 234) C0 rfl kn_211 mw_916 dX10_race_207 ?_
      refine f_iconst (v := 4) C0 dX10_race_210 rfl ?_
      refine f_aload_n C0 dX10_race_211 rfl 0 rfl ⟨_, rfl⟩ ?_
      refine gf_10_3 C0 kn_211 mw_889 dX10_race_212 ?_
      refine f_imul C0 dX10_race_215 ?_
      refine f_iload_n C0 dX10_race_216 rfl 1 rfl ?_
      refine f_iadd C0 dX10_race_217 ?_
      refine f_aload_n C0 dX10_race_218 rfl 0 rfl ⟨_, rfl⟩ ?_
      refine gf_10_35 (r := 239) C0 rfl kn_211 mw_921 dX10_race_219 ?_
      refine f_iload_n C0 dX10_race_222 rfl 1 rfl ?_
      obtain ⟨h17, hw⟩ := hw
      refine f_iald C0 kn_239 h17 dX10_race_223 ?_
      obtain ⟨h18, hw⟩ := hw
      refine f_iast C0 kn_234 h18 dX10_race_224 (fun d19 ed19 => ?_)
      have hw := hw d19 ed19
      refine f_aload_n C0 dX10_race_225 rfl 0 rfl ⟨_, rfl⟩ ?_
      refine gf_10_31 (r := 235) C0 rfl kn_211 mw_917 dX10_race_226 ?_
      refine f_iconst (v := 4) C0 dX10_race_229 rfl ?_
      refine f_aload_n C0 dX10_race_230 rfl 0 rfl ⟨_, rfl⟩ ?_
      refine gf_10_3 C0 kn_211 mw_889 dX10_race_231 ?_
      refine f_imul C0 dX10_race_234 ?_
      refine f_iload_n C0 dX10_race_235 rfl 1 rfl ?_
      refine f_iadd C0 dX10_race_236 ?_
      refine f_iconst (v := 0) C0 dX10_race_237 rfl ?_
      obtain ⟨h20, hw⟩ := hw
      refine f_iast C0 kn_235 h20 dX10_race_238 (fun d21 ed21 => ?_)
      have hw := hw d21 ed21
      refine f_aload_n C0 dX10_race_239 rfl 0 rfl ⟨_, rfl⟩ ?_
      refine gf_10_32 (r := 236) C0 rfl kn_211 mw_918 dX10_race_240 ?_
      refine f_iconst (v := 4) C0 dX10_race_243 rfl ?_
      refine f_aload_n C0 dX10_race_244 rfl 0 rfl ⟨_, rfl⟩ ?_
      refine gf_10_3 C0 kn_211 mw_889 dX10_race_245 ?_
      refine f_imul C0 dX10_race_248 ?_
      refine f_iload_n C0 dX10_race_249 rfl 1 rfl ?_
      refine f_iadd C0 dX10_race_250 ?_
      refine f_iconst (v := 0) C0 dX10_race_251 rfl ?_
      obtain ⟨h22, hw⟩ := hw
      refine f_iast C0 kn_236 h22 dX10_race_252 (fun d23 ed23 => ?_)
      have hw := hw d23 ed23
      refine f_aload_n C0 dX10_race_253 rfl 0 rfl ⟨_, rfl⟩ ?_
      refine gf_10_33 (r := 237) C0 rfl kn_211 mw_919 dX10_race_254 ?_
      refine f_iconst (v := 4) C0 dX10_race_257 rfl ?_
      refine f_aload_n C0 dX10_race_258 rfl 0 rfl ⟨_, rfl⟩ ?_
      refine gf_10_3 C0 kn_211 mw_889 dX10_race_259 ?_
      refine f_imul C0 dX10_race_262 ?_
      refine f_iload_n C0 dX10_race_263 rfl 1 rfl ?_
      refine f_iadd C0 dX10_race_264 ?_
      refine f_iconst (v := 0) C0 dX10_race_265 rfl ?_
      obtain ⟨h24, hw⟩ := hw
      refine f_zast C0 kn_237 h24 dX10_race_266 (fun d25 ed25 => ?_)
      have hw := hw d25 ed25
      refine f_aload_n C0 dX10_race_267 rfl 0 rfl ⟨_, rfl⟩ ?_
      refine gf_10_35 (r := 239) C0 rfl kn_211 mw_921 dX10_race_268 ?_
      refine f_iload_n C0 dX10_race_271 rfl 1 rfl ?_
      refine f_iconst (v := (-1)) C0 dX10_race_272 rfl ?_
      obtain ⟨h26, hw⟩ := hw
      refine f_iast C0 kn_239 h26 dX10_race_273 (fun d27 ed27 => ?_)
      have hw := hw d27 ed27
      refine f_iinc (lo' := [(3, .int (x3 + 1)), (0, rf g 211)]) C0 dX10_race_274 1 rfl rfl (by decide) rfl ?_
      refine f_goto (tgt := 201) C0 dX10_race_277 (by decide) ?_
      refine f_sub [1, 0] rfl ?_
      exact hK201 _ _ _ hw
set_option maxHeartbeats 4000000 in
set_option maxRecDepth 100000 in
theorem t_X10_race_89 {g : Ex} {x : Fx} {n : Nat} {Q : Int32 → DD → LL → Prop} (C0 : Cx g x cX10_race 6 (some .int) RX10 2 46) (hZ : Zi g x Q) {K48 : Int32 → Int32 → Int32 → DD → LL → Prop} (hK48 : ∀ (x1 : Int32) (x2 : Int32) (x3 : Int32) (d : DD) (dl : LL), K48 x1 x2 x3 d dl → FW g x 6 d dl 48 [(0, rf g 211), (1, .int x1), (2, .int x2), (3, .int x3)] []) {K80 : Int32 → Int32 → Int32 → Int32 → DD → LL → Prop} (hK80 : ∀ (x1 : Int32) (x2 : Int32) (x3 : Int32) (x4 : Int32) (d : DD) (dl : LL), K80 x1 x2 x3 x4 d dl → FW g x 6 d dl 80 [(0, rf g 211), (1, .int x1), (2, .int x2), (3, .int x3), (4, .int x4)] []) : ∀ (j : Nat) (x1 : Int32) (x2 : Int32) (x3 : Int32) (x4 : Int32) (x5 : Int32) (d : DD) (dl : LL), b_X10_race_89 n Q K48 K80 j x1 x2 x3 x4 x5 d dl → FW g x 6 d dl 89 [(0, rf g 211), (1, .int x1), (2, .int x2), (3, .int x3), (4, .int x4), (5, .int x5)] [] := by
  intro j
  induction j with
  | zero =>
    intro x1 x2 x3 x4 x5 d dl hw
    exact hw.elim
  | succ j hK89 =>
    intro x1 x2 x3 x4 x5 d dl hw
    refine f_iload C0 dX10_race_89 5 rfl ?_
    refine f_iconst (v := 4) C0 dX10_race_91 rfl ?_
    refine f_icmp_ge (tgt := 157) C0 dX10_race_92 (by decide) (fun h34 => ?_) (fun h34 => ?_)
    · have hw := hw.1 h34
      refine f_iinc (lo' := [(4, .int (x4 + 1)), (0, rf g 211), (1, .int x1), (2, .int x2), (3, .int x3), (5, .int x5)]) C0 dX10_race_157 4 rfl rfl (by decide) rfl ?_
      refine f_goto (tgt := 80) C0 dX10_race_160 (by decide) ?_
      refine f_sub [1, 2, 3, 4, 0] rfl ?_
      exact hK80 _ _ _ _ _ _ hw
    · have hw := hw.2 h34
      refine f_aload_n C0 dX10_race_95 rfl 0 rfl ⟨_, rfl⟩ ?_
      refine gf_10_35 (r := 239) C0 rfl kn_211 mw_921 dX10_race_96 ?_
      refine f_iload C0 dX10_race_99 4 rfl ?_
      obtain ⟨h35, hw⟩ := hw
      refine f_iald C0 kn_239 h35 dX10_race_101 ?_
      refine f_iconst (v := (-1)) C0 dX10_race_102 rfl ?_
      refine f_icmp_eq (tgt := 151) C0 dX10_race_103 (by decide) (fun h36 => ?_) (fun h36 => ?_)
      · have hw := hw.1 h36
        refine f_iinc (lo' := [(5, .int (x5 + 1)), (0, rf g 211), (1, .int x1), (2, .int x2), (3, .int x3), (4, .int x4)]) C0 dX10_race_151 5 rfl rfl (by decide) rfl ?_
        refine f_goto (tgt := 89) C0 dX10_race_154 (by decide) ?_
        refine f_sub [1, 2, 3, 4, 5, 0] rfl ?_
        exact hK89 _ _ _ _ _ _ _ hw
      · have hw := hw.2 h36
        refine f_aload_n C0 dX10_race_106 rfl 0 rfl ⟨_, rfl⟩ ?_
        refine gf_10_30 (r := 234) C0 rfl kn_211 mw_916 dX10_race_107 ?_
        refine f_iconst (v := 4) C0 dX10_race_110 rfl ?_
        refine f_iload_n C0 dX10_race_111 rfl 3 rfl ?_
        refine f_imul C0 dX10_race_112 ?_
        refine f_iload C0 dX10_race_113 5 rfl ?_
        refine f_iadd C0 dX10_race_115 ?_
        obtain ⟨h37, hw⟩ := hw
        refine f_iald C0 kn_234 h37 dX10_race_116 ?_
        refine f_iconst (v := (-1)) C0 dX10_race_117 rfl ?_
        refine f_icmp_eq (tgt := 151) C0 dX10_race_118 (by decide) (fun h38 => ?_) (fun h38 => ?_)
        · have hw := hw.1 h38
          refine f_iinc (lo' := [(5, .int (x5 + 1)), (0, rf g 211), (1, .int x1), (2, .int x2), (3, .int x3), (4, .int x4)]) C0 dX10_race_151 5 rfl rfl (by decide) rfl ?_
          refine f_goto (tgt := 89) C0 dX10_race_154 (by decide) ?_
          refine f_sub [1, 2, 3, 4, 5, 0] rfl ?_
          exact hK89 _ _ _ _ _ _ _ hw
        · have hw := hw.2 h38
          refine f_aload_n C0 dX10_race_121 rfl 0 rfl ⟨_, rfl⟩ ?_
          refine f_aload_n C0 dX10_race_122 rfl 0 rfl ⟨_, rfl⟩ ?_
          refine gf_10_35 (r := 239) C0 rfl kn_211 mw_921 dX10_race_123 ?_
          refine f_iload C0 dX10_race_126 4 rfl ?_
          obtain ⟨h39, hw⟩ := hw
          refine f_iald C0 kn_239 h39 dX10_race_128 ?_
          refine f_aload_n C0 dX10_race_129 rfl 0 rfl ⟨_, rfl⟩ ?_
          refine gf_10_30 (r := 234) C0 rfl kn_211 mw_916 dX10_race_130 ?_
          refine f_iconst (v := 4) C0 dX10_race_133 rfl ?_
          refine f_iload_n C0 dX10_race_134 rfl 3 rfl ?_
          refine f_imul C0 dX10_race_135 ?_
          refine f_iload C0 dX10_race_136 5 rfl ?_
          refine f_iadd C0 dX10_race_138 ?_
          obtain ⟨h40, hw⟩ := hw
          refine f_iald C0 kn_234 h40 dX10_race_139 ?_
          refine f_callVi (As := [.int (d 239 x4.toNatClampNeg), .int (d 234 (((4 : Int32) * x3) + x5).toNatClampNeg)]) (rest := []) C0 (m_X10_haveCommon hw) cw_X10_217 kn_211 (by decide) rfl rfl ⟨(Nat.le_of_ble_eq_true rfl), (Nat.le_of_ble_eq_true rfl)⟩ rfl rfl (Nat.le_of_ble_eq_true rfl) dX10_race_140 ?_
          intro r41 d42 l43 hw
          refine f_if_eq (tgt := 151) C0 dX10_race_143 (by decide) (fun h44 => ?_) (fun h44 => ?_)
          · have hw := hw.1 h44
            refine f_iinc (lo' := [(5, .int (x5 + 1)), (0, rf g 211), (1, .int x1), (2, .int x2), (3, .int x3), (4, .int x4)]) C0 dX10_race_151 5 rfl rfl (by decide) rfl ?_
            refine f_goto (tgt := 89) C0 dX10_race_154 (by decide) ?_
            refine f_sub [1, 2, 3, 4, 5, 0] rfl ?_
            exact hK89 _ _ _ _ _ _ _ hw
          · have hw := hw.2 h44
            refine f_bipush (v := (-10)) C0 dX10_race_146 rfl ?_
            refine f_iload_n C0 dX10_race_148 rfl 3 rfl ?_
            refine f_isub C0 dX10_race_149 ?_
            exact f_iret C0 hZ hw dX10_race_150
set_option maxHeartbeats 4000000 in
set_option maxRecDepth 100000 in
theorem t_X10_race_80 {g : Ex} {x : Fx} {n : Nat} {Q : Int32 → DD → LL → Prop} (C0 : Cx g x cX10_race 6 (some .int) RX10 2 46) (hZ : Zi g x Q) {K48 : Int32 → Int32 → Int32 → DD → LL → Prop} (hK48 : ∀ (x1 : Int32) (x2 : Int32) (x3 : Int32) (d : DD) (dl : LL), K48 x1 x2 x3 d dl → FW g x 6 d dl 48 [(0, rf g 211), (1, .int x1), (2, .int x2), (3, .int x3)] []) : ∀ (j : Nat) (x1 : Int32) (x2 : Int32) (x3 : Int32) (x4 : Int32) (d : DD) (dl : LL), b_X10_race_80 n Q K48 j x1 x2 x3 x4 d dl → FW g x 6 d dl 80 [(0, rf g 211), (1, .int x1), (2, .int x2), (3, .int x3), (4, .int x4)] [] := by
  intro j
  induction j with
  | zero =>
    intro x1 x2 x3 x4 d dl hw
    exact hw.elim
  | succ j hK80 =>
    intro x1 x2 x3 x4 d dl hw
    refine f_iload C0 dX10_race_80 4 rfl ?_
    refine f_iconst (v := 4) C0 dX10_race_82 rfl ?_
    refine f_icmp_ge (tgt := 163) C0 dX10_race_83 (by decide) (fun h33 => ?_) (fun h33 => ?_)
    · have hw := hw.1 h33
      refine f_iinc (lo' := [(3, .int (x3 + 1)), (0, rf g 211), (1, .int x1), (2, .int x2), (4, .int x4)]) C0 dX10_race_163 3 rfl rfl (by decide) rfl ?_
      refine f_goto (tgt := 48) C0 dX10_race_166 (by decide) ?_
      refine f_sub [1, 2, 3, 0] rfl ?_
      exact hK48 _ _ _ _ _ hw
    · have hw := hw.2 h33
      refine f_iconst (v := 0) C0 dX10_race_86 rfl ?_
      refine f_istore (lo' := [(5, .int 0), (0, rf g 211), (1, .int x1), (2, .int x2), (3, .int x3), (4, .int x4)]) C0 dX10_race_87 (by decide) rfl ?_
      refine f_sub [1, 2, 3, 4, 5, 0] rfl ?_
      exact t_X10_race_89 C0 hZ hK48 hK80 n _ _ _ _ _ _ _ hw
set_option maxHeartbeats 4000000 in
set_option maxRecDepth 100000 in
theorem t_X10_race_48 {g : Ex} {x : Fx} {n : Nat} {Q : Int32 → DD → LL → Prop} (C0 : Cx g x cX10_race 6 (some .int) RX10 2 46) (hZ : Zi g x Q) : ∀ (j : Nat) (x1 : Int32) (x2 : Int32) (x3 : Int32) (d : DD) (dl : LL), b_X10_race_48 n Q j x1 x2 x3 d dl → FW g x 6 d dl 48 [(0, rf g 211), (1, .int x1), (2, .int x2), (3, .int x3)] [] := by
  intro j
  induction j with
  | zero =>
    intro x1 x2 x3 d dl hw
    exact hw.elim
  | succ j hK48 =>
    intro x1 x2 x3 d dl hw
    refine f_iload_n C0 dX10_race_48 rfl 3 rfl ?_
    refine f_aload_n C0 dX10_race_49 rfl 0 rfl ⟨_, rfl⟩ ?_
    refine gf_10_3 C0 kn_211 mw_889 dX10_race_50 ?_
    refine f_icmp_ge (tgt := 169) C0 dX10_race_53 (by decide) (fun h7 => ?_) (fun h7 => ?_)
    · have hw := hw.1 h7
      refine f_aload_n C0 dX10_race_169 rfl 0 rfl ⟨_, rfl⟩ ?_
      refine gf_10_28 (r := 232) C0 rfl kn_211 mw_914 dX10_race_170 ?_
      refine f_aload_n C0 dX10_race_173 rfl 0 rfl ⟨_, rfl⟩ ?_
      refine gf_10_3 C0 kn_211 mw_889 dX10_race_174 ?_
      refine f_iload_n C0 dX10_race_177 rfl 1 rfl ?_
      obtain ⟨h8, hw⟩ := hw
      refine f_iast C0 kn_232 h8 dX10_race_178 (fun d9 ed9 => ?_)
      have hw := hw d9 ed9
      refine f_aload_n C0 dX10_race_179 rfl 0 rfl ⟨_, rfl⟩ ?_
      refine gf_10_29 (r := 233) C0 rfl kn_211 mw_915 dX10_race_180 ?_
      refine f_aload_n C0 dX10_race_183 rfl 0 rfl ⟨_, rfl⟩ ?_
      refine gf_10_3 C0 kn_211 mw_889 dX10_race_184 ?_
      refine f_iload_n C0 dX10_race_187 rfl 2 rfl ?_
      obtain ⟨h10, hw⟩ := hw
      refine f_iast C0 kn_233 h10 dX10_race_188 (fun d11 ed11 => ?_)
      have hw := hw d11 ed11
      refine f_aload_n C0 dX10_race_189 rfl 0 rfl ⟨_, rfl⟩ ?_
      refine gf_10_34 (r := 238) C0 rfl kn_211 mw_920 dX10_race_190 ?_
      refine f_aload_n C0 dX10_race_193 rfl 0 rfl ⟨_, rfl⟩ ?_
      refine gf_10_3 C0 kn_211 mw_889 dX10_race_194 ?_
      refine f_iconst (v := 0) C0 dX10_race_197 rfl ?_
      obtain ⟨h12, hw⟩ := hw
      refine f_zast C0 kn_238 h12 dX10_race_198 (fun d13 ed13 => ?_)
      have hw := hw d13 ed13
      refine f_iconst (v := 0) C0 dX10_race_199 rfl ?_
      refine f_istore_n (lo' := [(3, .int 0), (0, rf g 211), (1, .int x1), (2, .int x2)]) C0 dX10_race_200 rfl (by decide) rfl ?_
      refine f_sub [1, 0] rfl ?_
      exact t_X10_race_201 C0 hZ n _ _ _ hw
    · have hw := hw.2 h7
      refine f_aload_n C0 dX10_race_56 rfl 0 rfl ⟨_, rfl⟩ ?_
      refine gf_10_28 (r := 232) C0 rfl kn_211 mw_914 dX10_race_57 ?_
      refine f_iload_n C0 dX10_race_60 rfl 3 rfl ?_
      obtain ⟨h28, hw⟩ := hw
      refine f_iald C0 kn_232 h28 dX10_race_61 ?_
      refine f_iload_n C0 dX10_race_62 rfl 1 rfl ?_
      refine f_isub C0 dX10_race_63 ?_
      refine f_callSi (As := [.int ((d 232 x3.toNatClampNeg) - x1)]) (rest := []) C0 (m_X10_size hw) cw_X10_142  ⟨(Nat.le_of_ble_eq_true rfl), (Nat.le_of_ble_eq_true rfl)⟩ rfl rfl (Nat.le_of_ble_eq_true rfl) dX10_race_64 ?_
      intro r29 d30 l31 hw
      refine f_aload_n C0 dX10_race_67 rfl 0 rfl ⟨_, rfl⟩ ?_
      refine gf_10_5 C0 kn_211 mw_891 dX10_race_68 ?_
      refine f_icmp_lt (tgt := 77) C0 dX10_race_71 (by decide) (fun h32 => ?_) (fun h32 => ?_)
      · have hw := hw.1 h32
        refine f_iconst (v := 0) C0 dX10_race_77 rfl ?_
        refine f_istore (lo' := [(4, .int 0), (0, rf g 211), (1, .int x1), (2, .int x2), (3, .int x3)]) C0 dX10_race_78 (by decide) rfl ?_
        refine f_sub [1, 2, 3, 4, 0] rfl ?_
        exact t_X10_race_80 C0 hZ hK48 n _ _ _ _ _ _ hw
      · have hw := hw.2 h32
        refine f_goto (tgt := 163) C0 dX10_race_74 (by decide) ?_
        refine f_iinc (lo' := [(3, .int (x3 + 1)), (0, rf g 211), (1, .int x1), (2, .int x2)]) C0 dX10_race_163 3 rfl rfl (by decide) rfl ?_
        refine f_goto (tgt := 48) C0 dX10_race_166 (by decide) ?_
        refine f_sub [1, 2, 3, 0] rfl ?_
        exact hK48 _ _ _ _ _ hw
set_option maxHeartbeats 4000000 in
set_option maxRecDepth 100000 in
theorem m_X10_race {g : Ex} {n : Nat} {x1 : Int32} {x2 : Int32} {d : DD} {dl : LL} {Q : Int32 → DD → LL → Prop} (hw : F_X10_race n x1 x2 d dl Q) : Mi g yX10_race cX10_race 6 (some .int) 2 46 [rf g 211, .int x1, .int x2] d dl Q := by
  refine Mi.of (by decide) (Nat.le_of_ble_eq_true rfl) (fun x C0 hZ => ?_)
  have C0 : Cx g x cX10_race 6 (some .int) RX10 2 46 := C0
  refine f_iload_n C0 dX10_race_0 rfl 1 rfl ?_
  refine f_if_lt (tgt := 20) C0 dX10_race_1 (by decide) (fun h1 => ?_) (fun h1 => ?_)
  · have hw := hw.1 h1
    refine f_bipush (v := (-2)) C0 dX10_race_20 rfl ?_
    exact f_iret C0 hZ hw dX10_race_22
  · have hw := hw.2 h1
    refine f_iload_n C0 dX10_race_4 rfl 1 rfl ?_
    refine f_sipush (v := 999) C0 dX10_race_5 rfl ?_
    refine f_icmp_gt (tgt := 20) C0 dX10_race_8 (by decide) (fun h2 => ?_) (fun h2 => ?_)
    · have hw := hw.1 h2
      refine f_bipush (v := (-2)) C0 dX10_race_20 rfl ?_
      exact f_iret C0 hZ hw dX10_race_22
    · have hw := hw.2 h2
      refine f_iload_n C0 dX10_race_11 rfl 2 rfl ?_
      refine f_if_lt (tgt := 20) C0 dX10_race_12 (by decide) (fun h3 => ?_) (fun h3 => ?_)
      · have hw := hw.1 h3
        refine f_bipush (v := (-2)) C0 dX10_race_20 rfl ?_
        exact f_iret C0 hZ hw dX10_race_22
      · have hw := hw.2 h3
        refine f_iload_n C0 dX10_race_15 rfl 2 rfl ?_
        refine f_iconst (v := 1) C0 dX10_race_16 rfl ?_
        refine f_icmp_le (tgt := 23) C0 dX10_race_17 (by decide) (fun h4 => ?_) (fun h4 => ?_)
        · have hw := hw.1 h4
          refine f_aload_n C0 dX10_race_23 rfl 0 rfl ⟨_, rfl⟩ ?_
          refine gf_10_6 C0 kn_211 mw_892 dX10_race_24 ?_
          refine f_iconst (v := 2) C0 dX10_race_27 rfl ?_
          refine f_icmp_ge (tgt := 34) C0 dX10_race_28 (by decide) (fun h5 => ?_) (fun h5 => ?_)
          · have hw := hw.1 h5
            refine f_aload_n C0 dX10_race_34 rfl 0 rfl ⟨_, rfl⟩ ?_
            refine gf_10_3 C0 kn_211 mw_889 dX10_race_35 ?_
            refine f_bipush (v := 24) C0 dX10_race_38 rfl ?_
            refine f_icmp_ne (tgt := 46) C0 dX10_race_40 (by decide) (fun h6 => ?_) (fun h6 => ?_)
            · have hw := hw.1 h6
              refine f_iconst (v := 0) C0 dX10_race_46 rfl ?_
              refine f_istore_n (lo' := [(3, .int 0), (0, rf g 211), (1, .int x1), (2, .int x2)]) C0 dX10_race_47 rfl (by decide) rfl ?_
              refine f_sub [1, 2, 3, 0] rfl ?_
              exact t_X10_race_48 C0 hZ n _ _ _ _ _ hw
            · have hw := hw.2 h6
              refine f_bipush (v := (-4)) C0 dX10_race_43 rfl ?_
              exact f_iret C0 hZ hw dX10_race_45
          · have hw := hw.2 h5
            refine f_bipush (v := (-3)) C0 dX10_race_31 rfl ?_
            exact f_iret C0 hZ hw dX10_race_33
        · have hw := hw.2 h4
          refine f_bipush (v := (-2)) C0 dX10_race_20 rfl ?_
          exact f_iret C0 hZ hw dX10_race_22
def F_X10_current (n : Nat) (x1 : Int32) (x2 : Int32) (d : DD) (dl : LL) (Q : Int32 → DD → LL → Prop) : Prop := (x1 < 0 → Q (-100) d dl) ∧ (¬ x1 < 0 → (x1 ≤ 3 → (x2 < (-9) → Q (-101) d dl) ∧ (¬ x2 < (-9) → (x2 ≤ 9 → vp_in x1 4 ∧ ∀ v6 : Int32, v6 = (d 240 x1.toNatClampNeg) → vp_in x1 4 ∧ ∀ d8 : DD, d8 = u2 d 240 x1.toNatClampNeg x2 → Q v6 d8 dl) ∧ (¬ x2 ≤ 9 → Q (-101) d dl))) ∧ (¬ x1 ≤ 3 → Q (-100) d dl))
set_option maxHeartbeats 4000000 in
set_option maxRecDepth 100000 in
theorem m_X10_current {g : Ex} {n : Nat} {x1 : Int32} {x2 : Int32} {d : DD} {dl : LL} {Q : Int32 → DD → LL → Prop} (hw : F_X10_current n x1 x2 d dl Q) : Mi g yX10_current cX10_current 4 (some .int) 0 0 [rf g 211, .int x1, .int x2] d dl Q := by
  refine Mi.of (by decide) (Nat.le_of_ble_eq_true rfl) (fun x C0 hZ => ?_)
  have C0 : Cx g x cX10_current 4 (some .int) RX10 0 0 := C0
  refine f_iload_n C0 dX10_current_0 rfl 1 rfl ?_
  refine f_if_lt (tgt := 9) C0 dX10_current_1 (by decide) (fun h1 => ?_) (fun h1 => ?_)
  · have hw := hw.1 h1
    refine f_bipush (v := (-100)) C0 dX10_current_9 rfl ?_
    exact f_iret C0 hZ hw dX10_current_11
  · have hw := hw.2 h1
    refine f_iload_n C0 dX10_current_4 rfl 1 rfl ?_
    refine f_iconst (v := 3) C0 dX10_current_5 rfl ?_
    refine f_icmp_le (tgt := 12) C0 dX10_current_6 (by decide) (fun h2 => ?_) (fun h2 => ?_)
    · have hw := hw.1 h2
      refine f_iload_n C0 dX10_current_12 rfl 2 rfl ?_
      refine f_bipush (v := (-9)) C0 dX10_current_13 rfl ?_
      refine f_icmp_lt (tgt := 24) C0 dX10_current_15 (by decide) (fun h3 => ?_) (fun h3 => ?_)
      · have hw := hw.1 h3
        refine f_bipush (v := (-101)) C0 dX10_current_24 rfl ?_
        exact f_iret C0 hZ hw dX10_current_26
      · have hw := hw.2 h3
        refine f_iload_n C0 dX10_current_18 rfl 2 rfl ?_
        refine f_bipush (v := 9) C0 dX10_current_19 rfl ?_
        refine f_icmp_le (tgt := 27) C0 dX10_current_21 (by decide) (fun h4 => ?_) (fun h4 => ?_)
        · have hw := hw.1 h4
          refine f_aload_n C0 dX10_current_27 rfl 0 rfl ⟨_, rfl⟩ ?_
          refine gf_10_36 (r := 240) C0 rfl kn_211 mw_922 dX10_current_28 ?_
          refine f_iload_n C0 dX10_current_31 rfl 1 rfl ?_
          obtain ⟨h5, hw⟩ := hw
          refine f_iald C0 kn_240 h5 dX10_current_32 ?_
          refine f_topi (fun v6 e6 => ?_)
          have hw := hw v6 e6
          refine f_istore_n (lo' := [(3, .int v6), (0, rf g 211), (1, .int x1), (2, .int x2)]) C0 dX10_current_33 rfl (by decide) rfl ?_
          refine f_aload_n C0 dX10_current_34 rfl 1 rfl ⟨_, rfl⟩ ?_
          refine gf_10_36 (r := 240) C0 rfl kn_211 mw_922 dX10_current_35 ?_
          refine f_iload_n C0 dX10_current_38 rfl 2 rfl ?_
          refine f_iload_n C0 dX10_current_39 rfl 3 rfl ?_
          obtain ⟨h7, hw⟩ := hw
          refine f_iast C0 kn_240 h7 dX10_current_40 (fun d8 ed8 => ?_)
          have hw := hw d8 ed8
          refine f_iload_n C0 dX10_current_41 rfl 0 rfl ?_
          exact f_iret C0 hZ hw dX10_current_42
        · have hw := hw.2 h4
          refine f_bipush (v := (-101)) C0 dX10_current_24 rfl ?_
          exact f_iret C0 hZ hw dX10_current_26
    · have hw := hw.2 h2
      refine f_bipush (v := (-100)) C0 dX10_current_9 rfl ?_
      exact f_iret C0 hZ hw dX10_current_11
def F_X10_isRace (n : Nat) (x1 : Int32) (d : DD) (dl : LL) (Q : Int32 → DD → LL → Prop) : Prop := (x1 < 0 → Q 0 d dl) ∧ (¬ x1 < 0 → ((d 211 3) ≤ x1 → Q 0 d dl) ∧ (¬ (d 211 3) ≤ x1 → Q 1 d dl))
set_option maxHeartbeats 4000000 in
set_option maxRecDepth 100000 in
theorem m_X10_isRace {g : Ex} {n : Nat} {x1 : Int32} {d : DD} {dl : LL} {Q : Int32 → DD → LL → Prop} (hw : F_X10_isRace n x1 d dl Q) : Mi g yX10_isRace cX10_isRace 2 (some .boolean) 0 0 [rf g 211, .int x1] d dl Q := by
  refine Mi.of (by decide) (Nat.le_of_ble_eq_true rfl) (fun x C0 hZ => ?_)
  have C0 : Cx g x cX10_isRace 2 (some .boolean) RX10 0 0 := C0
  refine f_iload_n C0 dX10_isRace_0 rfl 1 rfl ?_
  refine f_if_lt (tgt := 16) C0 dX10_isRace_1 (by decide) (fun h1 => ?_) (fun h1 => ?_)
  · have hw := hw.1 h1
    refine f_iconst (v := 0) C0 dX10_isRace_16 rfl ?_
    exact f_zret C0 hZ (by decide) hw dX10_isRace_17
  · have hw := hw.2 h1
    refine f_iload_n C0 dX10_isRace_4 rfl 1 rfl ?_
    refine f_aload_n C0 dX10_isRace_5 rfl 0 rfl ⟨_, rfl⟩ ?_
    refine gf_10_3 C0 kn_211 mw_889 dX10_isRace_6 ?_
    refine f_icmp_ge (tgt := 16) C0 dX10_isRace_9 (by decide) (fun h2 => ?_) (fun h2 => ?_)
    · have hw := hw.1 h2
      refine f_iconst (v := 0) C0 dX10_isRace_16 rfl ?_
      exact f_zret C0 hZ (by decide) hw dX10_isRace_17
    · have hw := hw.2 h2
      refine f_iconst (v := 1) C0 dX10_isRace_12 rfl ?_
      refine f_goto (tgt := 17) C0 dX10_isRace_13 (by decide) ?_
      exact f_zret C0 hZ (by decide) hw dX10_isRace_17
def b_X10_goes_203 (n : Nat) (Q : Int32 → DD → LL → Prop) (K90 : Int32 → Int32 → Int32 → Int32 → Int32 → Int32 → Int32 → Int32 → DD → LL → Prop) : Nat → Int32 → Int32 → Int32 → Int32 → Int32 → Int32 → Int32 → Int32 → Int32 → Int32 → DD → LL → Prop
  | 0 => fun _ _ _ _ _ _ _ _ _ _ _ _ => False
  | k + 1 => fun x1 x2 x4 x5 x7 x8 x9 x10 x12 x13 d dl => (x5 ≤ x13 → ∀ v20 : Int32, v20 = (x8 - x9) → ∀ v21 : Int32, v21 = (x9 + x12) → vp_in x1 96 ∧ ∀ d23 : DD, d23 = u2 d 236 x1.toNatClampNeg v21 → (v21 < x8 → K90 x1 x2 x4 x5 x7 x8 v21 (x10 + 1) d23 dl) ∧ (¬ v21 < x8 → ¬ x12 = 0 ∧ vp_in x1 96 ∧ ∀ d27 : DD, d27 = u2 d23 235 x1.toNatClampNeg (((100 : Int32) * (x10 - 1)) + ((v20 * 100) / x12)) → Q 1 d27 dl)) ∧ (¬ x5 ≤ x13 → vp_in x13 8 ∧ vp_in x4 6 ∧ vp_in x4 6 ∧ (200 ≤ ((d 246 x13.toNatClampNeg) - ((d 221 x4.toNatClampNeg) * (d 221 x4.toNatClampNeg))) → vp_in x13 8 ∧ vp_in x4 6 ∧ vp_in x4 6 ∧ vp_in x13 8 ∧ ∀ d36 : DD, d36 = u2 d 246 x13.toNatClampNeg ((d 246 x13.toNatClampNeg) - ((d 221 x4.toNatClampNeg) * (d 221 x4.toNatClampNeg))) → (b_X10_goes_203 n Q K90 k) x1 x2 x4 x5 x7 x8 x9 x10 x12 (x13 + 1) d36 dl) ∧ (¬ 200 ≤ ((d 246 x13.toNatClampNeg) - ((d 221 x4.toNatClampNeg) * (d 221 x4.toNatClampNeg))) → vp_in x13 8 ∧ ∀ d38 : DD, d38 = u2 d 246 x13.toNatClampNeg 200 → (b_X10_goes_203 n Q K90 k) x1 x2 x4 x5 x7 x8 x9 x10 x12 (x13 + 1) d38 dl))
def b_X10_goes_200 (n : Nat) (Q : Int32 → DD → LL → Prop) (K90 : Int32 → Int32 → Int32 → Int32 → Int32 → Int32 → Int32 → Int32 → DD → LL → Prop) (x1 : Int32) (x2 : Int32) (x4 : Int32) (x5 : Int32) (x7 : Int32) (x8 : Int32) (x9 : Int32) (x10 : Int32) (x12 : Int32) (d : DD) (dl : LL) : Prop := b_X10_goes_203 n Q K90 n x1 x2 x4 x5 x7 x8 x9 x10 x12 0 d dl
def b_X10_goes_182 (n : Nat) (Q : Int32 → DD → LL → Prop) (K90 : Int32 → Int32 → Int32 → Int32 → Int32 → Int32 → Int32 → Int32 → DD → LL → Prop) (x1 : Int32) (x2 : Int32) (x4 : Int32) (x5 : Int32) (x7 : Int32) (x8 : Int32) (x9 : Int32) (x10 : Int32) (xs0 : Int32) (d : DD) (dl : LL) : Prop := vp_in x2 4 ∧ ∀ v17 : Int32, v17 = (xs0 + (d 240 x2.toNatClampNeg)) → (1 ≤ v17 → b_X10_goes_200 n Q K90 x1 x2 x4 x5 x7 x8 x9 x10 v17 d dl) ∧ (¬ 1 ≤ v17 → b_X10_goes_200 n Q K90 x1 x2 x4 x5 x7 x8 x9 x10 1 d dl)
def b_X10_goes_104 (n : Nat) (Q : Int32 → DD → LL → Prop) (K90 : Int32 → Int32 → Int32 → Int32 → Int32 → Int32 → Int32 → Int32 → DD → LL → Prop) : Nat → Int32 → Int32 → Int32 → Int32 → Int32 → Int32 → Int32 → Int32 → Int32 → Int32 → DD → LL → Prop
  | 0 => fun _ _ _ _ _ _ _ _ _ _ _ _ => False
  | k + 1 => fun x1 x2 x4 x5 x7 x8 x9 x10 x11 x12 d dl => (x5 ≤ x12 → vp_in x4 6 ∧ ∀ v14 : Int32, v14 = (x11 * (d 221 x4.toNatClampNeg)) → (1 ≤ (v14 - x7) → b_X10_goes_182 n Q K90 x1 x2 x4 x5 x7 x8 x9 x10 (v14 - x7) d dl) ∧ (¬ 1 ≤ (v14 - x7) → b_X10_goes_182 n Q K90 x1 x2 x4 x5 x7 x8 x9 x10 1 d dl)) ∧ (¬ x5 ≤ x12 → vp_in (((8 : Int32) * x4) + x12) 48 ∧ vp_in (d 223 (((8 : Int32) * x4) + x12).toNatClampNeg) 40 ∧ vp_in x12 8 ∧ ∀ v42 : Int32, v42 = (x11 + (((d 213 (d 223 (((8 : Int32) * x4) + x12).toNatClampNeg).toNatClampNeg) * (d 246 x12.toNatClampNeg)) / 1000)) → (b_X10_goes_104 n Q K90 k) x1 x2 x4 x5 x7 x8 x9 x10 v42 (x12 + 1) d dl)
def b_X10_goes_90 (n : Nat) (Q : Int32 → DD → LL → Prop) : Nat → Int32 → Int32 → Int32 → Int32 → Int32 → Int32 → Int32 → Int32 → DD → LL → Prop
  | 0 => fun _ _ _ _ _ _ _ _ _ _ => False
  | k + 1 => fun x1 x2 x4 x5 x7 x8 x9 x10 d dl => (2000 < x10 → Q 0 d dl) ∧ (¬ 2000 < x10 → b_X10_goes_104 n Q (b_X10_goes_90 n Q k) n x1 x2 x4 x5 x7 x8 x9 x10 0 0 d dl)
def b_X10_goes_76 (n : Nat) (Q : Int32 → DD → LL → Prop) (x1 : Int32) (x2 : Int32) (x3 : Int32) (x4 : Int32) (x5 : Int32) (xs0 : Int32) (d : DD) (dl : LL) : Prop := ∀ v10 : Int32, v10 = ((10 : Int32) * x3) → b_X10_goes_90 n Q n x1 x2 x4 x5 xs0 v10 0 1 d dl
def b_X10_goes_22 (n : Nat) (Q : Int32 → DD → LL → Prop) : Nat → Int32 → Int32 → Int32 → Int32 → Int32 → Int32 → DD → LL → Prop
  | 0 => fun _ _ _ _ _ _ _ _ => False
  | k + 1 => fun x1 x2 x3 x4 x5 x6 d dl => (x5 ≤ x6 → F_X10_tilt n x4 223 ((8 : Int32) * x4) d dl (fun r6 d7 l8 => (0 ≤ r6 → b_X10_goes_76 n Q x1 x2 x3 x4 x5 (r6 / 10) d7 l8) ∧ (¬ 0 ≤ r6 → b_X10_goes_76 n Q x1 x2 x3 x4 x5 0 d7 l8))) ∧ (¬ x5 ≤ x6 → vp_in x6 8 ∧ ∀ d44 : DD, d44 = u2 d 246 x6.toNatClampNeg 1000 → (b_X10_goes_22 n Q k) x1 x2 x3 x4 x5 (x6 + 1) d44 dl)
def F_X10_goes (n : Nat) (x1 : Int32) (x2 : Int32) (x3 : Int32) (d : DD) (dl : LL) (Q : Int32 → DD → LL → Prop) : Prop := vp_in x1 96 ∧ ∀ v2 : Int32, v2 = (d 234 x1.toNatClampNeg) → vp_in v2 6 ∧ ∀ v4 : Int32, v4 = ((2 : Int32) * (d 218 v2.toNatClampNeg)) → b_X10_goes_22 n Q n x1 x2 x3 v2 v4 0 d dl
set_option maxHeartbeats 4000000 in
set_option maxRecDepth 100000 in
theorem t_X10_goes_203 {g : Ex} {x : Fx} {n : Nat} {Q : Int32 → DD → LL → Prop} (C0 : Cx g x cX10_goes 14 (some .boolean) RX10 3 73) (hZ : Zi g x Q) {K90 : Int32 → Int32 → Int32 → Int32 → Int32 → Int32 → Int32 → Int32 → DD → LL → Prop} (hK90 : ∀ (x1 : Int32) (x2 : Int32) (x4 : Int32) (x5 : Int32) (x7 : Int32) (x8 : Int32) (x9 : Int32) (x10 : Int32) (d : DD) (dl : LL), K90 x1 x2 x4 x5 x7 x8 x9 x10 d dl → FW g x 14 d dl 90 [(0, rf g 211), (1, .int x1), (2, .int x2), (4, .int x4), (5, .int x5), (7, .int x7), (8, .int x8), (9, .int x9), (10, .int x10)] []) : ∀ (j : Nat) (x1 : Int32) (x2 : Int32) (x4 : Int32) (x5 : Int32) (x7 : Int32) (x8 : Int32) (x9 : Int32) (x10 : Int32) (x12 : Int32) (x13 : Int32) (d : DD) (dl : LL), b_X10_goes_203 n Q K90 j x1 x2 x4 x5 x7 x8 x9 x10 x12 x13 d dl → FW g x 14 d dl 203 [(0, rf g 211), (1, .int x1), (2, .int x2), (4, .int x4), (5, .int x5), (7, .int x7), (8, .int x8), (9, .int x9), (10, .int x10), (12, .int x12), (13, .int x13)] [] := by
  intro j
  induction j with
  | zero =>
    intro x1 x2 x4 x5 x7 x8 x9 x10 x12 x13 d dl hw
    exact hw.elim
  | succ j hK203 =>
    intro x1 x2 x4 x5 x7 x8 x9 x10 x12 x13 d dl hw
    refine f_iload C0 dX10_goes_203 10 rfl ?_
    refine f_iload C0 dX10_goes_205 4 rfl ?_
    refine f_icmp_ge (tgt := 281) C0 dX10_goes_207 (by decide) (fun h19 => ?_) (fun h19 => ?_)
    · have hw := hw.1 h19
      refine f_iload C0 dX10_goes_281 6 rfl ?_
      refine f_iload C0 dX10_goes_283 7 rfl ?_
      refine f_isub C0 dX10_goes_285 ?_
      refine f_topi (fun v20 e20 => ?_)
      have hw := hw v20 e20
      refine f_istore (lo' := [(13, .int v20), (0, rf g 211), (1, .int x1), (2, .int x2), (4, .int x4), (5, .int x5), (7, .int x7), (8, .int x8), (9, .int x9), (10, .int x10), (12, .int x12)]) C0 dX10_goes_286 (by decide) rfl ?_
      refine f_iload C0 dX10_goes_288 8 rfl ?_
      refine f_iload C0 dX10_goes_290 10 rfl ?_
      refine f_iadd C0 dX10_goes_292 ?_
      refine f_topi (fun v21 e21 => ?_)
      have hw := hw v21 e21
      refine f_istore (lo' := [(9, .int v21), (13, .int v20), (0, rf g 211), (1, .int x1), (2, .int x2), (4, .int x4), (5, .int x5), (7, .int x7), (8, .int x8), (10, .int x10), (12, .int x12)]) C0 dX10_goes_293 (by decide) rfl ?_
      refine f_aload_n C0 dX10_goes_295 rfl 2 rfl ⟨_, rfl⟩ ?_
      refine gf_10_32 (r := 236) C0 rfl kn_211 mw_918 dX10_goes_296 ?_
      refine f_iload_n C0 dX10_goes_299 rfl 3 rfl ?_
      refine f_iload C0 dX10_goes_300 0 rfl ?_
      obtain ⟨h22, hw⟩ := hw
      refine f_iast C0 kn_236 h22 dX10_goes_302 (fun d23 ed23 => ?_)
      have hw := hw d23 ed23
      refine f_iload C0 dX10_goes_303 0 rfl ?_
      refine f_iload C0 dX10_goes_305 8 rfl ?_
      refine f_icmp_lt (tgt := 334) C0 dX10_goes_307 (by decide) (fun h24 => ?_) (fun h24 => ?_)
      · have hw := hw.1 h24
        refine f_iinc (lo' := [(10, .int (x10 + 1)), (9, .int v21), (13, .int v20), (0, rf g 211), (1, .int x1), (2, .int x2), (4, .int x4), (5, .int x5), (7, .int x7), (8, .int x8), (12, .int x12)]) C0 dX10_goes_334 9 rfl rfl (by decide) rfl ?_
        refine f_goto (tgt := 90) C0 dX10_goes_337 (by decide) ?_
        refine f_sub [3, 4, 5, 6, 7, 8, 9, 1, 0] rfl ?_
        exact hK90 _ _ _ _ _ _ _ _ _ _ hw
      · have hw := hw.2 h24
        refine f_aload_n C0 dX10_goes_310 rfl 2 rfl ⟨_, rfl⟩ ?_
        refine gf_10_31 (r := 235) C0 rfl kn_211 mw_917 dX10_goes_311 ?_
        refine f_iload_n C0 dX10_goes_314 rfl 3 rfl ?_
        refine f_bipush (v := 100) C0 dX10_goes_315 rfl ?_
        refine f_iload C0 dX10_goes_317 9 rfl ?_
        refine f_iconst (v := 1) C0 dX10_goes_319 rfl ?_
        refine f_isub C0 dX10_goes_320 ?_
        refine f_imul C0 dX10_goes_321 ?_
        refine f_iload C0 dX10_goes_322 1 rfl ?_
        refine f_bipush (v := 100) C0 dX10_goes_324 rfl ?_
        refine f_imul C0 dX10_goes_326 ?_
        refine f_iload C0 dX10_goes_327 10 rfl ?_
        obtain ⟨h25, hw⟩ := hw
        refine f_idiv C0 dX10_goes_329 h25 ?_
        refine f_iadd C0 dX10_goes_330 ?_
        obtain ⟨h26, hw⟩ := hw
        refine f_iast C0 kn_235 h26 dX10_goes_331 (fun d27 ed27 => ?_)
        have hw := hw d27 ed27
        refine f_iconst (v := 1) C0 dX10_goes_332 rfl ?_
        exact f_zret C0 hZ (by decide) hw dX10_goes_333
    · have hw := hw.2 h19
      refine f_aload_n C0 dX10_goes_210 rfl 0 rfl ⟨_, rfl⟩ ?_
      refine gf_10_42 (r := 246) C0 rfl kn_211 mw_928 dX10_goes_211 ?_
      refine f_iload C0 dX10_goes_214 10 rfl ?_
      refine f_aload_n C0 dX10_goes_216 rfl 0 rfl ⟨_, rfl⟩ ?_
      refine gf_10_42 (r := 246) C0 rfl kn_211 mw_928 dX10_goes_217 ?_
      refine f_iload C0 dX10_goes_220 10 rfl ?_
      obtain ⟨h28, hw⟩ := hw
      refine f_iald C0 kn_246 h28 dX10_goes_222 ?_
      refine f_aload_n C0 dX10_goes_223 rfl 0 rfl ⟨_, rfl⟩ ?_
      refine gf_10_17 (r := 221) C0 rfl kn_211 mw_903 dX10_goes_224 ?_
      refine f_iload C0 dX10_goes_227 3 rfl ?_
      obtain ⟨h29, hw⟩ := hw
      refine f_iald C0 kn_221 h29 dX10_goes_229 ?_
      refine f_aload_n C0 dX10_goes_230 rfl 0 rfl ⟨_, rfl⟩ ?_
      refine gf_10_17 (r := 221) C0 rfl kn_211 mw_903 dX10_goes_231 ?_
      refine f_iload C0 dX10_goes_234 3 rfl ?_
      obtain ⟨h30, hw⟩ := hw
      refine f_iald C0 kn_221 h30 dX10_goes_236 ?_
      refine f_imul C0 dX10_goes_237 ?_
      refine f_isub C0 dX10_goes_238 ?_
      refine f_sipush (v := 200) C0 dX10_goes_239 rfl ?_
      refine f_icmp_ge (tgt := 251) C0 dX10_goes_242 (by decide) (fun h31 => ?_) (fun h31 => ?_)
      · have hw := hw.1 h31
        refine f_aload_n C0 dX10_goes_251 rfl 0 rfl ⟨_, rfl⟩ ?_
        refine gf_10_42 (r := 246) C0 rfl kn_211 mw_928 dX10_goes_252 ?_
        refine f_iload C0 dX10_goes_255 10 rfl ?_
        obtain ⟨h32, hw⟩ := hw
        refine f_iald C0 kn_246 h32 dX10_goes_257 ?_
        refine f_aload_n C0 dX10_goes_258 rfl 0 rfl ⟨_, rfl⟩ ?_
        refine gf_10_17 (r := 221) C0 rfl kn_211 mw_903 dX10_goes_259 ?_
        refine f_iload C0 dX10_goes_262 3 rfl ?_
        obtain ⟨h33, hw⟩ := hw
        refine f_iald C0 kn_221 h33 dX10_goes_264 ?_
        refine f_aload_n C0 dX10_goes_265 rfl 0 rfl ⟨_, rfl⟩ ?_
        refine gf_10_17 (r := 221) C0 rfl kn_211 mw_903 dX10_goes_266 ?_
        refine f_iload C0 dX10_goes_269 3 rfl ?_
        obtain ⟨h34, hw⟩ := hw
        refine f_iald C0 kn_221 h34 dX10_goes_271 ?_
        refine f_imul C0 dX10_goes_272 ?_
        refine f_isub C0 dX10_goes_273 ?_
        obtain ⟨h35, hw⟩ := hw
        refine f_iast C0 kn_246 h35 dX10_goes_274 (fun d36 ed36 => ?_)
        have hw := hw d36 ed36
        refine f_iinc (lo' := [(13, .int (x13 + 1)), (0, rf g 211), (1, .int x1), (2, .int x2), (4, .int x4), (5, .int x5), (7, .int x7), (8, .int x8), (9, .int x9), (10, .int x10), (12, .int x12)]) C0 dX10_goes_275 10 rfl rfl (by decide) rfl ?_
        refine f_goto (tgt := 203) C0 dX10_goes_278 (by decide) ?_
        refine f_sub [1, 2, 3, 4, 5, 6, 7, 8, 9, 10, 0] rfl ?_
        exact hK203 _ _ _ _ _ _ _ _ _ _ _ _ hw
      · have hw := hw.2 h31
        refine f_sipush (v := 200) C0 dX10_goes_245 rfl ?_
        refine f_goto (tgt := 274) C0 dX10_goes_248 (by decide) ?_
        obtain ⟨h37, hw⟩ := hw
        refine f_iast C0 kn_246 h37 dX10_goes_274 (fun d38 ed38 => ?_)
        have hw := hw d38 ed38
        refine f_iinc (lo' := [(13, .int (x13 + 1)), (0, rf g 211), (1, .int x1), (2, .int x2), (4, .int x4), (5, .int x5), (7, .int x7), (8, .int x8), (9, .int x9), (10, .int x10), (12, .int x12)]) C0 dX10_goes_275 10 rfl rfl (by decide) rfl ?_
        refine f_goto (tgt := 203) C0 dX10_goes_278 (by decide) ?_
        refine f_sub [1, 2, 3, 4, 5, 6, 7, 8, 9, 10, 0] rfl ?_
        exact hK203 _ _ _ _ _ _ _ _ _ _ _ _ hw
set_option maxHeartbeats 4000000 in
set_option maxRecDepth 100000 in
theorem t_X10_goes_200 {g : Ex} {x : Fx} {n : Nat} {Q : Int32 → DD → LL → Prop} (C0 : Cx g x cX10_goes 14 (some .boolean) RX10 3 73) (hZ : Zi g x Q) {K90 : Int32 → Int32 → Int32 → Int32 → Int32 → Int32 → Int32 → Int32 → DD → LL → Prop} (hK90 : ∀ (x1 : Int32) (x2 : Int32) (x4 : Int32) (x5 : Int32) (x7 : Int32) (x8 : Int32) (x9 : Int32) (x10 : Int32) (d : DD) (dl : LL), K90 x1 x2 x4 x5 x7 x8 x9 x10 d dl → FW g x 14 d dl 90 [(0, rf g 211), (1, .int x1), (2, .int x2), (4, .int x4), (5, .int x5), (7, .int x7), (8, .int x8), (9, .int x9), (10, .int x10)] []) : ∀ (x1 : Int32) (x2 : Int32) (x4 : Int32) (x5 : Int32) (x7 : Int32) (x8 : Int32) (x9 : Int32) (x10 : Int32) (x12 : Int32) (d : DD) (dl : LL), b_X10_goes_200 n Q K90 x1 x2 x4 x5 x7 x8 x9 x10 x12 d dl → FW g x 14 d dl 200 [(0, rf g 211), (1, .int x1), (2, .int x2), (4, .int x4), (5, .int x5), (7, .int x7), (8, .int x8), (9, .int x9), (10, .int x10), (12, .int x12)] [] := by
  intro x1 x2 x4 x5 x7 x8 x9 x10 x12 d dl hw
  refine f_iconst (v := 0) C0 dX10_goes_200 rfl ?_
  refine f_istore (lo' := [(13, .int 0), (0, rf g 211), (1, .int x1), (2, .int x2), (4, .int x4), (5, .int x5), (7, .int x7), (8, .int x8), (9, .int x9), (10, .int x10), (12, .int x12)]) C0 dX10_goes_201 (by decide) rfl ?_
  refine f_sub [1, 2, 3, 4, 5, 6, 7, 8, 9, 10, 0] rfl ?_
  exact t_X10_goes_203 C0 hZ hK90 n _ _ _ _ _ _ _ _ _ _ _ _ hw
set_option maxHeartbeats 4000000 in
set_option maxRecDepth 100000 in
theorem t_X10_goes_182 {g : Ex} {x : Fx} {n : Nat} {Q : Int32 → DD → LL → Prop} (C0 : Cx g x cX10_goes 14 (some .boolean) RX10 3 73) (hZ : Zi g x Q) {K90 : Int32 → Int32 → Int32 → Int32 → Int32 → Int32 → Int32 → Int32 → DD → LL → Prop} (hK90 : ∀ (x1 : Int32) (x2 : Int32) (x4 : Int32) (x5 : Int32) (x7 : Int32) (x8 : Int32) (x9 : Int32) (x10 : Int32) (d : DD) (dl : LL), K90 x1 x2 x4 x5 x7 x8 x9 x10 d dl → FW g x 14 d dl 90 [(0, rf g 211), (1, .int x1), (2, .int x2), (4, .int x4), (5, .int x5), (7, .int x7), (8, .int x8), (9, .int x9), (10, .int x10)] []) : ∀ (x1 : Int32) (x2 : Int32) (x4 : Int32) (x5 : Int32) (x7 : Int32) (x8 : Int32) (x9 : Int32) (x10 : Int32) (xs0 : Int32) (d : DD) (dl : LL), b_X10_goes_182 n Q K90 x1 x2 x4 x5 x7 x8 x9 x10 xs0 d dl → FW g x 14 d dl 182 [(0, rf g 211), (1, .int x1), (2, .int x2), (4, .int x4), (5, .int x5), (7, .int x7), (8, .int x8), (9, .int x9), (10, .int x10)] [.int xs0] := by
  intro x1 x2 x4 x5 x7 x8 x9 x10 xs0 d dl hw
  refine f_aload_n C0 dX10_goes_182 rfl 0 rfl ⟨_, rfl⟩ ?_
  refine gf_10_36 (r := 240) C0 rfl kn_211 mw_922 dX10_goes_183 ?_
  refine f_iload_n C0 dX10_goes_186 rfl 2 rfl ?_
  obtain ⟨h16, hw⟩ := hw
  refine f_iald C0 kn_240 h16 dX10_goes_187 ?_
  refine f_iadd C0 dX10_goes_188 ?_
  refine f_topi (fun v17 e17 => ?_)
  have hw := hw v17 e17
  refine f_istore (lo' := [(12, .int v17), (0, rf g 211), (1, .int x1), (2, .int x2), (4, .int x4), (5, .int x5), (7, .int x7), (8, .int x8), (9, .int x9), (10, .int x10)]) C0 dX10_goes_189 (by decide) rfl ?_
  refine f_iload C0 dX10_goes_191 0 rfl ?_
  refine f_iconst (v := 1) C0 dX10_goes_193 rfl ?_
  refine f_icmp_ge (tgt := 200) C0 dX10_goes_194 (by decide) (fun h18 => ?_) (fun h18 => ?_)
  · have hw := hw.1 h18
    refine f_sub [1, 2, 3, 4, 5, 6, 7, 8, 9, 0] rfl ?_
    exact t_X10_goes_200 C0 hZ hK90 _ _ _ _ _ _ _ _ _ _ _ hw
  · have hw := hw.2 h18
    refine f_iconst (v := 1) C0 dX10_goes_197 rfl ?_
    refine f_istore (lo' := [(12, .int 1), (0, rf g 211), (1, .int x1), (2, .int x2), (4, .int x4), (5, .int x5), (7, .int x7), (8, .int x8), (9, .int x9), (10, .int x10)]) C0 dX10_goes_198 (by decide) rfl ?_
    refine f_sub [1, 2, 3, 4, 5, 6, 7, 8, 9, 0] rfl ?_
    exact t_X10_goes_200 C0 hZ hK90 _ _ _ _ _ _ _ _ _ _ _ hw
set_option maxHeartbeats 4000000 in
set_option maxRecDepth 100000 in
theorem t_X10_goes_104 {g : Ex} {x : Fx} {n : Nat} {Q : Int32 → DD → LL → Prop} (C0 : Cx g x cX10_goes 14 (some .boolean) RX10 3 73) (hZ : Zi g x Q) {K90 : Int32 → Int32 → Int32 → Int32 → Int32 → Int32 → Int32 → Int32 → DD → LL → Prop} (hK90 : ∀ (x1 : Int32) (x2 : Int32) (x4 : Int32) (x5 : Int32) (x7 : Int32) (x8 : Int32) (x9 : Int32) (x10 : Int32) (d : DD) (dl : LL), K90 x1 x2 x4 x5 x7 x8 x9 x10 d dl → FW g x 14 d dl 90 [(0, rf g 211), (1, .int x1), (2, .int x2), (4, .int x4), (5, .int x5), (7, .int x7), (8, .int x8), (9, .int x9), (10, .int x10)] []) : ∀ (j : Nat) (x1 : Int32) (x2 : Int32) (x4 : Int32) (x5 : Int32) (x7 : Int32) (x8 : Int32) (x9 : Int32) (x10 : Int32) (x11 : Int32) (x12 : Int32) (d : DD) (dl : LL), b_X10_goes_104 n Q K90 j x1 x2 x4 x5 x7 x8 x9 x10 x11 x12 d dl → FW g x 14 d dl 104 [(0, rf g 211), (1, .int x1), (2, .int x2), (4, .int x4), (5, .int x5), (7, .int x7), (8, .int x8), (9, .int x9), (10, .int x10), (11, .int x11), (12, .int x12)] [] := by
  intro j
  induction j with
  | zero =>
    intro x1 x2 x4 x5 x7 x8 x9 x10 x11 x12 d dl hw
    exact hw.elim
  | succ j hK104 =>
    intro x1 x2 x4 x5 x7 x8 x9 x10 x11 x12 d dl hw
    refine f_iload C0 dX10_goes_104 10 rfl ?_
    refine f_iload C0 dX10_goes_106 4 rfl ?_
    refine f_icmp_ge (tgt := 152) C0 dX10_goes_108 (by decide) (fun h12 => ?_) (fun h12 => ?_)
    · have hw := hw.1 h12
      refine f_iload C0 dX10_goes_152 9 rfl ?_
      refine f_aload_n C0 dX10_goes_154 rfl 0 rfl ⟨_, rfl⟩ ?_
      refine gf_10_17 (r := 221) C0 rfl kn_211 mw_903 dX10_goes_155 ?_
      refine f_iload C0 dX10_goes_158 3 rfl ?_
      obtain ⟨h13, hw⟩ := hw
      refine f_iald C0 kn_221 h13 dX10_goes_160 ?_
      refine f_imul C0 dX10_goes_161 ?_
      refine f_topi (fun v14 e14 => ?_)
      have hw := hw v14 e14
      refine f_istore (lo' := [(11, .int v14), (0, rf g 211), (1, .int x1), (2, .int x2), (4, .int x4), (5, .int x5), (7, .int x7), (8, .int x8), (9, .int x9), (10, .int x10), (12, .int x12)]) C0 dX10_goes_162 (by decide) rfl ?_
      refine f_iload C0 dX10_goes_164 0 rfl ?_
      refine f_iload C0 dX10_goes_166 6 rfl ?_
      refine f_isub C0 dX10_goes_168 ?_
      refine f_iconst (v := 1) C0 dX10_goes_169 rfl ?_
      refine f_icmp_ge (tgt := 177) C0 dX10_goes_170 (by decide) (fun h15 => ?_) (fun h15 => ?_)
      · have hw := hw.1 h15
        refine f_iload C0 dX10_goes_177 0 rfl ?_
        refine f_iload C0 dX10_goes_179 6 rfl ?_
        refine f_isub C0 dX10_goes_181 ?_
        refine f_sub [1, 2, 3, 4, 5, 6, 7, 8, 9] rfl ?_
        exact t_X10_goes_182 C0 hZ hK90 _ _ _ _ _ _ _ _ _ _ _ hw
      · have hw := hw.2 h15
        refine f_iconst (v := 1) C0 dX10_goes_173 rfl ?_
        refine f_goto (tgt := 182) C0 dX10_goes_174 (by decide) ?_
        refine f_sub [1, 2, 3, 4, 5, 6, 7, 8, 9] rfl ?_
        exact t_X10_goes_182 C0 hZ hK90 _ _ _ _ _ _ _ _ _ _ _ hw
    · have hw := hw.2 h12
      refine f_iload C0 dX10_goes_111 9 rfl ?_
      refine f_aload_n C0 dX10_goes_113 rfl 0 rfl ⟨_, rfl⟩ ?_
      refine gf_10_9 (r := 213) C0 rfl kn_211 mw_895 dX10_goes_114 ?_
      refine f_aload_n C0 dX10_goes_117 rfl 0 rfl ⟨_, rfl⟩ ?_
      refine gf_10_19 (r := 223) C0 rfl kn_211 mw_905 dX10_goes_118 ?_
      refine f_bipush (v := 8) C0 dX10_goes_121 rfl ?_
      refine f_iload C0 dX10_goes_123 3 rfl ?_
      refine f_imul C0 dX10_goes_125 ?_
      refine f_iload C0 dX10_goes_126 10 rfl ?_
      refine f_iadd C0 dX10_goes_128 ?_
      obtain ⟨h39, hw⟩ := hw
      refine f_iald C0 kn_223 h39 dX10_goes_129 ?_
      obtain ⟨h40, hw⟩ := hw
      refine f_iald C0 kn_213 h40 dX10_goes_130 ?_
      refine f_aload_n C0 dX10_goes_131 rfl 0 rfl ⟨_, rfl⟩ ?_
      refine gf_10_42 (r := 246) C0 rfl kn_211 mw_928 dX10_goes_132 ?_
      refine f_iload C0 dX10_goes_135 10 rfl ?_
      obtain ⟨h41, hw⟩ := hw
      refine f_iald C0 kn_246 h41 dX10_goes_137 ?_
      refine f_imul C0 dX10_goes_138 ?_
      refine f_sipush (v := 1000) C0 dX10_goes_139 rfl ?_
      refine f_idiv C0 dX10_goes_142 (by decide) ?_
      refine f_iadd C0 dX10_goes_143 ?_
      refine f_topi (fun v42 e42 => ?_)
      have hw := hw v42 e42
      refine f_istore (lo' := [(11, .int v42), (0, rf g 211), (1, .int x1), (2, .int x2), (4, .int x4), (5, .int x5), (7, .int x7), (8, .int x8), (9, .int x9), (10, .int x10), (12, .int x12)]) C0 dX10_goes_144 (by decide) rfl ?_
      refine f_iinc (lo' := [(12, .int (x12 + 1)), (11, .int v42), (0, rf g 211), (1, .int x1), (2, .int x2), (4, .int x4), (5, .int x5), (7, .int x7), (8, .int x8), (9, .int x9), (10, .int x10)]) C0 dX10_goes_146 10 rfl rfl (by decide) rfl ?_
      refine f_goto (tgt := 104) C0 dX10_goes_149 (by decide) ?_
      refine f_sub [2, 3, 4, 5, 6, 7, 8, 9, 10, 1, 0] rfl ?_
      exact hK104 _ _ _ _ _ _ _ _ _ _ _ _ hw
set_option maxHeartbeats 4000000 in
set_option maxRecDepth 100000 in
theorem t_X10_goes_90 {g : Ex} {x : Fx} {n : Nat} {Q : Int32 → DD → LL → Prop} (C0 : Cx g x cX10_goes 14 (some .boolean) RX10 3 73) (hZ : Zi g x Q) : ∀ (j : Nat) (x1 : Int32) (x2 : Int32) (x4 : Int32) (x5 : Int32) (x7 : Int32) (x8 : Int32) (x9 : Int32) (x10 : Int32) (d : DD) (dl : LL), b_X10_goes_90 n Q j x1 x2 x4 x5 x7 x8 x9 x10 d dl → FW g x 14 d dl 90 [(0, rf g 211), (1, .int x1), (2, .int x2), (4, .int x4), (5, .int x5), (7, .int x7), (8, .int x8), (9, .int x9), (10, .int x10)] [] := by
  intro j
  induction j with
  | zero =>
    intro x1 x2 x4 x5 x7 x8 x9 x10 d dl hw
    exact hw.elim
  | succ j hK90 =>
    intro x1 x2 x4 x5 x7 x8 x9 x10 d dl hw
    refine f_iload C0 dX10_goes_90 8 rfl ?_
    refine f_sipush (v := 2000) C0 dX10_goes_92 rfl ?_
    refine f_icmp_gt (tgt := 340) C0 dX10_goes_95 (by decide) (fun h11 => ?_) (fun h11 => ?_)
    · have hw := hw.1 h11
      refine f_iconst (v := 0) C0 dX10_goes_340 rfl ?_
      exact f_zret C0 hZ (by decide) hw dX10_goes_341
    · have hw := hw.2 h11
      refine f_iconst (v := 0) C0 dX10_goes_98 rfl ?_
      refine f_istore (lo' := [(11, .int 0), (0, rf g 211), (1, .int x1), (2, .int x2), (4, .int x4), (5, .int x5), (7, .int x7), (8, .int x8), (9, .int x9), (10, .int x10)]) C0 dX10_goes_99 (by decide) rfl ?_
      refine f_iconst (v := 0) C0 dX10_goes_101 rfl ?_
      refine f_istore (lo' := [(12, .int 0), (11, .int 0), (0, rf g 211), (1, .int x1), (2, .int x2), (4, .int x4), (5, .int x5), (7, .int x7), (8, .int x8), (9, .int x9), (10, .int x10)]) C0 dX10_goes_102 (by decide) rfl ?_
      refine f_sub [2, 3, 4, 5, 6, 7, 8, 9, 10, 1, 0] rfl ?_
      exact t_X10_goes_104 C0 hZ hK90 n _ _ _ _ _ _ _ _ _ _ _ _ hw
set_option maxHeartbeats 4000000 in
set_option maxRecDepth 100000 in
theorem t_X10_goes_76 {g : Ex} {x : Fx} {n : Nat} {Q : Int32 → DD → LL → Prop} (C0 : Cx g x cX10_goes 14 (some .boolean) RX10 3 73) (hZ : Zi g x Q) : ∀ (x1 : Int32) (x2 : Int32) (x3 : Int32) (x4 : Int32) (x5 : Int32) (xs0 : Int32) (d : DD) (dl : LL), b_X10_goes_76 n Q x1 x2 x3 x4 x5 xs0 d dl → FW g x 14 d dl 76 [(0, rf g 211), (1, .int x1), (2, .int x2), (3, .int x3), (4, .int x4), (5, .int x5)] [.int xs0] := by
  intro x1 x2 x3 x4 x5 xs0 d dl hw
  refine f_istore (lo' := [(7, .int xs0), (0, rf g 211), (1, .int x1), (2, .int x2), (3, .int x3), (4, .int x4), (5, .int x5)]) C0 dX10_goes_76 (by decide) rfl ?_
  refine f_bipush (v := 10) C0 dX10_goes_78 rfl ?_
  refine f_iload_n C0 dX10_goes_80 rfl 4 rfl ?_
  refine f_imul C0 dX10_goes_81 ?_
  refine f_topi (fun v10 e10 => ?_)
  have hw := hw v10 e10
  refine f_istore (lo' := [(8, .int v10), (7, .int xs0), (0, rf g 211), (1, .int x1), (2, .int x2), (3, .int x3), (4, .int x4), (5, .int x5)]) C0 dX10_goes_82 (by decide) rfl ?_
  refine f_iconst (v := 0) C0 dX10_goes_84 rfl ?_
  refine f_istore (lo' := [(9, .int 0), (8, .int v10), (7, .int xs0), (0, rf g 211), (1, .int x1), (2, .int x2), (3, .int x3), (4, .int x4), (5, .int x5)]) C0 dX10_goes_85 (by decide) rfl ?_
  refine f_iconst (v := 1) C0 dX10_goes_87 rfl ?_
  refine f_istore (lo' := [(10, .int 1), (9, .int 0), (8, .int v10), (7, .int xs0), (0, rf g 211), (1, .int x1), (2, .int x2), (3, .int x3), (4, .int x4), (5, .int x5)]) C0 dX10_goes_88 (by decide) rfl ?_
  refine f_sub [4, 5, 6, 8, 9, 3, 2, 1, 0] rfl ?_
  exact t_X10_goes_90 C0 hZ n _ _ _ _ _ _ _ _ _ _ hw
set_option maxHeartbeats 4000000 in
set_option maxRecDepth 100000 in
theorem t_X10_goes_22 {g : Ex} {x : Fx} {n : Nat} {Q : Int32 → DD → LL → Prop} (C0 : Cx g x cX10_goes 14 (some .boolean) RX10 3 73) (hZ : Zi g x Q) : ∀ (j : Nat) (x1 : Int32) (x2 : Int32) (x3 : Int32) (x4 : Int32) (x5 : Int32) (x6 : Int32) (d : DD) (dl : LL), b_X10_goes_22 n Q j x1 x2 x3 x4 x5 x6 d dl → FW g x 14 d dl 22 [(0, rf g 211), (1, .int x1), (2, .int x2), (3, .int x3), (4, .int x4), (5, .int x5), (6, .int x6)] [] := by
  intro j
  induction j with
  | zero =>
    intro x1 x2 x3 x4 x5 x6 d dl hw
    exact hw.elim
  | succ j hK22 =>
    intro x1 x2 x3 x4 x5 x6 d dl hw
    refine f_iload C0 dX10_goes_22 6 rfl ?_
    refine f_iload C0 dX10_goes_24 5 rfl ?_
    refine f_icmp_ge (tgt := 45) C0 dX10_goes_26 (by decide) (fun h5 => ?_) (fun h5 => ?_)
    · have hw := hw.1 h5
      refine f_aload_n C0 dX10_goes_45 rfl 0 rfl ⟨_, rfl⟩ ?_
      refine f_iload C0 dX10_goes_46 4 rfl ?_
      refine f_aload_n C0 dX10_goes_48 rfl 0 rfl ⟨_, rfl⟩ ?_
      refine gf_10_19 (r := 223) C0 rfl kn_211 mw_905 dX10_goes_49 ?_
      refine f_bipush (v := 8) C0 dX10_goes_52 rfl ?_
      refine f_iload C0 dX10_goes_54 4 rfl ?_
      refine f_imul C0 dX10_goes_56 ?_
      refine f_callVi (As := [.int x4, rf g 223, .int ((8 : Int32) * x4)]) (rest := []) C0 (m_X10_tilt ⟨kn_223.1, kn_223.2.1, rfl⟩ hw) cw_X10_154 kn_211 (by decide) rfl rfl ⟨(Nat.le_of_ble_eq_true rfl), (Nat.le_of_ble_eq_true rfl)⟩ rfl rfl (Nat.le_of_ble_eq_true rfl) dX10_goes_57 ?_
      intro r6 d7 l8 hw
      refine f_istore (lo' := [(6, .int r6), (0, rf g 211), (1, .int x1), (2, .int x2), (3, .int x3), (4, .int x4), (5, .int x5)]) C0 dX10_goes_60 (by decide) rfl ?_
      refine f_iload C0 dX10_goes_62 0 rfl ?_
      refine f_if_ge (tgt := 71) C0 dX10_goes_64 (by decide) (fun h9 => ?_) (fun h9 => ?_)
      · have hw := hw.1 h9
        refine f_iload C0 dX10_goes_71 0 rfl ?_
        refine f_bipush (v := 10) C0 dX10_goes_73 rfl ?_
        refine f_idiv C0 dX10_goes_75 (by decide) ?_
        refine f_sub [1, 2, 3, 4, 5, 6] rfl ?_
        exact t_X10_goes_76 C0 hZ _ _ _ _ _ _ _ _ hw
      · have hw := hw.2 h9
        refine f_iconst (v := 0) C0 dX10_goes_67 rfl ?_
        refine f_goto (tgt := 76) C0 dX10_goes_68 (by decide) ?_
        refine f_sub [1, 2, 3, 4, 5, 6] rfl ?_
        exact t_X10_goes_76 C0 hZ _ _ _ _ _ _ _ _ hw
    · have hw := hw.2 h5
      refine f_aload_n C0 dX10_goes_29 rfl 0 rfl ⟨_, rfl⟩ ?_
      refine gf_10_42 (r := 246) C0 rfl kn_211 mw_928 dX10_goes_30 ?_
      refine f_iload C0 dX10_goes_33 6 rfl ?_
      refine f_sipush (v := 1000) C0 dX10_goes_35 rfl ?_
      obtain ⟨h43, hw⟩ := hw
      refine f_iast C0 kn_246 h43 dX10_goes_38 (fun d44 ed44 => ?_)
      have hw := hw d44 ed44
      refine f_iinc (lo' := [(6, .int (x6 + 1)), (0, rf g 211), (1, .int x1), (2, .int x2), (3, .int x3), (4, .int x4), (5, .int x5)]) C0 dX10_goes_39 6 rfl rfl (by decide) rfl ?_
      refine f_goto (tgt := 22) C0 dX10_goes_42 (by decide) ?_
      refine f_sub [1, 2, 3, 4, 5, 6, 0] rfl ?_
      exact hK22 _ _ _ _ _ _ _ _ hw
set_option maxHeartbeats 4000000 in
set_option maxRecDepth 100000 in
theorem m_X10_goes {g : Ex} {n : Nat} {x1 : Int32} {x2 : Int32} {x3 : Int32} {d : DD} {dl : LL} {Q : Int32 → DD → LL → Prop} (hw : F_X10_goes n x1 x2 x3 d dl Q) : Mi g yX10_goes cX10_goes 14 (some .boolean) 3 73 [rf g 211, .int x1, .int x2, .int x3] d dl Q := by
  refine Mi.of (by decide) (Nat.le_of_ble_eq_true rfl) (fun x C0 hZ => ?_)
  have C0 : Cx g x cX10_goes 14 (some .boolean) RX10 3 73 := C0
  refine f_aload_n C0 dX10_goes_0 rfl 0 rfl ⟨_, rfl⟩ ?_
  refine gf_10_30 (r := 234) C0 rfl kn_211 mw_916 dX10_goes_1 ?_
  refine f_iload_n C0 dX10_goes_4 rfl 1 rfl ?_
  obtain ⟨h1, hw⟩ := hw
  refine f_iald C0 kn_234 h1 dX10_goes_5 ?_
  refine f_topi (fun v2 e2 => ?_)
  have hw := hw v2 e2
  refine f_istore (lo' := [(4, .int v2), (0, rf g 211), (1, .int x1), (2, .int x2), (3, .int x3)]) C0 dX10_goes_6 (by decide) rfl ?_
  refine f_iconst (v := 2) C0 dX10_goes_8 rfl ?_
  refine f_aload_n C0 dX10_goes_9 rfl 1 rfl ⟨_, rfl⟩ ?_
  refine gf_10_14 (r := 218) C0 rfl kn_211 mw_900 dX10_goes_10 ?_
  refine f_iload C0 dX10_goes_13 0 rfl ?_
  obtain ⟨h3, hw⟩ := hw
  refine f_iald C0 kn_218 h3 dX10_goes_15 ?_
  refine f_imul C0 dX10_goes_16 ?_
  refine f_topi (fun v4 e4 => ?_)
  have hw := hw v4 e4
  refine f_istore (lo' := [(5, .int v4), (4, .int v2), (0, rf g 211), (1, .int x1), (2, .int x2), (3, .int x3)]) C0 dX10_goes_17 (by decide) rfl ?_
  refine f_iconst (v := 0) C0 dX10_goes_19 rfl ?_
  refine f_istore (lo' := [(6, .int 0), (5, .int v4), (4, .int v2), (0, rf g 211), (1, .int x1), (2, .int x2), (3, .int x3)]) C0 dX10_goes_20 (by decide) rfl ?_
  refine f_sub [3, 4, 5, 6, 2, 1, 0] rfl ?_
  exact t_X10_goes_22 C0 hZ n _ _ _ _ _ _ _ _ hw
def b_X10_run_79 (n : Nat) (Q : Int32 → DD → LL → Prop) : Nat → Int32 → Int32 → Int32 → Int32 → DD → LL → Prop
  | 0 => fun _ _ _ _ _ _ => False
  | k + 1 => fun x1 x2 x3 x4 d dl => (4 ≤ x4 → Q x3 d dl) ∧ (¬ 4 ≤ x4 → ∀ v13 : Int32, v13 = (((4 : Int32) * x1) + x4) → vp_in v13 96 ∧ ((d 234 v13.toNatClampNeg) = (-1) → (b_X10_run_79 n Q k) x1 x2 x3 (x4 + 1) d dl) ∧ (¬ (d 234 v13.toNatClampNeg) = (-1) → vp_in v13 96 ∧ (¬ (d 237 v13.toNatClampNeg) = 0 → (b_X10_run_79 n Q k) x1 x2 x3 (x4 + 1) d dl) ∧ ((d 237 v13.toNatClampNeg) = 0 → vp_in v13 96 ∧ vp_in (d 234 v13.toNatClampNeg) 6 ∧ ((d 224 (d 234 v13.toNatClampNeg).toNatClampNeg) = 0 → (b_X10_run_79 n Q k) x1 x2 x3 (x4 + 1) d dl) ∧ (¬ (d 224 (d 234 v13.toNatClampNeg).toNatClampNeg) = 0 → F_X10_goes n v13 x4 x2 d dl (fun r21 d22 l23 => (r21 = 0 → (b_X10_run_79 n Q k) x1 x2 x3 (x4 + 1) d22 l23) ∧ (¬ r21 = 0 → (b_X10_run_79 n Q k) x1 x2 (x3 + 1) (x4 + 1) d22 l23))))))
def b_X10_run_28 (n : Nat) (Q : Int32 → DD → LL → Prop) : Nat → Int32 → Int32 → Int32 → DD → LL → Prop
  | 0 => fun _ _ _ _ _ => False
  | k + 1 => fun x1 x2 x3 d dl => (4 ≤ x3 → vp_in x1 24 ∧ ((d 238 x1.toNatClampNeg) = 0 → vp_in x1 24 ∧ ∀ d11 : DD, d11 = u2 d 238 x1.toNatClampNeg (vp_nar .boolean 1) → b_X10_run_79 n Q n x1 x2 0 0 d11 dl) ∧ (¬ (d 238 x1.toNatClampNeg) = 0 → Q (-3) d dl)) ∧ (¬ 4 ≤ x3 → vp_in (((4 : Int32) * x1) + x3) 96 ∧ ((d 235 (((4 : Int32) * x1) + x3).toNatClampNeg) ≤ 0 → (b_X10_run_28 n Q k) x1 x2 (x3 + 1) d dl) ∧ (¬ (d 235 (((4 : Int32) * x1) + x3).toNatClampNeg) ≤ 0 → Q (-3) d dl))
def F_X10_run (n : Nat) (x1 : Int32) (x2 : Int32) (d : DD) (dl : LL) (Q : Int32 → DD → LL → Prop) : Prop := F_X10_isRace n x1 d dl (fun r1 d2 l3 => (¬ r1 = 0 → (x2 < 100 → Q (-2) d2 l3) ∧ (¬ x2 < 100 → (x2 ≤ 2000 → b_X10_run_28 n Q n x1 x2 0 d2 l3) ∧ (¬ x2 ≤ 2000 → Q (-2) d2 l3))) ∧ (r1 = 0 → Q (-1) d2 l3))
set_option maxHeartbeats 4000000 in
set_option maxRecDepth 100000 in
theorem t_X10_run_79 {g : Ex} {x : Fx} {n : Nat} {Q : Int32 → DD → LL → Prop} (C0 : Cx g x cX10_run 6 (some .int) RX10 4 106) (hZ : Zi g x Q) : ∀ (j : Nat) (x1 : Int32) (x2 : Int32) (x3 : Int32) (x4 : Int32) (d : DD) (dl : LL), b_X10_run_79 n Q j x1 x2 x3 x4 d dl → FW g x 6 d dl 79 [(0, rf g 211), (1, .int x1), (2, .int x2), (3, .int x3), (4, .int x4)] [] := by
  intro j
  induction j with
  | zero =>
    intro x1 x2 x3 x4 d dl hw
    exact hw.elim
  | succ j hK79 =>
    intro x1 x2 x3 x4 d dl hw
    refine f_iload C0 dX10_run_79 4 rfl ?_
    refine f_iconst (v := 4) C0 dX10_run_81 rfl ?_
    refine f_icmp_ge (tgt := 150) C0 dX10_run_82 (by decide) (fun h12 => ?_) (fun h12 => ?_)
    · have hw := hw.1 h12
      refine f_iload_n C0 dX10_run_150 rfl 3 rfl ?_
      exact f_iret C0 hZ hw dX10_run_151
    · have hw := hw.2 h12
      refine f_iconst (v := 4) C0 dX10_run_85 rfl ?_
      refine f_iload_n C0 dX10_run_86 rfl 1 rfl ?_
      refine f_imul C0 dX10_run_87 ?_
      refine f_iload C0 dX10_run_88 4 rfl ?_
      refine f_iadd C0 dX10_run_90 ?_
      refine f_topi (fun v13 e13 => ?_)
      have hw := hw v13 e13
      refine f_istore (lo' := [(5, .int v13), (0, rf g 211), (1, .int x1), (2, .int x2), (3, .int x3), (4, .int x4)]) C0 dX10_run_91 (by decide) rfl ?_
      refine f_aload_n C0 dX10_run_93 rfl 1 rfl ⟨_, rfl⟩ ?_
      refine gf_10_30 (r := 234) C0 rfl kn_211 mw_916 dX10_run_94 ?_
      refine f_iload C0 dX10_run_97 0 rfl ?_
      obtain ⟨h14, hw⟩ := hw
      refine f_iald C0 kn_234 h14 dX10_run_99 ?_
      refine f_iconst (v := (-1)) C0 dX10_run_100 rfl ?_
      refine f_icmp_eq (tgt := 144) C0 dX10_run_101 (by decide) (fun h15 => ?_) (fun h15 => ?_)
      · have hw := hw.1 h15
        refine f_iinc (lo' := [(4, .int (x4 + 1)), (5, .int v13), (0, rf g 211), (1, .int x1), (2, .int x2), (3, .int x3)]) C0 dX10_run_144 5 rfl rfl (by decide) rfl ?_
        refine f_goto (tgt := 79) C0 dX10_run_147 (by decide) ?_
        refine f_sub [2, 3, 4, 5, 0] rfl ?_
        exact hK79 _ _ _ _ _ _ hw
      · have hw := hw.2 h15
        refine f_aload_n C0 dX10_run_104 rfl 1 rfl ⟨_, rfl⟩ ?_
        refine gf_10_33 (r := 237) C0 rfl kn_211 mw_919 dX10_run_105 ?_
        refine f_iload C0 dX10_run_108 0 rfl ?_
        obtain ⟨h16, hw⟩ := hw
        refine f_zald C0 kn_237 h16 dX10_run_110 ?_
        refine f_if_ne (tgt := 144) C0 dX10_run_111 (by decide) (fun h17 => ?_) (fun h17 => ?_)
        · have hw := hw.1 h17
          refine f_iinc (lo' := [(4, .int (x4 + 1)), (5, .int v13), (0, rf g 211), (1, .int x1), (2, .int x2), (3, .int x3)]) C0 dX10_run_144 5 rfl rfl (by decide) rfl ?_
          refine f_goto (tgt := 79) C0 dX10_run_147 (by decide) ?_
          refine f_sub [2, 3, 4, 5, 0] rfl ?_
          exact hK79 _ _ _ _ _ _ hw
        · have hw := hw.2 h17
          refine f_aload_n C0 dX10_run_114 rfl 1 rfl ⟨_, rfl⟩ ?_
          refine gf_10_20 (r := 224) C0 rfl kn_211 mw_906 dX10_run_115 ?_
          refine f_aload_n C0 dX10_run_118 rfl 1 rfl ⟨_, rfl⟩ ?_
          refine gf_10_30 (r := 234) C0 rfl kn_211 mw_916 dX10_run_119 ?_
          refine f_iload C0 dX10_run_122 0 rfl ?_
          obtain ⟨h18, hw⟩ := hw
          refine f_iald C0 kn_234 h18 dX10_run_124 ?_
          obtain ⟨h19, hw⟩ := hw
          refine f_zald C0 kn_224 h19 dX10_run_125 ?_
          refine f_if_eq (tgt := 144) C0 dX10_run_126 (by decide) (fun h20 => ?_) (fun h20 => ?_)
          · have hw := hw.1 h20
            refine f_iinc (lo' := [(4, .int (x4 + 1)), (5, .int v13), (0, rf g 211), (1, .int x1), (2, .int x2), (3, .int x3)]) C0 dX10_run_144 5 rfl rfl (by decide) rfl ?_
            refine f_goto (tgt := 79) C0 dX10_run_147 (by decide) ?_
            refine f_sub [2, 3, 4, 5, 0] rfl ?_
            exact hK79 _ _ _ _ _ _ hw
          · have hw := hw.2 h20
            refine f_aload_n C0 dX10_run_129 rfl 1 rfl ⟨_, rfl⟩ ?_
            refine f_iload C0 dX10_run_130 0 rfl ?_
            refine f_iload C0 dX10_run_132 5 rfl ?_
            refine f_iload_n C0 dX10_run_134 rfl 3 rfl ?_
            refine f_callVi (As := [.int v13, .int x4, .int x2]) (rest := []) C0 (m_X10_goes hw) cw_X10_229 kn_211 (by decide) rfl rfl ⟨(Nat.le_of_ble_eq_true rfl), (Nat.le_of_ble_eq_true rfl)⟩ rfl rfl (Nat.le_of_ble_eq_true rfl) dX10_run_135 ?_
            intro r21 d22 l23 hw
            refine f_if_eq (tgt := 144) C0 dX10_run_138 (by decide) (fun h24 => ?_) (fun h24 => ?_)
            · have hw := hw.1 h24
              refine f_iinc (lo' := [(4, .int (x4 + 1)), (5, .int v13), (0, rf g 211), (1, .int x1), (2, .int x2), (3, .int x3)]) C0 dX10_run_144 5 rfl rfl (by decide) rfl ?_
              refine f_goto (tgt := 79) C0 dX10_run_147 (by decide) ?_
              refine f_sub [2, 3, 4, 5, 0] rfl ?_
              exact hK79 _ _ _ _ _ _ hw
            · have hw := hw.2 h24
              refine f_iinc (lo' := [(3, .int (x3 + 1)), (5, .int v13), (0, rf g 211), (1, .int x1), (2, .int x2), (4, .int x4)]) C0 dX10_run_141 4 rfl rfl (by decide) rfl ?_
              refine f_iinc (lo' := [(4, .int (x4 + 1)), (3, .int (x3 + 1)), (5, .int v13), (0, rf g 211), (1, .int x1), (2, .int x2)]) C0 dX10_run_144 5 rfl rfl (by decide) rfl ?_
              refine f_goto (tgt := 79) C0 dX10_run_147 (by decide) ?_
              refine f_sub [3, 4, 5, 1, 0] rfl ?_
              exact hK79 _ _ _ _ _ _ hw
set_option maxHeartbeats 4000000 in
set_option maxRecDepth 100000 in
theorem t_X10_run_28 {g : Ex} {x : Fx} {n : Nat} {Q : Int32 → DD → LL → Prop} (C0 : Cx g x cX10_run 6 (some .int) RX10 4 106) (hZ : Zi g x Q) : ∀ (j : Nat) (x1 : Int32) (x2 : Int32) (x3 : Int32) (d : DD) (dl : LL), b_X10_run_28 n Q j x1 x2 x3 d dl → FW g x 6 d dl 28 [(0, rf g 211), (1, .int x1), (2, .int x2), (3, .int x3)] [] := by
  intro j
  induction j with
  | zero =>
    intro x1 x2 x3 d dl hw
    exact hw.elim
  | succ j hK28 =>
    intro x1 x2 x3 d dl hw
    refine f_iload_n C0 dX10_run_28 rfl 3 rfl ?_
    refine f_iconst (v := 4) C0 dX10_run_29 rfl ?_
    refine f_icmp_ge (tgt := 55) C0 dX10_run_30 (by decide) (fun h7 => ?_) (fun h7 => ?_)
    · have hw := hw.1 h7
      refine f_aload_n C0 dX10_run_55 rfl 0 rfl ⟨_, rfl⟩ ?_
      refine gf_10_34 (r := 238) C0 rfl kn_211 mw_920 dX10_run_56 ?_
      refine f_iload_n C0 dX10_run_59 rfl 1 rfl ?_
      obtain ⟨h8, hw⟩ := hw
      refine f_zald C0 kn_238 h8 dX10_run_60 ?_
      refine f_if_eq (tgt := 67) C0 dX10_run_61 (by decide) (fun h9 => ?_) (fun h9 => ?_)
      · have hw := hw.1 h9
        refine f_aload_n C0 dX10_run_67 rfl 0 rfl ⟨_, rfl⟩ ?_
        refine gf_10_34 (r := 238) C0 rfl kn_211 mw_920 dX10_run_68 ?_
        refine f_iload_n C0 dX10_run_71 rfl 1 rfl ?_
        refine f_iconst (v := 1) C0 dX10_run_72 rfl ?_
        obtain ⟨h10, hw⟩ := hw
        refine f_zast C0 kn_238 h10 dX10_run_73 (fun d11 ed11 => ?_)
        have hw := hw d11 ed11
        refine f_iconst (v := 0) C0 dX10_run_74 rfl ?_
        refine f_istore_n (lo' := [(3, .int 0), (0, rf g 211), (1, .int x1), (2, .int x2)]) C0 dX10_run_75 rfl (by decide) rfl ?_
        refine f_iconst (v := 0) C0 dX10_run_76 rfl ?_
        refine f_istore (lo' := [(4, .int 0), (3, .int 0), (0, rf g 211), (1, .int x1), (2, .int x2)]) C0 dX10_run_77 (by decide) rfl ?_
        refine f_sub [2, 3, 4, 1, 0] rfl ?_
        exact t_X10_run_79 C0 hZ n _ _ _ _ _ _ hw
      · have hw := hw.2 h9
        refine f_bipush (v := (-3)) C0 dX10_run_64 rfl ?_
        exact f_iret C0 hZ hw dX10_run_66
    · have hw := hw.2 h7
      refine f_aload_n C0 dX10_run_33 rfl 0 rfl ⟨_, rfl⟩ ?_
      refine gf_10_31 (r := 235) C0 rfl kn_211 mw_917 dX10_run_34 ?_
      refine f_iconst (v := 4) C0 dX10_run_37 rfl ?_
      refine f_iload_n C0 dX10_run_38 rfl 1 rfl ?_
      refine f_imul C0 dX10_run_39 ?_
      refine f_iload_n C0 dX10_run_40 rfl 3 rfl ?_
      refine f_iadd C0 dX10_run_41 ?_
      obtain ⟨h25, hw⟩ := hw
      refine f_iald C0 kn_235 h25 dX10_run_42 ?_
      refine f_if_le (tgt := 49) C0 dX10_run_43 (by decide) (fun h26 => ?_) (fun h26 => ?_)
      · have hw := hw.1 h26
        refine f_iinc (lo' := [(3, .int (x3 + 1)), (0, rf g 211), (1, .int x1), (2, .int x2)]) C0 dX10_run_49 3 rfl rfl (by decide) rfl ?_
        refine f_goto (tgt := 28) C0 dX10_run_52 (by decide) ?_
        refine f_sub [1, 2, 3, 0] rfl ?_
        exact hK28 _ _ _ _ _ hw
      · have hw := hw.2 h26
        refine f_bipush (v := (-3)) C0 dX10_run_46 rfl ?_
        exact f_iret C0 hZ hw dX10_run_48
set_option maxHeartbeats 4000000 in
set_option maxRecDepth 100000 in
theorem m_X10_run {g : Ex} {n : Nat} {x1 : Int32} {x2 : Int32} {d : DD} {dl : LL} {Q : Int32 → DD → LL → Prop} (hw : F_X10_run n x1 x2 d dl Q) : Mi g yX10_run cX10_run 6 (some .int) 4 106 [rf g 211, .int x1, .int x2] d dl Q := by
  refine Mi.of (by decide) (Nat.le_of_ble_eq_true rfl) (fun x C0 hZ => ?_)
  have C0 : Cx g x cX10_run 6 (some .int) RX10 4 106 := C0
  refine f_aload_n C0 dX10_run_0 rfl 0 rfl ⟨_, rfl⟩ ?_
  refine f_iload_n C0 dX10_run_1 rfl 1 rfl ?_
  refine f_callVi (As := [.int x1]) (rest := []) C0 (m_X10_isRace hw) cw_X10_226 kn_211 (by decide) rfl rfl ⟨(Nat.le_of_ble_eq_true rfl), (Nat.le_of_ble_eq_true rfl)⟩ rfl rfl (Nat.le_of_ble_eq_true rfl) dX10_run_2 ?_
  intro r1 d2 l3 hw
  refine f_if_ne (tgt := 10) C0 dX10_run_5 (by decide) (fun h4 => ?_) (fun h4 => ?_)
  · have hw := hw.1 h4
    refine f_iload_n C0 dX10_run_10 rfl 2 rfl ?_
    refine f_bipush (v := 100) C0 dX10_run_11 rfl ?_
    refine f_icmp_lt (tgt := 23) C0 dX10_run_13 (by decide) (fun h5 => ?_) (fun h5 => ?_)
    · have hw := hw.1 h5
      refine f_bipush (v := (-2)) C0 dX10_run_23 rfl ?_
      exact f_iret C0 hZ hw dX10_run_25
    · have hw := hw.2 h5
      refine f_iload_n C0 dX10_run_16 rfl 2 rfl ?_
      refine f_sipush (v := 2000) C0 dX10_run_17 rfl ?_
      refine f_icmp_le (tgt := 26) C0 dX10_run_20 (by decide) (fun h6 => ?_) (fun h6 => ?_)
      · have hw := hw.1 h6
        refine f_iconst (v := 0) C0 dX10_run_26 rfl ?_
        refine f_istore_n (lo' := [(3, .int 0), (0, rf g 211), (1, .int x1), (2, .int x2)]) C0 dX10_run_27 rfl (by decide) rfl ?_
        refine f_sub [1, 2, 3, 0] rfl ?_
        exact t_X10_run_28 C0 hZ n _ _ _ _ _ hw
      · have hw := hw.2 h6
        refine f_bipush (v := (-2)) C0 dX10_run_23 rfl ?_
        exact f_iret C0 hZ hw dX10_run_25
  · have hw := hw.2 h4
    refine f_iconst (v := (-1)) C0 dX10_run_8 rfl ?_
    exact f_iret C0 hZ hw dX10_run_9
def F_X10_isIn (n : Nat) (x1 : Int32) (x2 : Int32) (d : DD) (dl : LL) (Q : Int32 → DD → LL → Prop) : Prop := F_X10_isRace n x1 d dl (fun r1 d2 l3 => (r1 = 0 → Q 0 d2 l3) ∧ (¬ r1 = 0 → (x2 < 0 → Q 0 d2 l3) ∧ (¬ x2 < 0 → (4 ≤ x2 → Q 0 d2 l3) ∧ (¬ 4 ≤ x2 → vp_in (((4 : Int32) * x1) + x2) 96 ∧ ((d2 234 (((4 : Int32) * x1) + x2).toNatClampNeg) = (-1) → Q 0 d2 l3) ∧ (¬ (d2 234 (((4 : Int32) * x1) + x2).toNatClampNeg) = (-1) → Q 1 d2 l3)))))
set_option maxHeartbeats 4000000 in
set_option maxRecDepth 100000 in
theorem m_X10_isIn {g : Ex} {n : Nat} {x1 : Int32} {x2 : Int32} {d : DD} {dl : LL} {Q : Int32 → DD → LL → Prop} (hw : F_X10_isIn n x1 x2 d dl Q) : Mi g yX10_isIn cX10_isIn 3 (some .boolean) 1 21 [rf g 211, .int x1, .int x2] d dl Q := by
  refine Mi.of (by decide) (Nat.le_of_ble_eq_true rfl) (fun x C0 hZ => ?_)
  have C0 : Cx g x cX10_isIn 3 (some .boolean) RX10 1 21 := C0
  refine f_aload_n C0 dX10_isIn_0 rfl 0 rfl ⟨_, rfl⟩ ?_
  refine f_iload_n C0 dX10_isIn_1 rfl 1 rfl ?_
  refine f_callVi (As := [.int x1]) (rest := []) C0 (m_X10_isRace hw) cw_X10_226 kn_211 (by decide) rfl rfl ⟨(Nat.le_of_ble_eq_true rfl), (Nat.le_of_ble_eq_true rfl)⟩ rfl rfl (Nat.le_of_ble_eq_true rfl) dX10_isIn_2 ?_
  intro r1 d2 l3 hw
  refine f_if_eq (tgt := 35) C0 dX10_isIn_5 (by decide) (fun h4 => ?_) (fun h4 => ?_)
  · have hw := hw.1 h4
    refine f_iconst (v := 0) C0 dX10_isIn_35 rfl ?_
    exact f_zret C0 hZ (by decide) hw dX10_isIn_36
  · have hw := hw.2 h4
    refine f_iload_n C0 dX10_isIn_8 rfl 2 rfl ?_
    refine f_if_lt (tgt := 35) C0 dX10_isIn_9 (by decide) (fun h5 => ?_) (fun h5 => ?_)
    · have hw := hw.1 h5
      refine f_iconst (v := 0) C0 dX10_isIn_35 rfl ?_
      exact f_zret C0 hZ (by decide) hw dX10_isIn_36
    · have hw := hw.2 h5
      refine f_iload_n C0 dX10_isIn_12 rfl 2 rfl ?_
      refine f_iconst (v := 4) C0 dX10_isIn_13 rfl ?_
      refine f_icmp_ge (tgt := 35) C0 dX10_isIn_14 (by decide) (fun h6 => ?_) (fun h6 => ?_)
      · have hw := hw.1 h6
        refine f_iconst (v := 0) C0 dX10_isIn_35 rfl ?_
        exact f_zret C0 hZ (by decide) hw dX10_isIn_36
      · have hw := hw.2 h6
        refine f_aload_n C0 dX10_isIn_17 rfl 0 rfl ⟨_, rfl⟩ ?_
        refine gf_10_30 (r := 234) C0 rfl kn_211 mw_916 dX10_isIn_18 ?_
        refine f_iconst (v := 4) C0 dX10_isIn_21 rfl ?_
        refine f_iload_n C0 dX10_isIn_22 rfl 1 rfl ?_
        refine f_imul C0 dX10_isIn_23 ?_
        refine f_iload_n C0 dX10_isIn_24 rfl 2 rfl ?_
        refine f_iadd C0 dX10_isIn_25 ?_
        obtain ⟨h7, hw⟩ := hw
        refine f_iald C0 kn_234 h7 dX10_isIn_26 ?_
        refine f_iconst (v := (-1)) C0 dX10_isIn_27 rfl ?_
        refine f_icmp_eq (tgt := 35) C0 dX10_isIn_28 (by decide) (fun h8 => ?_) (fun h8 => ?_)
        · have hw := hw.1 h8
          refine f_iconst (v := 0) C0 dX10_isIn_35 rfl ?_
          exact f_zret C0 hZ (by decide) hw dX10_isIn_36
        · have hw := hw.2 h8
          refine f_iconst (v := 1) C0 dX10_isIn_31 rfl ?_
          refine f_goto (tgt := 36) C0 dX10_isIn_32 (by decide) ?_
          exact f_zret C0 hZ (by decide) hw dX10_isIn_36
def F_X10_time (n : Nat) (x1 : Int32) (x2 : Int32) (x3 : Int32) (d : DD) (dl : LL) (Q : Int32 → DD → LL → Prop) : Prop := F_X10_isIn n x1 x2 d dl (fun r1 d2 l3 => (¬ r1 = 0 → (x3 < 0 → Q (-2) d2 l3) ∧ (¬ x3 < 0 → (x3 ≤ 99999 → vp_in (((4 : Int32) * x1) + x2) 96 ∧ ((d2 237 (((4 : Int32) * x1) + x2).toNatClampNeg) = 0 → vp_in (((4 : Int32) * x1) + x2) 96 ∧ ∀ v10 : Int32, v10 = (d2 235 (((4 : Int32) * x1) + x2).toNatClampNeg) → vp_in (((4 : Int32) * x1) + x2) 96 ∧ ∀ d12 : DD, d12 = u2 d2 235 (((4 : Int32) * x1) + x2).toNatClampNeg x3 → Q v10 d12 l3) ∧ (¬ (d2 237 (((4 : Int32) * x1) + x2).toNatClampNeg) = 0 → Q (-3) d2 l3)) ∧ (¬ x3 ≤ 99999 → Q (-2) d2 l3))) ∧ (r1 = 0 → Q (-1) d2 l3))
set_option maxHeartbeats 4000000 in
set_option maxRecDepth 100000 in
theorem m_X10_time {g : Ex} {n : Nat} {x1 : Int32} {x2 : Int32} {x3 : Int32} {d : DD} {dl : LL} {Q : Int32 → DD → LL → Prop} (hw : F_X10_time n x1 x2 x3 d dl Q) : Mi g yX10_time cX10_time 5 (some .int) 2 43 [rf g 211, .int x1, .int x2, .int x3] d dl Q := by
  refine Mi.of (by decide) (Nat.le_of_ble_eq_true rfl) (fun x C0 hZ => ?_)
  have C0 : Cx g x cX10_time 5 (some .int) RX10 2 43 := C0
  refine f_aload_n C0 dX10_time_0 rfl 0 rfl ⟨_, rfl⟩ ?_
  refine f_iload_n C0 dX10_time_1 rfl 1 rfl ?_
  refine f_iload_n C0 dX10_time_2 rfl 2 rfl ?_
  refine f_callVi (As := [.int x1, .int x2]) (rest := []) C0 (m_X10_isIn hw) cw_X10_233 kn_211 (by decide) rfl rfl ⟨(Nat.le_of_ble_eq_true rfl), (Nat.le_of_ble_eq_true rfl)⟩ rfl rfl (Nat.le_of_ble_eq_true rfl) dX10_time_3 ?_
  intro r1 d2 l3 hw
  refine f_if_ne (tgt := 11) C0 dX10_time_6 (by decide) (fun h4 => ?_) (fun h4 => ?_)
  · have hw := hw.1 h4
    refine f_iload_n C0 dX10_time_11 rfl 3 rfl ?_
    refine f_if_lt (tgt := 21) C0 dX10_time_12 (by decide) (fun h5 => ?_) (fun h5 => ?_)
    · have hw := hw.1 h5
      refine f_bipush (v := (-2)) C0 dX10_time_21 rfl ?_
      exact f_iret C0 hZ hw dX10_time_23
    · have hw := hw.2 h5
      refine f_iload_n C0 dX10_time_15 rfl 3 rfl ?_
      refine f_ldc (v := 99999) C0 mw_1177 dX10_time_16 ?_
      refine f_icmp_le (tgt := 24) C0 dX10_time_18 (by decide) (fun h6 => ?_) (fun h6 => ?_)
      · have hw := hw.1 h6
        refine f_aload_n C0 dX10_time_24 rfl 0 rfl ⟨_, rfl⟩ ?_
        refine gf_10_33 (r := 237) C0 rfl kn_211 mw_919 dX10_time_25 ?_
        refine f_iconst (v := 4) C0 dX10_time_28 rfl ?_
        refine f_iload_n C0 dX10_time_29 rfl 1 rfl ?_
        refine f_imul C0 dX10_time_30 ?_
        refine f_iload_n C0 dX10_time_31 rfl 2 rfl ?_
        refine f_iadd C0 dX10_time_32 ?_
        obtain ⟨h7, hw⟩ := hw
        refine f_zald C0 kn_237 h7 dX10_time_33 ?_
        refine f_if_eq (tgt := 40) C0 dX10_time_34 (by decide) (fun h8 => ?_) (fun h8 => ?_)
        · have hw := hw.1 h8
          refine f_aload_n C0 dX10_time_40 rfl 0 rfl ⟨_, rfl⟩ ?_
          refine gf_10_31 (r := 235) C0 rfl kn_211 mw_917 dX10_time_41 ?_
          refine f_iconst (v := 4) C0 dX10_time_44 rfl ?_
          refine f_iload_n C0 dX10_time_45 rfl 1 rfl ?_
          refine f_imul C0 dX10_time_46 ?_
          refine f_iload_n C0 dX10_time_47 rfl 2 rfl ?_
          refine f_iadd C0 dX10_time_48 ?_
          obtain ⟨h9, hw⟩ := hw
          refine f_iald C0 kn_235 h9 dX10_time_49 ?_
          refine f_topi (fun v10 e10 => ?_)
          have hw := hw v10 e10
          refine f_istore (lo' := [(4, .int v10), (0, rf g 211), (1, .int x1), (2, .int x2), (3, .int x3)]) C0 dX10_time_50 (by decide) rfl ?_
          refine f_aload_n C0 dX10_time_52 rfl 1 rfl ⟨_, rfl⟩ ?_
          refine gf_10_31 (r := 235) C0 rfl kn_211 mw_917 dX10_time_53 ?_
          refine f_iconst (v := 4) C0 dX10_time_56 rfl ?_
          refine f_iload_n C0 dX10_time_57 rfl 2 rfl ?_
          refine f_imul C0 dX10_time_58 ?_
          refine f_iload_n C0 dX10_time_59 rfl 3 rfl ?_
          refine f_iadd C0 dX10_time_60 ?_
          refine f_iload_n C0 dX10_time_61 rfl 4 rfl ?_
          obtain ⟨h11, hw⟩ := hw
          refine f_iast C0 kn_235 h11 dX10_time_62 (fun d12 ed12 => ?_)
          have hw := hw d12 ed12
          refine f_iload C0 dX10_time_63 0 rfl ?_
          exact f_iret C0 hZ hw dX10_time_65
        · have hw := hw.2 h8
          refine f_bipush (v := (-3)) C0 dX10_time_37 rfl ?_
          exact f_iret C0 hZ hw dX10_time_39
      · have hw := hw.2 h6
        refine f_bipush (v := (-2)) C0 dX10_time_21 rfl ?_
        exact f_iret C0 hZ hw dX10_time_23
  · have hw := hw.2 h4
    refine f_iconst (v := (-1)) C0 dX10_time_9 rfl ?_
    exact f_iret C0 hZ hw dX10_time_10
def b_X10_place_23 (n : Nat) (Q : Int32 → DD → LL → Prop) : Nat → Int32 → Int32 → Int32 → Int32 → DD → LL → Prop
  | 0 => fun _ _ _ _ _ _ => False
  | k + 1 => fun x1 x3 x4 x5 d dl => (4 ≤ x5 → Q x4 d dl) ∧ (¬ 4 ≤ x5 → vp_in (((4 : Int32) * x1) + x5) 96 ∧ ((d 235 (((4 : Int32) * x1) + x5).toNatClampNeg) ≤ 0 → (b_X10_place_23 n Q k) x1 x3 x4 (x5 + 1) d dl) ∧ (¬ (d 235 (((4 : Int32) * x1) + x5).toNatClampNeg) ≤ 0 → vp_in (((4 : Int32) * x1) + x5) 96 ∧ (x3 ≤ (d 235 (((4 : Int32) * x1) + x5).toNatClampNeg) → (b_X10_place_23 n Q k) x1 x3 x4 (x5 + 1) d dl) ∧ (¬ x3 ≤ (d 235 (((4 : Int32) * x1) + x5).toNatClampNeg) → (b_X10_place_23 n Q k) x1 x3 (x4 + 1) (x5 + 1) d dl)))
def F_X10_place (n : Nat) (x1 : Int32) (x2 : Int32) (d : DD) (dl : LL) (Q : Int32 → DD → LL → Prop) : Prop := vp_in (((4 : Int32) * x1) + x2) 96 ∧ ∀ v2 : Int32, v2 = (d 235 (((4 : Int32) * x1) + x2).toNatClampNeg) → (¬ v2 = 0 → b_X10_place_23 n Q n x1 v2 1 0 d dl) ∧ (v2 = 0 → Q 0 d dl)
set_option maxHeartbeats 4000000 in
set_option maxRecDepth 100000 in
theorem t_X10_place_23 {g : Ex} {x : Fx} {n : Nat} {Q : Int32 → DD → LL → Prop} (C0 : Cx g x cX10_place 6 (some .int) RX10 0 0) (hZ : Zi g x Q) : ∀ (j : Nat) (x1 : Int32) (x3 : Int32) (x4 : Int32) (x5 : Int32) (d : DD) (dl : LL), b_X10_place_23 n Q j x1 x3 x4 x5 d dl → FW g x 6 d dl 23 [(0, rf g 211), (1, .int x1), (3, .int x3), (4, .int x4), (5, .int x5)] [] := by
  intro j
  induction j with
  | zero =>
    intro x1 x3 x4 x5 d dl hw
    exact hw.elim
  | succ j hK23 =>
    intro x1 x3 x4 x5 d dl hw
    refine f_iload C0 dX10_place_23 4 rfl ?_
    refine f_iconst (v := 4) C0 dX10_place_25 rfl ?_
    refine f_icmp_ge (tgt := 67) C0 dX10_place_26 (by decide) (fun h4 => ?_) (fun h4 => ?_)
    · have hw := hw.1 h4
      refine f_iload C0 dX10_place_67 3 rfl ?_
      exact f_iret C0 hZ hw dX10_place_69
    · have hw := hw.2 h4
      refine f_aload_n C0 dX10_place_29 rfl 0 rfl ⟨_, rfl⟩ ?_
      refine gf_10_31 (r := 235) C0 rfl kn_211 mw_917 dX10_place_30 ?_
      refine f_iconst (v := 4) C0 dX10_place_33 rfl ?_
      refine f_iload_n C0 dX10_place_34 rfl 1 rfl ?_
      refine f_imul C0 dX10_place_35 ?_
      refine f_iload C0 dX10_place_36 4 rfl ?_
      refine f_iadd C0 dX10_place_38 ?_
      obtain ⟨h5, hw⟩ := hw
      refine f_iald C0 kn_235 h5 dX10_place_39 ?_
      refine f_if_le (tgt := 61) C0 dX10_place_40 (by decide) (fun h6 => ?_) (fun h6 => ?_)
      · have hw := hw.1 h6
        refine f_iinc (lo' := [(5, .int (x5 + 1)), (0, rf g 211), (1, .int x1), (3, .int x3), (4, .int x4)]) C0 dX10_place_61 4 rfl rfl (by decide) rfl ?_
        refine f_goto (tgt := 23) C0 dX10_place_64 (by decide) ?_
        refine f_sub [1, 2, 3, 4, 0] rfl ?_
        exact hK23 _ _ _ _ _ _ hw
      · have hw := hw.2 h6
        refine f_aload_n C0 dX10_place_43 rfl 0 rfl ⟨_, rfl⟩ ?_
        refine gf_10_31 (r := 235) C0 rfl kn_211 mw_917 dX10_place_44 ?_
        refine f_iconst (v := 4) C0 dX10_place_47 rfl ?_
        refine f_iload_n C0 dX10_place_48 rfl 1 rfl ?_
        refine f_imul C0 dX10_place_49 ?_
        refine f_iload C0 dX10_place_50 4 rfl ?_
        refine f_iadd C0 dX10_place_52 ?_
        obtain ⟨h7, hw⟩ := hw
        refine f_iald C0 kn_235 h7 dX10_place_53 ?_
        refine f_iload_n C0 dX10_place_54 rfl 2 rfl ?_
        refine f_icmp_ge (tgt := 61) C0 dX10_place_55 (by decide) (fun h8 => ?_) (fun h8 => ?_)
        · have hw := hw.1 h8
          refine f_iinc (lo' := [(5, .int (x5 + 1)), (0, rf g 211), (1, .int x1), (3, .int x3), (4, .int x4)]) C0 dX10_place_61 4 rfl rfl (by decide) rfl ?_
          refine f_goto (tgt := 23) C0 dX10_place_64 (by decide) ?_
          refine f_sub [1, 2, 3, 4, 0] rfl ?_
          exact hK23 _ _ _ _ _ _ hw
        · have hw := hw.2 h8
          refine f_iinc (lo' := [(4, .int (x4 + 1)), (0, rf g 211), (1, .int x1), (3, .int x3), (5, .int x5)]) C0 dX10_place_58 3 rfl rfl (by decide) rfl ?_
          refine f_iinc (lo' := [(5, .int (x5 + 1)), (4, .int (x4 + 1)), (0, rf g 211), (1, .int x1), (3, .int x3)]) C0 dX10_place_61 4 rfl rfl (by decide) rfl ?_
          refine f_goto (tgt := 23) C0 dX10_place_64 (by decide) ?_
          refine f_sub [2, 3, 4, 1, 0] rfl ?_
          exact hK23 _ _ _ _ _ _ hw
set_option maxHeartbeats 4000000 in
set_option maxRecDepth 100000 in
theorem m_X10_place {g : Ex} {n : Nat} {x1 : Int32} {x2 : Int32} {d : DD} {dl : LL} {Q : Int32 → DD → LL → Prop} (hw : F_X10_place n x1 x2 d dl Q) : Mi g yX10_place cX10_place 6 (some .int) 0 0 [rf g 211, .int x1, .int x2] d dl Q := by
  refine Mi.of (by decide) (Nat.le_of_ble_eq_true rfl) (fun x C0 hZ => ?_)
  have C0 : Cx g x cX10_place 6 (some .int) RX10 0 0 := C0
  refine f_aload_n C0 dX10_place_0 rfl 0 rfl ⟨_, rfl⟩ ?_
  refine gf_10_31 (r := 235) C0 rfl kn_211 mw_917 dX10_place_1 ?_
  refine f_iconst (v := 4) C0 dX10_place_4 rfl ?_
  refine f_iload_n C0 dX10_place_5 rfl 1 rfl ?_
  refine f_imul C0 dX10_place_6 ?_
  refine f_iload_n C0 dX10_place_7 rfl 2 rfl ?_
  refine f_iadd C0 dX10_place_8 ?_
  obtain ⟨h1, hw⟩ := hw
  refine f_iald C0 kn_235 h1 dX10_place_9 ?_
  refine f_topi (fun v2 e2 => ?_)
  have hw := hw v2 e2
  refine f_istore_n (lo' := [(3, .int v2), (0, rf g 211), (1, .int x1), (2, .int x2)]) C0 dX10_place_10 rfl (by decide) rfl ?_
  refine f_iload_n C0 dX10_place_11 rfl 0 rfl ?_
  refine f_if_ne (tgt := 17) C0 dX10_place_12 (by decide) (fun h3 => ?_) (fun h3 => ?_)
  · have hw := hw.1 h3
    refine f_iconst (v := 1) C0 dX10_place_17 rfl ?_
    refine f_istore (lo' := [(4, .int 1), (3, .int v2), (0, rf g 211), (1, .int x1), (2, .int x2)]) C0 dX10_place_18 (by decide) rfl ?_
    refine f_iconst (v := 0) C0 dX10_place_20 rfl ?_
    refine f_istore (lo' := [(5, .int 0), (4, .int 1), (3, .int v2), (0, rf g 211), (1, .int x1), (2, .int x2)]) C0 dX10_place_21 (by decide) rfl ?_
    refine f_sub [3, 4, 2, 1, 0] rfl ?_
    exact t_X10_place_23 C0 hZ n _ _ _ _ _ _ hw
  · have hw := hw.2 h3
    refine f_iconst (v := 0) C0 dX10_place_15 rfl ?_
    exact f_iret C0 hZ hw dX10_place_16
def F_X10_told (n : Nat) (x1 : Int32) (x2 : Int32) (x3 : Int32) (d : DD) (dl : LL) (Q : Int32 → DD → LL → Prop) : Prop := F_X10_isIn n x1 x2 d dl (fun r1 d2 l3 => (¬ r1 = 0 → (x3 = 0 → vp_in (((4 : Int32) * x1) + x2) 96 ∧ Q (d2 234 (((4 : Int32) * x1) + x2).toNatClampNeg) d2 l3) ∧ (x3 = 1 → vp_in (((4 : Int32) * x1) + x2) 96 ∧ Q (d2 235 (((4 : Int32) * x1) + x2).toNatClampNeg) d2 l3) ∧ (x3 = 2 → F_X10_place n x1 x2 d2 l3 (fun r7 d8 l9 => Q r7 d8 l9)) ∧ (x3 = 3 → vp_in (((4 : Int32) * x1) + x2) 96 ∧ Q (d2 236 (((4 : Int32) * x1) + x2).toNatClampNeg) d2 l3) ∧ (x3.toInt < 0 ∨ 3 < x3.toInt → Q (-1) d2 l3)) ∧ (r1 = 0 → Q (-1) d2 l3))
set_option maxHeartbeats 4000000 in
set_option maxRecDepth 100000 in
theorem m_X10_told {g : Ex} {n : Nat} {x1 : Int32} {x2 : Int32} {x3 : Int32} {d : DD} {dl : LL} {Q : Int32 → DD → LL → Prop} (hw : F_X10_told n x1 x2 x3 d dl Q) : Mi g yX10_told cX10_told 4 (some .int) 2 43 [rf g 211, .int x1, .int x2, .int x3] d dl Q := by
  refine Mi.of (by decide) (Nat.le_of_ble_eq_true rfl) (fun x C0 hZ => ?_)
  have C0 : Cx g x cX10_told 4 (some .int) RX10 2 43 := C0
  refine f_aload_n C0 dX10_told_0 rfl 0 rfl ⟨_, rfl⟩ ?_
  refine f_iload_n C0 dX10_told_1 rfl 1 rfl ?_
  refine f_iload_n C0 dX10_told_2 rfl 2 rfl ?_
  refine f_callVi (As := [.int x1, .int x2]) (rest := []) C0 (m_X10_isIn hw) cw_X10_233 kn_211 (by decide) rfl rfl ⟨(Nat.le_of_ble_eq_true rfl), (Nat.le_of_ble_eq_true rfl)⟩ rfl rfl (Nat.le_of_ble_eq_true rfl) dX10_told_3 ?_
  intro r1 d2 l3 hw
  refine f_if_ne (tgt := 11) C0 dX10_told_6 (by decide) (fun h4 => ?_) (fun h4 => ?_)
  · have hw := hw.1 h4
    refine f_iload_n C0 dX10_told_11 rfl 3 rfl ?_
    rcases sw_3 x3 with h11 | h11 | h11 | h11 | h11
    · have hw := hw.2.2.2.2 h11
      refine f_tableOut (tgt := 84) C0 dX10_told_12 h11 (by decide) ?_
      refine f_iconst (v := (-1)) C0 dX10_told_84 rfl ?_
      exact f_iret C0 hZ hw dX10_told_85
    · have hw := hw.1 h11
      refine f_tableAt (w := 0) (tgt := 44) C0 dX10_told_12 h11 (by decide) (by decide) rfl (by decide) ?_
      refine f_aload_n C0 dX10_told_44 rfl 0 rfl ⟨_, rfl⟩ ?_
      refine gf_10_30 (r := 234) C0 rfl kn_211 mw_916 dX10_told_45 ?_
      refine f_iconst (v := 4) C0 dX10_told_48 rfl ?_
      refine f_iload_n C0 dX10_told_49 rfl 1 rfl ?_
      refine f_imul C0 dX10_told_50 ?_
      refine f_iload_n C0 dX10_told_51 rfl 2 rfl ?_
      refine f_iadd C0 dX10_told_52 ?_
      obtain ⟨h5, hw⟩ := hw
      refine f_iald C0 kn_234 h5 dX10_told_53 ?_
      exact f_iret C0 hZ hw dX10_told_54
    · have hw := hw.2.1 h11
      refine f_tableAt (w := 1) (tgt := 55) C0 dX10_told_12 h11 (by decide) (by decide) rfl (by decide) ?_
      refine f_aload_n C0 dX10_told_55 rfl 0 rfl ⟨_, rfl⟩ ?_
      refine gf_10_31 (r := 235) C0 rfl kn_211 mw_917 dX10_told_56 ?_
      refine f_iconst (v := 4) C0 dX10_told_59 rfl ?_
      refine f_iload_n C0 dX10_told_60 rfl 1 rfl ?_
      refine f_imul C0 dX10_told_61 ?_
      refine f_iload_n C0 dX10_told_62 rfl 2 rfl ?_
      refine f_iadd C0 dX10_told_63 ?_
      obtain ⟨h6, hw⟩ := hw
      refine f_iald C0 kn_235 h6 dX10_told_64 ?_
      exact f_iret C0 hZ hw dX10_told_65
    · have hw := hw.2.2.1 h11
      refine f_tableAt (w := 2) (tgt := 66) C0 dX10_told_12 h11 (by decide) (by decide) rfl (by decide) ?_
      refine f_aload_n C0 dX10_told_66 rfl 0 rfl ⟨_, rfl⟩ ?_
      refine f_iload_n C0 dX10_told_67 rfl 1 rfl ?_
      refine f_iload_n C0 dX10_told_68 rfl 2 rfl ?_
      refine f_callVi (As := [.int x1, .int x2]) (rest := []) C0 (m_X10_place hw) cw_X10_237 kn_211 (by decide) rfl rfl ⟨(Nat.le_of_ble_eq_true rfl), (Nat.le_of_ble_eq_true rfl)⟩ rfl rfl (Nat.le_of_ble_eq_true rfl) dX10_told_69 ?_
      intro r7 d8 l9 hw
      exact f_iret C0 hZ hw dX10_told_72
    · have hw := hw.2.2.2.1 h11
      refine f_tableAt (w := 3) (tgt := 73) C0 dX10_told_12 h11 (by decide) (by decide) rfl (by decide) ?_
      refine f_aload_n C0 dX10_told_73 rfl 0 rfl ⟨_, rfl⟩ ?_
      refine gf_10_32 (r := 236) C0 rfl kn_211 mw_918 dX10_told_74 ?_
      refine f_iconst (v := 4) C0 dX10_told_77 rfl ?_
      refine f_iload_n C0 dX10_told_78 rfl 1 rfl ?_
      refine f_imul C0 dX10_told_79 ?_
      refine f_iload_n C0 dX10_told_80 rfl 2 rfl ?_
      refine f_iadd C0 dX10_told_81 ?_
      obtain ⟨h10, hw⟩ := hw
      refine f_iald C0 kn_236 h10 dX10_told_82 ?_
      exact f_iret C0 hZ hw dX10_told_83
  · have hw := hw.2 h4
    refine f_iconst (v := (-1)) C0 dX10_told_9 rfl ?_
    exact f_iret C0 hZ hw dX10_told_10
def b_X10_again_35 (n : Nat) (Q : Int32 → DD → LL → Prop) (K14 : Int32 → Int32 → Int32 → DD → LL → Prop) (x1 : Int32) (x2 : Int32) (x3 : Int32) (d : DD) (dl : LL) : Prop := vp_in (((4 : Int32) * x1) + x3) 96 ∧ ∀ d11 : DD, d11 = u2 d 235 (((4 : Int32) * x1) + x3).toNatClampNeg 0 → vp_in (((4 : Int32) * x1) + x3) 96 ∧ ∀ d13 : DD, d13 = u2 d11 236 (((4 : Int32) * x1) + x3).toNatClampNeg 0 → K14 x1 x2 (x3 + 1) d13 dl
def b_X10_again_14 (n : Nat) (Q : Int32 → DD → LL → Prop) : Nat → Int32 → Int32 → Int32 → DD → LL → Prop
  | 0 => fun _ _ _ _ _ => False
  | k + 1 => fun x1 x2 x3 d dl => (4 ≤ x3 → vp_in x1 24 ∧ ∀ d7 : DD, d7 = u2 d 238 x1.toNatClampNeg (vp_nar .boolean 0) → Q x2 d7 dl) ∧ (¬ 4 ≤ x3 → vp_in (((4 : Int32) * x1) + x3) 96 ∧ ((d 235 (((4 : Int32) * x1) + x3).toNatClampNeg) ≤ 0 → b_X10_again_35 n Q (b_X10_again_14 n Q k) x1 x2 x3 d dl) ∧ (¬ (d 235 (((4 : Int32) * x1) + x3).toNatClampNeg) ≤ 0 → b_X10_again_35 n Q (b_X10_again_14 n Q k) x1 (x2 + 1) x3 d dl))
def F_X10_again (n : Nat) (x1 : Int32) (d : DD) (dl : LL) (Q : Int32 → DD → LL → Prop) : Prop := F_X10_isRace n x1 d dl (fun r1 d2 l3 => (¬ r1 = 0 → b_X10_again_14 n Q n x1 0 0 d2 l3) ∧ (r1 = 0 → Q (-1) d2 l3))
set_option maxHeartbeats 4000000 in
set_option maxRecDepth 100000 in
theorem t_X10_again_35 {g : Ex} {x : Fx} {n : Nat} {Q : Int32 → DD → LL → Prop} (C0 : Cx g x cX10_again 4 (some .int) RX10 1 21) (hZ : Zi g x Q) {K14 : Int32 → Int32 → Int32 → DD → LL → Prop} (hK14 : ∀ (x1 : Int32) (x2 : Int32) (x3 : Int32) (d : DD) (dl : LL), K14 x1 x2 x3 d dl → FW g x 4 d dl 14 [(0, rf g 211), (1, .int x1), (2, .int x2), (3, .int x3)] []) : ∀ (x1 : Int32) (x2 : Int32) (x3 : Int32) (d : DD) (dl : LL), b_X10_again_35 n Q K14 x1 x2 x3 d dl → FW g x 4 d dl 35 [(0, rf g 211), (1, .int x1), (2, .int x2), (3, .int x3)] [] := by
  intro x1 x2 x3 d dl hw
  refine f_aload_n C0 dX10_again_35 rfl 0 rfl ⟨_, rfl⟩ ?_
  refine gf_10_31 (r := 235) C0 rfl kn_211 mw_917 dX10_again_36 ?_
  refine f_iconst (v := 4) C0 dX10_again_39 rfl ?_
  refine f_iload_n C0 dX10_again_40 rfl 1 rfl ?_
  refine f_imul C0 dX10_again_41 ?_
  refine f_iload_n C0 dX10_again_42 rfl 3 rfl ?_
  refine f_iadd C0 dX10_again_43 ?_
  refine f_iconst (v := 0) C0 dX10_again_44 rfl ?_
  obtain ⟨h10, hw⟩ := hw
  refine f_iast C0 kn_235 h10 dX10_again_45 (fun d11 ed11 => ?_)
  have hw := hw d11 ed11
  refine f_aload_n C0 dX10_again_46 rfl 0 rfl ⟨_, rfl⟩ ?_
  refine gf_10_32 (r := 236) C0 rfl kn_211 mw_918 dX10_again_47 ?_
  refine f_iconst (v := 4) C0 dX10_again_50 rfl ?_
  refine f_iload_n C0 dX10_again_51 rfl 1 rfl ?_
  refine f_imul C0 dX10_again_52 ?_
  refine f_iload_n C0 dX10_again_53 rfl 3 rfl ?_
  refine f_iadd C0 dX10_again_54 ?_
  refine f_iconst (v := 0) C0 dX10_again_55 rfl ?_
  obtain ⟨h12, hw⟩ := hw
  refine f_iast C0 kn_236 h12 dX10_again_56 (fun d13 ed13 => ?_)
  have hw := hw d13 ed13
  refine f_iinc (lo' := [(3, .int (x3 + 1)), (0, rf g 211), (1, .int x1), (2, .int x2)]) C0 dX10_again_57 3 rfl rfl (by decide) rfl ?_
  refine f_goto (tgt := 14) C0 dX10_again_60 (by decide) ?_
  refine f_sub [1, 2, 3, 0] rfl ?_
  exact hK14 _ _ _ _ _ hw
set_option maxHeartbeats 4000000 in
set_option maxRecDepth 100000 in
theorem t_X10_again_14 {g : Ex} {x : Fx} {n : Nat} {Q : Int32 → DD → LL → Prop} (C0 : Cx g x cX10_again 4 (some .int) RX10 1 21) (hZ : Zi g x Q) : ∀ (j : Nat) (x1 : Int32) (x2 : Int32) (x3 : Int32) (d : DD) (dl : LL), b_X10_again_14 n Q j x1 x2 x3 d dl → FW g x 4 d dl 14 [(0, rf g 211), (1, .int x1), (2, .int x2), (3, .int x3)] [] := by
  intro j
  induction j with
  | zero =>
    intro x1 x2 x3 d dl hw
    exact hw.elim
  | succ j hK14 =>
    intro x1 x2 x3 d dl hw
    refine f_iload_n C0 dX10_again_14 rfl 3 rfl ?_
    refine f_iconst (v := 4) C0 dX10_again_15 rfl ?_
    refine f_icmp_ge (tgt := 63) C0 dX10_again_16 (by decide) (fun h5 => ?_) (fun h5 => ?_)
    · have hw := hw.1 h5
      refine f_aload_n C0 dX10_again_63 rfl 0 rfl ⟨_, rfl⟩ ?_
      refine gf_10_34 (r := 238) C0 rfl kn_211 mw_920 dX10_again_64 ?_
      refine f_iload_n C0 dX10_again_67 rfl 1 rfl ?_
      refine f_iconst (v := 0) C0 dX10_again_68 rfl ?_
      obtain ⟨h6, hw⟩ := hw
      refine f_zast C0 kn_238 h6 dX10_again_69 (fun d7 ed7 => ?_)
      have hw := hw d7 ed7
      refine f_iload_n C0 dX10_again_70 rfl 2 rfl ?_
      exact f_iret C0 hZ hw dX10_again_71
    · have hw := hw.2 h5
      refine f_aload_n C0 dX10_again_19 rfl 0 rfl ⟨_, rfl⟩ ?_
      refine gf_10_31 (r := 235) C0 rfl kn_211 mw_917 dX10_again_20 ?_
      refine f_iconst (v := 4) C0 dX10_again_23 rfl ?_
      refine f_iload_n C0 dX10_again_24 rfl 1 rfl ?_
      refine f_imul C0 dX10_again_25 ?_
      refine f_iload_n C0 dX10_again_26 rfl 3 rfl ?_
      refine f_iadd C0 dX10_again_27 ?_
      obtain ⟨h8, hw⟩ := hw
      refine f_iald C0 kn_235 h8 dX10_again_28 ?_
      refine f_if_le (tgt := 35) C0 dX10_again_29 (by decide) (fun h9 => ?_) (fun h9 => ?_)
      · have hw := hw.1 h9
        exact t_X10_again_35 C0 hZ hK14 _ _ _ _ _ hw
      · have hw := hw.2 h9
        refine f_iinc (lo' := [(2, .int (x2 + 1)), (0, rf g 211), (1, .int x1), (3, .int x3)]) C0 dX10_again_32 2 rfl rfl (by decide) rfl ?_
        refine f_sub [1, 2, 0, 3] rfl ?_
        exact t_X10_again_35 C0 hZ hK14 _ _ _ _ _ hw
set_option maxHeartbeats 4000000 in
set_option maxRecDepth 100000 in
theorem m_X10_again {g : Ex} {n : Nat} {x1 : Int32} {d : DD} {dl : LL} {Q : Int32 → DD → LL → Prop} (hw : F_X10_again n x1 d dl Q) : Mi g yX10_again cX10_again 4 (some .int) 1 21 [rf g 211, .int x1] d dl Q := by
  refine Mi.of (by decide) (Nat.le_of_ble_eq_true rfl) (fun x C0 hZ => ?_)
  have C0 : Cx g x cX10_again 4 (some .int) RX10 1 21 := C0
  refine f_aload_n C0 dX10_again_0 rfl 0 rfl ⟨_, rfl⟩ ?_
  refine f_iload_n C0 dX10_again_1 rfl 1 rfl ?_
  refine f_callVi (As := [.int x1]) (rest := []) C0 (m_X10_isRace hw) cw_X10_226 kn_211 (by decide) rfl rfl ⟨(Nat.le_of_ble_eq_true rfl), (Nat.le_of_ble_eq_true rfl)⟩ rfl rfl (Nat.le_of_ble_eq_true rfl) dX10_again_2 ?_
  intro r1 d2 l3 hw
  refine f_if_ne (tgt := 10) C0 dX10_again_5 (by decide) (fun h4 => ?_) (fun h4 => ?_)
  · have hw := hw.1 h4
    refine f_iconst (v := 0) C0 dX10_again_10 rfl ?_
    refine f_istore_n (lo' := [(2, .int 0), (0, rf g 211), (1, .int x1)]) C0 dX10_again_11 rfl (by decide) rfl ?_
    refine f_iconst (v := 0) C0 dX10_again_12 rfl ?_
    refine f_istore_n (lo' := [(3, .int 0), (2, .int 0), (0, rf g 211), (1, .int x1)]) C0 dX10_again_13 rfl (by decide) rfl ?_
    refine f_sub [2, 3, 1, 0] rfl ?_
    exact t_X10_again_14 C0 hZ n _ _ _ _ _ hw
  · have hw := hw.2 h4
    refine f_iconst (v := (-1)) C0 dX10_again_8 rfl ?_
    exact f_iret C0 hZ hw dX10_again_9
def b_X10_strike_12 (n : Nat) (Q : Int32 → DD → LL → Prop) : Nat → Int32 → Int32 → Int32 → DD → LL → Prop
  | 0 => fun _ _ _ _ _ => False
  | k + 1 => fun x1 x2 x3 d dl => (4 ≤ x3 → Q (-1) d dl) ∧ (¬ 4 ≤ x3 → vp_in (((4 : Int32) * x1) + x3) 96 ∧ (¬ (d 234 (((4 : Int32) * x1) + x3).toNatClampNeg) = x2 → (b_X10_strike_12 n Q k) x1 x2 (x3 + 1) d dl) ∧ ((d 234 (((4 : Int32) * x1) + x3).toNatClampNeg) = x2 → (0 ≤ x2 → vp_in (((4 : Int32) * x1) + x3) 96 ∧ ((d 237 (((4 : Int32) * x1) + x3).toNatClampNeg) = 0 → F_X10_place n x1 x3 d dl (fun r11 d12 l13 => vp_in (((4 : Int32) * x1) + x3) 96 ∧ ∀ d15 : DD, d15 = u2 d12 237 (((4 : Int32) * x1) + x3).toNatClampNeg (vp_nar .boolean 1) → vp_in (((4 : Int32) * x1) + x3) 96 ∧ ∀ d17 : DD, d17 = u2 d15 235 (((4 : Int32) * x1) + x3).toNatClampNeg 0 → Q r11 d17 l13)) ∧ (¬ (d 237 (((4 : Int32) * x1) + x3).toNatClampNeg) = 0 → Q (-3) d dl)) ∧ (¬ 0 ≤ x2 → (b_X10_strike_12 n Q k) x1 x2 (x3 + 1) d dl)))
def F_X10_strike (n : Nat) (x1 : Int32) (x2 : Int32) (d : DD) (dl : LL) (Q : Int32 → DD → LL → Prop) : Prop := F_X10_isRace n x1 d dl (fun r1 d2 l3 => (¬ r1 = 0 → b_X10_strike_12 n Q n x1 x2 0 d2 l3) ∧ (r1 = 0 → Q (-1) d2 l3))
set_option maxHeartbeats 4000000 in
set_option maxRecDepth 100000 in
theorem t_X10_strike_12 {g : Ex} {x : Fx} {n : Nat} {Q : Int32 → DD → LL → Prop} (C0 : Cx g x cX10_strike 5 (some .int) RX10 1 25) (hZ : Zi g x Q) : ∀ (j : Nat) (x1 : Int32) (x2 : Int32) (x3 : Int32) (d : DD) (dl : LL), b_X10_strike_12 n Q j x1 x2 x3 d dl → FW g x 5 d dl 12 [(0, rf g 211), (1, .int x1), (2, .int x2), (3, .int x3)] [] := by
  intro j
  induction j with
  | zero =>
    intro x1 x2 x3 d dl hw
    exact hw.elim
  | succ j hK12 =>
    intro x1 x2 x3 d dl hw
    refine f_iload_n C0 dX10_strike_12 rfl 3 rfl ?_
    refine f_iconst (v := 4) C0 dX10_strike_13 rfl ?_
    refine f_icmp_ge (tgt := 93) C0 dX10_strike_14 (by decide) (fun h5 => ?_) (fun h5 => ?_)
    · have hw := hw.1 h5
      refine f_iconst (v := (-1)) C0 dX10_strike_93 rfl ?_
      exact f_iret C0 hZ hw dX10_strike_94
    · have hw := hw.2 h5
      refine f_aload_n C0 dX10_strike_17 rfl 0 rfl ⟨_, rfl⟩ ?_
      refine gf_10_30 (r := 234) C0 rfl kn_211 mw_916 dX10_strike_18 ?_
      refine f_iconst (v := 4) C0 dX10_strike_21 rfl ?_
      refine f_iload_n C0 dX10_strike_22 rfl 1 rfl ?_
      refine f_imul C0 dX10_strike_23 ?_
      refine f_iload_n C0 dX10_strike_24 rfl 3 rfl ?_
      refine f_iadd C0 dX10_strike_25 ?_
      obtain ⟨h6, hw⟩ := hw
      refine f_iald C0 kn_234 h6 dX10_strike_26 ?_
      refine f_iload_n C0 dX10_strike_27 rfl 2 rfl ?_
      refine f_icmp_ne (tgt := 87) C0 dX10_strike_28 (by decide) (fun h7 => ?_) (fun h7 => ?_)
      · have hw := hw.1 h7
        refine f_iinc (lo' := [(3, .int (x3 + 1)), (0, rf g 211), (1, .int x1), (2, .int x2)]) C0 dX10_strike_87 3 rfl rfl (by decide) rfl ?_
        refine f_goto (tgt := 12) C0 dX10_strike_90 (by decide) ?_
        refine f_sub [1, 2, 3, 0] rfl ?_
        exact hK12 _ _ _ _ _ hw
      · have hw := hw.2 h7
        refine f_iload_n C0 dX10_strike_31 rfl 2 rfl ?_
        refine f_if_ge (tgt := 38) C0 dX10_strike_32 (by decide) (fun h8 => ?_) (fun h8 => ?_)
        · have hw := hw.1 h8
          refine f_aload_n C0 dX10_strike_38 rfl 0 rfl ⟨_, rfl⟩ ?_
          refine gf_10_33 (r := 237) C0 rfl kn_211 mw_919 dX10_strike_39 ?_
          refine f_iconst (v := 4) C0 dX10_strike_42 rfl ?_
          refine f_iload_n C0 dX10_strike_43 rfl 1 rfl ?_
          refine f_imul C0 dX10_strike_44 ?_
          refine f_iload_n C0 dX10_strike_45 rfl 3 rfl ?_
          refine f_iadd C0 dX10_strike_46 ?_
          obtain ⟨h9, hw⟩ := hw
          refine f_zald C0 kn_237 h9 dX10_strike_47 ?_
          refine f_if_eq (tgt := 54) C0 dX10_strike_48 (by decide) (fun h10 => ?_) (fun h10 => ?_)
          · have hw := hw.1 h10
            refine f_aload_n C0 dX10_strike_54 rfl 0 rfl ⟨_, rfl⟩ ?_
            refine f_iload_n C0 dX10_strike_55 rfl 1 rfl ?_
            refine f_iload_n C0 dX10_strike_56 rfl 3 rfl ?_
            refine f_callVi (As := [.int x1, .int x3]) (rest := []) C0 (m_X10_place hw) cw_X10_237 kn_211 (by decide) rfl rfl ⟨(Nat.le_of_ble_eq_true rfl), (Nat.le_of_ble_eq_true rfl)⟩ rfl rfl (Nat.le_of_ble_eq_true rfl) dX10_strike_57 ?_
            intro r11 d12 l13 hw
            refine f_istore (lo' := [(4, .int r11), (0, rf g 211), (1, .int x1), (2, .int x2), (3, .int x3)]) C0 dX10_strike_60 (by decide) rfl ?_
            refine f_aload_n C0 dX10_strike_62 rfl 1 rfl ⟨_, rfl⟩ ?_
            refine gf_10_33 (r := 237) C0 rfl kn_211 mw_919 dX10_strike_63 ?_
            refine f_iconst (v := 4) C0 dX10_strike_66 rfl ?_
            refine f_iload_n C0 dX10_strike_67 rfl 2 rfl ?_
            refine f_imul C0 dX10_strike_68 ?_
            refine f_iload_n C0 dX10_strike_69 rfl 4 rfl ?_
            refine f_iadd C0 dX10_strike_70 ?_
            refine f_iconst (v := 1) C0 dX10_strike_71 rfl ?_
            obtain ⟨h14, hw⟩ := hw
            refine f_zast C0 kn_237 h14 dX10_strike_72 (fun d15 ed15 => ?_)
            have hw := hw d15 ed15
            refine f_aload_n C0 dX10_strike_73 rfl 1 rfl ⟨_, rfl⟩ ?_
            refine gf_10_31 (r := 235) C0 rfl kn_211 mw_917 dX10_strike_74 ?_
            refine f_iconst (v := 4) C0 dX10_strike_77 rfl ?_
            refine f_iload_n C0 dX10_strike_78 rfl 2 rfl ?_
            refine f_imul C0 dX10_strike_79 ?_
            refine f_iload_n C0 dX10_strike_80 rfl 4 rfl ?_
            refine f_iadd C0 dX10_strike_81 ?_
            refine f_iconst (v := 0) C0 dX10_strike_82 rfl ?_
            obtain ⟨h16, hw⟩ := hw
            refine f_iast C0 kn_235 h16 dX10_strike_83 (fun d17 ed17 => ?_)
            have hw := hw d17 ed17
            refine f_iload C0 dX10_strike_84 0 rfl ?_
            exact f_iret C0 hZ hw dX10_strike_86
          · have hw := hw.2 h10
            refine f_bipush (v := (-3)) C0 dX10_strike_51 rfl ?_
            exact f_iret C0 hZ hw dX10_strike_53
        · have hw := hw.2 h8
          refine f_goto (tgt := 87) C0 dX10_strike_35 (by decide) ?_
          refine f_iinc (lo' := [(3, .int (x3 + 1)), (0, rf g 211), (1, .int x1), (2, .int x2)]) C0 dX10_strike_87 3 rfl rfl (by decide) rfl ?_
          refine f_goto (tgt := 12) C0 dX10_strike_90 (by decide) ?_
          refine f_sub [1, 2, 3, 0] rfl ?_
          exact hK12 _ _ _ _ _ hw
set_option maxHeartbeats 4000000 in
set_option maxRecDepth 100000 in
theorem m_X10_strike {g : Ex} {n : Nat} {x1 : Int32} {x2 : Int32} {d : DD} {dl : LL} {Q : Int32 → DD → LL → Prop} (hw : F_X10_strike n x1 x2 d dl Q) : Mi g yX10_strike cX10_strike 5 (some .int) 1 25 [rf g 211, .int x1, .int x2] d dl Q := by
  refine Mi.of (by decide) (Nat.le_of_ble_eq_true rfl) (fun x C0 hZ => ?_)
  have C0 : Cx g x cX10_strike 5 (some .int) RX10 1 25 := C0
  refine f_aload_n C0 dX10_strike_0 rfl 0 rfl ⟨_, rfl⟩ ?_
  refine f_iload_n C0 dX10_strike_1 rfl 1 rfl ?_
  refine f_callVi (As := [.int x1]) (rest := []) C0 (m_X10_isRace hw) cw_X10_226 kn_211 (by decide) rfl rfl ⟨(Nat.le_of_ble_eq_true rfl), (Nat.le_of_ble_eq_true rfl)⟩ rfl rfl (Nat.le_of_ble_eq_true rfl) dX10_strike_2 ?_
  intro r1 d2 l3 hw
  refine f_if_ne (tgt := 10) C0 dX10_strike_5 (by decide) (fun h4 => ?_) (fun h4 => ?_)
  · have hw := hw.1 h4
    refine f_iconst (v := 0) C0 dX10_strike_10 rfl ?_
    refine f_istore_n (lo' := [(3, .int 0), (0, rf g 211), (1, .int x1), (2, .int x2)]) C0 dX10_strike_11 rfl (by decide) rfl ?_
    refine f_sub [1, 2, 3, 0] rfl ?_
    exact t_X10_strike_12 C0 hZ n _ _ _ _ _ hw
  · have hw := hw.2 h4
    refine f_iconst (v := (-1)) C0 dX10_strike_8 rfl ?_
    exact f_iret C0 hZ hw dX10_strike_9
def b_X10_finalists_358 (n : Nat) (Q : Int32 → DD → LL → Prop) (K184 : Int32 → Int32 → DD → LL → Prop) (x2 : Int32) (x3 : Int32) (x5 : Int32) (d : DD) (dl : LL) : Prop := vp_in x5 6 ∧ ∀ d17 : DD, d17 = u2 d 241 x5.toNatClampNeg x3 → K184 x2 (x3 + 1) d17 dl
def b_X10_finalists_308 (n : Nat) (Q : Int32 → DD → LL → Prop) (K184 : Int32 → Int32 → DD → LL → Prop) : Nat → Int32 → Int32 → Int32 → DD → LL → Prop
  | 0 => fun _ _ _ _ _ => False
  | k + 1 => fun x2 x3 x5 d dl => (x5 ≤ 0 → b_X10_finalists_358 n Q K184 x2 x3 x5 d dl) ∧ (¬ x5 ≤ 0 → vp_in (x5 - 1) 6 ∧ vp_in (d 241 (x5 - 1).toNatClampNeg) 6 ∧ vp_in x3 6 ∧ ((d 242 (d 241 (x5 - 1).toNatClampNeg).toNatClampNeg) ≤ (d 242 x3.toNatClampNeg) → b_X10_finalists_358 n Q K184 x2 x3 x5 d dl) ∧ (¬ (d 242 (d 241 (x5 - 1).toNatClampNeg).toNatClampNeg) ≤ (d 242 x3.toNatClampNeg) → vp_in (x5 - 1) 6 ∧ vp_in x5 6 ∧ ∀ d24 : DD, d24 = u2 d 241 x5.toNatClampNeg (d 241 (x5 - 1).toNatClampNeg) → (b_X10_finalists_308 n Q K184 k) x2 x3 (x5 + (-1)) d24 dl))
def b_X10_finalists_287 (n : Nat) (Q : Int32 → DD → LL → Prop) (K184 : Int32 → Int32 → DD → LL → Prop) (x2 : Int32) (x3 : Int32) (x4 : Int32) (d : DD) (dl : LL) : Prop := (¬ x4 = 0 → ∀ d13 : DD, d13 = u2 d 211 7 ((d 211 7) + 1) → ∀ v14 : Int32, v14 = (d 211 7) → b_X10_finalists_308 n Q K184 n x2 x3 v14 d13 dl) ∧ (x4 = 0 → K184 x2 (x3 + 1) d dl)
def b_X10_finalists_285 (n : Nat) (Q : Int32 → DD → LL → Prop) (K184 : Int32 → Int32 → DD → LL → Prop) (x2 : Int32) (x3 : Int32) (xs0 : Int32) (d : DD) (dl : LL) : Prop := b_X10_finalists_287 n Q K184 x2 x3 xs0 d dl
def b_X10_finalists_220 (n : Nat) (Q : Int32 → DD → LL → Prop) (K184 : Int32 → Int32 → DD → LL → Prop) : Nat → Int32 → Int32 → Int32 → Int32 → DD → LL → Prop
  | 0 => fun _ _ _ _ _ _ => False
  | k + 1 => fun x2 x3 x5 x6 d dl => ((d 211 1) ≤ x6 → (x2 ≤ x5 → b_X10_finalists_285 n Q K184 x2 x3 0 d dl) ∧ (¬ x2 ≤ x5 → b_X10_finalists_285 n Q K184 x2 x3 1 d dl)) ∧ (¬ (d 211 1) ≤ x6 → vp_in x6 6 ∧ (¬ (d 243 x6.toNatClampNeg) = 0 → (b_X10_finalists_220 n Q K184 k) x2 x3 x5 (x6 + 1) d dl) ∧ ((d 243 x6.toNatClampNeg) = 0 → vp_in x6 6 ∧ ((d 242 x6.toNatClampNeg) ≤ 0 → (b_X10_finalists_220 n Q K184 k) x2 x3 x5 (x6 + 1) d dl) ∧ (¬ (d 242 x6.toNatClampNeg) ≤ 0 → vp_in x6 6 ∧ vp_in x3 6 ∧ ((d 242 x3.toNatClampNeg) ≤ (d 242 x6.toNatClampNeg) → (b_X10_finalists_220 n Q K184 k) x2 x3 x5 (x6 + 1) d dl) ∧ (¬ (d 242 x3.toNatClampNeg) ≤ (d 242 x6.toNatClampNeg) → (b_X10_finalists_220 n Q K184 k) x2 x3 (x5 + 1) (x6 + 1) d dl))))
def b_X10_finalists_184 (n : Nat) (Q : Int32 → DD → LL → Prop) : Nat → Int32 → Int32 → DD → LL → Prop
  | 0 => fun _ _ _ _ => False
  | k + 1 => fun x2 x3 d dl => ((d 211 1) ≤ x3 → Q (d 211 7) d dl) ∧ (¬ (d 211 1) ≤ x3 → vp_in x3 6 ∧ ∀ v10 : Int32, v10 = (d 243 x3.toNatClampNeg) → (¬ v10 = 0 → b_X10_finalists_287 n Q (b_X10_finalists_184 n Q k) x2 x3 v10 d dl) ∧ (v10 = 0 → vp_in x3 6 ∧ ((d 242 x3.toNatClampNeg) ≤ 0 → b_X10_finalists_287 n Q (b_X10_finalists_184 n Q k) x2 x3 v10 d dl) ∧ (¬ (d 242 x3.toNatClampNeg) ≤ 0 → b_X10_finalists_220 n Q (b_X10_finalists_184 n Q k) n x2 x3 0 0 d dl)))
def b_X10_finalists_146 (n : Nat) (Q : Int32 → DD → LL → Prop) (K55 : Int32 → Int32 → Int32 → DD → LL → Prop) (K66 : Int32 → Int32 → Int32 → Int32 → DD → LL → Prop) (x1 : Int32) (x2 : Int32) (x3 : Int32) (x4 : Int32) (x6 : Int32) (d : DD) (dl : LL) : Prop := F_X10_place n x3 x4 d dl (fun r48 d49 l50 => (x1 < r48 → K66 x1 x2 x3 (x4 + 1) d49 l50) ∧ (¬ x1 < r48 → vp_in x6 6 ∧ ∀ d53 : DD, d53 = u2 d49 243 x6.toNatClampNeg (vp_nar .boolean 1) → K66 x1 x2 x3 (x4 + 1) d53 l50))
def b_X10_finalists_137 (n : Nat) (Q : Int32 → DD → LL → Prop) (K55 : Int32 → Int32 → Int32 → DD → LL → Prop) (K66 : Int32 → Int32 → Int32 → Int32 → DD → LL → Prop) (x1 : Int32) (x2 : Int32) (x3 : Int32) (x4 : Int32) (x5 : Int32) (x6 : Int32) (d : DD) (dl : LL) : Prop := vp_in x6 6 ∧ ∀ d47 : DD, d47 = u2 d 242 x6.toNatClampNeg x5 → b_X10_finalists_146 n Q K55 K66 x1 x2 x3 x4 x6 d47 dl
def b_X10_finalists_66 (n : Nat) (Q : Int32 → DD → LL → Prop) (K55 : Int32 → Int32 → Int32 → DD → LL → Prop) : Nat → Int32 → Int32 → Int32 → Int32 → DD → LL → Prop
  | 0 => fun _ _ _ _ _ _ => False
  | k + 1 => fun x1 x2 x3 x4 d dl => (4 ≤ x4 → K55 x1 x2 (x3 + 1) d dl) ∧ (¬ 4 ≤ x4 → vp_in x3 24 ∧ (¬ (d 233 x3.toNatClampNeg) = 0 → K55 x1 x2 (x3 + 1) d dl) ∧ ((d 233 x3.toNatClampNeg) = 0 → vp_in (((4 : Int32) * x3) + x4) 96 ∧ ∀ v40 : Int32, v40 = (d 235 (((4 : Int32) * x3) + x4).toNatClampNeg) → (¬ v40 = 0 → vp_in (((4 : Int32) * x3) + x4) 96 ∧ ∀ v43 : Int32, v43 = (d 234 (((4 : Int32) * x3) + x4).toNatClampNeg) → vp_in v43 6 ∧ ((d 242 v43.toNatClampNeg) = 0 → b_X10_finalists_137 n Q K55 (b_X10_finalists_66 n Q K55 k) x1 x2 x3 x4 v40 v43 d dl) ∧ (¬ (d 242 v43.toNatClampNeg) = 0 → vp_in v43 6 ∧ ((d 242 v43.toNatClampNeg) ≤ v40 → b_X10_finalists_146 n Q K55 (b_X10_finalists_66 n Q K55 k) x1 x2 x3 x4 v43 d dl) ∧ (¬ (d 242 v43.toNatClampNeg) ≤ v40 → b_X10_finalists_137 n Q K55 (b_X10_finalists_66 n Q K55 k) x1 x2 x3 x4 v40 v43 d dl))) ∧ (v40 = 0 → (b_X10_finalists_66 n Q K55 k) x1 x2 x3 (x4 + 1) d dl)))
def b_X10_finalists_55 (n : Nat) (Q : Int32 → DD → LL → Prop) : Nat → Int32 → Int32 → Int32 → DD → LL → Prop
  | 0 => fun _ _ _ _ _ => False
  | k + 1 => fun x1 x2 x3 d dl => ((d 211 3) ≤ x3 → ∀ d7 : DD, d7 = u2 d 211 7 0 → b_X10_finalists_184 n Q n x2 0 d7 dl) ∧ (¬ (d 211 3) ≤ x3 → b_X10_finalists_66 n Q (b_X10_finalists_55 n Q k) n x1 x2 x3 0 d dl)
def b_X10_finalists_25 (n : Nat) (Q : Int32 → DD → LL → Prop) : Nat → Int32 → Int32 → Int32 → DD → LL → Prop
  | 0 => fun _ _ _ _ _ => False
  | k + 1 => fun x1 x2 x3 d dl => ((d 211 1) ≤ x3 → b_X10_finalists_55 n Q n x1 x2 0 d dl) ∧ (¬ (d 211 1) ≤ x3 → vp_in x3 6 ∧ ∀ d57 : DD, d57 = u2 d 242 x3.toNatClampNeg 0 → vp_in x3 6 ∧ ∀ d59 : DD, d59 = u2 d57 243 x3.toNatClampNeg (vp_nar .boolean 0) → (b_X10_finalists_25 n Q k) x1 x2 (x3 + 1) d59 dl)
def F_X10_finalists (n : Nat) (x1 : Int32) (x2 : Int32) (d : DD) (dl : LL) (Q : Int32 → DD → LL → Prop) : Prop := (x1 < 0 → Q (-2) d dl) ∧ (¬ x1 < 0 → (9 < x1 → Q (-2) d dl) ∧ (¬ 9 < x1 → (x2 < 0 → Q (-2) d dl) ∧ (¬ x2 < 0 → (x2 ≤ 9 → b_X10_finalists_25 n Q n x1 x2 0 d dl) ∧ (¬ x2 ≤ 9 → Q (-2) d dl))))
set_option maxHeartbeats 4000000 in
set_option maxRecDepth 100000 in
theorem t_X10_finalists_358 {g : Ex} {x : Fx} {n : Nat} {Q : Int32 → DD → LL → Prop} (C0 : Cx g x cX10_finalists 7 (some .int) RX10 1 25) (hZ : Zi g x Q) {K184 : Int32 → Int32 → DD → LL → Prop} (hK184 : ∀ (x2 : Int32) (x3 : Int32) (d : DD) (dl : LL), K184 x2 x3 d dl → FW g x 7 d dl 184 [(0, rf g 211), (2, .int x2), (3, .int x3)] []) : ∀ (x2 : Int32) (x3 : Int32) (x5 : Int32) (d : DD) (dl : LL), b_X10_finalists_358 n Q K184 x2 x3 x5 d dl → FW g x 7 d dl 358 [(0, rf g 211), (2, .int x2), (3, .int x3), (5, .int x5)] [] := by
  intro x2 x3 x5 d dl hw
  refine f_aload_n C0 dX10_finalists_358 rfl 0 rfl ⟨_, rfl⟩ ?_
  refine gf_10_37 (r := 241) C0 rfl kn_211 mw_923 dX10_finalists_359 ?_
  refine f_iload C0 dX10_finalists_362 3 rfl ?_
  refine f_iload_n C0 dX10_finalists_364 rfl 2 rfl ?_
  obtain ⟨h16, hw⟩ := hw
  refine f_iast C0 kn_241 h16 dX10_finalists_365 (fun d17 ed17 => ?_)
  have hw := hw d17 ed17
  refine f_iinc (lo' := [(3, .int (x3 + 1)), (0, rf g 211), (2, .int x2), (5, .int x5)]) C0 dX10_finalists_366 2 rfl rfl (by decide) rfl ?_
  refine f_goto (tgt := 184) C0 dX10_finalists_369 (by decide) ?_
  refine f_sub [1, 2, 0] rfl ?_
  exact hK184 _ _ _ _ hw
set_option maxHeartbeats 4000000 in
set_option maxRecDepth 100000 in
theorem t_X10_finalists_308 {g : Ex} {x : Fx} {n : Nat} {Q : Int32 → DD → LL → Prop} (C0 : Cx g x cX10_finalists 7 (some .int) RX10 1 25) (hZ : Zi g x Q) {K184 : Int32 → Int32 → DD → LL → Prop} (hK184 : ∀ (x2 : Int32) (x3 : Int32) (d : DD) (dl : LL), K184 x2 x3 d dl → FW g x 7 d dl 184 [(0, rf g 211), (2, .int x2), (3, .int x3)] []) : ∀ (j : Nat) (x2 : Int32) (x3 : Int32) (x5 : Int32) (d : DD) (dl : LL), b_X10_finalists_308 n Q K184 j x2 x3 x5 d dl → FW g x 7 d dl 308 [(0, rf g 211), (2, .int x2), (3, .int x3), (5, .int x5)] [] := by
  intro j
  induction j with
  | zero =>
    intro x2 x3 x5 d dl hw
    exact hw.elim
  | succ j hK308 =>
    intro x2 x3 x5 d dl hw
    refine f_iload C0 dX10_finalists_308 3 rfl ?_
    refine f_if_le (tgt := 358) C0 dX10_finalists_310 (by decide) (fun h15 => ?_) (fun h15 => ?_)
    · have hw := hw.1 h15
      exact t_X10_finalists_358 C0 hZ hK184 _ _ _ _ _ hw
    · have hw := hw.2 h15
      refine f_aload_n C0 dX10_finalists_313 rfl 0 rfl ⟨_, rfl⟩ ?_
      refine gf_10_38 (r := 242) C0 rfl kn_211 mw_924 dX10_finalists_314 ?_
      refine f_aload_n C0 dX10_finalists_317 rfl 0 rfl ⟨_, rfl⟩ ?_
      refine gf_10_37 (r := 241) C0 rfl kn_211 mw_923 dX10_finalists_318 ?_
      refine f_iload C0 dX10_finalists_321 3 rfl ?_
      refine f_iconst (v := 1) C0 dX10_finalists_323 rfl ?_
      refine f_isub C0 dX10_finalists_324 ?_
      obtain ⟨h18, hw⟩ := hw
      refine f_iald C0 kn_241 h18 dX10_finalists_325 ?_
      obtain ⟨h19, hw⟩ := hw
      refine f_iald C0 kn_242 h19 dX10_finalists_326 ?_
      refine f_aload_n C0 dX10_finalists_327 rfl 0 rfl ⟨_, rfl⟩ ?_
      refine gf_10_38 (r := 242) C0 rfl kn_211 mw_924 dX10_finalists_328 ?_
      refine f_iload_n C0 dX10_finalists_331 rfl 2 rfl ?_
      obtain ⟨h20, hw⟩ := hw
      refine f_iald C0 kn_242 h20 dX10_finalists_332 ?_
      refine f_icmp_le (tgt := 358) C0 dX10_finalists_333 (by decide) (fun h21 => ?_) (fun h21 => ?_)
      · have hw := hw.1 h21
        exact t_X10_finalists_358 C0 hZ hK184 _ _ _ _ _ hw
      · have hw := hw.2 h21
        refine f_aload_n C0 dX10_finalists_336 rfl 0 rfl ⟨_, rfl⟩ ?_
        refine gf_10_37 (r := 241) C0 rfl kn_211 mw_923 dX10_finalists_337 ?_
        refine f_iload C0 dX10_finalists_340 3 rfl ?_
        refine f_aload_n C0 dX10_finalists_342 rfl 0 rfl ⟨_, rfl⟩ ?_
        refine gf_10_37 (r := 241) C0 rfl kn_211 mw_923 dX10_finalists_343 ?_
        refine f_iload C0 dX10_finalists_346 3 rfl ?_
        refine f_iconst (v := 1) C0 dX10_finalists_348 rfl ?_
        refine f_isub C0 dX10_finalists_349 ?_
        obtain ⟨h22, hw⟩ := hw
        refine f_iald C0 kn_241 h22 dX10_finalists_350 ?_
        obtain ⟨h23, hw⟩ := hw
        refine f_iast C0 kn_241 h23 dX10_finalists_351 (fun d24 ed24 => ?_)
        have hw := hw d24 ed24
        refine f_iinc (lo' := [(5, .int (x5 + (-1))), (0, rf g 211), (2, .int x2), (3, .int x3)]) C0 dX10_finalists_352 3 rfl rfl (by decide) rfl ?_
        refine f_goto (tgt := 308) C0 dX10_finalists_355 (by decide) ?_
        refine f_sub [1, 2, 3, 0] rfl ?_
        exact hK308 _ _ _ _ _ hw
set_option maxHeartbeats 4000000 in
set_option maxRecDepth 100000 in
theorem t_X10_finalists_287 {g : Ex} {x : Fx} {n : Nat} {Q : Int32 → DD → LL → Prop} (C0 : Cx g x cX10_finalists 7 (some .int) RX10 1 25) (hZ : Zi g x Q) {K184 : Int32 → Int32 → DD → LL → Prop} (hK184 : ∀ (x2 : Int32) (x3 : Int32) (d : DD) (dl : LL), K184 x2 x3 d dl → FW g x 7 d dl 184 [(0, rf g 211), (2, .int x2), (3, .int x3)] []) : ∀ (x2 : Int32) (x3 : Int32) (x4 : Int32) (d : DD) (dl : LL), b_X10_finalists_287 n Q K184 x2 x3 x4 d dl → FW g x 7 d dl 287 [(0, rf g 211), (2, .int x2), (3, .int x3), (4, .int x4)] [] := by
  intro x2 x3 x4 d dl hw
  refine f_iload C0 dX10_finalists_287 3 rfl ?_
  refine f_if_ne (tgt := 295) C0 dX10_finalists_289 (by decide) (fun h12 => ?_) (fun h12 => ?_)
  · have hw := hw.1 h12
    refine f_aload_n C0 dX10_finalists_295 rfl 0 rfl ⟨_, rfl⟩ ?_
    refine f_dup C0 dX10_finalists_296 rfl ?_
    refine gf_10_7 C0 kn_211 mw_893 dX10_finalists_297 ?_
    refine f_dup_x1 C0 dX10_finalists_300 rfl rfl ?_
    refine f_iconst (v := 1) C0 dX10_finalists_301 rfl ?_
    refine f_iadd C0 dX10_finalists_302 ?_
    refine pf_10_7 C0 kn_211 mw_893 dX10_finalists_303 (fun d13 ed13 => ?_)
    have hw := hw d13 ed13
    refine f_topi (fun v14 e14 => ?_)
    have hw := hw v14 e14
    refine f_istore (lo' := [(5, .int v14), (0, rf g 211), (2, .int x2), (3, .int x3), (4, .int x4)]) C0 dX10_finalists_306 (by decide) rfl ?_
    refine f_sub [1, 2, 3, 0] rfl ?_
    exact t_X10_finalists_308 C0 hZ hK184 n _ _ _ _ _ hw
  · have hw := hw.2 h12
    refine f_goto (tgt := 366) C0 dX10_finalists_292 (by decide) ?_
    refine f_iinc (lo' := [(3, .int (x3 + 1)), (0, rf g 211), (2, .int x2), (4, .int x4)]) C0 dX10_finalists_366 2 rfl rfl (by decide) rfl ?_
    refine f_goto (tgt := 184) C0 dX10_finalists_369 (by decide) ?_
    refine f_sub [1, 2, 0] rfl ?_
    exact hK184 _ _ _ _ hw
set_option maxHeartbeats 4000000 in
set_option maxRecDepth 100000 in
theorem t_X10_finalists_285 {g : Ex} {x : Fx} {n : Nat} {Q : Int32 → DD → LL → Prop} (C0 : Cx g x cX10_finalists 7 (some .int) RX10 1 25) (hZ : Zi g x Q) {K184 : Int32 → Int32 → DD → LL → Prop} (hK184 : ∀ (x2 : Int32) (x3 : Int32) (d : DD) (dl : LL), K184 x2 x3 d dl → FW g x 7 d dl 184 [(0, rf g 211), (2, .int x2), (3, .int x3)] []) : ∀ (x2 : Int32) (x3 : Int32) (xs0 : Int32) (d : DD) (dl : LL), b_X10_finalists_285 n Q K184 x2 x3 xs0 d dl → FW g x 7 d dl 285 [(0, rf g 211), (2, .int x2), (3, .int x3)] [.int xs0] := by
  intro x2 x3 xs0 d dl hw
  refine f_istore (lo' := [(4, .int xs0), (0, rf g 211), (2, .int x2), (3, .int x3)]) C0 dX10_finalists_285 (by decide) rfl ?_
  refine f_sub [1, 2, 3, 0] rfl ?_
  exact t_X10_finalists_287 C0 hZ hK184 _ _ _ _ _ hw
set_option maxHeartbeats 4000000 in
set_option maxRecDepth 100000 in
theorem t_X10_finalists_220 {g : Ex} {x : Fx} {n : Nat} {Q : Int32 → DD → LL → Prop} (C0 : Cx g x cX10_finalists 7 (some .int) RX10 1 25) (hZ : Zi g x Q) {K184 : Int32 → Int32 → DD → LL → Prop} (hK184 : ∀ (x2 : Int32) (x3 : Int32) (d : DD) (dl : LL), K184 x2 x3 d dl → FW g x 7 d dl 184 [(0, rf g 211), (2, .int x2), (3, .int x3)] []) : ∀ (j : Nat) (x2 : Int32) (x3 : Int32) (x5 : Int32) (x6 : Int32) (d : DD) (dl : LL), b_X10_finalists_220 n Q K184 j x2 x3 x5 x6 d dl → FW g x 7 d dl 220 [(0, rf g 211), (2, .int x2), (3, .int x3), (5, .int x5), (6, .int x6)] [] := by
  intro j
  induction j with
  | zero =>
    intro x2 x3 x5 x6 d dl hw
    exact hw.elim
  | succ j hK220 =>
    intro x2 x3 x5 x6 d dl hw
    refine f_iload C0 dX10_finalists_220 4 rfl ?_
    refine f_aload_n C0 dX10_finalists_222 rfl 0 rfl ⟨_, rfl⟩ ?_
    refine gf_10_1 C0 kn_211 mw_887 dX10_finalists_223 ?_
    refine f_icmp_ge (tgt := 274) C0 dX10_finalists_226 (by decide) (fun h27 => ?_) (fun h27 => ?_)
    · have hw := hw.1 h27
      refine f_iload C0 dX10_finalists_274 3 rfl ?_
      refine f_iload_n C0 dX10_finalists_276 rfl 1 rfl ?_
      refine f_icmp_ge (tgt := 284) C0 dX10_finalists_277 (by decide) (fun h28 => ?_) (fun h28 => ?_)
      · have hw := hw.1 h28
        refine f_iconst (v := 0) C0 dX10_finalists_284 rfl ?_
        refine f_sub [0, 1, 2] rfl ?_
        exact t_X10_finalists_285 C0 hZ hK184 _ _ _ _ _ hw
      · have hw := hw.2 h28
        refine f_iconst (v := 1) C0 dX10_finalists_280 rfl ?_
        refine f_goto (tgt := 285) C0 dX10_finalists_281 (by decide) ?_
        refine f_sub [0, 1, 2] rfl ?_
        exact t_X10_finalists_285 C0 hZ hK184 _ _ _ _ _ hw
    · have hw := hw.2 h27
      refine f_aload_n C0 dX10_finalists_229 rfl 0 rfl ⟨_, rfl⟩ ?_
      refine gf_10_39 (r := 243) C0 rfl kn_211 mw_925 dX10_finalists_230 ?_
      refine f_iload C0 dX10_finalists_233 4 rfl ?_
      obtain ⟨h29, hw⟩ := hw
      refine f_zald C0 kn_243 h29 dX10_finalists_235 ?_
      refine f_if_ne (tgt := 268) C0 dX10_finalists_236 (by decide) (fun h30 => ?_) (fun h30 => ?_)
      · have hw := hw.1 h30
        refine f_iinc (lo' := [(6, .int (x6 + 1)), (0, rf g 211), (2, .int x2), (3, .int x3), (5, .int x5)]) C0 dX10_finalists_268 4 rfl rfl (by decide) rfl ?_
        refine f_goto (tgt := 220) C0 dX10_finalists_271 (by decide) ?_
        refine f_sub [1, 2, 3, 4, 0] rfl ?_
        exact hK220 _ _ _ _ _ _ hw
      · have hw := hw.2 h30
        refine f_aload_n C0 dX10_finalists_239 rfl 0 rfl ⟨_, rfl⟩ ?_
        refine gf_10_38 (r := 242) C0 rfl kn_211 mw_924 dX10_finalists_240 ?_
        refine f_iload C0 dX10_finalists_243 4 rfl ?_
        obtain ⟨h31, hw⟩ := hw
        refine f_iald C0 kn_242 h31 dX10_finalists_245 ?_
        refine f_if_le (tgt := 268) C0 dX10_finalists_246 (by decide) (fun h32 => ?_) (fun h32 => ?_)
        · have hw := hw.1 h32
          refine f_iinc (lo' := [(6, .int (x6 + 1)), (0, rf g 211), (2, .int x2), (3, .int x3), (5, .int x5)]) C0 dX10_finalists_268 4 rfl rfl (by decide) rfl ?_
          refine f_goto (tgt := 220) C0 dX10_finalists_271 (by decide) ?_
          refine f_sub [1, 2, 3, 4, 0] rfl ?_
          exact hK220 _ _ _ _ _ _ hw
        · have hw := hw.2 h32
          refine f_aload_n C0 dX10_finalists_249 rfl 0 rfl ⟨_, rfl⟩ ?_
          refine gf_10_38 (r := 242) C0 rfl kn_211 mw_924 dX10_finalists_250 ?_
          refine f_iload C0 dX10_finalists_253 4 rfl ?_
          obtain ⟨h33, hw⟩ := hw
          refine f_iald C0 kn_242 h33 dX10_finalists_255 ?_
          refine f_aload_n C0 dX10_finalists_256 rfl 0 rfl ⟨_, rfl⟩ ?_
          refine gf_10_38 (r := 242) C0 rfl kn_211 mw_924 dX10_finalists_257 ?_
          refine f_iload_n C0 dX10_finalists_260 rfl 2 rfl ?_
          obtain ⟨h34, hw⟩ := hw
          refine f_iald C0 kn_242 h34 dX10_finalists_261 ?_
          refine f_icmp_ge (tgt := 268) C0 dX10_finalists_262 (by decide) (fun h35 => ?_) (fun h35 => ?_)
          · have hw := hw.1 h35
            refine f_iinc (lo' := [(6, .int (x6 + 1)), (0, rf g 211), (2, .int x2), (3, .int x3), (5, .int x5)]) C0 dX10_finalists_268 4 rfl rfl (by decide) rfl ?_
            refine f_goto (tgt := 220) C0 dX10_finalists_271 (by decide) ?_
            refine f_sub [1, 2, 3, 4, 0] rfl ?_
            exact hK220 _ _ _ _ _ _ hw
          · have hw := hw.2 h35
            refine f_iinc (lo' := [(5, .int (x5 + 1)), (0, rf g 211), (2, .int x2), (3, .int x3), (6, .int x6)]) C0 dX10_finalists_265 3 rfl rfl (by decide) rfl ?_
            refine f_iinc (lo' := [(6, .int (x6 + 1)), (5, .int (x5 + 1)), (0, rf g 211), (2, .int x2), (3, .int x3)]) C0 dX10_finalists_268 4 rfl rfl (by decide) rfl ?_
            refine f_goto (tgt := 220) C0 dX10_finalists_271 (by decide) ?_
            refine f_sub [2, 3, 4, 1, 0] rfl ?_
            exact hK220 _ _ _ _ _ _ hw
set_option maxHeartbeats 4000000 in
set_option maxRecDepth 100000 in
theorem t_X10_finalists_184 {g : Ex} {x : Fx} {n : Nat} {Q : Int32 → DD → LL → Prop} (C0 : Cx g x cX10_finalists 7 (some .int) RX10 1 25) (hZ : Zi g x Q) : ∀ (j : Nat) (x2 : Int32) (x3 : Int32) (d : DD) (dl : LL), b_X10_finalists_184 n Q j x2 x3 d dl → FW g x 7 d dl 184 [(0, rf g 211), (2, .int x2), (3, .int x3)] [] := by
  intro j
  induction j with
  | zero =>
    intro x2 x3 d dl hw
    exact hw.elim
  | succ j hK184 =>
    intro x2 x3 d dl hw
    refine f_iload_n C0 dX10_finalists_184 rfl 2 rfl ?_
    refine f_aload_n C0 dX10_finalists_185 rfl 0 rfl ⟨_, rfl⟩ ?_
    refine gf_10_1 C0 kn_211 mw_887 dX10_finalists_186 ?_
    refine f_icmp_ge (tgt := 372) C0 dX10_finalists_189 (by decide) (fun h8 => ?_) (fun h8 => ?_)
    · have hw := hw.1 h8
      refine f_aload_n C0 dX10_finalists_372 rfl 0 rfl ⟨_, rfl⟩ ?_
      refine gf_10_7 C0 kn_211 mw_893 dX10_finalists_373 ?_
      exact f_iret C0 hZ hw dX10_finalists_376
    · have hw := hw.2 h8
      refine f_aload_n C0 dX10_finalists_192 rfl 0 rfl ⟨_, rfl⟩ ?_
      refine gf_10_39 (r := 243) C0 rfl kn_211 mw_925 dX10_finalists_193 ?_
      refine f_iload_n C0 dX10_finalists_196 rfl 2 rfl ?_
      obtain ⟨h9, hw⟩ := hw
      refine f_zald C0 kn_243 h9 dX10_finalists_197 ?_
      refine f_topi (fun v10 e10 => ?_)
      have hw := hw v10 e10
      refine f_istore (lo' := [(4, .int v10), (0, rf g 211), (2, .int x2), (3, .int x3)]) C0 dX10_finalists_198 (by decide) rfl ?_
      refine f_iload C0 dX10_finalists_200 0 rfl ?_
      refine f_if_ne (tgt := 287) C0 dX10_finalists_202 (by decide) (fun h11 => ?_) (fun h11 => ?_)
      · have hw := hw.1 h11
        refine f_sub [1, 2, 3, 0] rfl ?_
        exact t_X10_finalists_287 C0 hZ hK184 _ _ _ _ _ hw
      · have hw := hw.2 h11
        refine f_aload_n C0 dX10_finalists_205 rfl 1 rfl ⟨_, rfl⟩ ?_
        refine gf_10_38 (r := 242) C0 rfl kn_211 mw_924 dX10_finalists_206 ?_
        refine f_iload_n C0 dX10_finalists_209 rfl 3 rfl ?_
        obtain ⟨h25, hw⟩ := hw
        refine f_iald C0 kn_242 h25 dX10_finalists_210 ?_
        refine f_if_le (tgt := 287) C0 dX10_finalists_211 (by decide) (fun h26 => ?_) (fun h26 => ?_)
        · have hw := hw.1 h26
          refine f_sub [1, 2, 3, 0] rfl ?_
          exact t_X10_finalists_287 C0 hZ hK184 _ _ _ _ _ hw
        · have hw := hw.2 h26
          refine f_iconst (v := 0) C0 dX10_finalists_214 rfl ?_
          refine f_istore (lo' := [(5, .int 0), (4, .int v10), (0, rf g 211), (2, .int x2), (3, .int x3)]) C0 dX10_finalists_215 (by decide) rfl ?_
          refine f_iconst (v := 0) C0 dX10_finalists_217 rfl ?_
          refine f_istore (lo' := [(6, .int 0), (5, .int 0), (4, .int v10), (0, rf g 211), (2, .int x2), (3, .int x3)]) C0 dX10_finalists_218 (by decide) rfl ?_
          refine f_sub [3, 4, 5, 1, 0] rfl ?_
          exact t_X10_finalists_220 C0 hZ hK184 n _ _ _ _ _ _ hw
set_option maxHeartbeats 4000000 in
set_option maxRecDepth 100000 in
theorem t_X10_finalists_146 {g : Ex} {x : Fx} {n : Nat} {Q : Int32 → DD → LL → Prop} (C0 : Cx g x cX10_finalists 7 (some .int) RX10 1 25) (hZ : Zi g x Q) {K55 : Int32 → Int32 → Int32 → DD → LL → Prop} (hK55 : ∀ (x1 : Int32) (x2 : Int32) (x3 : Int32) (d : DD) (dl : LL), K55 x1 x2 x3 d dl → FW g x 7 d dl 55 [(0, rf g 211), (1, .int x1), (2, .int x2), (3, .int x3)] []) {K66 : Int32 → Int32 → Int32 → Int32 → DD → LL → Prop} (hK66 : ∀ (x1 : Int32) (x2 : Int32) (x3 : Int32) (x4 : Int32) (d : DD) (dl : LL), K66 x1 x2 x3 x4 d dl → FW g x 7 d dl 66 [(0, rf g 211), (1, .int x1), (2, .int x2), (3, .int x3), (4, .int x4)] []) : ∀ (x1 : Int32) (x2 : Int32) (x3 : Int32) (x4 : Int32) (x6 : Int32) (d : DD) (dl : LL), b_X10_finalists_146 n Q K55 K66 x1 x2 x3 x4 x6 d dl → FW g x 7 d dl 146 [(0, rf g 211), (1, .int x1), (2, .int x2), (3, .int x3), (4, .int x4), (6, .int x6)] [] := by
  intro x1 x2 x3 x4 x6 d dl hw
  refine f_aload_n C0 dX10_finalists_146 rfl 0 rfl ⟨_, rfl⟩ ?_
  refine f_iload_n C0 dX10_finalists_147 rfl 3 rfl ?_
  refine f_iload C0 dX10_finalists_148 4 rfl ?_
  refine f_callVi (As := [.int x3, .int x4]) (rest := []) C0 (m_X10_place hw) cw_X10_237 kn_211 (by decide) rfl rfl ⟨(Nat.le_of_ble_eq_true rfl), (Nat.le_of_ble_eq_true rfl)⟩ rfl rfl (Nat.le_of_ble_eq_true rfl) dX10_finalists_150 ?_
  intro r48 d49 l50 hw
  refine f_iload_n C0 dX10_finalists_153 rfl 1 rfl ?_
  refine f_icmp_gt (tgt := 165) C0 dX10_finalists_154 (by decide) (fun h51 => ?_) (fun h51 => ?_)
  · have hw := hw.1 h51
    refine f_iinc (lo' := [(4, .int (x4 + 1)), (0, rf g 211), (1, .int x1), (2, .int x2), (3, .int x3), (6, .int x6)]) C0 dX10_finalists_165 4 rfl rfl (by decide) rfl ?_
    refine f_goto (tgt := 66) C0 dX10_finalists_168 (by decide) ?_
    refine f_sub [1, 2, 3, 4, 0] rfl ?_
    exact hK66 _ _ _ _ _ _ hw
  · have hw := hw.2 h51
    refine f_aload_n C0 dX10_finalists_157 rfl 0 rfl ⟨_, rfl⟩ ?_
    refine gf_10_39 (r := 243) C0 rfl kn_211 mw_925 dX10_finalists_158 ?_
    refine f_iload C0 dX10_finalists_161 5 rfl ?_
    refine f_iconst (v := 1) C0 dX10_finalists_163 rfl ?_
    obtain ⟨h52, hw⟩ := hw
    refine f_zast C0 kn_243 h52 dX10_finalists_164 (fun d53 ed53 => ?_)
    have hw := hw d53 ed53
    refine f_iinc (lo' := [(4, .int (x4 + 1)), (0, rf g 211), (1, .int x1), (2, .int x2), (3, .int x3), (6, .int x6)]) C0 dX10_finalists_165 4 rfl rfl (by decide) rfl ?_
    refine f_goto (tgt := 66) C0 dX10_finalists_168 (by decide) ?_
    refine f_sub [1, 2, 3, 4, 0] rfl ?_
    exact hK66 _ _ _ _ _ _ hw
set_option maxHeartbeats 4000000 in
set_option maxRecDepth 100000 in
theorem t_X10_finalists_137 {g : Ex} {x : Fx} {n : Nat} {Q : Int32 → DD → LL → Prop} (C0 : Cx g x cX10_finalists 7 (some .int) RX10 1 25) (hZ : Zi g x Q) {K55 : Int32 → Int32 → Int32 → DD → LL → Prop} (hK55 : ∀ (x1 : Int32) (x2 : Int32) (x3 : Int32) (d : DD) (dl : LL), K55 x1 x2 x3 d dl → FW g x 7 d dl 55 [(0, rf g 211), (1, .int x1), (2, .int x2), (3, .int x3)] []) {K66 : Int32 → Int32 → Int32 → Int32 → DD → LL → Prop} (hK66 : ∀ (x1 : Int32) (x2 : Int32) (x3 : Int32) (x4 : Int32) (d : DD) (dl : LL), K66 x1 x2 x3 x4 d dl → FW g x 7 d dl 66 [(0, rf g 211), (1, .int x1), (2, .int x2), (3, .int x3), (4, .int x4)] []) : ∀ (x1 : Int32) (x2 : Int32) (x3 : Int32) (x4 : Int32) (x5 : Int32) (x6 : Int32) (d : DD) (dl : LL), b_X10_finalists_137 n Q K55 K66 x1 x2 x3 x4 x5 x6 d dl → FW g x 7 d dl 137 [(0, rf g 211), (1, .int x1), (2, .int x2), (3, .int x3), (4, .int x4), (5, .int x5), (6, .int x6)] [] := by
  intro x1 x2 x3 x4 x5 x6 d dl hw
  refine f_aload_n C0 dX10_finalists_137 rfl 0 rfl ⟨_, rfl⟩ ?_
  refine gf_10_38 (r := 242) C0 rfl kn_211 mw_924 dX10_finalists_138 ?_
  refine f_iload C0 dX10_finalists_141 6 rfl ?_
  refine f_iload C0 dX10_finalists_143 5 rfl ?_
  obtain ⟨h46, hw⟩ := hw
  refine f_iast C0 kn_242 h46 dX10_finalists_145 (fun d47 ed47 => ?_)
  have hw := hw d47 ed47
  refine f_sub [0, 1, 2, 3, 4, 6] rfl ?_
  exact t_X10_finalists_146 C0 hZ hK55 hK66 _ _ _ _ _ _ _ hw
set_option maxHeartbeats 4000000 in
set_option maxRecDepth 100000 in
theorem t_X10_finalists_66 {g : Ex} {x : Fx} {n : Nat} {Q : Int32 → DD → LL → Prop} (C0 : Cx g x cX10_finalists 7 (some .int) RX10 1 25) (hZ : Zi g x Q) {K55 : Int32 → Int32 → Int32 → DD → LL → Prop} (hK55 : ∀ (x1 : Int32) (x2 : Int32) (x3 : Int32) (d : DD) (dl : LL), K55 x1 x2 x3 d dl → FW g x 7 d dl 55 [(0, rf g 211), (1, .int x1), (2, .int x2), (3, .int x3)] []) : ∀ (j : Nat) (x1 : Int32) (x2 : Int32) (x3 : Int32) (x4 : Int32) (d : DD) (dl : LL), b_X10_finalists_66 n Q K55 j x1 x2 x3 x4 d dl → FW g x 7 d dl 66 [(0, rf g 211), (1, .int x1), (2, .int x2), (3, .int x3), (4, .int x4)] [] := by
  intro j
  induction j with
  | zero =>
    intro x1 x2 x3 x4 d dl hw
    exact hw.elim
  | succ j hK66 =>
    intro x1 x2 x3 x4 d dl hw
    refine f_iload C0 dX10_finalists_66 4 rfl ?_
    refine f_iconst (v := 4) C0 dX10_finalists_68 rfl ?_
    refine f_icmp_ge (tgt := 171) C0 dX10_finalists_69 (by decide) (fun h36 => ?_) (fun h36 => ?_)
    · have hw := hw.1 h36
      refine f_iinc (lo' := [(3, .int (x3 + 1)), (0, rf g 211), (1, .int x1), (2, .int x2), (4, .int x4)]) C0 dX10_finalists_171 3 rfl rfl (by decide) rfl ?_
      refine f_goto (tgt := 55) C0 dX10_finalists_174 (by decide) ?_
      refine f_sub [1, 2, 3, 0] rfl ?_
      exact hK55 _ _ _ _ _ hw
    · have hw := hw.2 h36
      refine f_aload_n C0 dX10_finalists_72 rfl 0 rfl ⟨_, rfl⟩ ?_
      refine gf_10_29 (r := 233) C0 rfl kn_211 mw_915 dX10_finalists_73 ?_
      refine f_iload_n C0 dX10_finalists_76 rfl 3 rfl ?_
      obtain ⟨h37, hw⟩ := hw
      refine f_iald C0 kn_233 h37 dX10_finalists_77 ?_
      refine f_if_ne (tgt := 171) C0 dX10_finalists_78 (by decide) (fun h38 => ?_) (fun h38 => ?_)
      · have hw := hw.1 h38
        refine f_iinc (lo' := [(3, .int (x3 + 1)), (0, rf g 211), (1, .int x1), (2, .int x2), (4, .int x4)]) C0 dX10_finalists_171 3 rfl rfl (by decide) rfl ?_
        refine f_goto (tgt := 55) C0 dX10_finalists_174 (by decide) ?_
        refine f_sub [1, 2, 3, 0] rfl ?_
        exact hK55 _ _ _ _ _ hw
      · have hw := hw.2 h38
        refine f_aload_n C0 dX10_finalists_81 rfl 0 rfl ⟨_, rfl⟩ ?_
        refine gf_10_31 (r := 235) C0 rfl kn_211 mw_917 dX10_finalists_82 ?_
        refine f_iconst (v := 4) C0 dX10_finalists_85 rfl ?_
        refine f_iload_n C0 dX10_finalists_86 rfl 3 rfl ?_
        refine f_imul C0 dX10_finalists_87 ?_
        refine f_iload C0 dX10_finalists_88 4 rfl ?_
        refine f_iadd C0 dX10_finalists_90 ?_
        obtain ⟨h39, hw⟩ := hw
        refine f_iald C0 kn_235 h39 dX10_finalists_91 ?_
        refine f_topi (fun v40 e40 => ?_)
        have hw := hw v40 e40
        refine f_istore (lo' := [(5, .int v40), (0, rf g 211), (1, .int x1), (2, .int x2), (3, .int x3), (4, .int x4)]) C0 dX10_finalists_92 (by decide) rfl ?_
        refine f_iload C0 dX10_finalists_94 0 rfl ?_
        refine f_if_ne (tgt := 102) C0 dX10_finalists_96 (by decide) (fun h41 => ?_) (fun h41 => ?_)
        · have hw := hw.1 h41
          refine f_aload_n C0 dX10_finalists_102 rfl 1 rfl ⟨_, rfl⟩ ?_
          refine gf_10_30 (r := 234) C0 rfl kn_211 mw_916 dX10_finalists_103 ?_
          refine f_iconst (v := 4) C0 dX10_finalists_106 rfl ?_
          refine f_iload_n C0 dX10_finalists_107 rfl 4 rfl ?_
          refine f_imul C0 dX10_finalists_108 ?_
          refine f_iload C0 dX10_finalists_109 5 rfl ?_
          refine f_iadd C0 dX10_finalists_111 ?_
          obtain ⟨h42, hw⟩ := hw
          refine f_iald C0 kn_234 h42 dX10_finalists_112 ?_
          refine f_topi (fun v43 e43 => ?_)
          have hw := hw v43 e43
          refine f_istore (lo' := [(6, .int v43), (5, .int v40), (0, rf g 211), (1, .int x1), (2, .int x2), (3, .int x3), (4, .int x4)]) C0 dX10_finalists_113 (by decide) rfl ?_
          refine f_aload_n C0 dX10_finalists_115 rfl 2 rfl ⟨_, rfl⟩ ?_
          refine gf_10_38 (r := 242) C0 rfl kn_211 mw_924 dX10_finalists_116 ?_
          refine f_iload C0 dX10_finalists_119 0 rfl ?_
          obtain ⟨h44, hw⟩ := hw
          refine f_iald C0 kn_242 h44 dX10_finalists_121 ?_
          refine f_if_eq (tgt := 137) C0 dX10_finalists_122 (by decide) (fun h45 => ?_) (fun h45 => ?_)
          · have hw := hw.1 h45
            refine f_sub [2, 3, 4, 5, 6, 1, 0] rfl ?_
            exact t_X10_finalists_137 C0 hZ hK55 hK66 _ _ _ _ _ _ _ _ hw
          · have hw := hw.2 h45
            refine f_iload C0 dX10_finalists_125 1 rfl ?_
            refine f_aload_n C0 dX10_finalists_127 rfl 2 rfl ⟨_, rfl⟩ ?_
            refine gf_10_38 (r := 242) C0 rfl kn_211 mw_924 dX10_finalists_128 ?_
            refine f_iload C0 dX10_finalists_131 0 rfl ?_
            obtain ⟨h54, hw⟩ := hw
            refine f_iald C0 kn_242 h54 dX10_finalists_133 ?_
            refine f_icmp_ge (tgt := 146) C0 dX10_finalists_134 (by decide) (fun h55 => ?_) (fun h55 => ?_)
            · have hw := hw.1 h55
              refine f_sub [2, 3, 4, 5, 6, 0] rfl ?_
              exact t_X10_finalists_146 C0 hZ hK55 hK66 _ _ _ _ _ _ _ hw
            · have hw := hw.2 h55
              refine f_sub [2, 3, 4, 5, 6, 1, 0] rfl ?_
              exact t_X10_finalists_137 C0 hZ hK55 hK66 _ _ _ _ _ _ _ _ hw
        · have hw := hw.2 h41
          refine f_goto (tgt := 165) C0 dX10_finalists_99 (by decide) ?_
          refine f_iinc (lo' := [(4, .int (x4 + 1)), (5, .int v40), (0, rf g 211), (1, .int x1), (2, .int x2), (3, .int x3)]) C0 dX10_finalists_165 5 rfl rfl (by decide) rfl ?_
          refine f_goto (tgt := 66) C0 dX10_finalists_168 (by decide) ?_
          refine f_sub [2, 3, 4, 5, 0] rfl ?_
          exact hK66 _ _ _ _ _ _ hw
set_option maxHeartbeats 4000000 in
set_option maxRecDepth 100000 in
theorem t_X10_finalists_55 {g : Ex} {x : Fx} {n : Nat} {Q : Int32 → DD → LL → Prop} (C0 : Cx g x cX10_finalists 7 (some .int) RX10 1 25) (hZ : Zi g x Q) : ∀ (j : Nat) (x1 : Int32) (x2 : Int32) (x3 : Int32) (d : DD) (dl : LL), b_X10_finalists_55 n Q j x1 x2 x3 d dl → FW g x 7 d dl 55 [(0, rf g 211), (1, .int x1), (2, .int x2), (3, .int x3)] [] := by
  intro j
  induction j with
  | zero =>
    intro x1 x2 x3 d dl hw
    exact hw.elim
  | succ j hK55 =>
    intro x1 x2 x3 d dl hw
    refine f_iload_n C0 dX10_finalists_55 rfl 3 rfl ?_
    refine f_aload_n C0 dX10_finalists_56 rfl 0 rfl ⟨_, rfl⟩ ?_
    refine gf_10_3 C0 kn_211 mw_889 dX10_finalists_57 ?_
    refine f_icmp_ge (tgt := 177) C0 dX10_finalists_60 (by decide) (fun h6 => ?_) (fun h6 => ?_)
    · have hw := hw.1 h6
      refine f_aload_n C0 dX10_finalists_177 rfl 0 rfl ⟨_, rfl⟩ ?_
      refine f_iconst (v := 0) C0 dX10_finalists_178 rfl ?_
      refine pf_10_7 C0 kn_211 mw_893 dX10_finalists_179 (fun d7 ed7 => ?_)
      have hw := hw d7 ed7
      refine f_iconst (v := 0) C0 dX10_finalists_182 rfl ?_
      refine f_istore_n (lo' := [(3, .int 0), (0, rf g 211), (1, .int x1), (2, .int x2)]) C0 dX10_finalists_183 rfl (by decide) rfl ?_
      refine f_sub [1, 3, 0] rfl ?_
      exact t_X10_finalists_184 C0 hZ n _ _ _ _ hw
    · have hw := hw.2 h6
      refine f_iconst (v := 0) C0 dX10_finalists_63 rfl ?_
      refine f_istore (lo' := [(4, .int 0), (0, rf g 211), (1, .int x1), (2, .int x2), (3, .int x3)]) C0 dX10_finalists_64 (by decide) rfl ?_
      refine f_sub [1, 2, 3, 4, 0] rfl ?_
      exact t_X10_finalists_66 C0 hZ hK55 n _ _ _ _ _ _ hw
set_option maxHeartbeats 4000000 in
set_option maxRecDepth 100000 in
theorem t_X10_finalists_25 {g : Ex} {x : Fx} {n : Nat} {Q : Int32 → DD → LL → Prop} (C0 : Cx g x cX10_finalists 7 (some .int) RX10 1 25) (hZ : Zi g x Q) : ∀ (j : Nat) (x1 : Int32) (x2 : Int32) (x3 : Int32) (d : DD) (dl : LL), b_X10_finalists_25 n Q j x1 x2 x3 d dl → FW g x 7 d dl 25 [(0, rf g 211), (1, .int x1), (2, .int x2), (3, .int x3)] [] := by
  intro j
  induction j with
  | zero =>
    intro x1 x2 x3 d dl hw
    exact hw.elim
  | succ j hK25 =>
    intro x1 x2 x3 d dl hw
    refine f_iload_n C0 dX10_finalists_25 rfl 3 rfl ?_
    refine f_aload_n C0 dX10_finalists_26 rfl 0 rfl ⟨_, rfl⟩ ?_
    refine gf_10_1 C0 kn_211 mw_887 dX10_finalists_27 ?_
    refine f_icmp_ge (tgt := 53) C0 dX10_finalists_30 (by decide) (fun h5 => ?_) (fun h5 => ?_)
    · have hw := hw.1 h5
      refine f_iconst (v := 0) C0 dX10_finalists_53 rfl ?_
      refine f_istore_n (lo' := [(3, .int 0), (0, rf g 211), (1, .int x1), (2, .int x2)]) C0 dX10_finalists_54 rfl (by decide) rfl ?_
      refine f_sub [1, 2, 3, 0] rfl ?_
      exact t_X10_finalists_55 C0 hZ n _ _ _ _ _ hw
    · have hw := hw.2 h5
      refine f_aload_n C0 dX10_finalists_33 rfl 0 rfl ⟨_, rfl⟩ ?_
      refine gf_10_38 (r := 242) C0 rfl kn_211 mw_924 dX10_finalists_34 ?_
      refine f_iload_n C0 dX10_finalists_37 rfl 3 rfl ?_
      refine f_iconst (v := 0) C0 dX10_finalists_38 rfl ?_
      obtain ⟨h56, hw⟩ := hw
      refine f_iast C0 kn_242 h56 dX10_finalists_39 (fun d57 ed57 => ?_)
      have hw := hw d57 ed57
      refine f_aload_n C0 dX10_finalists_40 rfl 0 rfl ⟨_, rfl⟩ ?_
      refine gf_10_39 (r := 243) C0 rfl kn_211 mw_925 dX10_finalists_41 ?_
      refine f_iload_n C0 dX10_finalists_44 rfl 3 rfl ?_
      refine f_iconst (v := 0) C0 dX10_finalists_45 rfl ?_
      obtain ⟨h58, hw⟩ := hw
      refine f_zast C0 kn_243 h58 dX10_finalists_46 (fun d59 ed59 => ?_)
      have hw := hw d59 ed59
      refine f_iinc (lo' := [(3, .int (x3 + 1)), (0, rf g 211), (1, .int x1), (2, .int x2)]) C0 dX10_finalists_47 3 rfl rfl (by decide) rfl ?_
      refine f_goto (tgt := 25) C0 dX10_finalists_50 (by decide) ?_
      refine f_sub [1, 2, 3, 0] rfl ?_
      exact hK25 _ _ _ _ _ hw
set_option maxHeartbeats 4000000 in
set_option maxRecDepth 100000 in
theorem m_X10_finalists {g : Ex} {n : Nat} {x1 : Int32} {x2 : Int32} {d : DD} {dl : LL} {Q : Int32 → DD → LL → Prop} (hw : F_X10_finalists n x1 x2 d dl Q) : Mi g yX10_finalists cX10_finalists 7 (some .int) 1 25 [rf g 211, .int x1, .int x2] d dl Q := by
  refine Mi.of (by decide) (Nat.le_of_ble_eq_true rfl) (fun x C0 hZ => ?_)
  have C0 : Cx g x cX10_finalists 7 (some .int) RX10 1 25 := C0
  refine f_iload_n C0 dX10_finalists_0 rfl 1 rfl ?_
  refine f_if_lt (tgt := 20) C0 dX10_finalists_1 (by decide) (fun h1 => ?_) (fun h1 => ?_)
  · have hw := hw.1 h1
    refine f_bipush (v := (-2)) C0 dX10_finalists_20 rfl ?_
    exact f_iret C0 hZ hw dX10_finalists_22
  · have hw := hw.2 h1
    refine f_iload_n C0 dX10_finalists_4 rfl 1 rfl ?_
    refine f_bipush (v := 9) C0 dX10_finalists_5 rfl ?_
    refine f_icmp_gt (tgt := 20) C0 dX10_finalists_7 (by decide) (fun h2 => ?_) (fun h2 => ?_)
    · have hw := hw.1 h2
      refine f_bipush (v := (-2)) C0 dX10_finalists_20 rfl ?_
      exact f_iret C0 hZ hw dX10_finalists_22
    · have hw := hw.2 h2
      refine f_iload_n C0 dX10_finalists_10 rfl 2 rfl ?_
      refine f_if_lt (tgt := 20) C0 dX10_finalists_11 (by decide) (fun h3 => ?_) (fun h3 => ?_)
      · have hw := hw.1 h3
        refine f_bipush (v := (-2)) C0 dX10_finalists_20 rfl ?_
        exact f_iret C0 hZ hw dX10_finalists_22
      · have hw := hw.2 h3
        refine f_iload_n C0 dX10_finalists_14 rfl 2 rfl ?_
        refine f_bipush (v := 9) C0 dX10_finalists_15 rfl ?_
        refine f_icmp_le (tgt := 23) C0 dX10_finalists_17 (by decide) (fun h4 => ?_) (fun h4 => ?_)
        · have hw := hw.1 h4
          refine f_iconst (v := 0) C0 dX10_finalists_23 rfl ?_
          refine f_istore_n (lo' := [(3, .int 0), (0, rf g 211), (1, .int x1), (2, .int x2)]) C0 dX10_finalists_24 rfl (by decide) rfl ?_
          refine f_sub [1, 2, 3, 0] rfl ?_
          exact t_X10_finalists_25 C0 hZ n _ _ _ _ _ hw
        · have hw := hw.2 h4
          refine f_bipush (v := (-2)) C0 dX10_finalists_20 rfl ?_
          exact f_iret C0 hZ hw dX10_finalists_22
