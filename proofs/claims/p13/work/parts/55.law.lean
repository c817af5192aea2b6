def b_L_law_18 (n : Nat) (Q : Nat × (Nat → Int32)) : Nat → Int32 → DD → LL → Prop
  | 0 => fun _ _ _ => False
  | k + 1 => fun x3 d dl => (((Int32.ofNat Q.1) - 6) < x3 → True) ∧ (¬ ((Int32.ofNat Q.1) - 6) < x3 → vp_in x3 Q.1 ∧ ∀ v3 : Int32, v3 = ((Q.2 x3.toNatClampNeg) &&& 31) → (v3 = 0 → vp_in (x3 + 1) Q.1 ∧ vp_in (x3 + 2) Q.1 ∧ vp_in (x3 + 3) Q.1 ∧ vp_in (x3 + 4) Q.1 ∧ vp_in (x3 + 5) Q.1 ∧ F_X9_paddler n (Q.2 (x3 + 1).toNatClampNeg) (Q.2 (x3 + 2).toNatClampNeg) (Q.2 (x3 + 3).toNatClampNeg) (Q.2 (x3 + 4).toNatClampNeg) (Q.2 (x3 + 5).toNatClampNeg) d dl (fun r9 d10 l11 => vp_in (x3 + 1) Q.1 ∧ vp_in (x3 + 2) Q.1 ∧ vp_in (x3 + 3) Q.1 ∧ vp_in (x3 + 4) Q.1 ∧ vp_in (x3 + 5) Q.1 ∧ F_X10_paddler n (Q.2 (x3 + 1).toNatClampNeg) (Q.2 (x3 + 2).toNatClampNeg) (Q.2 (x3 + 3).toNatClampNeg) (Q.2 (x3 + 4).toNatClampNeg) (Q.2 (x3 + 5).toNatClampNeg) d10 l11 (fun r17 d18 l19 => (b_L_law_18 n Q k) (x3 + 6) d18 l19))) ∧ (v3 = 1 → vp_in (x3 + 1) Q.1 ∧ vp_in (x3 + 2) Q.1 ∧ vp_in (x3 + 3) Q.1 ∧ F_X9_like n (Q.2 (x3 + 1).toNatClampNeg) (Q.2 (x3 + 2).toNatClampNeg) (Q.2 (x3 + 3).toNatClampNeg) d dl (fun r23 d24 l25 => vp_in (x3 + 1) Q.1 ∧ vp_in (x3 + 2) Q.1 ∧ vp_in (x3 + 3) Q.1 ∧ F_X10_like n (Q.2 (x3 + 1).toNatClampNeg) (Q.2 (x3 + 2).toNatClampNeg) (Q.2 (x3 + 3).toNatClampNeg) d24 l25 (fun r29 d30 l31 => (b_L_law_18 n Q k) (x3 + 6) d30 l31))) ∧ (v3 = 2 → vp_in (x3 + 1) Q.1 ∧ vp_in (x3 + 2) Q.1 ∧ F_X9_crew n (Q.2 (x3 + 1).toNatClampNeg) (Q.2 (x3 + 2).toNatClampNeg) d dl (fun r34 d35 l36 => vp_in (x3 + 1) Q.1 ∧ vp_in (x3 + 2) Q.1 ∧ F_X10_crew n (Q.2 (x3 + 1).toNatClampNeg) (Q.2 (x3 + 2).toNatClampNeg) d35 l36 (fun r39 d40 l41 => (b_L_law_18 n Q k) (x3 + 6) d40 l41))) ∧ (v3 = 3 → vp_in (x3 + 1) Q.1 ∧ vp_in (x3 + 2) Q.1 ∧ F_X9_join n (Q.2 (x3 + 1).toNatClampNeg) (Q.2 (x3 + 2).toNatClampNeg) d dl (fun r44 d45 l46 => vp_in (x3 + 1) Q.1 ∧ vp_in (x3 + 2) Q.1 ∧ F_X10_join n (Q.2 (x3 + 1).toNatClampNeg) (Q.2 (x3 + 2).toNatClampNeg) d45 l46 (fun r49 d50 l51 => (b_L_law_18 n Q k) (x3 + 6) d50 l51))) ∧ (v3 = 4 → vp_in (x3 + 1) Q.1 ∧ vp_in (x3 + 2) Q.1 ∧ F_X9_beat n (Q.2 (x3 + 1).toNatClampNeg) (Q.2 (x3 + 2).toNatClampNeg) d dl (fun r54 d55 l56 => vp_in (x3 + 1) Q.1 ∧ vp_in (x3 + 2) Q.1 ∧ F_X10_beat n (Q.2 (x3 + 1).toNatClampNeg) (Q.2 (x3 + 2).toNatClampNeg) d55 l56 (fun r59 d60 l61 => (b_L_law_18 n Q k) (x3 + 6) d60 l61))) ∧ (v3 = 5 → vp_in (x3 + 1) Q.1 ∧ F_X9_seat n (Q.2 (x3 + 1).toNatClampNeg) d dl (fun r63 d64 l65 => vp_in (x3 + 1) Q.1 ∧ F_X10_seat n (Q.2 (x3 + 1).toNatClampNeg) d64 l65 (fun r67 d68 l69 => (b_L_law_18 n Q k) (x3 + 6) d68 l69))) ∧ (v3 = 6 → vp_in (x3 + 1) Q.1 ∧ vp_in (x3 + 2) Q.1 ∧ vp_in (x3 + 3) Q.1 ∧ F_X9_sits n (Q.2 (x3 + 1).toNatClampNeg) (Q.2 (x3 + 2).toNatClampNeg) (Q.2 (x3 + 3).toNatClampNeg) d dl (fun r73 d74 l75 => vp_in (x3 + 1) Q.1 ∧ vp_in (x3 + 2) Q.1 ∧ vp_in (x3 + 3) Q.1 ∧ F_X10_sits n (Q.2 (x3 + 1).toNatClampNeg) (Q.2 (x3 + 2).toNatClampNeg) (Q.2 (x3 + 3).toNatClampNeg) d74 l75 (fun r79 d80 l81 => (b_L_law_18 n Q k) (x3 + 6) d80 l81))) ∧ (v3 = 7 → vp_in (x3 + 1) Q.1 ∧ vp_in (x3 + 2) Q.1 ∧ F_X9_trim n (Q.2 (x3 + 1).toNatClampNeg) (Q.2 (x3 + 2).toNatClampNeg) d dl (fun r84 d85 l86 => vp_in (x3 + 1) Q.1 ∧ vp_in (x3 + 2) Q.1 ∧ F_X10_trim n (Q.2 (x3 + 1).toNatClampNeg) (Q.2 (x3 + 2).toNatClampNeg) d85 l86 (fun r89 d90 l91 => (b_L_law_18 n Q k) (x3 + 6) d90 l91))) ∧ (v3 = 8 → vp_in (x3 + 1) Q.1 ∧ vp_in (x3 + 2) Q.1 ∧ vp_in (x3 + 3) Q.1 ∧ F_X9_change n (Q.2 (x3 + 1).toNatClampNeg) (Q.2 (x3 + 2).toNatClampNeg) (Q.2 (x3 + 3).toNatClampNeg) d dl (fun r95 d96 l97 => vp_in (x3 + 1) Q.1 ∧ vp_in (x3 + 2) Q.1 ∧ vp_in (x3 + 3) Q.1 ∧ F_X10_change n (Q.2 (x3 + 1).toNatClampNeg) (Q.2 (x3 + 2).toNatClampNeg) (Q.2 (x3 + 3).toNatClampNeg) d96 l97 (fun r101 d102 l103 => (b_L_law_18 n Q k) (x3 + 6) d102 l103))) ∧ (v3 = 9 → vp_in (x3 + 1) Q.1 ∧ vp_in (x3 + 2) Q.1 ∧ vp_in (x3 + 3) Q.1 ∧ F_X9_feed n ((lshl ((Q.2 (x3 + 1).toNatClampNeg).toInt64) 32) ||| (((Q.2 (x3 + 2).toNatClampNeg).toInt64) &&& 4294967295)) (Q.2 (x3 + 3).toNatClampNeg) d dl (fun r107 d108 l109 => vp_in (x3 + 1) Q.1 ∧ vp_in (x3 + 2) Q.1 ∧ vp_in (x3 + 3) Q.1 ∧ F_X10_feed n ((lshl ((Q.2 (x3 + 1).toNatClampNeg).toInt64) 32) ||| (((Q.2 (x3 + 2).toNatClampNeg).toInt64) &&& 4294967295)) (Q.2 (x3 + 3).toNatClampNeg) d108 l109 (fun r113 d114 l115 => (b_L_law_18 n Q k) (x3 + 6) d114 l115))) ∧ (v3 = 10 → F_X9_rule n d dl (fun r116 d117 l118 => F_X10_rule n d117 l118 (fun r119 d120 l121 => (b_L_law_18 n Q k) (x3 + 6) d120 l121))) ∧ (v3 = 11 → vp_in (x3 + 1) Q.1 ∧ vp_in (x3 + 2) Q.1 ∧ F_X9_keeps n (Q.2 (x3 + 1).toNatClampNeg) (Q.2 (x3 + 2).toNatClampNeg) d dl (fun r124 d125 l126 => vp_in (x3 + 1) Q.1 ∧ vp_in (x3 + 2) Q.1 ∧ F_X10_keeps n (Q.2 (x3 + 1).toNatClampNeg) (Q.2 (x3 + 2).toNatClampNeg) d125 l126 (fun r129 d130 l131 => (r124 = r129 → (b_L_law_18 n Q k) (x3 + 6) d130 l131) ∧ (¬ r124 = r129 → False)))) ∧ (v3 = 12 → vp_in (x3 + 1) Q.1 ∧ F_X9_rest n (Q.2 (x3 + 1).toNatClampNeg) d dl (fun r134 d135 l136 => vp_in (x3 + 1) Q.1 ∧ F_X10_rest n (Q.2 (x3 + 1).toNatClampNeg) d135 l136 (fun r138 d139 l140 => (b_L_law_18 n Q k) (x3 + 6) d139 l140))) ∧ (v3 = 13 → vp_in (x3 + 1) Q.1 ∧ vp_in (x3 + 2) Q.1 ∧ F_X9_lane n (Q.2 (x3 + 1).toNatClampNeg) (Q.2 (x3 + 2).toNatClampNeg) d dl (fun r143 d144 l145 => vp_in (x3 + 1) Q.1 ∧ vp_in (x3 + 2) Q.1 ∧ F_X10_lane n (Q.2 (x3 + 1).toNatClampNeg) (Q.2 (x3 + 2).toNatClampNeg) d144 l145 (fun r148 d149 l150 => (b_L_law_18 n Q k) (x3 + 6) d149 l150))) ∧ (v3 = 14 → vp_in (x3 + 1) Q.1 ∧ vp_in (x3 + 2) Q.1 ∧ F_X9_race n (Q.2 (x3 + 1).toNatClampNeg) (Q.2 (x3 + 2).toNatClampNeg) d dl (fun r153 d154 l155 => vp_in (x3 + 1) Q.1 ∧ vp_in (x3 + 2) Q.1 ∧ F_X10_race n (Q.2 (x3 + 1).toNatClampNeg) (Q.2 (x3 + 2).toNatClampNeg) d154 l155 (fun r158 d159 l160 => (b_L_law_18 n Q k) (x3 + 6) d159 l160))) ∧ (v3 = 15 → vp_in (x3 + 1) Q.1 ∧ vp_in (x3 + 2) Q.1 ∧ F_X9_current n (Q.2 (x3 + 1).toNatClampNeg) (Q.2 (x3 + 2).toNatClampNeg) d dl (fun r163 d164 l165 => vp_in (x3 + 1) Q.1 ∧ vp_in (x3 + 2) Q.1 ∧ F_X10_current n (Q.2 (x3 + 1).toNatClampNeg) (Q.2 (x3 + 2).toNatClampNeg) d164 l165 (fun r168 d169 l170 => (b_L_law_18 n Q k) (x3 + 6) d169 l170))) ∧ (v3 = 16 → vp_in (x3 + 1) Q.1 ∧ vp_in (x3 + 2) Q.1 ∧ F_X9_run n (Q.2 (x3 + 1).toNatClampNeg) (Q.2 (x3 + 2).toNatClampNeg) d dl (fun r173 d174 l175 => vp_in (x3 + 1) Q.1 ∧ vp_in (x3 + 2) Q.1 ∧ F_X10_run n (Q.2 (x3 + 1).toNatClampNeg) (Q.2 (x3 + 2).toNatClampNeg) d174 l175 (fun r178 d179 l180 => (b_L_law_18 n Q k) (x3 + 6) d179 l180))) ∧ (v3 = 17 → vp_in (x3 + 1) Q.1 ∧ vp_in (x3 + 2) Q.1 ∧ vp_in (x3 + 3) Q.1 ∧ F_X9_time n (Q.2 (x3 + 1).toNatClampNeg) (Q.2 (x3 + 2).toNatClampNeg) (Q.2 (x3 + 3).toNatClampNeg) d dl (fun r184 d185 l186 => vp_in (x3 + 1) Q.1 ∧ vp_in (x3 + 2) Q.1 ∧ vp_in (x3 + 3) Q.1 ∧ F_X10_time n (Q.2 (x3 + 1).toNatClampNeg) (Q.2 (x3 + 2).toNatClampNeg) (Q.2 (x3 + 3).toNatClampNeg) d185 l186 (fun r190 d191 l192 => (b_L_law_18 n Q k) (x3 + 6) d191 l192))) ∧ (v3 = 18 → vp_in (x3 + 1) Q.1 ∧ vp_in (x3 + 2) Q.1 ∧ vp_in (x3 + 3) Q.1 ∧ F_X9_told n (Q.2 (x3 + 1).toNatClampNeg) (Q.2 (x3 + 2).toNatClampNeg) (Q.2 (x3 + 3).toNatClampNeg) d dl (fun r196 d197 l198 => vp_in (x3 + 1) Q.1 ∧ vp_in (x3 + 2) Q.1 ∧ vp_in (x3 + 3) Q.1 ∧ F_X10_told n (Q.2 (x3 + 1).toNatClampNeg) (Q.2 (x3 + 2).toNatClampNeg) (Q.2 (x3 + 3).toNatClampNeg) d197 l198 (fun r202 d203 l204 => (b_L_law_18 n Q k) (x3 + 6) d203 l204))) ∧ (v3 = 19 → vp_in (x3 + 1) Q.1 ∧ F_X9_again n (Q.2 (x3 + 1).toNatClampNeg) d dl (fun r206 d207 l208 => vp_in (x3 + 1) Q.1 ∧ F_X10_again n (Q.2 (x3 + 1).toNatClampNeg) d207 l208 (fun r210 d211 l212 => (b_L_law_18 n Q k) (x3 + 6) d211 l212))) ∧ (v3 = 20 → vp_in (x3 + 1) Q.1 ∧ vp_in (x3 + 2) Q.1 ∧ F_X9_strike n (Q.2 (x3 + 1).toNatClampNeg) (Q.2 (x3 + 2).toNatClampNeg) d dl (fun r215 d216 l217 => vp_in (x3 + 1) Q.1 ∧ vp_in (x3 + 2) Q.1 ∧ F_X10_strike n (Q.2 (x3 + 1).toNatClampNeg) (Q.2 (x3 + 2).toNatClampNeg) d216 l217 (fun r220 d221 l222 => (b_L_law_18 n Q k) (x3 + 6) d221 l222))) ∧ (v3 = 21 → vp_in (x3 + 1) Q.1 ∧ vp_in (x3 + 2) Q.1 ∧ F_X9_finalists n (Q.2 (x3 + 1).toNatClampNeg) (Q.2 (x3 + 2).toNatClampNeg) d dl (fun r225 d226 l227 => vp_in (x3 + 1) Q.1 ∧ vp_in (x3 + 2) Q.1 ∧ F_X10_finalists n (Q.2 (x3 + 1).toNatClampNeg) (Q.2 (x3 + 2).toNatClampNeg) d226 l227 (fun r230 d231 l232 => (b_L_law_18 n Q k) (x3 + 6) d231 l232))) ∧ (v3 = 22 → vp_in (x3 + 1) Q.1 ∧ F_X9_finalist n (Q.2 (x3 + 1).toNatClampNeg) d dl (fun r234 d235 l236 => vp_in (x3 + 1) Q.1 ∧ F_X10_finalist n (Q.2 (x3 + 1).toNatClampNeg) d235 l236 (fun r238 d239 l240 => (b_L_law_18 n Q k) (x3 + 6) d239 l240))) ∧ (v3 = 23 → F_X9_slack n d dl (fun r241 d242 l243 => F_X10_slack n d242 l243 (fun r244 d245 l246 => (b_L_law_18 n Q k) (x3 + 6) d245 l246))) ∧ (v3 = 24 → vp_in (x3 + 1) Q.1 ∧ vp_in (x3 + 2) Q.1 ∧ vp_in (x3 + 3) Q.1 ∧ F_X9_level n (Q.2 (x3 + 1).toNatClampNeg) (Q.2 (x3 + 2).toNatClampNeg) (Q.2 (x3 + 3).toNatClampNeg) d dl (fun r250 d251 l252 => vp_in (x3 + 1) Q.1 ∧ vp_in (x3 + 2) Q.1 ∧ vp_in (x3 + 3) Q.1 ∧ F_X10_level n (Q.2 (x3 + 1).toNatClampNeg) (Q.2 (x3 + 2).toNatClampNeg) (Q.2 (x3 + 3).toNatClampNeg) d251 l252 (fun r256 d257 l258 => (b_L_law_18 n Q k) (x3 + 6) d257 l258))) ∧ (v3 = 25 → vp_in (x3 + 1) Q.1 ∧ F_X9_points n (Q.2 (x3 + 1).toNatClampNeg) d dl (fun r260 d261 l262 => vp_in (x3 + 1) Q.1 ∧ F_X10_points n (Q.2 (x3 + 1).toNatClampNeg) d261 l262 (fun r264 d265 l266 => (b_L_law_18 n Q k) (x3 + 6) d265 l266))) ∧ (v3 = 26 → vp_in (x3 + 1) Q.1 ∧ F_X9_table n (Q.2 (x3 + 1).toNatClampNeg) d dl (fun r268 d269 l270 => vp_in (x3 + 1) Q.1 ∧ F_X10_table n (Q.2 (x3 + 1).toNatClampNeg) d269 l270 (fun r272 d273 l274 => (b_L_law_18 n Q k) (x3 + 6) d273 l274))) ∧ (v3 = 27 → vp_in (x3 + 1) Q.1 ∧ F_X9_count n (Q.2 (x3 + 1).toNatClampNeg) d dl (fun r276 d277 l278 => vp_in (x3 + 1) Q.1 ∧ F_X10_count n (Q.2 (x3 + 1).toNatClampNeg) d277 l278 (fun r280 d281 l282 => (b_L_law_18 n Q k) (x3 + 6) d281 l282))) ∧ (v3.toInt < 0 ∨ 27 < v3.toInt → (b_L_law_18 n Q k) (x3 + 6) d dl))
set_option maxHeartbeats 4000000 in
set_option maxRecDepth 100000 in
theorem t_L_law_18 {g : Ex} {x : Fx} {n : Nat} {Q : Nat × (Nat → Int32)} (C0 : Cx g x cL_law 4 (some .boolean) RL 2047 83000) {b : Nat} (hZ : ZL g x b Q) : ∀ (j : Nat) (x3 : Int32) (d : DD) (dl : LL), b_L_law_18 n Q j x3 d dl → FW g x 4 d dl 18 [(0, .ref b), (1, rf g 0), (2, rf g 211), (3, .int x3)] [] := by
  intro j
  induction j with
  | zero =>
    intro x3 d dl hw
    exact hw.elim
  | succ j hK18 =>
    intro x3 d dl hw
    refine f_iload_n C0 dL_law_18 rfl 3 rfl ?_
    refine f_aload_n C0 dL_law_19 rfl 0 rfl ⟨_, rfl⟩ ?_
    refine f_xlen C0 hZ dL_law_20 ?_
    refine f_bipush (v := 6) C0 dL_law_21 rfl ?_
    refine f_isub C0 dL_law_23 ?_
    refine f_icmp_gt (tgt := 1100) C0 dL_law_24 (by decide) (fun h1 => ?_) (fun h1 => ?_)
    · have hw := hw.1 h1
      refine f_iconst (v := 1) C0 dL_law_1100 rfl ?_
      exact f_lend C0 hZ dL_law_1101
    · have hw := hw.2 h1
      refine f_aload_n C0 dL_law_27 rfl 0 rfl ⟨_, rfl⟩ ?_
      refine f_iload_n C0 dL_law_28 rfl 3 rfl ?_
      obtain ⟨h2, hw⟩ := hw
      refine f_xld C0 hZ h2 dL_law_29 ?_
      refine f_bipush (v := 31) C0 dL_law_30 rfl ?_
      refine f_iand C0 dL_law_32 ?_
      refine f_topi (fun v3 e3 => ?_)
      have hw := hw v3 e3
      rcases sw_27 v3 with h283 | h283 | h283 | h283 | h283 | h283 | h283 | h283 | h283 | h283 | h283 | h283 | h283 | h283 | h283 | h283 | h283 | h283 | h283 | h283 | h283 | h283 | h283 | h283 | h283 | h283 | h283 | h283 | h283
      · have hw := hw.2.2.2.2.2.2.2.2.2.2.2.2.2.2.2.2.2.2.2.2.2.2.2.2.2.2.2.2 h283
        refine f_tableOut (tgt := 1094) C0 dL_law_33 h283 (by decide) ?_
        refine f_iinc (lo' := [(3, .int (x3 + 6)), (0, .ref b), (1, rf g 0), (2, rf g 211)]) C0 dL_law_1094 3 rfl rfl (by decide) rfl ?_
        refine f_goto (tgt := 18) C0 dL_law_1097 (by decide) ?_
        refine f_sub [1, 2, 3, 0] rfl ?_
        exact hK18 _ _ _ hw
      · have hw := hw.1 h283
        refine f_tableAt (w := 0) (tgt := 160) C0 dL_law_33 h283 (by decide) (by decide) rfl (by decide) ?_
        refine f_aload_n C0 dL_law_160 rfl 1 rfl ⟨_, rfl⟩ ?_
        refine f_aload_n C0 dL_law_161 rfl 0 rfl ⟨_, rfl⟩ ?_
        refine f_iload_n C0 dL_law_162 rfl 3 rfl ?_
        refine f_iconst (v := 1) C0 dL_law_163 rfl ?_
        refine f_iadd C0 dL_law_164 ?_
        obtain ⟨h4, hw⟩ := hw
        refine f_xld C0 hZ h4 dL_law_165 ?_
        refine f_aload_n C0 dL_law_166 rfl 0 rfl ⟨_, rfl⟩ ?_
        refine f_iload_n C0 dL_law_167 rfl 3 rfl ?_
        refine f_iconst (v := 2) C0 dL_law_168 rfl ?_
        refine f_iadd C0 dL_law_169 ?_
        obtain ⟨h5, hw⟩ := hw
        refine f_xld C0 hZ h5 dL_law_170 ?_
        refine f_aload_n C0 dL_law_171 rfl 0 rfl ⟨_, rfl⟩ ?_
        refine f_iload_n C0 dL_law_172 rfl 3 rfl ?_
        refine f_iconst (v := 3) C0 dL_law_173 rfl ?_
        refine f_iadd C0 dL_law_174 ?_
        obtain ⟨h6, hw⟩ := hw
        refine f_xld C0 hZ h6 dL_law_175 ?_
        refine f_aload_n C0 dL_law_176 rfl 0 rfl ⟨_, rfl⟩ ?_
        refine f_iload_n C0 dL_law_177 rfl 3 rfl ?_
        refine f_iconst (v := 4) C0 dL_law_178 rfl ?_
        refine f_iadd C0 dL_law_179 ?_
        obtain ⟨h7, hw⟩ := hw
        refine f_xld C0 hZ h7 dL_law_180 ?_
        refine f_aload_n C0 dL_law_181 rfl 0 rfl ⟨_, rfl⟩ ?_
        refine f_iload_n C0 dL_law_182 rfl 3 rfl ?_
        refine f_iconst (v := 5) C0 dL_law_183 rfl ?_
        refine f_iadd C0 dL_law_184 ?_
        obtain ⟨h8, hw⟩ := hw
        refine f_xld C0 hZ h8 dL_law_185 ?_
        refine f_callVi (As := [.int (Q.2 (x3 + 1).toNatClampNeg), .int (Q.2 (x3 + 2).toNatClampNeg), .int (Q.2 (x3 + 3).toNatClampNeg), .int (Q.2 (x3 + 4).toNatClampNeg), .int (Q.2 (x3 + 5).toNatClampNeg)]) (rest := []) C0 (m_X9_paddler hw) cw_L_13 kn_0 (by decide) rfl rfl ⟨(Nat.le_of_ble_eq_true rfl), (Nat.le_of_ble_eq_true rfl)⟩ rfl rfl (Nat.le_of_ble_eq_true rfl) dL_law_186 ?_
        intro r9 d10 l11 hw
        refine f_pop C0 dL_law_189 rfl ?_
        refine f_aload_n C0 dL_law_190 rfl 2 rfl ⟨_, rfl⟩ ?_
        refine f_aload_n C0 dL_law_191 rfl 0 rfl ⟨_, rfl⟩ ?_
        refine f_iload_n C0 dL_law_192 rfl 3 rfl ?_
        refine f_iconst (v := 1) C0 dL_law_193 rfl ?_
        refine f_iadd C0 dL_law_194 ?_
        obtain ⟨h12, hw⟩ := hw
        refine f_xld C0 hZ h12 dL_law_195 ?_
        refine f_aload_n C0 dL_law_196 rfl 0 rfl ⟨_, rfl⟩ ?_
        refine f_iload_n C0 dL_law_197 rfl 3 rfl ?_
        refine f_iconst (v := 2) C0 dL_law_198 rfl ?_
        refine f_iadd C0 dL_law_199 ?_
        obtain ⟨h13, hw⟩ := hw
        refine f_xld C0 hZ h13 dL_law_200 ?_
        refine f_aload_n C0 dL_law_201 rfl 0 rfl ⟨_, rfl⟩ ?_
        refine f_iload_n C0 dL_law_202 rfl 3 rfl ?_
        refine f_iconst (v := 3) C0 dL_law_203 rfl ?_
        refine f_iadd C0 dL_law_204 ?_
        obtain ⟨h14, hw⟩ := hw
        refine f_xld C0 hZ h14 dL_law_205 ?_
        refine f_aload_n C0 dL_law_206 rfl 0 rfl ⟨_, rfl⟩ ?_
        refine f_iload_n C0 dL_law_207 rfl 3 rfl ?_
        refine f_iconst (v := 4) C0 dL_law_208 rfl ?_
        refine f_iadd C0 dL_law_209 ?_
        obtain ⟨h15, hw⟩ := hw
        refine f_xld C0 hZ h15 dL_law_210 ?_
        refine f_aload_n C0 dL_law_211 rfl 0 rfl ⟨_, rfl⟩ ?_
        refine f_iload_n C0 dL_law_212 rfl 3 rfl ?_
        refine f_iconst (v := 5) C0 dL_law_213 rfl ?_
        refine f_iadd C0 dL_law_214 ?_
        obtain ⟨h16, hw⟩ := hw
        refine f_xld C0 hZ h16 dL_law_215 ?_
        refine f_callVi (As := [.int (Q.2 (x3 + 1).toNatClampNeg), .int (Q.2 (x3 + 2).toNatClampNeg), .int (Q.2 (x3 + 3).toNatClampNeg), .int (Q.2 (x3 + 4).toNatClampNeg), .int (Q.2 (x3 + 5).toNatClampNeg)]) (rest := []) C0 (m_X10_paddler hw) cw_L_17 kn_211 (by decide) rfl rfl ⟨(Nat.le_of_ble_eq_true rfl), (Nat.le_of_ble_eq_true rfl)⟩ rfl rfl (Nat.le_of_ble_eq_true rfl) dL_law_216 ?_
        intro r17 d18 l19 hw
        refine f_pop C0 dL_law_219 rfl ?_
        refine f_goto (tgt := 1094) C0 dL_law_220 (by decide) ?_
        refine f_iinc (lo' := [(3, .int (x3 + 6)), (0, .ref b), (1, rf g 0), (2, rf g 211)]) C0 dL_law_1094 3 rfl rfl (by decide) rfl ?_
        refine f_goto (tgt := 18) C0 dL_law_1097 (by decide) ?_
        refine f_sub [1, 2, 3, 0] rfl ?_
        exact hK18 _ _ _ hw
      · have hw := hw.2.1 h283
        refine f_tableAt (w := 1) (tgt := 223) C0 dL_law_33 h283 (by decide) (by decide) rfl (by decide) ?_
        refine f_aload_n C0 dL_law_223 rfl 1 rfl ⟨_, rfl⟩ ?_
        refine f_aload_n C0 dL_law_224 rfl 0 rfl ⟨_, rfl⟩ ?_
        refine f_iload_n C0 dL_law_225 rfl 3 rfl ?_
        refine f_iconst (v := 1) C0 dL_law_226 rfl ?_
        refine f_iadd C0 dL_law_227 ?_
        obtain ⟨h20, hw⟩ := hw
        refine f_xld C0 hZ h20 dL_law_228 ?_
        refine f_aload_n C0 dL_law_229 rfl 0 rfl ⟨_, rfl⟩ ?_
        refine f_iload_n C0 dL_law_230 rfl 3 rfl ?_
        refine f_iconst (v := 2) C0 dL_law_231 rfl ?_
        refine f_iadd C0 dL_law_232 ?_
        obtain ⟨h21, hw⟩ := hw
        refine f_xld C0 hZ h21 dL_law_233 ?_
        refine f_aload_n C0 dL_law_234 rfl 0 rfl ⟨_, rfl⟩ ?_
        refine f_iload_n C0 dL_law_235 rfl 3 rfl ?_
        refine f_iconst (v := 3) C0 dL_law_236 rfl ?_
        refine f_iadd C0 dL_law_237 ?_
        obtain ⟨h22, hw⟩ := hw
        refine f_xld C0 hZ h22 dL_law_238 ?_
        refine f_callVi (As := [.int (Q.2 (x3 + 1).toNatClampNeg), .int (Q.2 (x3 + 2).toNatClampNeg), .int (Q.2 (x3 + 3).toNatClampNeg)]) (rest := []) C0 (m_X9_like hw) cw_L_18 kn_0 (by decide) rfl rfl ⟨(Nat.le_of_ble_eq_true rfl), (Nat.le_of_ble_eq_true rfl)⟩ rfl rfl (Nat.le_of_ble_eq_true rfl) dL_law_239 ?_
        intro r23 d24 l25 hw
        refine f_pop C0 dL_law_242 rfl ?_
        refine f_aload_n C0 dL_law_243 rfl 2 rfl ⟨_, rfl⟩ ?_
        refine f_aload_n C0 dL_law_244 rfl 0 rfl ⟨_, rfl⟩ ?_
        refine f_iload_n C0 dL_law_245 rfl 3 rfl ?_
        refine f_iconst (v := 1) C0 dL_law_246 rfl ?_
        refine f_iadd C0 dL_law_247 ?_
        obtain ⟨h26, hw⟩ := hw
        refine f_xld C0 hZ h26 dL_law_248 ?_
        refine f_aload_n C0 dL_law_249 rfl 0 rfl ⟨_, rfl⟩ ?_
        refine f_iload_n C0 dL_law_250 rfl 3 rfl ?_
        refine f_iconst (v := 2) C0 dL_law_251 rfl ?_
        refine f_iadd C0 dL_law_252 ?_
        obtain ⟨h27, hw⟩ := hw
        refine f_xld C0 hZ h27 dL_law_253 ?_
        refine f_aload_n C0 dL_law_254 rfl 0 rfl ⟨_, rfl⟩ ?_
        refine f_iload_n C0 dL_law_255 rfl 3 rfl ?_
        refine f_iconst (v := 3) C0 dL_law_256 rfl ?_
        refine f_iadd C0 dL_law_257 ?_
        obtain ⟨h28, hw⟩ := hw
        refine f_xld C0 hZ h28 dL_law_258 ?_
        refine f_callVi (As := [.int (Q.2 (x3 + 1).toNatClampNeg), .int (Q.2 (x3 + 2).toNatClampNeg), .int (Q.2 (x3 + 3).toNatClampNeg)]) (rest := []) C0 (m_X10_like hw) cw_L_22 kn_211 (by decide) rfl rfl ⟨(Nat.le_of_ble_eq_true rfl), (Nat.le_of_ble_eq_true rfl)⟩ rfl rfl (Nat.le_of_ble_eq_true rfl) dL_law_259 ?_
        intro r29 d30 l31 hw
        refine f_pop C0 dL_law_262 rfl ?_
        refine f_goto (tgt := 1094) C0 dL_law_263 (by decide) ?_
        refine f_iinc (lo' := [(3, .int (x3 + 6)), (0, .ref b), (1, rf g 0), (2, rf g 211)]) C0 dL_law_1094 3 rfl rfl (by decide) rfl ?_
        refine f_goto (tgt := 18) C0 dL_law_1097 (by decide) ?_
        refine f_sub [1, 2, 3, 0] rfl ?_
        exact hK18 _ _ _ hw
      · have hw := hw.2.2.1 h283
        refine f_tableAt (w := 2) (tgt := 266) C0 dL_law_33 h283 (by decide) (by decide) rfl (by decide) ?_
        refine f_aload_n C0 dL_law_266 rfl 1 rfl ⟨_, rfl⟩ ?_
        refine f_aload_n C0 dL_law_267 rfl 0 rfl ⟨_, rfl⟩ ?_
        refine f_iload_n C0 dL_law_268 rfl 3 rfl ?_
        refine f_iconst (v := 1) C0 dL_law_269 rfl ?_
        refine f_iadd C0 dL_law_270 ?_
        obtain ⟨h32, hw⟩ := hw
        refine f_xld C0 hZ h32 dL_law_271 ?_
        refine f_aload_n C0 dL_law_272 rfl 0 rfl ⟨_, rfl⟩ ?_
        refine f_iload_n C0 dL_law_273 rfl 3 rfl ?_
        refine f_iconst (v := 2) C0 dL_law_274 rfl ?_
        refine f_iadd C0 dL_law_275 ?_
        obtain ⟨h33, hw⟩ := hw
        refine f_xld C0 hZ h33 dL_law_276 ?_
        refine f_callVi (As := [.int (Q.2 (x3 + 1).toNatClampNeg), .int (Q.2 (x3 + 2).toNatClampNeg)]) (rest := []) C0 (m_X9_crew hw) cw_L_23 kn_0 (by decide) rfl rfl ⟨(Nat.le_of_ble_eq_true rfl), (Nat.le_of_ble_eq_true rfl)⟩ rfl rfl (Nat.le_of_ble_eq_true rfl) dL_law_277 ?_
        intro r34 d35 l36 hw
        refine f_pop C0 dL_law_280 rfl ?_
        refine f_aload_n C0 dL_law_281 rfl 2 rfl ⟨_, rfl⟩ ?_
        refine f_aload_n C0 dL_law_282 rfl 0 rfl ⟨_, rfl⟩ ?_
        refine f_iload_n C0 dL_law_283 rfl 3 rfl ?_
        refine f_iconst (v := 1) C0 dL_law_284 rfl ?_
        refine f_iadd C0 dL_law_285 ?_
        obtain ⟨h37, hw⟩ := hw
        refine f_xld C0 hZ h37 dL_law_286 ?_
        refine f_aload_n C0 dL_law_287 rfl 0 rfl ⟨_, rfl⟩ ?_
        refine f_iload_n C0 dL_law_288 rfl 3 rfl ?_
        refine f_iconst (v := 2) C0 dL_law_289 rfl ?_
        refine f_iadd C0 dL_law_290 ?_
        obtain ⟨h38, hw⟩ := hw
        refine f_xld C0 hZ h38 dL_law_291 ?_
        refine f_callVi (As := [.int (Q.2 (x3 + 1).toNatClampNeg), .int (Q.2 (x3 + 2).toNatClampNeg)]) (rest := []) C0 (m_X10_crew hw) cw_L_27 kn_211 (by decide) rfl rfl ⟨(Nat.le_of_ble_eq_true rfl), (Nat.le_of_ble_eq_true rfl)⟩ rfl rfl (Nat.le_of_ble_eq_true rfl) dL_law_292 ?_
        intro r39 d40 l41 hw
        refine f_pop C0 dL_law_295 rfl ?_
        refine f_goto (tgt := 1094) C0 dL_law_296 (by decide) ?_
        refine f_iinc (lo' := [(3, .int (x3 + 6)), (0, .ref b), (1, rf g 0), (2, rf g 211)]) C0 dL_law_1094 3 rfl rfl (by decide) rfl ?_
        refine f_goto (tgt := 18) C0 dL_law_1097 (by decide) ?_
        refine f_sub [1, 2, 3, 0] rfl ?_
        exact hK18 _ _ _ hw
      · have hw := hw.2.2.2.1 h283
        refine f_tableAt (w := 3) (tgt := 299) C0 dL_law_33 h283 (by decide) (by decide) rfl (by decide) ?_
        refine f_aload_n C0 dL_law_299 rfl 1 rfl ⟨_, rfl⟩ ?_
        refine f_aload_n C0 dL_law_300 rfl 0 rfl ⟨_, rfl⟩ ?_
        refine f_iload_n C0 dL_law_301 rfl 3 rfl ?_
        refine f_iconst (v := 1) C0 dL_law_302 rfl ?_
        refine f_iadd C0 dL_law_303 ?_
        obtain ⟨h42, hw⟩ := hw
        refine f_xld C0 hZ h42 dL_law_304 ?_
        refine f_aload_n C0 dL_law_305 rfl 0 rfl ⟨_, rfl⟩ ?_
        refine f_iload_n C0 dL_law_306 rfl 3 rfl ?_
        refine f_iconst (v := 2) C0 dL_law_307 rfl ?_
        refine f_iadd C0 dL_law_308 ?_
        obtain ⟨h43, hw⟩ := hw
        refine f_xld C0 hZ h43 dL_law_309 ?_
        refine f_callVi (As := [.int (Q.2 (x3 + 1).toNatClampNeg), .int (Q.2 (x3 + 2).toNatClampNeg)]) (rest := []) C0 (m_X9_join hw) cw_L_28 kn_0 (by decide) rfl rfl ⟨(Nat.le_of_ble_eq_true rfl), (Nat.le_of_ble_eq_true rfl)⟩ rfl rfl (Nat.le_of_ble_eq_true rfl) dL_law_310 ?_
        intro r44 d45 l46 hw
        refine f_pop C0 dL_law_313 rfl ?_
        refine f_aload_n C0 dL_law_314 rfl 2 rfl ⟨_, rfl⟩ ?_
        refine f_aload_n C0 dL_law_315 rfl 0 rfl ⟨_, rfl⟩ ?_
        refine f_iload_n C0 dL_law_316 rfl 3 rfl ?_
        refine f_iconst (v := 1) C0 dL_law_317 rfl ?_
        refine f_iadd C0 dL_law_318 ?_
        obtain ⟨h47, hw⟩ := hw
        refine f_xld C0 hZ h47 dL_law_319 ?_
        refine f_aload_n C0 dL_law_320 rfl 0 rfl ⟨_, rfl⟩ ?_
        refine f_iload_n C0 dL_law_321 rfl 3 rfl ?_
        refine f_iconst (v := 2) C0 dL_law_322 rfl ?_
        refine f_iadd C0 dL_law_323 ?_
        obtain ⟨h48, hw⟩ := hw
        refine f_xld C0 hZ h48 dL_law_324 ?_
        refine f_callVi (As := [.int (Q.2 (x3 + 1).toNatClampNeg), .int (Q.2 (x3 + 2).toNatClampNeg)]) (rest := []) C0 (m_X10_join hw) cw_L_31 kn_211 (by decide) rfl rfl ⟨(Nat.le_of_ble_eq_true rfl), (Nat.le_of_ble_eq_true rfl)⟩ rfl rfl (Nat.le_of_ble_eq_true rfl) dL_law_325 ?_
        intro r49 d50 l51 hw
        refine f_pop C0 dL_law_328 rfl ?_
        refine f_goto (tgt := 1094) C0 dL_law_329 (by decide) ?_
        refine f_iinc (lo' := [(3, .int (x3 + 6)), (0, .ref b), (1, rf g 0), (2, rf g 211)]) C0 dL_law_1094 3 rfl rfl (by decide) rfl ?_
        refine f_goto (tgt := 18) C0 dL_law_1097 (by decide) ?_
        refine f_sub [1, 2, 3, 0] rfl ?_
        exact hK18 _ _ _ hw
      · have hw := hw.2.2.2.2.1 h283
        refine f_tableAt (w := 4) (tgt := 332) C0 dL_law_33 h283 (by decide) (by decide) rfl (by decide) ?_
        refine f_aload_n C0 dL_law_332 rfl 1 rfl ⟨_, rfl⟩ ?_
        refine f_aload_n C0 dL_law_333 rfl 0 rfl ⟨_, rfl⟩ ?_
        refine f_iload_n C0 dL_law_334 rfl 3 rfl ?_
        refine f_iconst (v := 1) C0 dL_law_335 rfl ?_
        refine f_iadd C0 dL_law_336 ?_
        obtain ⟨h52, hw⟩ := hw
        refine f_xld C0 hZ h52 dL_law_337 ?_
        refine f_aload_n C0 dL_law_338 rfl 0 rfl ⟨_, rfl⟩ ?_
        refine f_iload_n C0 dL_law_339 rfl 3 rfl ?_
        refine f_iconst (v := 2) C0 dL_law_340 rfl ?_
        refine f_iadd C0 dL_law_341 ?_
        obtain ⟨h53, hw⟩ := hw
        refine f_xld C0 hZ h53 dL_law_342 ?_
        refine f_callVi (As := [.int (Q.2 (x3 + 1).toNatClampNeg), .int (Q.2 (x3 + 2).toNatClampNeg)]) (rest := []) C0 (m_X9_beat hw) cw_L_32 kn_0 (by decide) rfl rfl ⟨(Nat.le_of_ble_eq_true rfl), (Nat.le_of_ble_eq_true rfl)⟩ rfl rfl (Nat.le_of_ble_eq_true rfl) dL_law_343 ?_
        intro r54 d55 l56 hw
        refine f_pop C0 dL_law_346 rfl ?_
        refine f_aload_n C0 dL_law_347 rfl 2 rfl ⟨_, rfl⟩ ?_
        refine f_aload_n C0 dL_law_348 rfl 0 rfl ⟨_, rfl⟩ ?_
        refine f_iload_n C0 dL_law_349 rfl 3 rfl ?_
        refine f_iconst (v := 1) C0 dL_law_350 rfl ?_
        refine f_iadd C0 dL_law_351 ?_
        obtain ⟨h57, hw⟩ := hw
        refine f_xld C0 hZ h57 dL_law_352 ?_
        refine f_aload_n C0 dL_law_353 rfl 0 rfl ⟨_, rfl⟩ ?_
        refine f_iload_n C0 dL_law_354 rfl 3 rfl ?_
        refine f_iconst (v := 2) C0 dL_law_355 rfl ?_
        refine f_iadd C0 dL_law_356 ?_
        obtain ⟨h58, hw⟩ := hw
        refine f_xld C0 hZ h58 dL_law_357 ?_
        refine f_callVi (As := [.int (Q.2 (x3 + 1).toNatClampNeg), .int (Q.2 (x3 + 2).toNatClampNeg)]) (rest := []) C0 (m_X10_beat hw) cw_L_35 kn_211 (by decide) rfl rfl ⟨(Nat.le_of_ble_eq_true rfl), (Nat.le_of_ble_eq_true rfl)⟩ rfl rfl (Nat.le_of_ble_eq_true rfl) dL_law_358 ?_
        intro r59 d60 l61 hw
        refine f_pop C0 dL_law_361 rfl ?_
        refine f_goto (tgt := 1094) C0 dL_law_362 (by decide) ?_
        refine f_iinc (lo' := [(3, .int (x3 + 6)), (0, .ref b), (1, rf g 0), (2, rf g 211)]) C0 dL_law_1094 3 rfl rfl (by decide) rfl ?_
        refine f_goto (tgt := 18) C0 dL_law_1097 (by decide) ?_
        refine f_sub [1, 2, 3, 0] rfl ?_
        exact hK18 _ _ _ hw
      · have hw := hw.2.2.2.2.2.1 h283
        refine f_tableAt (w := 5) (tgt := 365) C0 dL_law_33 h283 (by decide) (by decide) rfl (by decide) ?_
        refine f_aload_n C0 dL_law_365 rfl 1 rfl ⟨_, rfl⟩ ?_
        refine f_aload_n C0 dL_law_366 rfl 0 rfl ⟨_, rfl⟩ ?_
        refine f_iload_n C0 dL_law_367 rfl 3 rfl ?_
        refine f_iconst (v := 1) C0 dL_law_368 rfl ?_
        refine f_iadd C0 dL_law_369 ?_
        obtain ⟨h62, hw⟩ := hw
        refine f_xld C0 hZ h62 dL_law_370 ?_
        refine f_callVi (As := [.int (Q.2 (x3 + 1).toNatClampNeg)]) (rest := []) C0 (m_X9_seat hw) cw_L_36 kn_0 (by decide) rfl rfl ⟨(Nat.le_of_ble_eq_true rfl), (Nat.le_of_ble_eq_true rfl)⟩ rfl rfl (Nat.le_of_ble_eq_true rfl) dL_law_371 ?_
        intro r63 d64 l65 hw
        refine f_pop C0 dL_law_374 rfl ?_
        refine f_aload_n C0 dL_law_375 rfl 2 rfl ⟨_, rfl⟩ ?_
        refine f_aload_n C0 dL_law_376 rfl 0 rfl ⟨_, rfl⟩ ?_
        refine f_iload_n C0 dL_law_377 rfl 3 rfl ?_
        refine f_iconst (v := 1) C0 dL_law_378 rfl ?_
        refine f_iadd C0 dL_law_379 ?_
        obtain ⟨h66, hw⟩ := hw
        refine f_xld C0 hZ h66 dL_law_380 ?_
        refine f_callVi (As := [.int (Q.2 (x3 + 1).toNatClampNeg)]) (rest := []) C0 (m_X10_seat hw) cw_L_40 kn_211 (by decide) rfl rfl ⟨(Nat.le_of_ble_eq_true rfl), (Nat.le_of_ble_eq_true rfl)⟩ rfl rfl (Nat.le_of_ble_eq_true rfl) dL_law_381 ?_
        intro r67 d68 l69 hw
        refine f_pop C0 dL_law_384 rfl ?_
        refine f_goto (tgt := 1094) C0 dL_law_385 (by decide) ?_
        refine f_iinc (lo' := [(3, .int (x3 + 6)), (0, .ref b), (1, rf g 0), (2, rf g 211)]) C0 dL_law_1094 3 rfl rfl (by decide) rfl ?_
        refine f_goto (tgt := 18) C0 dL_law_1097 (by decide) ?_
        refine f_sub [1, 2, 3, 0] rfl ?_
        exact hK18 _ _ _ hw
      · have hw := hw.2.2.2.2.2.2.1 h283
        refine f_tableAt (w := 6) (tgt := 388) C0 dL_law_33 h283 (by decide) (by decide) rfl (by decide) ?_
        refine f_aload_n C0 dL_law_388 rfl 1 rfl ⟨_, rfl⟩ ?_
        refine f_aload_n C0 dL_law_389 rfl 0 rfl ⟨_, rfl⟩ ?_
        refine f_iload_n C0 dL_law_390 rfl 3 rfl ?_
        refine f_iconst (v := 1) C0 dL_law_391 rfl ?_
        refine f_iadd C0 dL_law_392 ?_
        obtain ⟨h70, hw⟩ := hw
        refine f_xld C0 hZ h70 dL_law_393 ?_
        refine f_aload_n C0 dL_law_394 rfl 0 rfl ⟨_, rfl⟩ ?_
        refine f_iload_n C0 dL_law_395 rfl 3 rfl ?_
        refine f_iconst (v := 2) C0 dL_law_396 rfl ?_
        refine f_iadd C0 dL_law_397 ?_
        obtain ⟨h71, hw⟩ := hw
        refine f_xld C0 hZ h71 dL_law_398 ?_
        refine f_aload_n C0 dL_law_399 rfl 0 rfl ⟨_, rfl⟩ ?_
        refine f_iload_n C0 dL_law_400 rfl 3 rfl ?_
        refine f_iconst (v := 3) C0 dL_law_401 rfl ?_
        refine f_iadd C0 dL_law_402 ?_
        obtain ⟨h72, hw⟩ := hw
        refine f_xld C0 hZ h72 dL_law_403 ?_
        refine f_callVi (As := [.int (Q.2 (x3 + 1).toNatClampNeg), .int (Q.2 (x3 + 2).toNatClampNeg), .int (Q.2 (x3 + 3).toNatClampNeg)]) (rest := []) C0 (m_X9_sits hw) cw_L_41 kn_0 (by decide) rfl rfl ⟨(Nat.le_of_ble_eq_true rfl), (Nat.le_of_ble_eq_true rfl)⟩ rfl rfl (Nat.le_of_ble_eq_true rfl) dL_law_404 ?_
        intro r73 d74 l75 hw
        refine f_pop C0 dL_law_407 rfl ?_
        refine f_aload_n C0 dL_law_408 rfl 2 rfl ⟨_, rfl⟩ ?_
        refine f_aload_n C0 dL_law_409 rfl 0 rfl ⟨_, rfl⟩ ?_
        refine f_iload_n C0 dL_law_410 rfl 3 rfl ?_
        refine f_iconst (v := 1) C0 dL_law_411 rfl ?_
        refine f_iadd C0 dL_law_412 ?_
        obtain ⟨h76, hw⟩ := hw
        refine f_xld C0 hZ h76 dL_law_413 ?_
        refine f_aload_n C0 dL_law_414 rfl 0 rfl ⟨_, rfl⟩ ?_
        refine f_iload_n C0 dL_law_415 rfl 3 rfl ?_
        refine f_iconst (v := 2) C0 dL_law_416 rfl ?_
        refine f_iadd C0 dL_law_417 ?_
        obtain ⟨h77, hw⟩ := hw
        refine f_xld C0 hZ h77 dL_law_418 ?_
        refine f_aload_n C0 dL_law_419 rfl 0 rfl ⟨_, rfl⟩ ?_
        refine f_iload_n C0 dL_law_420 rfl 3 rfl ?_
        refine f_iconst (v := 3) C0 dL_law_421 rfl ?_
        refine f_iadd C0 dL_law_422 ?_
        obtain ⟨h78, hw⟩ := hw
        refine f_xld C0 hZ h78 dL_law_423 ?_
        refine f_callVi (As := [.int (Q.2 (x3 + 1).toNatClampNeg), .int (Q.2 (x3 + 2).toNatClampNeg), .int (Q.2 (x3 + 3).toNatClampNeg)]) (rest := []) C0 (m_X10_sits hw) cw_L_44 kn_211 (by decide) rfl rfl ⟨(Nat.le_of_ble_eq_true rfl), (Nat.le_of_ble_eq_true rfl)⟩ rfl rfl (Nat.le_of_ble_eq_true rfl) dL_law_424 ?_
        intro r79 d80 l81 hw
        refine f_pop C0 dL_law_427 rfl ?_
        refine f_goto (tgt := 1094) C0 dL_law_428 (by decide) ?_
        refine f_iinc (lo' := [(3, .int (x3 + 6)), (0, .ref b), (1, rf g 0), (2, rf g 211)]) C0 dL_law_1094 3 rfl rfl (by decide) rfl ?_
        refine f_goto (tgt := 18) C0 dL_law_1097 (by decide) ?_
        refine f_sub [1, 2, 3, 0] rfl ?_
        exact hK18 _ _ _ hw
      · have hw := hw.2.2.2.2.2.2.2.1 h283
        refine f_tableAt (w := 7) (tgt := 431) C0 dL_law_33 h283 (by decide) (by decide) rfl (by decide) ?_
        refine f_aload_n C0 dL_law_431 rfl 1 rfl ⟨_, rfl⟩ ?_
        refine f_aload_n C0 dL_law_432 rfl 0 rfl ⟨_, rfl⟩ ?_
        refine f_iload_n C0 dL_law_433 rfl 3 rfl ?_
        refine f_iconst (v := 1) C0 dL_law_434 rfl ?_
        refine f_iadd C0 dL_law_435 ?_
        obtain ⟨h82, hw⟩ := hw
        refine f_xld C0 hZ h82 dL_law_436 ?_
        refine f_aload_n C0 dL_law_437 rfl 0 rfl ⟨_, rfl⟩ ?_
        refine f_iload_n C0 dL_law_438 rfl 3 rfl ?_
        refine f_iconst (v := 2) C0 dL_law_439 rfl ?_
        refine f_iadd C0 dL_law_440 ?_
        obtain ⟨h83, hw⟩ := hw
        refine f_xld C0 hZ h83 dL_law_441 ?_
        refine f_callVi (As := [.int (Q.2 (x3 + 1).toNatClampNeg), .int (Q.2 (x3 + 2).toNatClampNeg)]) (rest := []) C0 (m_X9_trim hw) cw_L_45 kn_0 (by decide) rfl rfl ⟨(Nat.le_of_ble_eq_true rfl), (Nat.le_of_ble_eq_true rfl)⟩ rfl rfl (Nat.le_of_ble_eq_true rfl) dL_law_442 ?_
        intro r84 d85 l86 hw
        refine f_pop C0 dL_law_445 rfl ?_
        refine f_aload_n C0 dL_law_446 rfl 2 rfl ⟨_, rfl⟩ ?_
        refine f_aload_n C0 dL_law_447 rfl 0 rfl ⟨_, rfl⟩ ?_
        refine f_iload_n C0 dL_law_448 rfl 3 rfl ?_
        refine f_iconst (v := 1) C0 dL_law_449 rfl ?_
        refine f_iadd C0 dL_law_450 ?_
        obtain ⟨h87, hw⟩ := hw
        refine f_xld C0 hZ h87 dL_law_451 ?_
        refine f_aload_n C0 dL_law_452 rfl 0 rfl ⟨_, rfl⟩ ?_
        refine f_iload_n C0 dL_law_453 rfl 3 rfl ?_
        refine f_iconst (v := 2) C0 dL_law_454 rfl ?_
        refine f_iadd C0 dL_law_455 ?_
        obtain ⟨h88, hw⟩ := hw
        refine f_xld C0 hZ h88 dL_law_456 ?_
        refine f_callVi (As := [.int (Q.2 (x3 + 1).toNatClampNeg), .int (Q.2 (x3 + 2).toNatClampNeg)]) (rest := []) C0 (m_X10_trim hw) cw_L_48 kn_211 (by decide) rfl rfl ⟨(Nat.le_of_ble_eq_true rfl), (Nat.le_of_ble_eq_true rfl)⟩ rfl rfl (Nat.le_of_ble_eq_true rfl) dL_law_457 ?_
        intro r89 d90 l91 hw
        refine f_pop C0 dL_law_460 rfl ?_
        refine f_goto (tgt := 1094) C0 dL_law_461 (by decide) ?_
        refine f_iinc (lo' := [(3, .int (x3 + 6)), (0, .ref b), (1, rf g 0), (2, rf g 211)]) C0 dL_law_1094 3 rfl rfl (by decide) rfl ?_
        refine f_goto (tgt := 18) C0 dL_law_1097 (by decide) ?_
        refine f_sub [1, 2, 3, 0] rfl ?_
        exact hK18 _ _ _ hw
      · have hw := hw.2.2.2.2.2.2.2.2.1 h283
        refine f_tableAt (w := 8) (tgt := 464) C0 dL_law_33 h283 (by decide) (by decide) rfl (by decide) ?_
        refine f_aload_n C0 dL_law_464 rfl 1 rfl ⟨_, rfl⟩ ?_
        refine f_aload_n C0 dL_law_465 rfl 0 rfl ⟨_, rfl⟩ ?_
        refine f_iload_n C0 dL_law_466 rfl 3 rfl ?_
        refine f_iconst (v := 1) C0 dL_law_467 rfl ?_
        refine f_iadd C0 dL_law_468 ?_
        obtain ⟨h92, hw⟩ := hw
        refine f_xld C0 hZ h92 dL_law_469 ?_
        refine f_aload_n C0 dL_law_470 rfl 0 rfl ⟨_, rfl⟩ ?_
        refine f_iload_n C0 dL_law_471 rfl 3 rfl ?_
        refine f_iconst (v := 2) C0 dL_law_472 rfl ?_
        refine f_iadd C0 dL_law_473 ?_
        obtain ⟨h93, hw⟩ := hw
        refine f_xld C0 hZ h93 dL_law_474 ?_
        refine f_aload_n C0 dL_law_475 rfl 0 rfl ⟨_, rfl⟩ ?_
        refine f_iload_n C0 dL_law_476 rfl 3 rfl ?_
        refine f_iconst (v := 3) C0 dL_law_477 rfl ?_
        refine f_iadd C0 dL_law_478 ?_
        obtain ⟨h94, hw⟩ := hw
        refine f_xld C0 hZ h94 dL_law_479 ?_
        refine f_callVi (As := [.int (Q.2 (x3 + 1).toNatClampNeg), .int (Q.2 (x3 + 2).toNatClampNeg), .int (Q.2 (x3 + 3).toNatClampNeg)]) (rest := []) C0 (m_X9_change hw) cw_L_49 kn_0 (by decide) rfl rfl ⟨(Nat.le_of_ble_eq_true rfl), (Nat.le_of_ble_eq_true rfl)⟩ rfl rfl (Nat.le_of_ble_eq_true rfl) dL_law_480 ?_
        intro r95 d96 l97 hw
        refine f_pop C0 dL_law_483 rfl ?_
        refine f_aload_n C0 dL_law_484 rfl 2 rfl ⟨_, rfl⟩ ?_
        refine f_aload_n C0 dL_law_485 rfl 0 rfl ⟨_, rfl⟩ ?_
        refine f_iload_n C0 dL_law_486 rfl 3 rfl ?_
        refine f_iconst (v := 1) C0 dL_law_487 rfl ?_
        refine f_iadd C0 dL_law_488 ?_
        obtain ⟨h98, hw⟩ := hw
        refine f_xld C0 hZ h98 dL_law_489 ?_
        refine f_aload_n C0 dL_law_490 rfl 0 rfl ⟨_, rfl⟩ ?_
        refine f_iload_n C0 dL_law_491 rfl 3 rfl ?_
        refine f_iconst (v := 2) C0 dL_law_492 rfl ?_
        refine f_iadd C0 dL_law_493 ?_
        obtain ⟨h99, hw⟩ := hw
        refine f_xld C0 hZ h99 dL_law_494 ?_
        refine f_aload_n C0 dL_law_495 rfl 0 rfl ⟨_, rfl⟩ ?_
        refine f_iload_n C0 dL_law_496 rfl 3 rfl ?_
        refine f_iconst (v := 3) C0 dL_law_497 rfl ?_
        refine f_iadd C0 dL_law_498 ?_
        obtain ⟨h100, hw⟩ := hw
        refine f_xld C0 hZ h100 dL_law_499 ?_
        refine f_callVi (As := [.int (Q.2 (x3 + 1).toNatClampNeg), .int (Q.2 (x3 + 2).toNatClampNeg), .int (Q.2 (x3 + 3).toNatClampNeg)]) (rest := []) C0 (m_X10_change hw) cw_L_52 kn_211 (by decide) rfl rfl ⟨(Nat.le_of_ble_eq_true rfl), (Nat.le_of_ble_eq_true rfl)⟩ rfl rfl (Nat.le_of_ble_eq_true rfl) dL_law_500 ?_
        intro r101 d102 l103 hw
        refine f_pop C0 dL_law_503 rfl ?_
        refine f_goto (tgt := 1094) C0 dL_law_504 (by decide) ?_
        refine f_iinc (lo' := [(3, .int (x3 + 6)), (0, .ref b), (1, rf g 0), (2, rf g 211)]) C0 dL_law_1094 3 rfl rfl (by decide) rfl ?_
        refine f_goto (tgt := 18) C0 dL_law_1097 (by decide) ?_
        refine f_sub [1, 2, 3, 0] rfl ?_
        exact hK18 _ _ _ hw
      · have hw := hw.2.2.2.2.2.2.2.2.2.1 h283
        refine f_tableAt (w := 9) (tgt := 507) C0 dL_law_33 h283 (by decide) (by decide) rfl (by decide) ?_
        refine f_aload_n C0 dL_law_507 rfl 1 rfl ⟨_, rfl⟩ ?_
        refine f_aload_n C0 dL_law_508 rfl 0 rfl ⟨_, rfl⟩ ?_
        refine f_iload_n C0 dL_law_509 rfl 3 rfl ?_
        refine f_iconst (v := 1) C0 dL_law_510 rfl ?_
        refine f_iadd C0 dL_law_511 ?_
        obtain ⟨h104, hw⟩ := hw
        refine f_xld C0 hZ h104 dL_law_512 ?_
        refine f_i2l C0 dL_law_513 ?_
        refine f_bipush (v := 32) C0 dL_law_514 rfl ?_
        refine f_lshl C0 dL_law_516 ?_
        refine f_aload_n C0 dL_law_517 rfl 0 rfl ⟨_, rfl⟩ ?_
        refine f_iload_n C0 dL_law_518 rfl 3 rfl ?_
        refine f_iconst (v := 2) C0 dL_law_519 rfl ?_
        refine f_iadd C0 dL_law_520 ?_
        obtain ⟨h105, hw⟩ := hw
        refine f_xld C0 hZ h105 dL_law_521 ?_
        refine f_i2l C0 dL_law_522 ?_
        refine f_ldc2 (v := 4294967295) C0 mw_1234 dL_law_523 ?_
        refine f_land C0 dL_law_526 ?_
        refine f_lor C0 dL_law_527 ?_
        refine f_aload_n C0 dL_law_528 rfl 0 rfl ⟨_, rfl⟩ ?_
        refine f_iload_n C0 dL_law_529 rfl 3 rfl ?_
        refine f_iconst (v := 3) C0 dL_law_530 rfl ?_
        refine f_iadd C0 dL_law_531 ?_
        obtain ⟨h106, hw⟩ := hw
        refine f_xld C0 hZ h106 dL_law_532 ?_
        refine f_callVi (As := [.long ((lshl ((Q.2 (x3 + 1).toNatClampNeg).toInt64) 32) ||| (((Q.2 (x3 + 2).toNatClampNeg).toInt64) &&& 4294967295)), .int (Q.2 (x3 + 3).toNatClampNeg)]) (rest := []) C0 (m_X9_feed hw) cw_L_55 kn_0 (by decide) rfl rfl ⟨(Nat.le_of_ble_eq_true rfl), (Nat.le_of_ble_eq_true rfl)⟩ rfl rfl (Nat.le_of_ble_eq_true rfl) dL_law_533 ?_
        intro r107 d108 l109 hw
        refine f_pop C0 dL_law_536 rfl ?_
        refine f_aload_n C0 dL_law_537 rfl 2 rfl ⟨_, rfl⟩ ?_
        refine f_aload_n C0 dL_law_538 rfl 0 rfl ⟨_, rfl⟩ ?_
        refine f_iload_n C0 dL_law_539 rfl 3 rfl ?_
        refine f_iconst (v := 1) C0 dL_law_540 rfl ?_
        refine f_iadd C0 dL_law_541 ?_
        obtain ⟨h110, hw⟩ := hw
        refine f_xld C0 hZ h110 dL_law_542 ?_
        refine f_i2l C0 dL_law_543 ?_
        refine f_bipush (v := 32) C0 dL_law_544 rfl ?_
        refine f_lshl C0 dL_law_546 ?_
        refine f_aload_n C0 dL_law_547 rfl 0 rfl ⟨_, rfl⟩ ?_
        refine f_iload_n C0 dL_law_548 rfl 3 rfl ?_
        refine f_iconst (v := 2) C0 dL_law_549 rfl ?_
        refine f_iadd C0 dL_law_550 ?_
        obtain ⟨h111, hw⟩ := hw
        refine f_xld C0 hZ h111 dL_law_551 ?_
        refine f_i2l C0 dL_law_552 ?_
        refine f_ldc2 (v := 4294967295) C0 mw_1234 dL_law_553 ?_
        refine f_land C0 dL_law_556 ?_
        refine f_lor C0 dL_law_557 ?_
        refine f_aload_n C0 dL_law_558 rfl 0 rfl ⟨_, rfl⟩ ?_
        refine f_iload_n C0 dL_law_559 rfl 3 rfl ?_
        refine f_iconst (v := 3) C0 dL_law_560 rfl ?_
        refine f_iadd C0 dL_law_561 ?_
        obtain ⟨h112, hw⟩ := hw
        refine f_xld C0 hZ h112 dL_law_562 ?_
        refine f_callVi (As := [.long ((lshl ((Q.2 (x3 + 1).toNatClampNeg).toInt64) 32) ||| (((Q.2 (x3 + 2).toNatClampNeg).toInt64) &&& 4294967295)), .int (Q.2 (x3 + 3).toNatClampNeg)]) (rest := []) C0 (m_X10_feed hw) cw_L_59 kn_211 (by decide) rfl rfl ⟨(Nat.le_of_ble_eq_true rfl), (Nat.le_of_ble_eq_true rfl)⟩ rfl rfl (Nat.le_of_ble_eq_true rfl) dL_law_563 ?_
        intro r113 d114 l115 hw
        refine f_pop C0 dL_law_566 rfl ?_
        refine f_goto (tgt := 1094) C0 dL_law_567 (by decide) ?_
        refine f_iinc (lo' := [(3, .int (x3 + 6)), (0, .ref b), (1, rf g 0), (2, rf g 211)]) C0 dL_law_1094 3 rfl rfl (by decide) rfl ?_
        refine f_goto (tgt := 18) C0 dL_law_1097 (by decide) ?_
        refine f_sub [1, 2, 3, 0] rfl ?_
        exact hK18 _ _ _ hw
      · have hw := hw.2.2.2.2.2.2.2.2.2.2.1 h283
        refine f_tableAt (w := 10) (tgt := 570) C0 dL_law_33 h283 (by decide) (by decide) rfl (by decide) ?_
        refine f_aload_n C0 dL_law_570 rfl 1 rfl ⟨_, rfl⟩ ?_
        refine f_callVi (As := []) (rest := []) C0 (m_X9_rule hw) cw_L_60 kn_0 (by decide) rfl rfl ⟨(Nat.le_of_ble_eq_true rfl), (Nat.le_of_ble_eq_true rfl)⟩ rfl rfl (Nat.le_of_ble_eq_true rfl) dL_law_571 ?_
        intro r116 d117 l118 hw
        refine f_pop C0 dL_law_574 rfl ?_
        refine f_aload_n C0 dL_law_575 rfl 2 rfl ⟨_, rfl⟩ ?_
        refine f_callVi (As := []) (rest := []) C0 (m_X10_rule hw) cw_L_64 kn_211 (by decide) rfl rfl ⟨(Nat.le_of_ble_eq_true rfl), (Nat.le_of_ble_eq_true rfl)⟩ rfl rfl (Nat.le_of_ble_eq_true rfl) dL_law_576 ?_
        intro r119 d120 l121 hw
        refine f_pop C0 dL_law_579 rfl ?_
        refine f_goto (tgt := 1094) C0 dL_law_580 (by decide) ?_
        refine f_iinc (lo' := [(3, .int (x3 + 6)), (0, .ref b), (1, rf g 0), (2, rf g 211)]) C0 dL_law_1094 3 rfl rfl (by decide) rfl ?_
        refine f_goto (tgt := 18) C0 dL_law_1097 (by decide) ?_
        refine f_sub [1, 2, 3, 0] rfl ?_
        exact hK18 _ _ _ hw
      · have hw := hw.2.2.2.2.2.2.2.2.2.2.2.1 h283
        refine f_tableAt (w := 11) (tgt := 583) C0 dL_law_33 h283 (by decide) (by decide) rfl (by decide) ?_
        refine f_aload_n C0 dL_law_583 rfl 1 rfl ⟨_, rfl⟩ ?_
        refine f_aload_n C0 dL_law_584 rfl 0 rfl ⟨_, rfl⟩ ?_
        refine f_iload_n C0 dL_law_585 rfl 3 rfl ?_
        refine f_iconst (v := 1) C0 dL_law_586 rfl ?_
        refine f_iadd C0 dL_law_587 ?_
        obtain ⟨h122, hw⟩ := hw
        refine f_xld C0 hZ h122 dL_law_588 ?_
        refine f_aload_n C0 dL_law_589 rfl 0 rfl ⟨_, rfl⟩ ?_
        refine f_iload_n C0 dL_law_590 rfl 3 rfl ?_
        refine f_iconst (v := 2) C0 dL_law_591 rfl ?_
        refine f_iadd C0 dL_law_592 ?_
        obtain ⟨h123, hw⟩ := hw
        refine f_xld C0 hZ h123 dL_law_593 ?_
        refine f_callVi (As := [.int (Q.2 (x3 + 1).toNatClampNeg), .int (Q.2 (x3 + 2).toNatClampNeg)]) (rest := []) C0 (m_X9_keeps hw) cw_L_65 kn_0 (by decide) rfl rfl ⟨(Nat.le_of_ble_eq_true rfl), (Nat.le_of_ble_eq_true rfl)⟩ rfl rfl (Nat.le_of_ble_eq_true rfl) dL_law_594 ?_
        intro r124 d125 l126 hw
        refine f_aload_n C0 dL_law_597 rfl 2 rfl ⟨_, rfl⟩ ?_
        refine f_aload_n C0 dL_law_598 rfl 0 rfl ⟨_, rfl⟩ ?_
        refine f_iload_n C0 dL_law_599 rfl 3 rfl ?_
        refine f_iconst (v := 1) C0 dL_law_600 rfl ?_
        refine f_iadd C0 dL_law_601 ?_
        obtain ⟨h127, hw⟩ := hw
        refine f_xld C0 hZ h127 dL_law_602 ?_
        refine f_aload_n C0 dL_law_603 rfl 0 rfl ⟨_, rfl⟩ ?_
        refine f_iload_n C0 dL_law_604 rfl 3 rfl ?_
        refine f_iconst (v := 2) C0 dL_law_605 rfl ?_
        refine f_iadd C0 dL_law_606 ?_
        obtain ⟨h128, hw⟩ := hw
        refine f_xld C0 hZ h128 dL_law_607 ?_
        refine f_callVi (As := [.int (Q.2 (x3 + 1).toNatClampNeg), .int (Q.2 (x3 + 2).toNatClampNeg)]) (rest := [.int r124]) C0 (m_X10_keeps hw) cw_L_68 kn_211 (by decide) rfl rfl ⟨(Nat.le_of_ble_eq_true rfl), (Nat.le_of_ble_eq_true rfl)⟩ rfl rfl (Nat.le_of_ble_eq_true rfl) dL_law_608 ?_
        intro r129 d130 l131 hw
        refine f_icmp_eq (tgt := 1094) C0 dL_law_611 (by decide) (fun h132 => ?_) (fun h132 => ?_)
        · have hw := hw.1 h132
          refine f_iinc (lo' := [(3, .int (x3 + 6)), (0, .ref b), (1, rf g 0), (2, rf g 211)]) C0 dL_law_1094 3 rfl rfl (by decide) rfl ?_
          refine f_goto (tgt := 18) C0 dL_law_1097 (by decide) ?_
          refine f_sub [1, 2, 3, 0] rfl ?_
          exact hK18 _ _ _ hw
        · have hw := hw.2 h132
          refine f_iconst (v := 0) C0 dL_law_614 rfl ?_
          exact hw.elim
      · have hw := hw.2.2.2.2.2.2.2.2.2.2.2.2.1 h283
        refine f_tableAt (w := 12) (tgt := 616) C0 dL_law_33 h283 (by decide) (by decide) rfl (by decide) ?_
        refine f_aload_n C0 dL_law_616 rfl 1 rfl ⟨_, rfl⟩ ?_
        refine f_aload_n C0 dL_law_617 rfl 0 rfl ⟨_, rfl⟩ ?_
        refine f_iload_n C0 dL_law_618 rfl 3 rfl ?_
        refine f_iconst (v := 1) C0 dL_law_619 rfl ?_
        refine f_iadd C0 dL_law_620 ?_
        obtain ⟨h133, hw⟩ := hw
        refine f_xld C0 hZ h133 dL_law_621 ?_
        refine f_callVi (As := [.int (Q.2 (x3 + 1).toNatClampNeg)]) (rest := []) C0 (m_X9_rest hw) cw_L_69 kn_0 (by decide) rfl rfl ⟨(Nat.le_of_ble_eq_true rfl), (Nat.le_of_ble_eq_true rfl)⟩ rfl rfl (Nat.le_of_ble_eq_true rfl) dL_law_622 ?_
        intro r134 d135 l136 hw
        refine f_pop C0 dL_law_625 rfl ?_
        refine f_aload_n C0 dL_law_626 rfl 2 rfl ⟨_, rfl⟩ ?_
        refine f_aload_n C0 dL_law_627 rfl 0 rfl ⟨_, rfl⟩ ?_
        refine f_iload_n C0 dL_law_628 rfl 3 rfl ?_
        refine f_iconst (v := 1) C0 dL_law_629 rfl ?_
        refine f_iadd C0 dL_law_630 ?_
        obtain ⟨h137, hw⟩ := hw
        refine f_xld C0 hZ h137 dL_law_631 ?_
        refine f_callVi (As := [.int (Q.2 (x3 + 1).toNatClampNeg)]) (rest := []) C0 (m_X10_rest hw) cw_L_72 kn_211 (by decide) rfl rfl ⟨(Nat.le_of_ble_eq_true rfl), (Nat.le_of_ble_eq_true rfl)⟩ rfl rfl (Nat.le_of_ble_eq_true rfl) dL_law_632 ?_
        intro r138 d139 l140 hw
        refine f_pop C0 dL_law_635 rfl ?_
        refine f_goto (tgt := 1094) C0 dL_law_636 (by decide) ?_
        refine f_iinc (lo' := [(3, .int (x3 + 6)), (0, .ref b), (1, rf g 0), (2, rf g 211)]) C0 dL_law_1094 3 rfl rfl (by decide) rfl ?_
        refine f_goto (tgt := 18) C0 dL_law_1097 (by decide) ?_
        refine f_sub [1, 2, 3, 0] rfl ?_
        exact hK18 _ _ _ hw
      · have hw := hw.2.2.2.2.2.2.2.2.2.2.2.2.2.1 h283
        refine f_tableAt (w := 13) (tgt := 639) C0 dL_law_33 h283 (by decide) (by decide) rfl (by decide) ?_
        refine f_aload_n C0 dL_law_639 rfl 1 rfl ⟨_, rfl⟩ ?_
        refine f_aload_n C0 dL_law_640 rfl 0 rfl ⟨_, rfl⟩ ?_
        refine f_iload_n C0 dL_law_641 rfl 3 rfl ?_
        refine f_iconst (v := 1) C0 dL_law_642 rfl ?_
        refine f_iadd C0 dL_law_643 ?_
        obtain ⟨h141, hw⟩ := hw
        refine f_xld C0 hZ h141 dL_law_644 ?_
        refine f_aload_n C0 dL_law_645 rfl 0 rfl ⟨_, rfl⟩ ?_
        refine f_iload_n C0 dL_law_646 rfl 3 rfl ?_
        refine f_iconst (v := 2) C0 dL_law_647 rfl ?_
        refine f_iadd C0 dL_law_648 ?_
        obtain ⟨h142, hw⟩ := hw
        refine f_xld C0 hZ h142 dL_law_649 ?_
        refine f_callVi (As := [.int (Q.2 (x3 + 1).toNatClampNeg), .int (Q.2 (x3 + 2).toNatClampNeg)]) (rest := []) C0 (m_X9_lane hw) cw_L_73 kn_0 (by decide) rfl rfl ⟨(Nat.le_of_ble_eq_true rfl), (Nat.le_of_ble_eq_true rfl)⟩ rfl rfl (Nat.le_of_ble_eq_true rfl) dL_law_650 ?_
        intro r143 d144 l145 hw
        refine f_pop C0 dL_law_653 rfl ?_
        refine f_aload_n C0 dL_law_654 rfl 2 rfl ⟨_, rfl⟩ ?_
        refine f_aload_n C0 dL_law_655 rfl 0 rfl ⟨_, rfl⟩ ?_
        refine f_iload_n C0 dL_law_656 rfl 3 rfl ?_
        refine f_iconst (v := 1) C0 dL_law_657 rfl ?_
        refine f_iadd C0 dL_law_658 ?_
        obtain ⟨h146, hw⟩ := hw
        refine f_xld C0 hZ h146 dL_law_659 ?_
        refine f_aload_n C0 dL_law_660 rfl 0 rfl ⟨_, rfl⟩ ?_
        refine f_iload_n C0 dL_law_661 rfl 3 rfl ?_
        refine f_iconst (v := 2) C0 dL_law_662 rfl ?_
        refine f_iadd C0 dL_law_663 ?_
        obtain ⟨h147, hw⟩ := hw
        refine f_xld C0 hZ h147 dL_law_664 ?_
        refine f_callVi (As := [.int (Q.2 (x3 + 1).toNatClampNeg), .int (Q.2 (x3 + 2).toNatClampNeg)]) (rest := []) C0 (m_X10_lane hw) cw_L_76 kn_211 (by decide) rfl rfl ⟨(Nat.le_of_ble_eq_true rfl), (Nat.le_of_ble_eq_true rfl)⟩ rfl rfl (Nat.le_of_ble_eq_true rfl) dL_law_665 ?_
        intro r148 d149 l150 hw
        refine f_pop C0 dL_law_668 rfl ?_
        refine f_goto (tgt := 1094) C0 dL_law_669 (by decide) ?_
        refine f_iinc (lo' := [(3, .int (x3 + 6)), (0, .ref b), (1, rf g 0), (2, rf g 211)]) C0 dL_law_1094 3 rfl rfl (by decide) rfl ?_
        refine f_goto (tgt := 18) C0 dL_law_1097 (by decide) ?_
        refine f_sub [1, 2, 3, 0] rfl ?_
        exact hK18 _ _ _ hw
      · have hw := hw.2.2.2.2.2.2.2.2.2.2.2.2.2.2.1 h283
        refine f_tableAt (w := 14) (tgt := 672) C0 dL_law_33 h283 (by decide) (by decide) rfl (by decide) ?_
        refine f_aload_n C0 dL_law_672 rfl 1 rfl ⟨_, rfl⟩ ?_
        refine f_aload_n C0 dL_law_673 rfl 0 rfl ⟨_, rfl⟩ ?_
        refine f_iload_n C0 dL_law_674 rfl 3 rfl ?_
        refine f_iconst (v := 1) C0 dL_law_675 rfl ?_
        refine f_iadd C0 dL_law_676 ?_
        obtain ⟨h151, hw⟩ := hw
        refine f_xld C0 hZ h151 dL_law_677 ?_
        refine f_aload_n C0 dL_law_678 rfl 0 rfl ⟨_, rfl⟩ ?_
        refine f_iload_n C0 dL_law_679 rfl 3 rfl ?_
        refine f_iconst (v := 2) C0 dL_law_680 rfl ?_
        refine f_iadd C0 dL_law_681 ?_
        obtain ⟨h152, hw⟩ := hw
        refine f_xld C0 hZ h152 dL_law_682 ?_
        refine f_callVi (As := [.int (Q.2 (x3 + 1).toNatClampNeg), .int (Q.2 (x3 + 2).toNatClampNeg)]) (rest := []) C0 (m_X9_race hw) cw_L_77 kn_0 (by decide) rfl rfl ⟨(Nat.le_of_ble_eq_true rfl), (Nat.le_of_ble_eq_true rfl)⟩ rfl rfl (Nat.le_of_ble_eq_true rfl) dL_law_683 ?_
        intro r153 d154 l155 hw
        refine f_pop C0 dL_law_686 rfl ?_
        refine f_aload_n C0 dL_law_687 rfl 2 rfl ⟨_, rfl⟩ ?_
        refine f_aload_n C0 dL_law_688 rfl 0 rfl ⟨_, rfl⟩ ?_
        refine f_iload_n C0 dL_law_689 rfl 3 rfl ?_
        refine f_iconst (v := 1) C0 dL_law_690 rfl ?_
        refine f_iadd C0 dL_law_691 ?_
        obtain ⟨h156, hw⟩ := hw
        refine f_xld C0 hZ h156 dL_law_692 ?_
        refine f_aload_n C0 dL_law_693 rfl 0 rfl ⟨_, rfl⟩ ?_
        refine f_iload_n C0 dL_law_694 rfl 3 rfl ?_
        refine f_iconst (v := 2) C0 dL_law_695 rfl ?_
        refine f_iadd C0 dL_law_696 ?_
        obtain ⟨h157, hw⟩ := hw
        refine f_xld C0 hZ h157 dL_law_697 ?_
        refine f_callVi (As := [.int (Q.2 (x3 + 1).toNatClampNeg), .int (Q.2 (x3 + 2).toNatClampNeg)]) (rest := []) C0 (m_X10_race hw) cw_L_80 kn_211 (by decide) rfl rfl ⟨(Nat.le_of_ble_eq_true rfl), (Nat.le_of_ble_eq_true rfl)⟩ rfl rfl (Nat.le_of_ble_eq_true rfl) dL_law_698 ?_
        intro r158 d159 l160 hw
        refine f_pop C0 dL_law_701 rfl ?_
        refine f_goto (tgt := 1094) C0 dL_law_702 (by decide) ?_
        refine f_iinc (lo' := [(3, .int (x3 + 6)), (0, .ref b), (1, rf g 0), (2, rf g 211)]) C0 dL_law_1094 3 rfl rfl (by decide) rfl ?_
        refine f_goto (tgt := 18) C0 dL_law_1097 (by decide) ?_
        refine f_sub [1, 2, 3, 0] rfl ?_
        exact hK18 _ _ _ hw
      · have hw := hw.2.2.2.2.2.2.2.2.2.2.2.2.2.2.2.1 h283
        refine f_tableAt (w := 15) (tgt := 705) C0 dL_law_33 h283 (by decide) (by decide) rfl (by decide) ?_
        refine f_aload_n C0 dL_law_705 rfl 1 rfl ⟨_, rfl⟩ ?_
        refine f_aload_n C0 dL_law_706 rfl 0 rfl ⟨_, rfl⟩ ?_
        refine f_iload_n C0 dL_law_707 rfl 3 rfl ?_
        refine f_iconst (v := 1) C0 dL_law_708 rfl ?_
        refine f_iadd C0 dL_law_709 ?_
        obtain ⟨h161, hw⟩ := hw
        refine f_xld C0 hZ h161 dL_law_710 ?_
        refine f_aload_n C0 dL_law_711 rfl 0 rfl ⟨_, rfl⟩ ?_
        refine f_iload_n C0 dL_law_712 rfl 3 rfl ?_
        refine f_iconst (v := 2) C0 dL_law_713 rfl ?_
        refine f_iadd C0 dL_law_714 ?_
        obtain ⟨h162, hw⟩ := hw
        refine f_xld C0 hZ h162 dL_law_715 ?_
        refine f_callVi (As := [.int (Q.2 (x3 + 1).toNatClampNeg), .int (Q.2 (x3 + 2).toNatClampNeg)]) (rest := []) C0 (m_X9_current hw) cw_L_81 kn_0 (by decide) rfl rfl ⟨(Nat.le_of_ble_eq_true rfl), (Nat.le_of_ble_eq_true rfl)⟩ rfl rfl (Nat.le_of_ble_eq_true rfl) dL_law_716 ?_
        intro r163 d164 l165 hw
        refine f_pop C0 dL_law_719 rfl ?_
        refine f_aload_n C0 dL_law_720 rfl 2 rfl ⟨_, rfl⟩ ?_
        refine f_aload_n C0 dL_law_721 rfl 0 rfl ⟨_, rfl⟩ ?_
        refine f_iload_n C0 dL_law_722 rfl 3 rfl ?_
        refine f_iconst (v := 1) C0 dL_law_723 rfl ?_
        refine f_iadd C0 dL_law_724 ?_
        obtain ⟨h166, hw⟩ := hw
        refine f_xld C0 hZ h166 dL_law_725 ?_
        refine f_aload_n C0 dL_law_726 rfl 0 rfl ⟨_, rfl⟩ ?_
        refine f_iload_n C0 dL_law_727 rfl 3 rfl ?_
        refine f_iconst (v := 2) C0 dL_law_728 rfl ?_
        refine f_iadd C0 dL_law_729 ?_
        obtain ⟨h167, hw⟩ := hw
        refine f_xld C0 hZ h167 dL_law_730 ?_
        refine f_callVi (As := [.int (Q.2 (x3 + 1).toNatClampNeg), .int (Q.2 (x3 + 2).toNatClampNeg)]) (rest := []) C0 (m_X10_current hw) cw_L_84 kn_211 (by decide) rfl rfl ⟨(Nat.le_of_ble_eq_true rfl), (Nat.le_of_ble_eq_true rfl)⟩ rfl rfl (Nat.le_of_ble_eq_true rfl) dL_law_731 ?_
        intro r168 d169 l170 hw
        refine f_pop C0 dL_law_734 rfl ?_
        refine f_goto (tgt := 1094) C0 dL_law_735 (by decide) ?_
        refine f_iinc (lo' := [(3, .int (x3 + 6)), (0, .ref b), (1, rf g 0), (2, rf g 211)]) C0 dL_law_1094 3 rfl rfl (by decide) rfl ?_
        refine f_goto (tgt := 18) C0 dL_law_1097 (by decide) ?_
        refine f_sub [1, 2, 3, 0] rfl ?_
        exact hK18 _ _ _ hw
      · have hw := hw.2.2.2.2.2.2.2.2.2.2.2.2.2.2.2.2.1 h283
        refine f_tableAt (w := 16) (tgt := 738) C0 dL_law_33 h283 (by decide) (by decide) rfl (by decide) ?_
        refine f_aload_n C0 dL_law_738 rfl 1 rfl ⟨_, rfl⟩ ?_
        refine f_aload_n C0 dL_law_739 rfl 0 rfl ⟨_, rfl⟩ ?_
        refine f_iload_n C0 dL_law_740 rfl 3 rfl ?_
        refine f_iconst (v := 1) C0 dL_law_741 rfl ?_
        refine f_iadd C0 dL_law_742 ?_
        obtain ⟨h171, hw⟩ := hw
        refine f_xld C0 hZ h171 dL_law_743 ?_
        refine f_aload_n C0 dL_law_744 rfl 0 rfl ⟨_, rfl⟩ ?_
        refine f_iload_n C0 dL_law_745 rfl 3 rfl ?_
        refine f_iconst (v := 2) C0 dL_law_746 rfl ?_
        refine f_iadd C0 dL_law_747 ?_
        obtain ⟨h172, hw⟩ := hw
        refine f_xld C0 hZ h172 dL_law_748 ?_
        refine f_callVi (As := [.int (Q.2 (x3 + 1).toNatClampNeg), .int (Q.2 (x3 + 2).toNatClampNeg)]) (rest := []) C0 (m_X9_run hw) cw_L_85 kn_0 (by decide) rfl rfl ⟨(Nat.le_of_ble_eq_true rfl), (Nat.le_of_ble_eq_true rfl)⟩ rfl rfl (Nat.le_of_ble_eq_true rfl) dL_law_749 ?_
        intro r173 d174 l175 hw
        refine f_pop C0 dL_law_752 rfl ?_
        refine f_aload_n C0 dL_law_753 rfl 2 rfl ⟨_, rfl⟩ ?_
        refine f_aload_n C0 dL_law_754 rfl 0 rfl ⟨_, rfl⟩ ?_
        refine f_iload_n C0 dL_law_755 rfl 3 rfl ?_
        refine f_iconst (v := 1) C0 dL_law_756 rfl ?_
        refine f_iadd C0 dL_law_757 ?_
        obtain ⟨h176, hw⟩ := hw
        refine f_xld C0 hZ h176 dL_law_758 ?_
        refine f_aload_n C0 dL_law_759 rfl 0 rfl ⟨_, rfl⟩ ?_
        refine f_iload_n C0 dL_law_760 rfl 3 rfl ?_
        refine f_iconst (v := 2) C0 dL_law_761 rfl ?_
        refine f_iadd C0 dL_law_762 ?_
        obtain ⟨h177, hw⟩ := hw
        refine f_xld C0 hZ h177 dL_law_763 ?_
        refine f_callVi (As := [.int (Q.2 (x3 + 1).toNatClampNeg), .int (Q.2 (x3 + 2).toNatClampNeg)]) (rest := []) C0 (m_X10_run hw) cw_L_88 kn_211 (by decide) rfl rfl ⟨(Nat.le_of_ble_eq_true rfl), (Nat.le_of_ble_eq_true rfl)⟩ rfl rfl (Nat.le_of_ble_eq_true rfl) dL_law_764 ?_
        intro r178 d179 l180 hw
        refine f_pop C0 dL_law_767 rfl ?_
        refine f_goto (tgt := 1094) C0 dL_law_768 (by decide) ?_
        refine f_iinc (lo' := [(3, .int (x3 + 6)), (0, .ref b), (1, rf g 0), (2, rf g 211)]) C0 dL_law_1094 3 rfl rfl (by decide) rfl ?_
        refine f_goto (tgt := 18) C0 dL_law_1097 (by decide) ?_
        refine f_sub [1, 2, 3, 0] rfl ?_
        exact hK18 _ _ _ hw
      · have hw := hw.2.2.2.2.2.2.2.2.2.2.2.2.2.2.2.2.2.1 h283
        refine f_tableAt (w := 17) (tgt := 771) C0 dL_law_33 h283 (by decide) (by decide) rfl (by decide) ?_
        refine f_aload_n C0 dL_law_771 rfl 1 rfl ⟨_, rfl⟩ ?_
        refine f_aload_n C0 dL_law_772 rfl 0 rfl ⟨_, rfl⟩ ?_
        refine f_iload_n C0 dL_law_773 rfl 3 rfl ?_
        refine f_iconst (v := 1) C0 dL_law_774 rfl ?_
        refine f_iadd C0 dL_law_775 ?_
        obtain ⟨h181, hw⟩ := hw
        refine f_xld C0 hZ h181 dL_law_776 ?_
        refine f_aload_n C0 dL_law_777 rfl 0 rfl ⟨_, rfl⟩ ?_
        refine f_iload_n C0 dL_law_778 rfl 3 rfl ?_
        refine f_iconst (v := 2) C0 dL_law_779 rfl ?_
        refine f_iadd C0 dL_law_780 ?_
        obtain ⟨h182, hw⟩ := hw
        refine f_xld C0 hZ h182 dL_law_781 ?_
        refine f_aload_n C0 dL_law_782 rfl 0 rfl ⟨_, rfl⟩ ?_
        refine f_iload_n C0 dL_law_783 rfl 3 rfl ?_
        refine f_iconst (v := 3) C0 dL_law_784 rfl ?_
        refine f_iadd C0 dL_law_785 ?_
        obtain ⟨h183, hw⟩ := hw
        refine f_xld C0 hZ h183 dL_law_786 ?_
        refine f_callVi (As := [.int (Q.2 (x3 + 1).toNatClampNeg), .int (Q.2 (x3 + 2).toNatClampNeg), .int (Q.2 (x3 + 3).toNatClampNeg)]) (rest := []) C0 (m_X9_time hw) cw_L_89 kn_0 (by decide) rfl rfl ⟨(Nat.le_of_ble_eq_true rfl), (Nat.le_of_ble_eq_true rfl)⟩ rfl rfl (Nat.le_of_ble_eq_true rfl) dL_law_787 ?_
        intro r184 d185 l186 hw
        refine f_pop C0 dL_law_790 rfl ?_
        refine f_aload_n C0 dL_law_791 rfl 2 rfl ⟨_, rfl⟩ ?_
        refine f_aload_n C0 dL_law_792 rfl 0 rfl ⟨_, rfl⟩ ?_
        refine f_iload_n C0 dL_law_793 rfl 3 rfl ?_
        refine f_iconst (v := 1) C0 dL_law_794 rfl ?_
        refine f_iadd C0 dL_law_795 ?_
        obtain ⟨h187, hw⟩ := hw
        refine f_xld C0 hZ h187 dL_law_796 ?_
        refine f_aload_n C0 dL_law_797 rfl 0 rfl ⟨_, rfl⟩ ?_
        refine f_iload_n C0 dL_law_798 rfl 3 rfl ?_
        refine f_iconst (v := 2) C0 dL_law_799 rfl ?_
        refine f_iadd C0 dL_law_800 ?_
        obtain ⟨h188, hw⟩ := hw
        refine f_xld C0 hZ h188 dL_law_801 ?_
        refine f_aload_n C0 dL_law_802 rfl 0 rfl ⟨_, rfl⟩ ?_
        refine f_iload_n C0 dL_law_803 rfl 3 rfl ?_
        refine f_iconst (v := 3) C0 dL_law_804 rfl ?_
        refine f_iadd C0 dL_law_805 ?_
        obtain ⟨h189, hw⟩ := hw
        refine f_xld C0 hZ h189 dL_law_806 ?_
        refine f_callVi (As := [.int (Q.2 (x3 + 1).toNatClampNeg), .int (Q.2 (x3 + 2).toNatClampNeg), .int (Q.2 (x3 + 3).toNatClampNeg)]) (rest := []) C0 (m_X10_time hw) cw_L_92 kn_211 (by decide) rfl rfl ⟨(Nat.le_of_ble_eq_true rfl), (Nat.le_of_ble_eq_true rfl)⟩ rfl rfl (Nat.le_of_ble_eq_true rfl) dL_law_807 ?_
        intro r190 d191 l192 hw
        refine f_pop C0 dL_law_810 rfl ?_
        refine f_goto (tgt := 1094) C0 dL_law_811 (by decide) ?_
        refine f_iinc (lo' := [(3, .int (x3 + 6)), (0, .ref b), (1, rf g 0), (2, rf g 211)]) C0 dL_law_1094 3 rfl rfl (by decide) rfl ?_
        refine f_goto (tgt := 18) C0 dL_law_1097 (by decide) ?_
        refine f_sub [1, 2, 3, 0] rfl ?_
        exact hK18 _ _ _ hw
      · have hw := hw.2.2.2.2.2.2.2.2.2.2.2.2.2.2.2.2.2.2.1 h283
        refine f_tableAt (w := 18) (tgt := 814) C0 dL_law_33 h283 (by decide) (by decide) rfl (by decide) ?_
        refine f_aload_n C0 dL_law_814 rfl 1 rfl ⟨_, rfl⟩ ?_
        refine f_aload_n C0 dL_law_815 rfl 0 rfl ⟨_, rfl⟩ ?_
        refine f_iload_n C0 dL_law_816 rfl 3 rfl ?_
        refine f_iconst (v := 1) C0 dL_law_817 rfl ?_
        refine f_iadd C0 dL_law_818 ?_
        obtain ⟨h193, hw⟩ := hw
        refine f_xld C0 hZ h193 dL_law_819 ?_
        refine f_aload_n C0 dL_law_820 rfl 0 rfl ⟨_, rfl⟩ ?_
        refine f_iload_n C0 dL_law_821 rfl 3 rfl ?_
        refine f_iconst (v := 2) C0 dL_law_822 rfl ?_
        refine f_iadd C0 dL_law_823 ?_
        obtain ⟨h194, hw⟩ := hw
        refine f_xld C0 hZ h194 dL_law_824 ?_
        refine f_aload_n C0 dL_law_825 rfl 0 rfl ⟨_, rfl⟩ ?_
        refine f_iload_n C0 dL_law_826 rfl 3 rfl ?_
        refine f_iconst (v := 3) C0 dL_law_827 rfl ?_
        refine f_iadd C0 dL_law_828 ?_
        obtain ⟨h195, hw⟩ := hw
        refine f_xld C0 hZ h195 dL_law_829 ?_
        refine f_callVi (As := [.int (Q.2 (x3 + 1).toNatClampNeg), .int (Q.2 (x3 + 2).toNatClampNeg), .int (Q.2 (x3 + 3).toNatClampNeg)]) (rest := []) C0 (m_X9_told hw) cw_L_93 kn_0 (by decide) rfl rfl ⟨(Nat.le_of_ble_eq_true rfl), (Nat.le_of_ble_eq_true rfl)⟩ rfl rfl (Nat.le_of_ble_eq_true rfl) dL_law_830 ?_
        intro r196 d197 l198 hw
        refine f_pop C0 dL_law_833 rfl ?_
        refine f_aload_n C0 dL_law_834 rfl 2 rfl ⟨_, rfl⟩ ?_
        refine f_aload_n C0 dL_law_835 rfl 0 rfl ⟨_, rfl⟩ ?_
        refine f_iload_n C0 dL_law_836 rfl 3 rfl ?_
        refine f_iconst (v := 1) C0 dL_law_837 rfl ?_
        refine f_iadd C0 dL_law_838 ?_
        obtain ⟨h199, hw⟩ := hw
        refine f_xld C0 hZ h199 dL_law_839 ?_
        refine f_aload_n C0 dL_law_840 rfl 0 rfl ⟨_, rfl⟩ ?_
        refine f_iload_n C0 dL_law_841 rfl 3 rfl ?_
        refine f_iconst (v := 2) C0 dL_law_842 rfl ?_
        refine f_iadd C0 dL_law_843 ?_
        obtain ⟨h200, hw⟩ := hw
        refine f_xld C0 hZ h200 dL_law_844 ?_
        refine f_aload_n C0 dL_law_845 rfl 0 rfl ⟨_, rfl⟩ ?_
        refine f_iload_n C0 dL_law_846 rfl 3 rfl ?_
        refine f_iconst (v := 3) C0 dL_law_847 rfl ?_
        refine f_iadd C0 dL_law_848 ?_
        obtain ⟨h201, hw⟩ := hw
        refine f_xld C0 hZ h201 dL_law_849 ?_
        refine f_callVi (As := [.int (Q.2 (x3 + 1).toNatClampNeg), .int (Q.2 (x3 + 2).toNatClampNeg), .int (Q.2 (x3 + 3).toNatClampNeg)]) (rest := []) C0 (m_X10_told hw) cw_L_96 kn_211 (by decide) rfl rfl ⟨(Nat.le_of_ble_eq_true rfl), (Nat.le_of_ble_eq_true rfl)⟩ rfl rfl (Nat.le_of_ble_eq_true rfl) dL_law_850 ?_
        intro r202 d203 l204 hw
        refine f_pop C0 dL_law_853 rfl ?_
        refine f_goto (tgt := 1094) C0 dL_law_854 (by decide) ?_
        refine f_iinc (lo' := [(3, .int (x3 + 6)), (0, .ref b), (1, rf g 0), (2, rf g 211)]) C0 dL_law_1094 3 rfl rfl (by decide) rfl ?_
        refine f_goto (tgt := 18) C0 dL_law_1097 (by decide) ?_
        refine f_sub [1, 2, 3, 0] rfl ?_
        exact hK18 _ _ _ hw
      · have hw := hw.2.2.2.2.2.2.2.2.2.2.2.2.2.2.2.2.2.2.2.1 h283
        refine f_tableAt (w := 19) (tgt := 857) C0 dL_law_33 h283 (by decide) (by decide) rfl (by decide) ?_
        refine f_aload_n C0 dL_law_857 rfl 1 rfl ⟨_, rfl⟩ ?_
        refine f_aload_n C0 dL_law_858 rfl 0 rfl ⟨_, rfl⟩ ?_
        refine f_iload_n C0 dL_law_859 rfl 3 rfl ?_
        refine f_iconst (v := 1) C0 dL_law_860 rfl ?_
        refine f_iadd C0 dL_law_861 ?_
        obtain ⟨h205, hw⟩ := hw
        refine f_xld C0 hZ h205 dL_law_862 ?_
        refine f_callVi (As := [.int (Q.2 (x3 + 1).toNatClampNeg)]) (rest := []) C0 (m_X9_again hw) cw_L_97 kn_0 (by decide) rfl rfl ⟨(Nat.le_of_ble_eq_true rfl), (Nat.le_of_ble_eq_true rfl)⟩ rfl rfl (Nat.le_of_ble_eq_true rfl) dL_law_863 ?_
        intro r206 d207 l208 hw
        refine f_pop C0 dL_law_866 rfl ?_
        refine f_aload_n C0 dL_law_867 rfl 2 rfl ⟨_, rfl⟩ ?_
        refine f_aload_n C0 dL_law_868 rfl 0 rfl ⟨_, rfl⟩ ?_
        refine f_iload_n C0 dL_law_869 rfl 3 rfl ?_
        refine f_iconst (v := 1) C0 dL_law_870 rfl ?_
        refine f_iadd C0 dL_law_871 ?_
        obtain ⟨h209, hw⟩ := hw
        refine f_xld C0 hZ h209 dL_law_872 ?_
        refine f_callVi (As := [.int (Q.2 (x3 + 1).toNatClampNeg)]) (rest := []) C0 (m_X10_again hw) cw_L_100 kn_211 (by decide) rfl rfl ⟨(Nat.le_of_ble_eq_true rfl), (Nat.le_of_ble_eq_true rfl)⟩ rfl rfl (Nat.le_of_ble_eq_true rfl) dL_law_873 ?_
        intro r210 d211 l212 hw
        refine f_pop C0 dL_law_876 rfl ?_
        refine f_goto (tgt := 1094) C0 dL_law_877 (by decide) ?_
        refine f_iinc (lo' := [(3, .int (x3 + 6)), (0, .ref b), (1, rf g 0), (2, rf g 211)]) C0 dL_law_1094 3 rfl rfl (by decide) rfl ?_
        refine f_goto (tgt := 18) C0 dL_law_1097 (by decide) ?_
        refine f_sub [1, 2, 3, 0] rfl ?_
        exact hK18 _ _ _ hw
      · have hw := hw.2.2.2.2.2.2.2.2.2.2.2.2.2.2.2.2.2.2.2.2.1 h283
        refine f_tableAt (w := 20) (tgt := 880) C0 dL_law_33 h283 (by decide) (by decide) rfl (by decide) ?_
        refine f_aload_n C0 dL_law_880 rfl 1 rfl ⟨_, rfl⟩ ?_
        refine f_aload_n C0 dL_law_881 rfl 0 rfl ⟨_, rfl⟩ ?_
        refine f_iload_n C0 dL_law_882 rfl 3 rfl ?_
        refine f_iconst (v := 1) C0 dL_law_883 rfl ?_
        refine f_iadd C0 dL_law_884 ?_
        obtain ⟨h213, hw⟩ := hw
        refine f_xld C0 hZ h213 dL_law_885 ?_
        refine f_aload_n C0 dL_law_886 rfl 0 rfl ⟨_, rfl⟩ ?_
        refine f_iload_n C0 dL_law_887 rfl 3 rfl ?_
        refine f_iconst (v := 2) C0 dL_law_888 rfl ?_
        refine f_iadd C0 dL_law_889 ?_
        obtain ⟨h214, hw⟩ := hw
        refine f_xld C0 hZ h214 dL_law_890 ?_
        refine f_callVi (As := [.int (Q.2 (x3 + 1).toNatClampNeg), .int (Q.2 (x3 + 2).toNatClampNeg)]) (rest := []) C0 (m_X9_strike hw) cw_L_101 kn_0 (by decide) rfl rfl ⟨(Nat.le_of_ble_eq_true rfl), (Nat.le_of_ble_eq_true rfl)⟩ rfl rfl (Nat.le_of_ble_eq_true rfl) dL_law_891 ?_
        intro r215 d216 l217 hw
        refine f_pop C0 dL_law_894 rfl ?_
        refine f_aload_n C0 dL_law_895 rfl 2 rfl ⟨_, rfl⟩ ?_
        refine f_aload_n C0 dL_law_896 rfl 0 rfl ⟨_, rfl⟩ ?_
        refine f_iload_n C0 dL_law_897 rfl 3 rfl ?_
        refine f_iconst (v := 1) C0 dL_law_898 rfl ?_
        refine f_iadd C0 dL_law_899 ?_
        obtain ⟨h218, hw⟩ := hw
        refine f_xld C0 hZ h218 dL_law_900 ?_
        refine f_aload_n C0 dL_law_901 rfl 0 rfl ⟨_, rfl⟩ ?_
        refine f_iload_n C0 dL_law_902 rfl 3 rfl ?_
        refine f_iconst (v := 2) C0 dL_law_903 rfl ?_
        refine f_iadd C0 dL_law_904 ?_
        obtain ⟨h219, hw⟩ := hw
        refine f_xld C0 hZ h219 dL_law_905 ?_
        refine f_callVi (As := [.int (Q.2 (x3 + 1).toNatClampNeg), .int (Q.2 (x3 + 2).toNatClampNeg)]) (rest := []) C0 (m_X10_strike hw) cw_L_104 kn_211 (by decide) rfl rfl ⟨(Nat.le_of_ble_eq_true rfl), (Nat.le_of_ble_eq_true rfl)⟩ rfl rfl (Nat.le_of_ble_eq_true rfl) dL_law_906 ?_
        intro r220 d221 l222 hw
        refine f_pop C0 dL_law_909 rfl ?_
        refine f_goto (tgt := 1094) C0 dL_law_910 (by decide) ?_
        refine f_iinc (lo' := [(3, .int (x3 + 6)), (0, .ref b), (1, rf g 0), (2, rf g 211)]) C0 dL_law_1094 3 rfl rfl (by decide) rfl ?_
        refine f_goto (tgt := 18) C0 dL_law_1097 (by decide) ?_
        refine f_sub [1, 2, 3, 0] rfl ?_
        exact hK18 _ _ _ hw
      · have hw := hw.2.2.2.2.2.2.2.2.2.2.2.2.2.2.2.2.2.2.2.2.2.1 h283
        refine f_tableAt (w := 21) (tgt := 913) C0 dL_law_33 h283 (by decide) (by decide) rfl (by decide) ?_
        refine f_aload_n C0 dL_law_913 rfl 1 rfl ⟨_, rfl⟩ ?_
        refine f_aload_n C0 dL_law_914 rfl 0 rfl ⟨_, rfl⟩ ?_
        refine f_iload_n C0 dL_law_915 rfl 3 rfl ?_
        refine f_iconst (v := 1) C0 dL_law_916 rfl ?_
        refine f_iadd C0 dL_law_917 ?_
        obtain ⟨h223, hw⟩ := hw
        refine f_xld C0 hZ h223 dL_law_918 ?_
        refine f_aload_n C0 dL_law_919 rfl 0 rfl ⟨_, rfl⟩ ?_
        refine f_iload_n C0 dL_law_920 rfl 3 rfl ?_
        refine f_iconst (v := 2) C0 dL_law_921 rfl ?_
        refine f_iadd C0 dL_law_922 ?_
        obtain ⟨h224, hw⟩ := hw
        refine f_xld C0 hZ h224 dL_law_923 ?_
        refine f_callVi (As := [.int (Q.2 (x3 + 1).toNatClampNeg), .int (Q.2 (x3 + 2).toNatClampNeg)]) (rest := []) C0 (m_X9_finalists hw) cw_L_105 kn_0 (by decide) rfl rfl ⟨(Nat.le_of_ble_eq_true rfl), (Nat.le_of_ble_eq_true rfl)⟩ rfl rfl (Nat.le_of_ble_eq_true rfl) dL_law_924 ?_
        intro r225 d226 l227 hw
        refine f_pop C0 dL_law_927 rfl ?_
        refine f_aload_n C0 dL_law_928 rfl 2 rfl ⟨_, rfl⟩ ?_
        refine f_aload_n C0 dL_law_929 rfl 0 rfl ⟨_, rfl⟩ ?_
        refine f_iload_n C0 dL_law_930 rfl 3 rfl ?_
        refine f_iconst (v := 1) C0 dL_law_931 rfl ?_
        refine f_iadd C0 dL_law_932 ?_
        obtain ⟨h228, hw⟩ := hw
        refine f_xld C0 hZ h228 dL_law_933 ?_
        refine f_aload_n C0 dL_law_934 rfl 0 rfl ⟨_, rfl⟩ ?_
        refine f_iload_n C0 dL_law_935 rfl 3 rfl ?_
        refine f_iconst (v := 2) C0 dL_law_936 rfl ?_
        refine f_iadd C0 dL_law_937 ?_
        obtain ⟨h229, hw⟩ := hw
        refine f_xld C0 hZ h229 dL_law_938 ?_
        refine f_callVi (As := [.int (Q.2 (x3 + 1).toNatClampNeg), .int (Q.2 (x3 + 2).toNatClampNeg)]) (rest := []) C0 (m_X10_finalists hw) cw_L_108 kn_211 (by decide) rfl rfl ⟨(Nat.le_of_ble_eq_true rfl), (Nat.le_of_ble_eq_true rfl)⟩ rfl rfl (Nat.le_of_ble_eq_true rfl) dL_law_939 ?_
        intro r230 d231 l232 hw
        refine f_pop C0 dL_law_942 rfl ?_
        refine f_goto (tgt := 1094) C0 dL_law_943 (by decide) ?_
        refine f_iinc (lo' := [(3, .int (x3 + 6)), (0, .ref b), (1, rf g 0), (2, rf g 211)]) C0 dL_law_1094 3 rfl rfl (by decide) rfl ?_
        refine f_goto (tgt := 18) C0 dL_law_1097 (by decide) ?_
        refine f_sub [1, 2, 3, 0] rfl ?_
        exact hK18 _ _ _ hw
      · have hw := hw.2.2.2.2.2.2.2.2.2.2.2.2.2.2.2.2.2.2.2.2.2.2.1 h283
        refine f_tableAt (w := 22) (tgt := 946) C0 dL_law_33 h283 (by decide) (by decide) rfl (by decide) ?_
        refine f_aload_n C0 dL_law_946 rfl 1 rfl ⟨_, rfl⟩ ?_
        refine f_aload_n C0 dL_law_947 rfl 0 rfl ⟨_, rfl⟩ ?_
        refine f_iload_n C0 dL_law_948 rfl 3 rfl ?_
        refine f_iconst (v := 1) C0 dL_law_949 rfl ?_
        refine f_iadd C0 dL_law_950 ?_
        obtain ⟨h233, hw⟩ := hw
        refine f_xld C0 hZ h233 dL_law_951 ?_
        refine f_callVi (As := [.int (Q.2 (x3 + 1).toNatClampNeg)]) (rest := []) C0 (m_X9_finalist hw) cw_L_109 kn_0 (by decide) rfl rfl ⟨(Nat.le_of_ble_eq_true rfl), (Nat.le_of_ble_eq_true rfl)⟩ rfl rfl (Nat.le_of_ble_eq_true rfl) dL_law_952 ?_
        intro r234 d235 l236 hw
        refine f_pop C0 dL_law_955 rfl ?_
        refine f_aload_n C0 dL_law_956 rfl 2 rfl ⟨_, rfl⟩ ?_
        refine f_aload_n C0 dL_law_957 rfl 0 rfl ⟨_, rfl⟩ ?_
        refine f_iload_n C0 dL_law_958 rfl 3 rfl ?_
        refine f_iconst (v := 1) C0 dL_law_959 rfl ?_
        refine f_iadd C0 dL_law_960 ?_
        obtain ⟨h237, hw⟩ := hw
        refine f_xld C0 hZ h237 dL_law_961 ?_
        refine f_callVi (As := [.int (Q.2 (x3 + 1).toNatClampNeg)]) (rest := []) C0 (m_X10_finalist hw) cw_L_112 kn_211 (by decide) rfl rfl ⟨(Nat.le_of_ble_eq_true rfl), (Nat.le_of_ble_eq_true rfl)⟩ rfl rfl (Nat.le_of_ble_eq_true rfl) dL_law_962 ?_
        intro r238 d239 l240 hw
        refine f_pop C0 dL_law_965 rfl ?_
        refine f_goto (tgt := 1094) C0 dL_law_966 (by decide) ?_
        refine f_iinc (lo' := [(3, .int (x3 + 6)), (0, .ref b), (1, rf g 0), (2, rf g 211)]) C0 dL_law_1094 3 rfl rfl (by decide) rfl ?_
        refine f_goto (tgt := 18) C0 dL_law_1097 (by decide) ?_
        refine f_sub [1, 2, 3, 0] rfl ?_
        exact hK18 _ _ _ hw
      · have hw := hw.2.2.2.2.2.2.2.2.2.2.2.2.2.2.2.2.2.2.2.2.2.2.2.1 h283
        refine f_tableAt (w := 23) (tgt := 969) C0 dL_law_33 h283 (by decide) (by decide) rfl (by decide) ?_
        refine f_aload_n C0 dL_law_969 rfl 1 rfl ⟨_, rfl⟩ ?_
        refine f_callVi (As := []) (rest := []) C0 (m_X9_slack hw) cw_L_113 kn_0 (by decide) rfl rfl ⟨(Nat.le_of_ble_eq_true rfl), (Nat.le_of_ble_eq_true rfl)⟩ rfl rfl (Nat.le_of_ble_eq_true rfl) dL_law_970 ?_
        intro r241 d242 l243 hw
        refine f_pop C0 dL_law_973 rfl ?_
        refine f_aload_n C0 dL_law_974 rfl 2 rfl ⟨_, rfl⟩ ?_
        refine f_callVi (As := []) (rest := []) C0 (m_X10_slack hw) cw_L_116 kn_211 (by decide) rfl rfl ⟨(Nat.le_of_ble_eq_true rfl), (Nat.le_of_ble_eq_true rfl)⟩ rfl rfl (Nat.le_of_ble_eq_true rfl) dL_law_975 ?_
        intro r244 d245 l246 hw
        refine f_pop C0 dL_law_978 rfl ?_
        refine f_goto (tgt := 1094) C0 dL_law_979 (by decide) ?_
        refine f_iinc (lo' := [(3, .int (x3 + 6)), (0, .ref b), (1, rf g 0), (2, rf g 211)]) C0 dL_law_1094 3 rfl rfl (by decide) rfl ?_
        refine f_goto (tgt := 18) C0 dL_law_1097 (by decide) ?_
        refine f_sub [1, 2, 3, 0] rfl ?_
        exact hK18 _ _ _ hw
      · have hw := hw.2.2.2.2.2.2.2.2.2.2.2.2.2.2.2.2.2.2.2.2.2.2.2.2.1 h283
        refine f_tableAt (w := 24) (tgt := 982) C0 dL_law_33 h283 (by decide) (by decide) rfl (by decide) ?_
        refine f_aload_n C0 dL_law_982 rfl 1 rfl ⟨_, rfl⟩ ?_
        refine f_aload_n C0 dL_law_983 rfl 0 rfl ⟨_, rfl⟩ ?_
        refine f_iload_n C0 dL_law_984 rfl 3 rfl ?_
        refine f_iconst (v := 1) C0 dL_law_985 rfl ?_
        refine f_iadd C0 dL_law_986 ?_
        obtain ⟨h247, hw⟩ := hw
        refine f_xld C0 hZ h247 dL_law_987 ?_
        refine f_aload_n C0 dL_law_988 rfl 0 rfl ⟨_, rfl⟩ ?_
        refine f_iload_n C0 dL_law_989 rfl 3 rfl ?_
        refine f_iconst (v := 2) C0 dL_law_990 rfl ?_
        refine f_iadd C0 dL_law_991 ?_
        obtain ⟨h248, hw⟩ := hw
        refine f_xld C0 hZ h248 dL_law_992 ?_
        refine f_aload_n C0 dL_law_993 rfl 0 rfl ⟨_, rfl⟩ ?_
        refine f_iload_n C0 dL_law_994 rfl 3 rfl ?_
        refine f_iconst (v := 3) C0 dL_law_995 rfl ?_
        refine f_iadd C0 dL_law_996 ?_
        obtain ⟨h249, hw⟩ := hw
        refine f_xld C0 hZ h249 dL_law_997 ?_
        refine f_callVl (As := [.int (Q.2 (x3 + 1).toNatClampNeg), .int (Q.2 (x3 + 2).toNatClampNeg), .int (Q.2 (x3 + 3).toNatClampNeg)]) (rest := []) C0 (m_X9_level hw) cw_L_117 kn_0 (by decide) rfl rfl ⟨(Nat.le_of_ble_eq_true rfl), (Nat.le_of_ble_eq_true rfl)⟩ rfl rfl (Nat.le_of_ble_eq_true rfl) dL_law_998 ?_
        intro r250 d251 l252 hw
        refine f_pop2 C0 dL_law_1001 rfl ?_
        refine f_aload_n C0 dL_law_1002 rfl 2 rfl ⟨_, rfl⟩ ?_
        refine f_aload_n C0 dL_law_1003 rfl 0 rfl ⟨_, rfl⟩ ?_
        refine f_iload_n C0 dL_law_1004 rfl 3 rfl ?_
        refine f_iconst (v := 1) C0 dL_law_1005 rfl ?_
        refine f_iadd C0 dL_law_1006 ?_
        obtain ⟨h253, hw⟩ := hw
        refine f_xld C0 hZ h253 dL_law_1007 ?_
        refine f_aload_n C0 dL_law_1008 rfl 0 rfl ⟨_, rfl⟩ ?_
        refine f_iload_n C0 dL_law_1009 rfl 3 rfl ?_
        refine f_iconst (v := 2) C0 dL_law_1010 rfl ?_
        refine f_iadd C0 dL_law_1011 ?_
        obtain ⟨h254, hw⟩ := hw
        refine f_xld C0 hZ h254 dL_law_1012 ?_
        refine f_aload_n C0 dL_law_1013 rfl 0 rfl ⟨_, rfl⟩ ?_
        refine f_iload_n C0 dL_law_1014 rfl 3 rfl ?_
        refine f_iconst (v := 3) C0 dL_law_1015 rfl ?_
        refine f_iadd C0 dL_law_1016 ?_
        obtain ⟨h255, hw⟩ := hw
        refine f_xld C0 hZ h255 dL_law_1017 ?_
        refine f_callVl (As := [.int (Q.2 (x3 + 1).toNatClampNeg), .int (Q.2 (x3 + 2).toNatClampNeg), .int (Q.2 (x3 + 3).toNatClampNeg)]) (rest := []) C0 (m_X10_level hw) cw_L_121 kn_211 (by decide) rfl rfl ⟨(Nat.le_of_ble_eq_true rfl), (Nat.le_of_ble_eq_true rfl)⟩ rfl rfl (Nat.le_of_ble_eq_true rfl) dL_law_1018 ?_
        intro r256 d257 l258 hw
        refine f_pop2 C0 dL_law_1021 rfl ?_
        refine f_goto (tgt := 1094) C0 dL_law_1022 (by decide) ?_
        refine f_iinc (lo' := [(3, .int (x3 + 6)), (0, .ref b), (1, rf g 0), (2, rf g 211)]) C0 dL_law_1094 3 rfl rfl (by decide) rfl ?_
        refine f_goto (tgt := 18) C0 dL_law_1097 (by decide) ?_
        refine f_sub [1, 2, 3, 0] rfl ?_
        exact hK18 _ _ _ hw
      · have hw := hw.2.2.2.2.2.2.2.2.2.2.2.2.2.2.2.2.2.2.2.2.2.2.2.2.2.1 h283
        refine f_tableAt (w := 25) (tgt := 1025) C0 dL_law_33 h283 (by decide) (by decide) rfl (by decide) ?_
        refine f_aload_n C0 dL_law_1025 rfl 1 rfl ⟨_, rfl⟩ ?_
        refine f_aload_n C0 dL_law_1026 rfl 0 rfl ⟨_, rfl⟩ ?_
        refine f_iload_n C0 dL_law_1027 rfl 3 rfl ?_
        refine f_iconst (v := 1) C0 dL_law_1028 rfl ?_
        refine f_iadd C0 dL_law_1029 ?_
        obtain ⟨h259, hw⟩ := hw
        refine f_xld C0 hZ h259 dL_law_1030 ?_
        refine f_callVi (As := [.int (Q.2 (x3 + 1).toNatClampNeg)]) (rest := []) C0 (m_X9_points hw) cw_L_122 kn_0 (by decide) rfl rfl ⟨(Nat.le_of_ble_eq_true rfl), (Nat.le_of_ble_eq_true rfl)⟩ rfl rfl (Nat.le_of_ble_eq_true rfl) dL_law_1031 ?_
        intro r260 d261 l262 hw
        refine f_pop C0 dL_law_1034 rfl ?_
        refine f_aload_n C0 dL_law_1035 rfl 2 rfl ⟨_, rfl⟩ ?_
        refine f_aload_n C0 dL_law_1036 rfl 0 rfl ⟨_, rfl⟩ ?_
        refine f_iload_n C0 dL_law_1037 rfl 3 rfl ?_
        refine f_iconst (v := 1) C0 dL_law_1038 rfl ?_
        refine f_iadd C0 dL_law_1039 ?_
        obtain ⟨h263, hw⟩ := hw
        refine f_xld C0 hZ h263 dL_law_1040 ?_
        refine f_callVi (As := [.int (Q.2 (x3 + 1).toNatClampNeg)]) (rest := []) C0 (m_X10_points hw) cw_L_125 kn_211 (by decide) rfl rfl ⟨(Nat.le_of_ble_eq_true rfl), (Nat.le_of_ble_eq_true rfl)⟩ rfl rfl (Nat.le_of_ble_eq_true rfl) dL_law_1041 ?_
        intro r264 d265 l266 hw
        refine f_pop C0 dL_law_1044 rfl ?_
        refine f_goto (tgt := 1094) C0 dL_law_1045 (by decide) ?_
        refine f_iinc (lo' := [(3, .int (x3 + 6)), (0, .ref b), (1, rf g 0), (2, rf g 211)]) C0 dL_law_1094 3 rfl rfl (by decide) rfl ?_
        refine f_goto (tgt := 18) C0 dL_law_1097 (by decide) ?_
        refine f_sub [1, 2, 3, 0] rfl ?_
        exact hK18 _ _ _ hw
      · have hw := hw.2.2.2.2.2.2.2.2.2.2.2.2.2.2.2.2.2.2.2.2.2.2.2.2.2.2.1 h283
        refine f_tableAt (w := 26) (tgt := 1048) C0 dL_law_33 h283 (by decide) (by decide) rfl (by decide) ?_
        refine f_aload_n C0 dL_law_1048 rfl 1 rfl ⟨_, rfl⟩ ?_
        refine f_aload_n C0 dL_law_1049 rfl 0 rfl ⟨_, rfl⟩ ?_
        refine f_iload_n C0 dL_law_1050 rfl 3 rfl ?_
        refine f_iconst (v := 1) C0 dL_law_1051 rfl ?_
        refine f_iadd C0 dL_law_1052 ?_
        obtain ⟨h267, hw⟩ := hw
        refine f_xld C0 hZ h267 dL_law_1053 ?_
        refine f_callVi (As := [.int (Q.2 (x3 + 1).toNatClampNeg)]) (rest := []) C0 (m_X9_table hw) cw_L_126 kn_0 (by decide) rfl rfl ⟨(Nat.le_of_ble_eq_true rfl), (Nat.le_of_ble_eq_true rfl)⟩ rfl rfl (Nat.le_of_ble_eq_true rfl) dL_law_1054 ?_
        intro r268 d269 l270 hw
        refine f_pop C0 dL_law_1057 rfl ?_
        refine f_aload_n C0 dL_law_1058 rfl 2 rfl ⟨_, rfl⟩ ?_
        refine f_aload_n C0 dL_law_1059 rfl 0 rfl ⟨_, rfl⟩ ?_
        refine f_iload_n C0 dL_law_1060 rfl 3 rfl ?_
        refine f_iconst (v := 1) C0 dL_law_1061 rfl ?_
        refine f_iadd C0 dL_law_1062 ?_
        obtain ⟨h271, hw⟩ := hw
        refine f_xld C0 hZ h271 dL_law_1063 ?_
        refine f_callVi (As := [.int (Q.2 (x3 + 1).toNatClampNeg)]) (rest := []) C0 (m_X10_table hw) cw_L_129 kn_211 (by decide) rfl rfl ⟨(Nat.le_of_ble_eq_true rfl), (Nat.le_of_ble_eq_true rfl)⟩ rfl rfl (Nat.le_of_ble_eq_true rfl) dL_law_1064 ?_
        intro r272 d273 l274 hw
        refine f_pop C0 dL_law_1067 rfl ?_
        refine f_goto (tgt := 1094) C0 dL_law_1068 (by decide) ?_
        refine f_iinc (lo' := [(3, .int (x3 + 6)), (0, .ref b), (1, rf g 0), (2, rf g 211)]) C0 dL_law_1094 3 rfl rfl (by decide) rfl ?_
        refine f_goto (tgt := 18) C0 dL_law_1097 (by decide) ?_
        refine f_sub [1, 2, 3, 0] rfl ?_
        exact hK18 _ _ _ hw
      · have hw := hw.2.2.2.2.2.2.2.2.2.2.2.2.2.2.2.2.2.2.2.2.2.2.2.2.2.2.2.1 h283
        refine f_tableAt (w := 27) (tgt := 1071) C0 dL_law_33 h283 (by decide) (by decide) rfl (by decide) ?_
        refine f_aload_n C0 dL_law_1071 rfl 1 rfl ⟨_, rfl⟩ ?_
        refine f_aload_n C0 dL_law_1072 rfl 0 rfl ⟨_, rfl⟩ ?_
        refine f_iload_n C0 dL_law_1073 rfl 3 rfl ?_
        refine f_iconst (v := 1) C0 dL_law_1074 rfl ?_
        refine f_iadd C0 dL_law_1075 ?_
        obtain ⟨h275, hw⟩ := hw
        refine f_xld C0 hZ h275 dL_law_1076 ?_
        refine f_callVi (As := [.int (Q.2 (x3 + 1).toNatClampNeg)]) (rest := []) C0 (m_X9_count hw) cw_L_130 kn_0 (by decide) rfl rfl ⟨(Nat.le_of_ble_eq_true rfl), (Nat.le_of_ble_eq_true rfl)⟩ rfl rfl (Nat.le_of_ble_eq_true rfl) dL_law_1077 ?_
        intro r276 d277 l278 hw
        refine f_pop C0 dL_law_1080 rfl ?_
        refine f_aload_n C0 dL_law_1081 rfl 2 rfl ⟨_, rfl⟩ ?_
        refine f_aload_n C0 dL_law_1082 rfl 0 rfl ⟨_, rfl⟩ ?_
        refine f_iload_n C0 dL_law_1083 rfl 3 rfl ?_
        refine f_iconst (v := 1) C0 dL_law_1084 rfl ?_
        refine f_iadd C0 dL_law_1085 ?_
        obtain ⟨h279, hw⟩ := hw
        refine f_xld C0 hZ h279 dL_law_1086 ?_
        refine f_callVi (As := [.int (Q.2 (x3 + 1).toNatClampNeg)]) (rest := []) C0 (m_X10_count hw) cw_L_133 kn_211 (by decide) rfl rfl ⟨(Nat.le_of_ble_eq_true rfl), (Nat.le_of_ble_eq_true rfl)⟩ rfl rfl (Nat.le_of_ble_eq_true rfl) dL_law_1087 ?_
        intro r280 d281 l282 hw
        refine f_pop C0 dL_law_1090 rfl ?_
        refine f_goto (tgt := 1094) C0 dL_law_1091 (by decide) ?_
        refine f_iinc (lo' := [(3, .int (x3 + 6)), (0, .ref b), (1, rf g 0), (2, rf g 211)]) C0 dL_law_1094 3 rfl rfl (by decide) rfl ?_
        refine f_goto (tgt := 18) C0 dL_law_1097 (by decide) ?_
        refine f_sub [1, 2, 3, 0] rfl ?_
        exact hK18 _ _ _ hw
