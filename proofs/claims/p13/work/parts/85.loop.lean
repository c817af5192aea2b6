theorem ofn {L : Nat} (h : L ≤ 3072) : (Int32.ofNat L).toInt = (L : Int) := by
  first
    | exact Int32.toInt_ofNat_of_lt (by omega)
    | (rw [Int32.toInt_ofNat']; exact bm (by omega) (by omega))
set_option maxHeartbeats 4000000 in
set_option maxRecDepth 100000 in
theorem law_loop {n : Nat} (hn : 1000000000 ≤ n) {L : Nat} {xs : Nat → Int32} (hL : L ≤ 3072) : ∀ (j : Nat) (x3 : Int32) (d : DD) (dl : LL), R0 d dl → 0 ≤ x3.toInt → x3.toInt ≤ (L : Int) → (L : Int) + 6 ≤ x3.toInt + 6 * (j : Int) → b_L_law_18 n (L, xs) j x3 d dl := by
  intro j
  induction j with
  | zero =>
    intro x3 d dl hR h0 h1 h2
    exfalso
    omega
  | succ j hK =>
    intro x3 d dl hR h0 h1 h2
    show _ ∧ _
    refine ⟨fun _ => trivial, fun hc => ?_⟩
    have tl : ((Int32.ofNat L) - 6).toInt = (L : Int) - 6 := ti_sub (ofn hL) (rfl : (6 : Int32).toInt = 6) (by omega) (by omega)
    have hc : ¬ ((L : Int) - 6 < x3.toInt) := fun q => hc ((i_lt tl rfl).mpr q)
    have i0 : vp_in x3 L := vin rfl (by omega) (by omega)
    have t1 : (x3 + 1).toInt = x3.toInt + 1 := ti_add rfl (rfl : (1 : Int32).toInt = 1) (by omega) (by omega)
    have t2 : (x3 + 2).toInt = x3.toInt + 2 := ti_add rfl (rfl : (2 : Int32).toInt = 2) (by omega) (by omega)
    have t3 : (x3 + 3).toInt = x3.toInt + 3 := ti_add rfl (rfl : (3 : Int32).toInt = 3) (by omega) (by omega)
    have t4 : (x3 + 4).toInt = x3.toInt + 4 := ti_add rfl (rfl : (4 : Int32).toInt = 4) (by omega) (by omega)
    have t5 : (x3 + 5).toInt = x3.toInt + 5 := ti_add rfl (rfl : (5 : Int32).toInt = 5) (by omega) (by omega)
    have t6 : (x3 + 6).toInt = x3.toInt + 6 := ti_add rfl (rfl : (6 : Int32).toInt = 6) (by omega) (by omega)
    have i1 : vp_in (x3 + 1) L := vin t1 (by omega) (by omega)
    have i2 : vp_in (x3 + 2) L := vin t2 (by omega) (by omega)
    have i3 : vp_in (x3 + 3) L := vin t3 (by omega) (by omega)
    have i4 : vp_in (x3 + 4) L := vin t4 (by omega) (by omega)
    have i5 : vp_in (x3 + 5) L := vin t5 (by omega) (by omega)
    have hK : ∀ (d : DD) (dl : LL), R0 d dl → b_L_law_18 n (L, xs) j (x3 + 6) d dl := fun d dl hR => hK _ _ _ hR (by rw [t6]; omega) (by rw [t6]; omega) (by rw [t6]; omega)
    clear t1 t2 t3 t4 t5 t6 tl
    refine ⟨i0, ?_⟩
    intro v3 e3
    refine ⟨fun _ => ?_, fun _ => ?_, fun _ => ?_, fun _ => ?_, fun _ => ?_, fun _ => ?_, fun _ => ?_, fun _ => ?_, fun _ => ?_, fun _ => ?_, fun _ => ?_, fun _ => ?_, fun _ => ?_, fun _ => ?_, fun _ => ?_, fun _ => ?_, fun _ => ?_, fun _ => ?_, fun _ => ?_, fun _ => ?_, fun _ => ?_, fun _ => ?_, fun _ => ?_, fun _ => ?_, fun _ => ?_, fun _ => ?_, fun _ => ?_, fun _ => ?_, fun _ => ?_⟩
    · refine ⟨i1, i2, i3, i4, i5, ?_⟩
      refine sp_X9_paddler hn hR.1 (fun r1 d1 l1 ⟨p1, q1⟩ => ?_)
      have I1 := p1.1
      refine ⟨i1, i2, i3, i4, i5, ?_⟩
      refine sp_X10_paddler hn I1 (fun r2 d2 l2 ⟨p2, q2⟩ => ?_)
      have R2 := pad_step hR p1 q1 p2 q2
      exact hK _ _ R2.1
    · refine ⟨i1, i2, i3, ?_⟩
      refine sp_X9_like hn hR.1 (fun r1 d1 l1 ⟨p1, q1⟩ => ?_)
      have I1 := p1.1
      refine ⟨i1, i2, i3, ?_⟩
      refine sp_X10_like hn I1 (fun r2 d2 l2 ⟨p2, q2⟩ => ?_)
      have R2 := like_step hR p1 q1 p2 q2
      exact hK _ _ R2.1
    · refine ⟨i1, i2, ?_⟩
      refine sp_X9_crew hn hR.1 (fun r1 d1 l1 ⟨p1, q1⟩ => ?_)
      have I1 := p1.1
      refine ⟨i1, i2, ?_⟩
      refine sp_X10_crew hn I1 (fun r2 d2 l2 ⟨p2, q2⟩ => ?_)
      have R2 := crew_step hR p1 q1 p2 q2
      exact hK _ _ R2.1
    · refine ⟨i1, i2, ?_⟩
      refine sp_X9_join hn hR.1 (fun r1 d1 l1 ⟨p1, q1⟩ => ?_)
      have I1 := p1.1
      refine ⟨i1, i2, ?_⟩
      refine sp_X10_join hn I1 (fun r2 d2 l2 ⟨p2, q2⟩ => ?_)
      have R2 := join_step hR p1 q1 p2 q2
      exact hK _ _ R2.1
    · refine ⟨i1, i2, ?_⟩
      refine sp_X9_beat hn hR.1 (fun r1 d1 l1 ⟨p1, q1⟩ => ?_)
      have I1 := p1.1
      refine ⟨i1, i2, ?_⟩
      refine sp_X10_beat hn I1 (fun r2 d2 l2 ⟨p2, q2⟩ => ?_)
      have R2 := beat_step hR p1 q1 p2 q2
      exact hK _ _ R2.1
    · refine ⟨i1, ?_⟩
      refine sp_X9_seatS hn hR.1 (fun r1 d1 l1 ⟨p1, q1⟩ => ?_)
      have I1 := p1.1
      refine ⟨i1, ?_⟩
      have spr := seat_pre hR p1
      refine sp_X10_seatS hn I1 spr.1 spr.2 (fun r2 d2 l2 ⟨p2, q2⟩ => ?_)
      have q2 : Rok d1 → Sym d1 → SeatQ10 d1 d2 _ r2 := fun _ _ => q2
      have R2 := seat_step hR p1 q1 p2 q2
      exact hK _ _ R2.1
    · refine ⟨i1, i2, i3, ?_⟩
      refine sp_X9_sitsF hn hR.1 (fun r1 d1 l1 ⟨p1, q1⟩ => ?_)
      have I1 := p1.1
      refine ⟨i1, i2, i3, ?_⟩
      refine sp_X10_sitsF hn I1 (fun r2 d2 l2 ⟨p2, q2⟩ => ?_)
      have R2 := sits_step hR p1 q1 p2 q2
      exact hK _ _ R2.1
    · refine ⟨i1, i2, ?_⟩
      refine sp_X9_trimF hn hR.1 (fun r1 d1 l1 ⟨p1, q1⟩ => ?_)
      have I1 := p1.1
      refine ⟨i1, i2, ?_⟩
      refine sp_X10_trimF hn I1 (fun r2 d2 l2 ⟨p2, q2⟩ => ?_)
      have R2 := trim_step hR p1 q1 p2 q2
      exact hK _ _ R2.1
    · refine ⟨i1, i2, i3, ?_⟩
      refine sp_X9_changeF hn hR.1 (fun r1 d1 l1 ⟨p1, q1⟩ => ?_)
      have I1 := p1.1
      refine ⟨i1, i2, i3, ?_⟩
      refine sp_X10_changeF hn I1 (fun r2 d2 l2 ⟨p2, q2⟩ => ?_)
      have R2 := change_step hR p1 q1 p2 q2
      exact hK _ _ R2.1
    · refine ⟨i1, i2, i3, ?_⟩
      refine sp_X9_feed hn hR.1 (fun r1 d1 l1 ⟨p1, q1⟩ => ?_)
      have I1 := p1.1
      refine ⟨i1, i2, i3, ?_⟩
      refine sp_X10_feed hn I1 (fun r2 d2 l2 ⟨p2, q2⟩ => ?_)
      have R2 := feed_step hR p1 q1 p2 q2
      exact hK _ _ R2.1
    · refine sp_X9_rule hn hR.1 (fun r1 d1 l1 ⟨p1, q1⟩ => ?_)
      have I1 := p1.1
      refine sp_X10_rule hn I1 (fun r2 d2 l2 ⟨p2, q2⟩ => ?_)
      have R2 := rule_step hR p1 q1 p2 q2
      exact hK _ _ R2.1
    · refine ⟨i1, i2, ?_⟩
      refine sp_X9_keepsF hn hR.1 (fun r1 d1 l1 ⟨p1, q1⟩ => ?_)
      have I1 := p1.1
      refine ⟨i1, i2, ?_⟩
      refine sp_X10_keepsF hn I1 (fun r2 d2 l2 ⟨p2, q2⟩ => ?_)
      have R2 := keeps_step hR p1 q1 p2 q2
      exact ⟨fun _ => hK _ _ R2.1, fun q => q R2.2⟩
    · refine ⟨i1, ?_⟩
      refine sp_X9_rest hn hR.1 (fun r1 d1 l1 ⟨p1, q1⟩ => ?_)
      have I1 := p1.1
      refine ⟨i1, ?_⟩
      refine sp_X10_rest hn I1 (fun r2 d2 l2 ⟨p2, q2⟩ => ?_)
      have R2 := rest_step hR p1 q1.2.2 p2 q2.2.2
      exact hK _ _ R2.1
    · refine ⟨i1, i2, ?_⟩
      refine sp_X9_lane hn hR.1 (fun r1 d1 l1 ⟨p1, q1⟩ => ?_)
      have I1 := p1.1
      refine ⟨i1, i2, ?_⟩
      refine sp_X10_lane hn I1 (fun r2 d2 l2 ⟨p2, q2⟩ => ?_)
      have R2 := lane_step hR p1 q1 p2 q2
      exact hK _ _ R2.1
    · refine ⟨i1, i2, ?_⟩
      refine sp_X9_race hn hR.1 (fun r1 d1 l1 ⟨p1, q1⟩ => ?_)
      have I1 := p1.1
      refine ⟨i1, i2, ?_⟩
      refine sp_X10_race hn I1 (fun r2 d2 l2 ⟨p2, q2⟩ => ?_)
      have R2 := race_step hR p1 q1 p2 q2
      exact hK _ _ R2.1
    · refine ⟨i1, i2, ?_⟩
      refine sp_X9_current hn hR.1 (fun r1 d1 l1 ⟨p1, q1⟩ => ?_)
      have I1 := p1.1
      refine ⟨i1, i2, ?_⟩
      refine sp_X10_current hn I1 (fun r2 d2 l2 ⟨p2, q2⟩ => ?_)
      have R2 := cur_step hR p1 q1 p2 q2
      exact hK _ _ R2.1
    · refine ⟨i1, i2, ?_⟩
      refine sp_X9_run hn hR.1 (fun r1 d1 l1 ⟨p1, q1⟩ => ?_)
      have R1 := hR.st p1
      have I1 := R1.1
      refine ⟨i1, i2, ?_⟩
      refine sp_X10_run hn I1 (fun r2 d2 l2 ⟨p2, q2⟩ => ?_)
      exact hK _ _ (R1.st p2)
    · refine ⟨i1, i2, i3, ?_⟩
      refine sp_X9_time hn hR.1 (fun r1 d1 l1 ⟨p1, q1⟩ => ?_)
      have R1 := hR.st p1
      have I1 := R1.1
      refine ⟨i1, i2, i3, ?_⟩
      refine sp_X10_time hn I1 (fun r2 d2 l2 ⟨p2, q2⟩ => ?_)
      exact hK _ _ (R1.st p2)
    · refine ⟨i1, i2, i3, ?_⟩
      refine sp_X9_told hn hR.1 (fun r1 d1 l1 ⟨p1, q1⟩ => ?_)
      have R1 := hR.sq p1
      have I1 := R1.1
      refine ⟨i1, i2, i3, ?_⟩
      refine sp_X10_told hn I1 (fun r2 d2 l2 ⟨p2, q2⟩ => ?_)
      exact hK _ _ (R1.sq p2)
    · refine ⟨i1, ?_⟩
      refine sp_X9_again hn hR.1 (fun r1 d1 l1 ⟨p1, q1⟩ => ?_)
      have R1 := hR.st p1
      have I1 := R1.1
      refine ⟨i1, ?_⟩
      refine sp_X10_again hn I1 (fun r2 d2 l2 ⟨p2, q2⟩ => ?_)
      exact hK _ _ (R1.st p2)
    · refine ⟨i1, i2, ?_⟩
      refine sp_X9_strike hn hR.1 (fun r1 d1 l1 ⟨p1, q1⟩ => ?_)
      have R1 := hR.st p1
      have I1 := R1.1
      refine ⟨i1, i2, ?_⟩
      refine sp_X10_strike hn I1 (fun r2 d2 l2 ⟨p2, q2⟩ => ?_)
      exact hK _ _ (R1.st p2)
    · refine ⟨i1, i2, ?_⟩
      refine sp_X9_finalists hn hR.1 (fun r1 d1 l1 ⟨p1, q1⟩ => ?_)
      have R1 := hR.st p1
      have I1 := R1.1
      refine ⟨i1, i2, ?_⟩
      refine sp_X10_finalists hn I1 (fun r2 d2 l2 ⟨p2, q2⟩ => ?_)
      exact hK _ _ (R1.st p2)
    · refine ⟨i1, ?_⟩
      refine sp_X9_finalist hn hR.1 (fun r1 d1 l1 ⟨p1, q1⟩ => ?_)
      have R1 := hR.sq p1
      have I1 := R1.1
      refine ⟨i1, ?_⟩
      refine sp_X10_finalist hn I1 (fun r2 d2 l2 ⟨p2, q2⟩ => ?_)
      exact hK _ _ (R1.sq p2)
    · refine sp_X9_slackF hn hR.1 (fun r1 d1 l1 ⟨p1, q1⟩ => ?_)
      have I1 := p1.1
      refine sp_X10_slackF hn I1 (fun r2 d2 l2 ⟨p2, q2⟩ => ?_)
      have R2 := slack_step hR p1 q1 p2 q2
      exact hK _ _ R2.1
    · refine ⟨i1, i2, i3, ?_⟩
      refine sp_X9_level hn hR.1 (fun r1 d1 l1 ⟨p1, q1⟩ => ?_)
      have R1 := hR.sq p1
      have I1 := R1.1
      refine ⟨i1, i2, i3, ?_⟩
      refine sp_X10_level hn I1 (fun r2 d2 l2 ⟨p2, q2⟩ => ?_)
      exact hK _ _ (R1.st p2)
    · refine ⟨i1, ?_⟩
      refine sp_X9_points hn hR.1 (fun r1 d1 l1 ⟨p1, q1⟩ => ?_)
      have R1 := hR.sq p1
      have I1 := R1.1
      refine ⟨i1, ?_⟩
      refine sp_X10_points hn I1 (fun r2 d2 l2 ⟨p2, q2⟩ => ?_)
      exact hK _ _ (R1.sq p2)
    · refine ⟨i1, ?_⟩
      refine sp_X9_table hn hR.1 (fun r1 d1 l1 ⟨p1, q1⟩ => ?_)
      have R1 := hR.sq p1
      have I1 := R1.1
      refine ⟨i1, ?_⟩
      refine sp_X10_table hn I1 (fun r2 d2 l2 ⟨p2, q2⟩ => ?_)
      exact hK _ _ (R1.sq p2)
    · refine ⟨i1, ?_⟩
      refine sp_X9_count hn hR.1 (fun r1 d1 l1 ⟨p1, q1⟩ => ?_)
      have R1 := hR.sq p1
      have I1 := R1.1
      refine ⟨i1, ?_⟩
      refine sp_X10_count hn I1 (fun r2 d2 l2 ⟨p2, q2⟩ => ?_)
      exact hK _ _ (R1.sq p2)
    · exact hK _ _ hR
theorem whole_start {p : Program} {e : Env} {s : State} {m : MethodId} {below : List Frame} {meth : Method} {c : Code} (l : Launch) {b L : Nat} {xs : Nat → Int32} (hL : L ≤ 3072) (C0 : lw_At p s m meth c b L xs) : W p l e room_1 s m #[Value.ref b] below meth c s.heap [] 0 0 (lw_Z below #[Value.ref b] s) (entryFrame m ([Value.ref b] : List Value).toArray 4) :=
  start_of l C0 (n := 1000000000) (law_loop (Nat.le_refl _) hL _ _ _ _ R0_d0 (by decide) (by show (0 : Int) ≤ (L : Int); omega) (by show (L : Int) + 6 ≤ 0 + 6 * ((1000000000 : Nat) : Int); omega))
