section FFIELDS
variable {g : Ex} {x : Fx} {cc : ByteArray} {nL fr lc pc : Nat} {ret : Option FieldType} {own : String} {d : DD} {dl : LL} {lo : List (Nat × Value)} {st : List Value}
theorem gf_0_0 (C0 : Cx g x cc nL ret own fr lc) {i index : Nat} (hi : KD i 0) (hw : Cond.fieldLink own index "DrumBoats$Course" "hundredths" "I" ∈ GW) (hd : decode cc pc = .ok (.getfield index, 3)) (h : FW g x nL d dl (pc + 3) lo (.int (d i 0) :: st)) : FW g x nL d dl pc lo (rf g i :: st) := by
  obtain ⟨⟨p, e, R, s, m⟩, ⟨args, below, meth, c⟩, ⟨A, nc, ns, Z⟩⟩ := x
  obtain ⟨l, dC, dI, ad, cA, sa, sv, vf⟩ := g
  obtain ⟨hx, hb, hr, hml, hown, hts, hlk, hK, hD0, hA, hE, hfr, hlc, hnc, hns⟩ := C0
  intro H locs ls hP hS hl
  exact va_get (D := (dC, dI)) (ci := 0) (C := RX0) (T := TX0) (N := 2) hx hb hts inX0 hown hK hP i (at_0 hi.1 hi.2) rfl 0 (by decide) (hts _ hw) (fun _ h9 => h9) rfl hd (h H locs ls hP hS hl)
theorem pf_0_0 (C0 : Cx g x cc nL ret own fr lc) {i index : Nat} {v : Int32} (hi : KD i 0) (hw : Cond.fieldLink own index "DrumBoats$Course" "hundredths" "I" ∈ GW) (hd : decode cc pc = .ok (.putfield index, 3)) (h : ∀ e : DD, e = u2 d i 0 v → FW g x nL e dl (pc + 3) lo st) : FW g x nL d dl pc lo (.int v :: rf g i :: st) := by
  obtain ⟨⟨p, e, R, s, m⟩, ⟨args, below, meth, c⟩, ⟨A, nc, ns, Z⟩⟩ := x
  obtain ⟨l, dC, dI, ad, cA, sa, sv, vf⟩ := g
  obtain ⟨hx, hb, hr, hml, hown, hts, hlk, hK, hD0, hA, hE, hfr, hlc, hnc, hns⟩ := C0
  intro H locs ls hP hS hl
  refine va_put (D := (dC, dI)) (ci := 0) (ty := .int) (C := RX0) (T := TX0) (N := 2) hx hb hts inX0 tyX0 tyX0_ok nmX0 hown hK hP (D_any hD0) hS i (at_0 hi.1 hi.2) rfl 0 (by decide) (hts _ hw) (fun _ h9 => h9) rfl (by decide +kernel) rfl rfl (Nat.le_of_ble_eq_true rfl) hd (fun H locs hP hD hS => ?_)
  rw [put_0_0 v hi.1 hi.2] at hP
  exact h _ rfl H locs ls hP hS hl
theorem gf_0_1 (C0 : Cx g x cc nL ret own fr lc) {i index : Nat} (hi : KD i 0) (hw : Cond.fieldLink own index "DrumBoats$Course" "gone" "I" ∈ GW) (hd : decode cc pc = .ok (.getfield index, 3)) (h : FW g x nL d dl (pc + 3) lo (.int (d i 1) :: st)) : FW g x nL d dl pc lo (rf g i :: st) := by
  obtain ⟨⟨p, e, R, s, m⟩, ⟨args, below, meth, c⟩, ⟨A, nc, ns, Z⟩⟩ := x
  obtain ⟨l, dC, dI, ad, cA, sa, sv, vf⟩ := g
  obtain ⟨hx, hb, hr, hml, hown, hts, hlk, hK, hD0, hA, hE, hfr, hlc, hnc, hns⟩ := C0
  intro H locs ls hP hS hl
  exact va_get (D := (dC, dI)) (ci := 0) (C := RX0) (T := TX0) (N := 2) hx hb hts inX0 hown hK hP i (at_0 hi.1 hi.2) rfl 1 (by decide) (hts _ hw) (fun _ h9 => h9) rfl hd (h H locs ls hP hS hl)
theorem pf_0_1 (C0 : Cx g x cc nL ret own fr lc) {i index : Nat} {v : Int32} (hi : KD i 0) (hw : Cond.fieldLink own index "DrumBoats$Course" "gone" "I" ∈ GW) (hd : decode cc pc = .ok (.putfield index, 3)) (h : ∀ e : DD, e = u2 d i 1 v → FW g x nL e dl (pc + 3) lo st) : FW g x nL d dl pc lo (.int v :: rf g i :: st) := by
  obtain ⟨⟨p, e, R, s, m⟩, ⟨args, below, meth, c⟩, ⟨A, nc, ns, Z⟩⟩ := x
  obtain ⟨l, dC, dI, ad, cA, sa, sv, vf⟩ := g
  obtain ⟨hx, hb, hr, hml, hown, hts, hlk, hK, hD0, hA, hE, hfr, hlc, hnc, hns⟩ := C0
  intro H locs ls hP hS hl
  refine va_put (D := (dC, dI)) (ci := 0) (ty := .int) (C := RX0) (T := TX0) (N := 2) hx hb hts inX0 tyX0 tyX0_ok nmX0 hown hK hP (D_any hD0) hS i (at_0 hi.1 hi.2) rfl 1 (by decide) (hts _ hw) (fun _ h9 => h9) rfl (by decide +kernel) rfl rfl (Nat.le_of_ble_eq_true rfl) hd (fun H locs hP hD hS => ?_)
  rw [put_0_1 v hi.1 hi.2] at hP
  exact h _ rfl H locs ls hP hS hl
theorem gf_1_0 (C0 : Cx g x cc nL ret own fr lc) {i index : Nat} (hi : KD i 1) (hw : Cond.fieldLink own index "DrumBoats$Crew" "rows" "I" ∈ GW) (hd : decode cc pc = .ok (.getfield index, 3)) (h : FW g x nL d dl (pc + 3) lo (.int (d i 0) :: st)) : FW g x nL d dl pc lo (rf g i :: st) := by
  obtain ⟨⟨p, e, R, s, m⟩, ⟨args, below, meth, c⟩, ⟨A, nc, ns, Z⟩⟩ := x
  obtain ⟨l, dC, dI, ad, cA, sa, sv, vf⟩ := g
  obtain ⟨hx, hb, hr, hml, hown, hts, hlk, hK, hD0, hA, hE, hfr, hlc, hnc, hns⟩ := C0
  intro H locs ls hP hS hl
  exact va_get (D := (dC, dI)) (ci := 1) (C := RX1) (T := TX1) (N := 8) hx hb hts inX1 hown hK hP i (at_1 hi.1 hi.2) rfl 0 (by decide) (hts _ hw) (fun _ h9 => h9) rfl hd (h H locs ls hP hS hl)
theorem pf_1_0 (C0 : Cx g x cc nL ret own fr lc) {i index : Nat} {v : Int32} (hi : KD i 1) (hw : Cond.fieldLink own index "DrumBoats$Crew" "rows" "I" ∈ GW) (hd : decode cc pc = .ok (.putfield index, 3)) (h : ∀ e : DD, e = u2 d i 0 v → FW g x nL e dl (pc + 3) lo st) : FW g x nL d dl pc lo (.int v :: rf g i :: st) := by
  obtain ⟨⟨p, e, R, s, m⟩, ⟨args, below, meth, c⟩, ⟨A, nc, ns, Z⟩⟩ := x
  obtain ⟨l, dC, dI, ad, cA, sa, sv, vf⟩ := g
  obtain ⟨hx, hb, hr, hml, hown, hts, hlk, hK, hD0, hA, hE, hfr, hlc, hnc, hns⟩ := C0
  intro H locs ls hP hS hl
  refine va_put (D := (dC, dI)) (ci := 1) (ty := .int) (C := RX1) (T := TX1) (N := 8) hx hb hts inX1 tyX1 tyX1_ok nmX1 hown hK hP (D_any hD0) hS i (at_1 hi.1 hi.2) rfl 0 (by decide) (hts _ hw) (fun _ h9 => h9) rfl (by decide +kernel) rfl rfl (Nat.le_of_ble_eq_true rfl) hd (fun H locs hP hD hS => ?_)
  rw [put_1_0 v hi.1 hi.2] at hP
  exact h _ rfl H locs ls hP hS hl
theorem gf_1_1 (C0 : Cx g x cc nL ret own fr lc) {i index : Nat} (hi : KD i 1) (hw : Cond.fieldLink own index "DrumBoats$Crew" "drummer" "I" ∈ GW) (hd : decode cc pc = .ok (.getfield index, 3)) (h : FW g x nL d dl (pc + 3) lo (.int (d i 1) :: st)) : FW g x nL d dl pc lo (rf g i :: st) := by
  obtain ⟨⟨p, e, R, s, m⟩, ⟨args, below, meth, c⟩, ⟨A, nc, ns, Z⟩⟩ := x
  obtain ⟨l, dC, dI, ad, cA, sa, sv, vf⟩ := g
  obtain ⟨hx, hb, hr, hml, hown, hts, hlk, hK, hD0, hA, hE, hfr, hlc, hnc, hns⟩ := C0
  intro H locs ls hP hS hl
  exact va_get (D := (dC, dI)) (ci := 1) (C := RX1) (T := TX1) (N := 8) hx hb hts inX1 hown hK hP i (at_1 hi.1 hi.2) rfl 1 (by decide) (hts _ hw) (fun _ h9 => h9) rfl hd (h H locs ls hP hS hl)
theorem pf_1_1 (C0 : Cx g x cc nL ret own fr lc) {i index : Nat} {v : Int32} (hi : KD i 1) (hw : Cond.fieldLink own index "DrumBoats$Crew" "drummer" "I" ∈ GW) (hd : decode cc pc = .ok (.putfield index, 3)) (h : ∀ e : DD, e = u2 d i 1 v → FW g x nL e dl (pc + 3) lo st) : FW g x nL d dl pc lo (.int v :: rf g i :: st) := by
  obtain ⟨⟨p, e, R, s, m⟩, ⟨args, below, meth, c⟩, ⟨A, nc, ns, Z⟩⟩ := x
  obtain ⟨l, dC, dI, ad, cA, sa, sv, vf⟩ := g
  obtain ⟨hx, hb, hr, hml, hown, hts, hlk, hK, hD0, hA, hE, hfr, hlc, hnc, hns⟩ := C0
  intro H locs ls hP hS hl
  refine va_put (D := (dC, dI)) (ci := 1) (ty := .int) (C := RX1) (T := TX1) (N := 8) hx hb hts inX1 tyX1 tyX1_ok nmX1 hown hK hP (D_any hD0) hS i (at_1 hi.1 hi.2) rfl 1 (by decide) (hts _ hw) (fun _ h9 => h9) rfl (by decide +kernel) rfl rfl (Nat.le_of_ble_eq_true rfl) hd (fun H locs hP hD hS => ?_)
  rw [put_1_1 v hi.1 hi.2] at hP
  exact h _ rfl H locs ls hP hS hl
theorem gf_1_2 (C0 : Cx g x cc nL ret own fr lc) {i index : Nat} (hi : KD i 1) (hw : Cond.fieldLink own index "DrumBoats$Crew" "drumBeat" "I" ∈ GW) (hd : decode cc pc = .ok (.getfield index, 3)) (h : FW g x nL d dl (pc + 3) lo (.int (d i 2) :: st)) : FW g x nL d dl pc lo (rf g i :: st) := by
  obtain ⟨⟨p, e, R, s, m⟩, ⟨args, below, meth, c⟩, ⟨A, nc, ns, Z⟩⟩ := x
  obtain ⟨l, dC, dI, ad, cA, sa, sv, vf⟩ := g
  obtain ⟨hx, hb, hr, hml, hown, hts, hlk, hK, hD0, hA, hE, hfr, hlc, hnc, hns⟩ := C0
  intro H locs ls hP hS hl
  exact va_get (D := (dC, dI)) (ci := 1) (C := RX1) (T := TX1) (N := 8) hx hb hts inX1 hown hK hP i (at_1 hi.1 hi.2) rfl 2 (by decide) (hts _ hw) (fun _ h9 => h9) rfl hd (h H locs ls hP hS hl)
theorem pf_1_2 (C0 : Cx g x cc nL ret own fr lc) {i index : Nat} {v : Int32} (hi : KD i 1) (hw : Cond.fieldLink own index "DrumBoats$Crew" "drumBeat" "I" ∈ GW) (hd : decode cc pc = .ok (.putfield index, 3)) (h : ∀ e : DD, e = u2 d i 2 v → FW g x nL e dl (pc + 3) lo st) : FW g x nL d dl pc lo (.int v :: rf g i :: st) := by
  obtain ⟨⟨p, e, R, s, m⟩, ⟨args, below, meth, c⟩, ⟨A, nc, ns, Z⟩⟩ := x
  obtain ⟨l, dC, dI, ad, cA, sa, sv, vf⟩ := g
  obtain ⟨hx, hb, hr, hml, hown, hts, hlk, hK, hD0, hA, hE, hfr, hlc, hnc, hns⟩ := C0
  intro H locs ls hP hS hl
  refine va_put (D := (dC, dI)) (ci := 1) (ty := .int) (C := RX1) (T := TX1) (N := 8) hx hb hts inX1 tyX1 tyX1_ok nmX1 hown hK hP (D_any hD0) hS i (at_1 hi.1 hi.2) rfl 2 (by decide) (hts _ hw) (fun _ h9 => h9) rfl (by decide +kernel) rfl rfl (Nat.le_of_ble_eq_true rfl) hd (fun H locs hP hD hS => ?_)
  rw [put_1_2 v hi.1 hi.2] at hP
  exact h _ rfl H locs ls hP hS hl
theorem gf_1_3 (C0 : Cx g x cc nL ret own fr lc) {i index : Nat} (hi : KD i 1) (hw : Cond.fieldLink own index "DrumBoats$Crew" "memberCount" "I" ∈ GW) (hd : decode cc pc = .ok (.getfield index, 3)) (h : FW g x nL d dl (pc + 3) lo (.int (d i 3) :: st)) : FW g x nL d dl pc lo (rf g i :: st) := by
  obtain ⟨⟨p, e, R, s, m⟩, ⟨args, below, meth, c⟩, ⟨A, nc, ns, Z⟩⟩ := x
  obtain ⟨l, dC, dI, ad, cA, sa, sv, vf⟩ := g
  obtain ⟨hx, hb, hr, hml, hown, hts, hlk, hK, hD0, hA, hE, hfr, hlc, hnc, hns⟩ := C0
  intro H locs ls hP hS hl
  exact va_get (D := (dC, dI)) (ci := 1) (C := RX1) (T := TX1) (N := 8) hx hb hts inX1 hown hK hP i (at_1 hi.1 hi.2) rfl 3 (by decide) (hts _ hw) (fun _ h9 => h9) rfl hd (h H locs ls hP hS hl)
theorem pf_1_3 (C0 : Cx g x cc nL ret own fr lc) {i index : Nat} {v : Int32} (hi : KD i 1) (hw : Cond.fieldLink own index "DrumBoats$Crew" "memberCount" "I" ∈ GW) (hd : decode cc pc = .ok (.putfield index, 3)) (h : ∀ e : DD, e = u2 d i 3 v → FW g x nL e dl (pc + 3) lo st) : FW g x nL d dl pc lo (.int v :: rf g i :: st) := by
  obtain ⟨⟨p, e, R, s, m⟩, ⟨args, below, meth, c⟩, ⟨A, nc, ns, Z⟩⟩ := x
  obtain ⟨l, dC, dI, ad, cA, sa, sv, vf⟩ := g
  obtain ⟨hx, hb, hr, hml, hown, hts, hlk, hK, hD0, hA, hE, hfr, hlc, hnc, hns⟩ := C0
  intro H locs ls hP hS hl
  refine va_put (D := (dC, dI)) (ci := 1) (ty := .int) (C := RX1) (T := TX1) (N := 8) hx hb hts inX1 tyX1 tyX1_ok nmX1 hown hK hP (D_any hD0) hS i (at_1 hi.1 hi.2) rfl 3 (by decide) (hts _ hw) (fun _ h9 => h9) rfl (by decide +kernel) rfl rfl (Nat.le_of_ble_eq_true rfl) hd (fun H locs hP hD hS => ?_)
  rw [put_1_3 v hi.1 hi.2] at hP
  exact h _ rfl H locs ls hP hS hl
theorem gf_1_4 (C0 : Cx g x cc nL ret own fr lc) {i index : Nat} {r : Nat} (hr9 : i + 1 = r) (hi : KD i 1) (hw : Cond.fieldLink own index "DrumBoats$Crew" "members" "[I" ∈ GW) (hd : decode cc pc = .ok (.getfield index, 3)) (h : FW g x nL d dl (pc + 3) lo (rf g r :: st)) : FW g x nL d dl pc lo (rf g i :: st) := by
  subst hr9
  obtain ⟨⟨p, e, R, s, m⟩, ⟨args, below, meth, c⟩, ⟨A, nc, ns, Z⟩⟩ := x
  obtain ⟨l, dC, dI, ad, cA, sa, sv, vf⟩ := g
  obtain ⟨hx, hb, hr, hml, hown, hts, hlk, hK, hD0, hA, hE, hfr, hlc, hnc, hns⟩ := C0
  intro H locs ls hP hS hl
  exact va_get (D := (dC, dI)) (ci := 1) (C := RX1) (T := TX1) (N := 8) hx hb hts inX1 hown hK hP i (at_1 hi.1 hi.2) rfl 4 (by decide) (hts _ hw) (fun _ h9 => h9) rfl hd (h H locs ls hP hS hl)
theorem gf_1_5 (C0 : Cx g x cc nL ret own fr lc) {i index : Nat} (hi : KD i 1) (hw : Cond.fieldLink own index "DrumBoats$Crew" "memberBits" "J" ∈ GW) (hd : decode cc pc = .ok (.getfield index, 3)) (h : FW g x nL d dl (pc + 3) lo (.long (dl i 5) :: st)) : FW g x nL d dl pc lo (rf g i :: st) := by
  obtain ⟨⟨p, e, R, s, m⟩, ⟨args, below, meth, c⟩, ⟨A, nc, ns, Z⟩⟩ := x
  obtain ⟨l, dC, dI, ad, cA, sa, sv, vf⟩ := g
  obtain ⟨hx, hb, hr, hml, hown, hts, hlk, hK, hD0, hA, hE, hfr, hlc, hnc, hns⟩ := C0
  intro H locs ls hP hS hl
  exact va_get (D := (dC, dI)) (ci := 1) (C := RX1) (T := TX1) (N := 8) hx hb hts inX1 hown hK hP i (at_1 hi.1 hi.2) rfl 5 (by decide) (hts _ hw) (fun _ h9 => h9) rfl hd (h H locs ls hP hS hl)
theorem pf_1_5 (C0 : Cx g x cc nL ret own fr lc) {i index : Nat} {v : Int64} (hi : KD i 1) (hw : Cond.fieldLink own index "DrumBoats$Crew" "memberBits" "J" ∈ GW) (hd : decode cc pc = .ok (.putfield index, 3)) (h : ∀ e : LL, e = l2 dl i 5 v → FW g x nL d e (pc + 3) lo st) : FW g x nL d dl pc lo (.long v :: rf g i :: st) := by
  obtain ⟨⟨p, e, R, s, m⟩, ⟨args, below, meth, c⟩, ⟨A, nc, ns, Z⟩⟩ := x
  obtain ⟨l, dC, dI, ad, cA, sa, sv, vf⟩ := g
  obtain ⟨hx, hb, hr, hml, hown, hts, hlk, hK, hD0, hA, hE, hfr, hlc, hnc, hns⟩ := C0
  intro H locs ls hP hS hl
  refine va_put (D := (dC, dI)) (ci := 1) (ty := .long) (C := RX1) (T := TX1) (N := 8) hx hb hts inX1 tyX1 tyX1_ok nmX1 hown hK hP (D_any hD0) hS i (at_1 hi.1 hi.2) rfl 5 (by decide) (hts _ hw) (fun _ h9 => h9) rfl (by decide +kernel) rfl rfl (Nat.le_of_ble_eq_true rfl) hd (fun H locs hP hD hS => ?_)
  rw [put_1_5 v hi.1 hi.2] at hP
  exact h _ rfl H locs ls hP hS hl
theorem gf_1_6 (C0 : Cx g x cc nL ret own fr lc) {i index : Nat} (hi : KD i 1) (hw : Cond.fieldLink own index "DrumBoats$Crew" "seated" "Z" ∈ GW) (hd : decode cc pc = .ok (.getfield index, 3)) (h : FW g x nL d dl (pc + 3) lo (.int (d i 6) :: st)) : FW g x nL d dl pc lo (rf g i :: st) := by
  obtain ⟨⟨p, e, R, s, m⟩, ⟨args, below, meth, c⟩, ⟨A, nc, ns, Z⟩⟩ := x
  obtain ⟨l, dC, dI, ad, cA, sa, sv, vf⟩ := g
  obtain ⟨hx, hb, hr, hml, hown, hts, hlk, hK, hD0, hA, hE, hfr, hlc, hnc, hns⟩ := C0
  intro H locs ls hP hS hl
  exact va_get (D := (dC, dI)) (ci := 1) (C := RX1) (T := TX1) (N := 8) hx hb hts inX1 hown hK hP i (at_1 hi.1 hi.2) rfl 6 (by decide) (hts _ hw) (fun _ h9 => h9) rfl hd (h H locs ls hP hS hl)
theorem pf_1_6 (C0 : Cx g x cc nL ret own fr lc) {i index : Nat} {v : Int32} (hi : KD i 1) (hv : v = 0 ∨ v = 1) (hw : Cond.fieldLink own index "DrumBoats$Crew" "seated" "Z" ∈ GW) (hd : decode cc pc = .ok (.putfield index, 3)) (h : ∀ e : DD, e = u2 d i 6 v → FW g x nL e dl (pc + 3) lo st) : FW g x nL d dl pc lo (.int v :: rf g i :: st) := by
  obtain ⟨⟨p, e, R, s, m⟩, ⟨args, below, meth, c⟩, ⟨A, nc, ns, Z⟩⟩ := x
  obtain ⟨l, dC, dI, ad, cA, sa, sv, vf⟩ := g
  obtain ⟨hx, hb, hr, hml, hown, hts, hlk, hK, hD0, hA, hE, hfr, hlc, hnc, hns⟩ := C0
  intro H locs ls hP hS hl
  refine va_put (D := (dC, dI)) (ci := 1) (ty := .boolean) (C := RX1) (T := TX1) (N := 8) hx hb hts inX1 tyX1 tyX1_ok nmX1 hown hK hP (D_any hD0) hS i (at_1 hi.1 hi.2) rfl 6 (by decide) (hts _ hw) (fun _ h9 => h9) rfl (by decide +kernel) (by rcases hv with rfl | rfl <;> rfl) (by rcases hv with rfl | rfl <;> rfl) (Nat.le_of_ble_eq_true rfl) hd (fun H locs hP hD hS => ?_)
  rw [put_1_6 v hi.1 hi.2] at hP
  exact h _ rfl H locs ls hP hS hl
theorem gf_1_7 (C0 : Cx g x cc nL ret own fr lc) {i index : Nat} {r : Nat} (hr9 : i + 2 = r) (hi : KD i 1) (hw : Cond.fieldLink own index "DrumBoats$Crew" "seats" "[I" ∈ GW) (hd : decode cc pc = .ok (.getfield index, 3)) (h : FW g x nL d dl (pc + 3) lo (rf g r :: st)) : FW g x nL d dl pc lo (rf g i :: st) := by
  subst hr9
  obtain ⟨⟨p, e, R, s, m⟩, ⟨args, below, meth, c⟩, ⟨A, nc, ns, Z⟩⟩ := x
  obtain ⟨l, dC, dI, ad, cA, sa, sv, vf⟩ := g
  obtain ⟨hx, hb, hr, hml, hown, hts, hlk, hK, hD0, hA, hE, hfr, hlc, hnc, hns⟩ := C0
  intro H locs ls hP hS hl
  exact va_get (D := (dC, dI)) (ci := 1) (C := RX1) (T := TX1) (N := 8) hx hb hts inX1 hown hK hP i (at_1 hi.1 hi.2) rfl 7 (by decide) (hts _ hw) (fun _ h9 => h9) rfl hd (h H locs ls hP hS hl)
theorem gf_2_0 (C0 : Cx g x cc nL ret own fr lc) {i index : Nat} (hi : KD i 2) (hw : Cond.fieldLink own index "DrumBoats$FinalList" "size" "I" ∈ GW) (hd : decode cc pc = .ok (.getfield index, 3)) (h : FW g x nL d dl (pc + 3) lo (.int (d i 0) :: st)) : FW g x nL d dl pc lo (rf g i :: st) := by
  obtain ⟨⟨p, e, R, s, m⟩, ⟨args, below, meth, c⟩, ⟨A, nc, ns, Z⟩⟩ := x
  obtain ⟨l, dC, dI, ad, cA, sa, sv, vf⟩ := g
  obtain ⟨hx, hb, hr, hml, hown, hts, hlk, hK, hD0, hA, hE, hfr, hlc, hnc, hns⟩ := C0
  intro H locs ls hP hS hl
  exact va_get (D := (dC, dI)) (ci := 2) (C := RX2) (T := TX2) (N := 5) hx hb hts inX2 hown hK hP i (at_2 hi.1 hi.2) rfl 0 (by decide) (hts _ hw) (fun _ h9 => h9) rfl hd (h H locs ls hP hS hl)
theorem pf_2_0 (C0 : Cx g x cc nL ret own fr lc) {i index : Nat} {v : Int32} (hi : KD i 2) (hw : Cond.fieldLink own index "DrumBoats$FinalList" "size" "I" ∈ GW) (hd : decode cc pc = .ok (.putfield index, 3)) (h : ∀ e : DD, e = u2 d i 0 v → FW g x nL e dl (pc + 3) lo st) : FW g x nL d dl pc lo (.int v :: rf g i :: st) := by
  obtain ⟨⟨p, e, R, s, m⟩, ⟨args, below, meth, c⟩, ⟨A, nc, ns, Z⟩⟩ := x
  obtain ⟨l, dC, dI, ad, cA, sa, sv, vf⟩ := g
  obtain ⟨hx, hb, hr, hml, hown, hts, hlk, hK, hD0, hA, hE, hfr, hlc, hnc, hns⟩ := C0
  intro H locs ls hP hS hl
  refine va_put (D := (dC, dI)) (ci := 2) (ty := .int) (C := RX2) (T := TX2) (N := 5) hx hb hts inX2 tyX2 tyX2_ok nmX2 hown hK hP (D_any hD0) hS i (at_2 hi.1 hi.2) rfl 0 (by decide) (hts _ hw) (fun _ h9 => h9) rfl (by decide +kernel) rfl rfl (Nat.le_of_ble_eq_true rfl) hd (fun H locs hP hD hS => ?_)
  rw [put_2_0 v hi.1 hi.2] at hP
  exact h _ rfl H locs ls hP hS hl
theorem gf_2_1 (C0 : Cx g x cc nL ret own fr lc) {i index : Nat} {r : Nat} (hr9 : i + 1 = r) (hi : KD i 2) (hw : Cond.fieldLink own index "DrumBoats$FinalList" "list" "[I" ∈ GW) (hd : decode cc pc = .ok (.getfield index, 3)) (h : FW g x nL d dl (pc + 3) lo (rf g r :: st)) : FW g x nL d dl pc lo (rf g i :: st) := by
  subst hr9
  obtain ⟨⟨p, e, R, s, m⟩, ⟨args, below, meth, c⟩, ⟨A, nc, ns, Z⟩⟩ := x
  obtain ⟨l, dC, dI, ad, cA, sa, sv, vf⟩ := g
  obtain ⟨hx, hb, hr, hml, hown, hts, hlk, hK, hD0, hA, hE, hfr, hlc, hnc, hns⟩ := C0
  intro H locs ls hP hS hl
  exact va_get (D := (dC, dI)) (ci := 2) (C := RX2) (T := TX2) (N := 5) hx hb hts inX2 hown hK hP i (at_2 hi.1 hi.2) rfl 1 (by decide) (hts _ hw) (fun _ h9 => h9) rfl hd (h H locs ls hP hS hl)
theorem gf_2_2 (C0 : Cx g x cc nL ret own fr lc) {i index : Nat} {r : Nat} (hr9 : i + 2 = r) (hi : KD i 2) (hw : Cond.fieldLink own index "DrumBoats$FinalList" "bestTime" "[I" ∈ GW) (hd : decode cc pc = .ok (.getfield index, 3)) (h : FW g x nL d dl (pc + 3) lo (rf g r :: st)) : FW g x nL d dl pc lo (rf g i :: st) := by
  subst hr9
  obtain ⟨⟨p, e, R, s, m⟩, ⟨args, below, meth, c⟩, ⟨A, nc, ns, Z⟩⟩ := x
  obtain ⟨l, dC, dI, ad, cA, sa, sv, vf⟩ := g
  obtain ⟨hx, hb, hr, hml, hown, hts, hlk, hK, hD0, hA, hE, hfr, hlc, hnc, hns⟩ := C0
  intro H locs ls hP hS hl
  exact va_get (D := (dC, dI)) (ci := 2) (C := RX2) (T := TX2) (N := 5) hx hb hts inX2 hown hK hP i (at_2 hi.1 hi.2) rfl 2 (by decide) (hts _ hw) (fun _ h9 => h9) rfl hd (h H locs ls hP hS hl)
theorem gf_2_3 (C0 : Cx g x cc nL ret own fr lc) {i index : Nat} {r : Nat} (hr9 : i + 3 = r) (hi : KD i 2) (hw : Cond.fieldLink own index "DrumBoats$FinalList" "byPlace" "[Z" ∈ GW) (hd : decode cc pc = .ok (.getfield index, 3)) (h : FW g x nL d dl (pc + 3) lo (rf g r :: st)) : FW g x nL d dl pc lo (rf g i :: st) := by
  subst hr9
  obtain ⟨⟨p, e, R, s, m⟩, ⟨args, below, meth, c⟩, ⟨A, nc, ns, Z⟩⟩ := x
  obtain ⟨l, dC, dI, ad, cA, sa, sv, vf⟩ := g
  obtain ⟨hx, hb, hr, hml, hown, hts, hlk, hK, hD0, hA, hE, hfr, hlc, hnc, hns⟩ := C0
  intro H locs ls hP hS hl
  exact va_get (D := (dC, dI)) (ci := 2) (C := RX2) (T := TX2) (N := 5) hx hb hts inX2 hown hK hP i (at_2 hi.1 hi.2) rfl 3 (by decide) (hts _ hw) (fun _ h9 => h9) rfl hd (h H locs ls hP hS hl)
theorem gf_2_4 (C0 : Cx g x cc nL ret own fr lc) {i index : Nat} {r : Nat} (hr9 : i + 4 = r) (hi : KD i 2) (hw : Cond.fieldLink own index "DrumBoats$FinalList" "chosen" "[Z" ∈ GW) (hd : decode cc pc = .ok (.getfield index, 3)) (h : FW g x nL d dl (pc + 3) lo (rf g r :: st)) : FW g x nL d dl pc lo (rf g i :: st) := by
  subst hr9
  obtain ⟨⟨p, e, R, s, m⟩, ⟨args, below, meth, c⟩, ⟨A, nc, ns, Z⟩⟩ := x
  obtain ⟨l, dC, dI, ad, cA, sa, sv, vf⟩ := g
  obtain ⟨hx, hb, hr, hml, hown, hts, hlk, hK, hD0, hA, hE, hfr, hlc, hnc, hns⟩ := C0
  intro H locs ls hP hS hl
  exact va_get (D := (dC, dI)) (ci := 2) (C := RX2) (T := TX2) (N := 5) hx hb hts inX2 hown hK hP i (at_2 hi.1 hi.2) rfl 4 (by decide) (hts _ hw) (fun _ h9 => h9) rfl hd (h H locs ls hP hS hl)
theorem gf_3_0 (C0 : Cx g x cc nL ret own fr lc) {i index : Nat} (hi : KD i 3) (hw : Cond.fieldLink own index "DrumBoats$Race" "minute" "I" ∈ GW) (hd : decode cc pc = .ok (.getfield index, 3)) (h : FW g x nL d dl (pc + 3) lo (.int (d i 0) :: st)) : FW g x nL d dl pc lo (rf g i :: st) := by
  obtain ⟨⟨p, e, R, s, m⟩, ⟨args, below, meth, c⟩, ⟨A, nc, ns, Z⟩⟩ := x
  obtain ⟨l, dC, dI, ad, cA, sa, sv, vf⟩ := g
  obtain ⟨hx, hb, hr, hml, hown, hts, hlk, hK, hD0, hA, hE, hfr, hlc, hnc, hns⟩ := C0
  intro H locs ls hP hS hl
  exact va_get (D := (dC, dI)) (ci := 3) (C := RX3) (T := TX3) (N := 7) hx hb hts inX3 hown hK hP i (at_3 hi.1 hi.2) rfl 0 (by decide) (hts _ hw) (fun _ h9 => h9) rfl hd (h H locs ls hP hS hl)
theorem pf_3_0 (C0 : Cx g x cc nL ret own fr lc) {i index : Nat} {v : Int32} (hi : KD i 3) (hw : Cond.fieldLink own index "DrumBoats$Race" "minute" "I" ∈ GW) (hd : decode cc pc = .ok (.putfield index, 3)) (h : ∀ e : DD, e = u2 d i 0 v → FW g x nL e dl (pc + 3) lo st) : FW g x nL d dl pc lo (.int v :: rf g i :: st) := by
  obtain ⟨⟨p, e, R, s, m⟩, ⟨args, below, meth, c⟩, ⟨A, nc, ns, Z⟩⟩ := x
  obtain ⟨l, dC, dI, ad, cA, sa, sv, vf⟩ := g
  obtain ⟨hx, hb, hr, hml, hown, hts, hlk, hK, hD0, hA, hE, hfr, hlc, hnc, hns⟩ := C0
  intro H locs ls hP hS hl
  refine va_put (D := (dC, dI)) (ci := 3) (ty := .int) (C := RX3) (T := TX3) (N := 7) hx hb hts inX3 tyX3 tyX3_ok nmX3 hown hK hP (D_any hD0) hS i (at_3 hi.1 hi.2) rfl 0 (by decide) (hts _ hw) (fun _ h9 => h9) rfl (by decide +kernel) rfl rfl (Nat.le_of_ble_eq_true rfl) hd (fun H locs hP hD hS => ?_)
  rw [put_3_0 v hi.1 hi.2] at hP
  exact h _ rfl H locs ls hP hS hl
theorem gf_3_1 (C0 : Cx g x cc nL ret own fr lc) {i index : Nat} (hi : KD i 3) (hw : Cond.fieldLink own index "DrumBoats$Race" "round" "I" ∈ GW) (hd : decode cc pc = .ok (.getfield index, 3)) (h : FW g x nL d dl (pc + 3) lo (.int (d i 1) :: st)) : FW g x nL d dl pc lo (rf g i :: st) := by
  obtain ⟨⟨p, e, R, s, m⟩, ⟨args, below, meth, c⟩, ⟨A, nc, ns, Z⟩⟩ := x
  obtain ⟨l, dC, dI, ad, cA, sa, sv, vf⟩ := g
  obtain ⟨hx, hb, hr, hml, hown, hts, hlk, hK, hD0, hA, hE, hfr, hlc, hnc, hns⟩ := C0
  intro H locs ls hP hS hl
  exact va_get (D := (dC, dI)) (ci := 3) (C := RX3) (T := TX3) (N := 7) hx hb hts inX3 hown hK hP i (at_3 hi.1 hi.2) rfl 1 (by decide) (hts _ hw) (fun _ h9 => h9) rfl hd (h H locs ls hP hS hl)
theorem pf_3_1 (C0 : Cx g x cc nL ret own fr lc) {i index : Nat} {v : Int32} (hi : KD i 3) (hw : Cond.fieldLink own index "DrumBoats$Race" "round" "I" ∈ GW) (hd : decode cc pc = .ok (.putfield index, 3)) (h : ∀ e : DD, e = u2 d i 1 v → FW g x nL e dl (pc + 3) lo st) : FW g x nL d dl pc lo (.int v :: rf g i :: st) := by
  obtain ⟨⟨p, e, R, s, m⟩, ⟨args, below, meth, c⟩, ⟨A, nc, ns, Z⟩⟩ := x
  obtain ⟨l, dC, dI, ad, cA, sa, sv, vf⟩ := g
  obtain ⟨hx, hb, hr, hml, hown, hts, hlk, hK, hD0, hA, hE, hfr, hlc, hnc, hns⟩ := C0
  intro H locs ls hP hS hl
  refine va_put (D := (dC, dI)) (ci := 3) (ty := .int) (C := RX3) (T := TX3) (N := 7) hx hb hts inX3 tyX3 tyX3_ok nmX3 hown hK hP (D_any hD0) hS i (at_3 hi.1 hi.2) rfl 1 (by decide) (hts _ hw) (fun _ h9 => h9) rfl (by decide +kernel) rfl rfl (Nat.le_of_ble_eq_true rfl) hd (fun H locs hP hD hS => ?_)
  rw [put_3_1 v hi.1 hi.2] at hP
  exact h _ rfl H locs ls hP hS hl
theorem gf_3_2 (C0 : Cx g x cc nL ret own fr lc) {i index : Nat} (hi : KD i 3) (hw : Cond.fieldLink own index "DrumBoats$Race" "begun" "Z" ∈ GW) (hd : decode cc pc = .ok (.getfield index, 3)) (h : FW g x nL d dl (pc + 3) lo (.int (d i 2) :: st)) : FW g x nL d dl pc lo (rf g i :: st) := by
  obtain ⟨⟨p, e, R, s, m⟩, ⟨args, below, meth, c⟩, ⟨A, nc, ns, Z⟩⟩ := x
  obtain ⟨l, dC, dI, ad, cA, sa, sv, vf⟩ := g
  obtain ⟨hx, hb, hr, hml, hown, hts, hlk, hK, hD0, hA, hE, hfr, hlc, hnc, hns⟩ := C0
  intro H locs ls hP hS hl
  exact va_get (D := (dC, dI)) (ci := 3) (C := RX3) (T := TX3) (N := 7) hx hb hts inX3 hown hK hP i (at_3 hi.1 hi.2) rfl 2 (by decide) (hts _ hw) (fun _ h9 => h9) rfl hd (h H locs ls hP hS hl)
theorem pf_3_2 (C0 : Cx g x cc nL ret own fr lc) {i index : Nat} {v : Int32} (hi : KD i 3) (hv : v = 0 ∨ v = 1) (hw : Cond.fieldLink own index "DrumBoats$Race" "begun" "Z" ∈ GW) (hd : decode cc pc = .ok (.putfield index, 3)) (h : ∀ e : DD, e = u2 d i 2 v → FW g x nL e dl (pc + 3) lo st) : FW g x nL d dl pc lo (.int v :: rf g i :: st) := by
  obtain ⟨⟨p, e, R, s, m⟩, ⟨args, below, meth, c⟩, ⟨A, nc, ns, Z⟩⟩ := x
  obtain ⟨l, dC, dI, ad, cA, sa, sv, vf⟩ := g
  obtain ⟨hx, hb, hr, hml, hown, hts, hlk, hK, hD0, hA, hE, hfr, hlc, hnc, hns⟩ := C0
  intro H locs ls hP hS hl
  refine va_put (D := (dC, dI)) (ci := 3) (ty := .boolean) (C := RX3) (T := TX3) (N := 7) hx hb hts inX3 tyX3 tyX3_ok nmX3 hown hK hP (D_any hD0) hS i (at_3 hi.1 hi.2) rfl 2 (by decide) (hts _ hw) (fun _ h9 => h9) rfl (by decide +kernel) (by rcases hv with rfl | rfl <;> rfl) (by rcases hv with rfl | rfl <;> rfl) (Nat.le_of_ble_eq_true rfl) hd (fun H locs hP hD hS => ?_)
  rw [put_3_2 v hi.1 hi.2] at hP
  exact h _ rfl H locs ls hP hS hl
theorem gf_3_3 (C0 : Cx g x cc nL ret own fr lc) {i index : Nat} {r : Nat} (hr9 : i + 1 = r) (hi : KD i 3) (hw : Cond.fieldLink own index "DrumBoats$Race" "crews" "[I" ∈ GW) (hd : decode cc pc = .ok (.getfield index, 3)) (h : FW g x nL d dl (pc + 3) lo (rf g r :: st)) : FW g x nL d dl pc lo (rf g i :: st) := by
  subst hr9
  obtain ⟨⟨p, e, R, s, m⟩, ⟨args, below, meth, c⟩, ⟨A, nc, ns, Z⟩⟩ := x
  obtain ⟨l, dC, dI, ad, cA, sa, sv, vf⟩ := g
  obtain ⟨hx, hb, hr, hml, hown, hts, hlk, hK, hD0, hA, hE, hfr, hlc, hnc, hns⟩ := C0
  intro H locs ls hP hS hl
  exact va_get (D := (dC, dI)) (ci := 3) (C := RX3) (T := TX3) (N := 7) hx hb hts inX3 hown hK hP i (at_3 hi.1 hi.2) rfl 3 (by decide) (hts _ hw) (fun _ h9 => h9) rfl hd (h H locs ls hP hS hl)
theorem gf_3_4 (C0 : Cx g x cc nL ret own fr lc) {i index : Nat} {r : Nat} (hr9 : i + 2 = r) (hi : KD i 3) (hw : Cond.fieldLink own index "DrumBoats$Race" "times" "[I" ∈ GW) (hd : decode cc pc = .ok (.getfield index, 3)) (h : FW g x nL d dl (pc + 3) lo (rf g r :: st)) : FW g x nL d dl pc lo (rf g i :: st) := by
  subst hr9
  obtain ⟨⟨p, e, R, s, m⟩, ⟨args, below, meth, c⟩, ⟨A, nc, ns, Z⟩⟩ := x
  obtain ⟨l, dC, dI, ad, cA, sa, sv, vf⟩ := g
  obtain ⟨hx, hb, hr, hml, hown, hts, hlk, hK, hD0, hA, hE, hfr, hlc, hnc, hns⟩ := C0
  intro H locs ls hP hS hl
  exact va_get (D := (dC, dI)) (ci := 3) (C := RX3) (T := TX3) (N := 7) hx hb hts inX3 hown hK hP i (at_3 hi.1 hi.2) rfl 4 (by decide) (hts _ hw) (fun _ h9 => h9) rfl hd (h H locs ls hP hS hl)
theorem gf_3_5 (C0 : Cx g x cc nL ret own fr lc) {i index : Nat} {r : Nat} (hr9 : i + 3 = r) (hi : KD i 3) (hw : Cond.fieldLink own index "DrumBoats$Race" "gone" "[I" ∈ GW) (hd : decode cc pc = .ok (.getfield index, 3)) (h : FW g x nL d dl (pc + 3) lo (rf g r :: st)) : FW g x nL d dl pc lo (rf g i :: st) := by
  subst hr9
  obtain ⟨⟨p, e, R, s, m⟩, ⟨args, below, meth, c⟩, ⟨A, nc, ns, Z⟩⟩ := x
  obtain ⟨l, dC, dI, ad, cA, sa, sv, vf⟩ := g
  obtain ⟨hx, hb, hr, hml, hown, hts, hlk, hK, hD0, hA, hE, hfr, hlc, hnc, hns⟩ := C0
  intro H locs ls hP hS hl
  exact va_get (D := (dC, dI)) (ci := 3) (C := RX3) (T := TX3) (N := 7) hx hb hts inX3 hown hK hP i (at_3 hi.1 hi.2) rfl 5 (by decide) (hts _ hw) (fun _ h9 => h9) rfl hd (h H locs ls hP hS hl)
theorem gf_3_6 (C0 : Cx g x cc nL ret own fr lc) {i index : Nat} {r : Nat} (hr9 : i + 4 = r) (hi : KD i 3) (hw : Cond.fieldLink own index "DrumBoats$Race" "struck" "[Z" ∈ GW) (hd : decode cc pc = .ok (.getfield index, 3)) (h : FW g x nL d dl (pc + 3) lo (rf g r :: st)) : FW g x nL d dl pc lo (rf g i :: st) := by
  subst hr9
  obtain ⟨⟨p, e, R, s, m⟩, ⟨args, below, meth, c⟩, ⟨A, nc, ns, Z⟩⟩ := x
  obtain ⟨l, dC, dI, ad, cA, sa, sv, vf⟩ := g
  obtain ⟨hx, hb, hr, hml, hown, hts, hlk, hK, hD0, hA, hE, hfr, hlc, hnc, hns⟩ := C0
  intro H locs ls hP hS hl
  exact va_get (D := (dC, dI)) (ci := 3) (C := RX3) (T := TX3) (N := 7) hx hb hts inX3 hown hK hP i (at_3 hi.1 hi.2) rfl 6 (by decide) (hts _ hw) (fun _ h9 => h9) rfl hd (h H locs ls hP hS hl)
theorem gf_4_0 (C0 : Cx g x cc nL ret own fr lc) {i index : Nat} (hi : KD i 4) (hw : Cond.fieldLink own index "DrumBoats$Roster" "size" "I" ∈ GW) (hd : decode cc pc = .ok (.getfield index, 3)) (h : FW g x nL d dl (pc + 3) lo (.int (d i 0) :: st)) : FW g x nL d dl pc lo (rf g i :: st) := by
  obtain ⟨⟨p, e, R, s, m⟩, ⟨args, below, meth, c⟩, ⟨A, nc, ns, Z⟩⟩ := x
  obtain ⟨l, dC, dI, ad, cA, sa, sv, vf⟩ := g
  obtain ⟨hx, hb, hr, hml, hown, hts, hlk, hK, hD0, hA, hE, hfr, hlc, hnc, hns⟩ := C0
  intro H locs ls hP hS hl
  exact va_get (D := (dC, dI)) (ci := 4) (C := RX4) (T := TX4) (N := 7) hx hb hts inX4 hown hK hP i (at_4 hi.1 hi.2) rfl 0 (by decide) (hts _ hw) (fun _ h9 => h9) rfl hd (h H locs ls hP hS hl)
theorem pf_4_0 (C0 : Cx g x cc nL ret own fr lc) {i index : Nat} {v : Int32} (hi : KD i 4) (hw : Cond.fieldLink own index "DrumBoats$Roster" "size" "I" ∈ GW) (hd : decode cc pc = .ok (.putfield index, 3)) (h : ∀ e : DD, e = u2 d i 0 v → FW g x nL e dl (pc + 3) lo st) : FW g x nL d dl pc lo (.int v :: rf g i :: st) := by
  obtain ⟨⟨p, e, R, s, m⟩, ⟨args, below, meth, c⟩, ⟨A, nc, ns, Z⟩⟩ := x
  obtain ⟨l, dC, dI, ad, cA, sa, sv, vf⟩ := g
  obtain ⟨hx, hb, hr, hml, hown, hts, hlk, hK, hD0, hA, hE, hfr, hlc, hnc, hns⟩ := C0
  intro H locs ls hP hS hl
  refine va_put (D := (dC, dI)) (ci := 4) (ty := .int) (C := RX4) (T := TX4) (N := 7) hx hb hts inX4 tyX4 tyX4_ok nmX4 hown hK hP (D_any hD0) hS i (at_4 hi.1 hi.2) rfl 0 (by decide) (hts _ hw) (fun _ h9 => h9) rfl (by decide +kernel) rfl rfl (Nat.le_of_ble_eq_true rfl) hd (fun H locs hP hD hS => ?_)
  rw [put_4_0 v hi.1 hi.2] at hP
  exact h _ rfl H locs ls hP hS hl
theorem gf_4_1 (C0 : Cx g x cc nL ret own fr lc) {i index : Nat} {r : Nat} (hr9 : i + 1 = r) (hi : KD i 4) (hw : Cond.fieldLink own index "DrumBoats$Roster" "weight" "[I" ∈ GW) (hd : decode cc pc = .ok (.getfield index, 3)) (h : FW g x nL d dl (pc + 3) lo (rf g r :: st)) : FW g x nL d dl pc lo (rf g i :: st) := by
  subst hr9
  obtain ⟨⟨p, e, R, s, m⟩, ⟨args, below, meth, c⟩, ⟨A, nc, ns, Z⟩⟩ := x
  obtain ⟨l, dC, dI, ad, cA, sa, sv, vf⟩ := g
  obtain ⟨hx, hb, hr, hml, hown, hts, hlk, hK, hD0, hA, hE, hfr, hlc, hnc, hns⟩ := C0
  intro H locs ls hP hS hl
  exact va_get (D := (dC, dI)) (ci := 4) (C := RX4) (T := TX4) (N := 7) hx hb hts inX4 hown hK hP i (at_4 hi.1 hi.2) rfl 1 (by decide) (hts _ hw) (fun _ h9 => h9) rfl hd (h H locs ls hP hS hl)
theorem gf_4_2 (C0 : Cx g x cc nL ret own fr lc) {i index : Nat} {r : Nat} (hr9 : i + 2 = r) (hi : KD i 4) (hw : Cond.fieldLink own index "DrumBoats$Roster" "strength" "[I" ∈ GW) (hd : decode cc pc = .ok (.getfield index, 3)) (h : FW g x nL d dl (pc + 3) lo (rf g r :: st)) : FW g x nL d dl pc lo (rf g i :: st) := by
  subst hr9
  obtain ⟨⟨p, e, R, s, m⟩, ⟨args, below, meth, c⟩, ⟨A, nc, ns, Z⟩⟩ := x
  obtain ⟨l, dC, dI, ad, cA, sa, sv, vf⟩ := g
  obtain ⟨hx, hb, hr, hml, hown, hts, hlk, hK, hD0, hA, hE, hfr, hlc, hnc, hns⟩ := C0
  intro H locs ls hP hS hl
  exact va_get (D := (dC, dI)) (ci := 4) (C := RX4) (T := TX4) (N := 7) hx hb hts inX4 hown hK hP i (at_4 hi.1 hi.2) rfl 2 (by decide) (hts _ hw) (fun _ h9 => h9) rfl hd (h H locs ls hP hS hl)
theorem gf_4_3 (C0 : Cx g x cc nL ret own fr lc) {i index : Nat} {r : Nat} (hr9 : i + 3 = r) (hi : KD i 4) (hw : Cond.fieldLink own index "DrumBoats$Roster" "arm" "[I" ∈ GW) (hd : decode cc pc = .ok (.getfield index, 3)) (h : FW g x nL d dl (pc + 3) lo (rf g r :: st)) : FW g x nL d dl pc lo (rf g i :: st) := by
  subst hr9
  obtain ⟨⟨p, e, R, s, m⟩, ⟨args, below, meth, c⟩, ⟨A, nc, ns, Z⟩⟩ := x
  obtain ⟨l, dC, dI, ad, cA, sa, sv, vf⟩ := g
  obtain ⟨hx, hb, hr, hml, hown, hts, hlk, hK, hD0, hA, hE, hfr, hlc, hnc, hns⟩ := C0
  intro H locs ls hP hS hl
  exact va_get (D := (dC, dI)) (ci := 4) (C := RX4) (T := TX4) (N := 7) hx hb hts inX4 hown hK hP i (at_4 hi.1 hi.2) rfl 3 (by decide) (hts _ hw) (fun _ h9 => h9) rfl hd (h H locs ls hP hS hl)
theorem gf_4_4 (C0 : Cx g x cc nL ret own fr lc) {i index : Nat} {r : Nat} (hr9 : i + 4 = r) (hi : KD i 4) (hw : Cond.fieldLink own index "DrumBoats$Roster" "sex" "[I" ∈ GW) (hd : decode cc pc = .ok (.getfield index, 3)) (h : FW g x nL d dl (pc + 3) lo (rf g r :: st)) : FW g x nL d dl pc lo (rf g i :: st) := by
  subst hr9
  obtain ⟨⟨p, e, R, s, m⟩, ⟨args, below, meth, c⟩, ⟨A, nc, ns, Z⟩⟩ := x
  obtain ⟨l, dC, dI, ad, cA, sa, sv, vf⟩ := g
  obtain ⟨hx, hb, hr, hml, hown, hts, hlk, hK, hD0, hA, hE, hfr, hlc, hnc, hns⟩ := C0
  intro H locs ls hP hS hl
  exact va_get (D := (dC, dI)) (ci := 4) (C := RX4) (T := TX4) (N := 7) hx hb hts inX4 hown hK hP i (at_4 hi.1 hi.2) rfl 4 (by decide) (hts _ hw) (fun _ h9 => h9) rfl hd (h H locs ls hP hS hl)
theorem gf_4_5 (C0 : Cx g x cc nL ret own fr lc) {i index : Nat} {r : Nat} (hr9 : i + 5 = r) (hi : KD i 4) (hw : Cond.fieldLink own index "DrumBoats$Roster" "age" "[I" ∈ GW) (hd : decode cc pc = .ok (.getfield index, 3)) (h : FW g x nL d dl (pc + 3) lo (rf g r :: st)) : FW g x nL d dl pc lo (rf g i :: st) := by
  subst hr9
  obtain ⟨⟨p, e, R, s, m⟩, ⟨args, below, meth, c⟩, ⟨A, nc, ns, Z⟩⟩ := x
  obtain ⟨l, dC, dI, ad, cA, sa, sv, vf⟩ := g
  obtain ⟨hx, hb, hr, hml, hown, hts, hlk, hK, hD0, hA, hE, hfr, hlc, hnc, hns⟩ := C0
  intro H locs ls hP hS hl
  exact va_get (D := (dC, dI)) (ci := 4) (C := RX4) (T := TX4) (N := 7) hx hb hts inX4 hown hK hP i (at_4 hi.1 hi.2) rfl 5 (by decide) (hts _ hw) (fun _ h9 => h9) rfl hd (h H locs ls hP hS hl)
theorem gf_4_6 (C0 : Cx g x cc nL ret own fr lc) {i index : Nat} {r : Nat} (hr9 : i + 6 = r) (hi : KD i 4) (hw : Cond.fieldLink own index "DrumBoats$Roster" "friendBits" "[J" ∈ GW) (hd : decode cc pc = .ok (.getfield index, 3)) (h : FW g x nL d dl (pc + 3) lo (rf g r :: st)) : FW g x nL d dl pc lo (rf g i :: st) := by
  subst hr9
  obtain ⟨⟨p, e, R, s, m⟩, ⟨args, below, meth, c⟩, ⟨A, nc, ns, Z⟩⟩ := x
  obtain ⟨l, dC, dI, ad, cA, sa, sv, vf⟩ := g
  obtain ⟨hx, hb, hr, hml, hown, hts, hlk, hK, hD0, hA, hE, hfr, hlc, hnc, hns⟩ := C0
  intro H locs ls hP hS hl
  exact va_get (D := (dC, dI)) (ci := 4) (C := RX4) (T := TX4) (N := 7) hx hb hts inX4 hown hK hP i (at_4 hi.1 hi.2) rfl 6 (by decide) (hts _ hw) (fun _ h9 => h9) rfl hd (h H locs ls hP hS hl)
theorem gf_5_0 (C0 : Cx g x cc nL ret own fr lc) {i index : Nat} (hi : KD i 5) (hw : Cond.fieldLink own index "DrumBoats$Rule" "tests" "I" ∈ GW) (hd : decode cc pc = .ok (.getfield index, 3)) (h : FW g x nL d dl (pc + 3) lo (.int (d i 0) :: st)) : FW g x nL d dl pc lo (rf g i :: st) := by
  obtain ⟨⟨p, e, R, s, m⟩, ⟨args, below, meth, c⟩, ⟨A, nc, ns, Z⟩⟩ := x
  obtain ⟨l, dC, dI, ad, cA, sa, sv, vf⟩ := g
  obtain ⟨hx, hb, hr, hml, hown, hts, hlk, hK, hD0, hA, hE, hfr, hlc, hnc, hns⟩ := C0
  intro H locs ls hP hS hl
  exact va_get (D := (dC, dI)) (ci := 5) (C := RX5) (T := TX5) (N := 6) hx hb hts inX5 hown hK hP i (at_5 hi.1 hi.2) rfl 0 (by decide) (hts _ hw) (fun _ h9 => h9) rfl hd (h H locs ls hP hS hl)
theorem pf_5_0 (C0 : Cx g x cc nL ret own fr lc) {i index : Nat} {v : Int32} (hi : KD i 5) (hw : Cond.fieldLink own index "DrumBoats$Rule" "tests" "I" ∈ GW) (hd : decode cc pc = .ok (.putfield index, 3)) (h : ∀ e : DD, e = u2 d i 0 v → FW g x nL e dl (pc + 3) lo st) : FW g x nL d dl pc lo (.int v :: rf g i :: st) := by
  obtain ⟨⟨p, e, R, s, m⟩, ⟨args, below, meth, c⟩, ⟨A, nc, ns, Z⟩⟩ := x
  obtain ⟨l, dC, dI, ad, cA, sa, sv, vf⟩ := g
  obtain ⟨hx, hb, hr, hml, hown, hts, hlk, hK, hD0, hA, hE, hfr, hlc, hnc, hns⟩ := C0
  intro H locs ls hP hS hl
  refine va_put (D := (dC, dI)) (ci := 5) (ty := .int) (C := RX5) (T := TX5) (N := 6) hx hb hts inX5 tyX5 tyX5_ok nmX5 hown hK hP (D_any hD0) hS i (at_5 hi.1 hi.2) rfl 0 (by decide) (hts _ hw) (fun _ h9 => h9) rfl (by decide +kernel) rfl rfl (Nat.le_of_ble_eq_true rfl) hd (fun H locs hP hD hS => ?_)
  rw [put_5_0 v hi.1 hi.2] at hP
  exact h _ rfl H locs ls hP hS hl
theorem gf_5_1 (C0 : Cx g x cc nL ret own fr lc) {i index : Nat} {r : Nat} (hr9 : i + 1 = r) (hi : KD i 5) (hw : Cond.fieldLink own index "DrumBoats$Rule" "negated" "[Z" ∈ GW) (hd : decode cc pc = .ok (.getfield index, 3)) (h : FW g x nL d dl (pc + 3) lo (rf g r :: st)) : FW g x nL d dl pc lo (rf g i :: st) := by
  subst hr9
  obtain ⟨⟨p, e, R, s, m⟩, ⟨args, below, meth, c⟩, ⟨A, nc, ns, Z⟩⟩ := x
  obtain ⟨l, dC, dI, ad, cA, sa, sv, vf⟩ := g
  obtain ⟨hx, hb, hr, hml, hown, hts, hlk, hK, hD0, hA, hE, hfr, hlc, hnc, hns⟩ := C0
  intro H locs ls hP hS hl
  exact va_get (D := (dC, dI)) (ci := 5) (C := RX5) (T := TX5) (N := 6) hx hb hts inX5 hown hK hP i (at_5 hi.1 hi.2) rfl 1 (by decide) (hts _ hw) (fun _ h9 => h9) rfl hd (h H locs ls hP hS hl)
theorem gf_5_2 (C0 : Cx g x cc nL ret own fr lc) {i index : Nat} {r : Nat} (hr9 : i + 2 = r) (hi : KD i 5) (hw : Cond.fieldLink own index "DrumBoats$Rule" "field" "[I" ∈ GW) (hd : decode cc pc = .ok (.getfield index, 3)) (h : FW g x nL d dl (pc + 3) lo (rf g r :: st)) : FW g x nL d dl pc lo (rf g i :: st) := by
  subst hr9
  obtain ⟨⟨p, e, R, s, m⟩, ⟨args, below, meth, c⟩, ⟨A, nc, ns, Z⟩⟩ := x
  obtain ⟨l, dC, dI, ad, cA, sa, sv, vf⟩ := g
  obtain ⟨hx, hb, hr, hml, hown, hts, hlk, hK, hD0, hA, hE, hfr, hlc, hnc, hns⟩ := C0
  intro H locs ls hP hS hl
  exact va_get (D := (dC, dI)) (ci := 5) (C := RX5) (T := TX5) (N := 6) hx hb hts inX5 hown hK hP i (at_5 hi.1 hi.2) rfl 2 (by decide) (hts _ hw) (fun _ h9 => h9) rfl hd (h H locs ls hP hS hl)
theorem gf_5_3 (C0 : Cx g x cc nL ret own fr lc) {i index : Nat} {r : Nat} (hr9 : i + 3 = r) (hi : KD i 5) (hw : Cond.fieldLink own index "DrumBoats$Rule" "sign" "[I" ∈ GW) (hd : decode cc pc = .ok (.getfield index, 3)) (h : FW g x nL d dl (pc + 3) lo (rf g r :: st)) : FW g x nL d dl pc lo (rf g i :: st) := by
  subst hr9
  obtain ⟨⟨p, e, R, s, m⟩, ⟨args, below, meth, c⟩, ⟨A, nc, ns, Z⟩⟩ := x
  obtain ⟨l, dC, dI, ad, cA, sa, sv, vf⟩ := g
  obtain ⟨hx, hb, hr, hml, hown, hts, hlk, hK, hD0, hA, hE, hfr, hlc, hnc, hns⟩ := C0
  intro H locs ls hP hS hl
  exact va_get (D := (dC, dI)) (ci := 5) (C := RX5) (T := TX5) (N := 6) hx hb hts inX5 hown hK hP i (at_5 hi.1 hi.2) rfl 3 (by decide) (hts _ hw) (fun _ h9 => h9) rfl hd (h H locs ls hP hS hl)
theorem gf_5_4 (C0 : Cx g x cc nL ret own fr lc) {i index : Nat} {r : Nat} (hr9 : i + 4 = r) (hi : KD i 5) (hw : Cond.fieldLink own index "DrumBoats$Rule" "number" "[I" ∈ GW) (hd : decode cc pc = .ok (.getfield index, 3)) (h : FW g x nL d dl (pc + 3) lo (rf g r :: st)) : FW g x nL d dl pc lo (rf g i :: st) := by
  subst hr9
  obtain ⟨⟨p, e, R, s, m⟩, ⟨args, below, meth, c⟩, ⟨A, nc, ns, Z⟩⟩ := x
  obtain ⟨l, dC, dI, ad, cA, sa, sv, vf⟩ := g
  obtain ⟨hx, hb, hr, hml, hown, hts, hlk, hK, hD0, hA, hE, hfr, hlc, hnc, hns⟩ := C0
  intro H locs ls hP hS hl
  exact va_get (D := (dC, dI)) (ci := 5) (C := RX5) (T := TX5) (N := 6) hx hb hts inX5 hown hK hP i (at_5 hi.1 hi.2) rfl 4 (by decide) (hts _ hw) (fun _ h9 => h9) rfl hd (h H locs ls hP hS hl)
theorem gf_5_5 (C0 : Cx g x cc nL ret own fr lc) {i index : Nat} {r : Nat} (hr9 : i + 5 = r) (hi : KD i 5) (hw : Cond.fieldLink own index "DrumBoats$Rule" "orAhead" "[Z" ∈ GW) (hd : decode cc pc = .ok (.getfield index, 3)) (h : FW g x nL d dl (pc + 3) lo (rf g r :: st)) : FW g x nL d dl pc lo (rf g i :: st) := by
  subst hr9
  obtain ⟨⟨p, e, R, s, m⟩, ⟨args, below, meth, c⟩, ⟨A, nc, ns, Z⟩⟩ := x
  obtain ⟨l, dC, dI, ad, cA, sa, sv, vf⟩ := g
  obtain ⟨hx, hb, hr, hml, hown, hts, hlk, hK, hD0, hA, hE, hfr, hlc, hnc, hns⟩ := C0
  intro H locs ls hP hS hl
  exact va_get (D := (dC, dI)) (ci := 5) (C := RX5) (T := TX5) (N := 6) hx hb hts inX5 hown hK hP i (at_5 hi.1 hi.2) rfl 5 (by decide) (hts _ hw) (fun _ h9 => h9) rfl hd (h H locs ls hP hS hl)
theorem gf_6_0 (C0 : Cx g x cc nL ret own fr lc) {i index : Nat} (hi : KD i 6) (hw : Cond.fieldLink own index "DrumBoats$SeatSearch" "leastTilt" "I" ∈ GW) (hd : decode cc pc = .ok (.getfield index, 3)) (h : FW g x nL d dl (pc + 3) lo (.int (d i 0) :: st)) : FW g x nL d dl pc lo (rf g i :: st) := by
  obtain ⟨⟨p, e, R, s, m⟩, ⟨args, below, meth, c⟩, ⟨A, nc, ns, Z⟩⟩ := x
  obtain ⟨l, dC, dI, ad, cA, sa, sv, vf⟩ := g
  obtain ⟨hx, hb, hr, hml, hown, hts, hlk, hK, hD0, hA, hE, hfr, hlc, hnc, hns⟩ := C0
  intro H locs ls hP hS hl
  exact va_get (D := (dC, dI)) (ci := 6) (C := RX6) (T := TX6) (N := 17) hx hb hts inX6 hown hK hP i (at_6 hi.1 hi.2) rfl 0 (by decide) (hts _ hw) (fun _ h9 => h9) rfl hd (h H locs ls hP hS hl)
theorem pf_6_0 (C0 : Cx g x cc nL ret own fr lc) {i index : Nat} {v : Int32} (hi : KD i 6) (hw : Cond.fieldLink own index "DrumBoats$SeatSearch" "leastTilt" "I" ∈ GW) (hd : decode cc pc = .ok (.putfield index, 3)) (h : ∀ e : DD, e = u2 d i 0 v → FW g x nL e dl (pc + 3) lo st) : FW g x nL d dl pc lo (.int v :: rf g i :: st) := by
  obtain ⟨⟨p, e, R, s, m⟩, ⟨args, below, meth, c⟩, ⟨A, nc, ns, Z⟩⟩ := x
  obtain ⟨l, dC, dI, ad, cA, sa, sv, vf⟩ := g
  obtain ⟨hx, hb, hr, hml, hown, hts, hlk, hK, hD0, hA, hE, hfr, hlc, hnc, hns⟩ := C0
  intro H locs ls hP hS hl
  refine va_put (D := (dC, dI)) (ci := 6) (ty := .int) (C := RX6) (T := TX6) (N := 17) hx hb hts inX6 tyX6 tyX6_ok nmX6 hown hK hP (D_any hD0) hS i (at_6 hi.1 hi.2) rfl 0 (by decide) (hts _ hw) (fun _ h9 => h9) rfl (by decide +kernel) rfl rfl (Nat.le_of_ble_eq_true rfl) hd (fun H locs hP hD hS => ?_)
  rw [put_6_0 v hi.1 hi.2] at hP
  exact h _ rfl H locs ls hP hS hl
theorem gf_6_1 (C0 : Cx g x cc nL ret own fr lc) {i index : Nat} (hi : KD i 6) (hw : Cond.fieldLink own index "DrumBoats$SeatSearch" "found" "Z" ∈ GW) (hd : decode cc pc = .ok (.getfield index, 3)) (h : FW g x nL d dl (pc + 3) lo (.int (d i 1) :: st)) : FW g x nL d dl pc lo (rf g i :: st) := by
  obtain ⟨⟨p, e, R, s, m⟩, ⟨args, below, meth, c⟩, ⟨A, nc, ns, Z⟩⟩ := x
  obtain ⟨l, dC, dI, ad, cA, sa, sv, vf⟩ := g
  obtain ⟨hx, hb, hr, hml, hown, hts, hlk, hK, hD0, hA, hE, hfr, hlc, hnc, hns⟩ := C0
  intro H locs ls hP hS hl
  exact va_get (D := (dC, dI)) (ci := 6) (C := RX6) (T := TX6) (N := 17) hx hb hts inX6 hown hK hP i (at_6 hi.1 hi.2) rfl 1 (by decide) (hts _ hw) (fun _ h9 => h9) rfl hd (h H locs ls hP hS hl)
theorem pf_6_1 (C0 : Cx g x cc nL ret own fr lc) {i index : Nat} {v : Int32} (hi : KD i 6) (hv : v = 0 ∨ v = 1) (hw : Cond.fieldLink own index "DrumBoats$SeatSearch" "found" "Z" ∈ GW) (hd : decode cc pc = .ok (.putfield index, 3)) (h : ∀ e : DD, e = u2 d i 1 v → FW g x nL e dl (pc + 3) lo st) : FW g x nL d dl pc lo (.int v :: rf g i :: st) := by
  obtain ⟨⟨p, e, R, s, m⟩, ⟨args, below, meth, c⟩, ⟨A, nc, ns, Z⟩⟩ := x
  obtain ⟨l, dC, dI, ad, cA, sa, sv, vf⟩ := g
  obtain ⟨hx, hb, hr, hml, hown, hts, hlk, hK, hD0, hA, hE, hfr, hlc, hnc, hns⟩ := C0
  intro H locs ls hP hS hl
  refine va_put (D := (dC, dI)) (ci := 6) (ty := .boolean) (C := RX6) (T := TX6) (N := 17) hx hb hts inX6 tyX6 tyX6_ok nmX6 hown hK hP (D_any hD0) hS i (at_6 hi.1 hi.2) rfl 1 (by decide) (hts _ hw) (fun _ h9 => h9) rfl (by decide +kernel) (by rcases hv with rfl | rfl <;> rfl) (by rcases hv with rfl | rfl <;> rfl) (Nat.le_of_ble_eq_true rfl) hd (fun H locs hP hD hS => ?_)
  rw [put_6_1 v hi.1 hi.2] at hP
  exact h _ rfl H locs ls hP hS hl
theorem gf_6_2 (C0 : Cx g x cc nL ret own fr lc) {i index : Nat} (hi : KD i 6) (hw : Cond.fieldLink own index "DrumBoats$SeatSearch" "seats" "I" ∈ GW) (hd : decode cc pc = .ok (.getfield index, 3)) (h : FW g x nL d dl (pc + 3) lo (.int (d i 2) :: st)) : FW g x nL d dl pc lo (rf g i :: st) := by
  obtain ⟨⟨p, e, R, s, m⟩, ⟨args, below, meth, c⟩, ⟨A, nc, ns, Z⟩⟩ := x
  obtain ⟨l, dC, dI, ad, cA, sa, sv, vf⟩ := g
  obtain ⟨hx, hb, hr, hml, hown, hts, hlk, hK, hD0, hA, hE, hfr, hlc, hnc, hns⟩ := C0
  intro H locs ls hP hS hl
  exact va_get (D := (dC, dI)) (ci := 6) (C := RX6) (T := TX6) (N := 17) hx hb hts inX6 hown hK hP i (at_6 hi.1 hi.2) rfl 2 (by decide) (hts _ hw) (fun _ h9 => h9) rfl hd (h H locs ls hP hS hl)
theorem pf_6_2 (C0 : Cx g x cc nL ret own fr lc) {i index : Nat} {v : Int32} (hi : KD i 6) (hw : Cond.fieldLink own index "DrumBoats$SeatSearch" "seats" "I" ∈ GW) (hd : decode cc pc = .ok (.putfield index, 3)) (h : ∀ e : DD, e = u2 d i 2 v → FW g x nL e dl (pc + 3) lo st) : FW g x nL d dl pc lo (.int v :: rf g i :: st) := by
  obtain ⟨⟨p, e, R, s, m⟩, ⟨args, below, meth, c⟩, ⟨A, nc, ns, Z⟩⟩ := x
  obtain ⟨l, dC, dI, ad, cA, sa, sv, vf⟩ := g
  obtain ⟨hx, hb, hr, hml, hown, hts, hlk, hK, hD0, hA, hE, hfr, hlc, hnc, hns⟩ := C0
  intro H locs ls hP hS hl
  refine va_put (D := (dC, dI)) (ci := 6) (ty := .int) (C := RX6) (T := TX6) (N := 17) hx hb hts inX6 tyX6 tyX6_ok nmX6 hown hK hP (D_any hD0) hS i (at_6 hi.1 hi.2) rfl 2 (by decide) (hts _ hw) (fun _ h9 => h9) rfl (by decide +kernel) rfl rfl (Nat.le_of_ble_eq_true rfl) hd (fun H locs hP hD hS => ?_)
  rw [put_6_2 v hi.1 hi.2] at hP
  exact h _ rfl H locs ls hP hS hl
theorem gf_6_3 (C0 : Cx g x cc nL ret own fr lc) {i index : Nat} (hi : KD i 6) (hw : Cond.fieldLink own index "DrumBoats$SeatSearch" "members" "I" ∈ GW) (hd : decode cc pc = .ok (.getfield index, 3)) (h : FW g x nL d dl (pc + 3) lo (.int (d i 3) :: st)) : FW g x nL d dl pc lo (rf g i :: st) := by
  obtain ⟨⟨p, e, R, s, m⟩, ⟨args, below, meth, c⟩, ⟨A, nc, ns, Z⟩⟩ := x
  obtain ⟨l, dC, dI, ad, cA, sa, sv, vf⟩ := g
  obtain ⟨hx, hb, hr, hml, hown, hts, hlk, hK, hD0, hA, hE, hfr, hlc, hnc, hns⟩ := C0
  intro H locs ls hP hS hl
  exact va_get (D := (dC, dI)) (ci := 6) (C := RX6) (T := TX6) (N := 17) hx hb hts inX6 hown hK hP i (at_6 hi.1 hi.2) rfl 3 (by decide) (hts _ hw) (fun _ h9 => h9) rfl hd (h H locs ls hP hS hl)
theorem pf_6_3 (C0 : Cx g x cc nL ret own fr lc) {i index : Nat} {v : Int32} (hi : KD i 6) (hw : Cond.fieldLink own index "DrumBoats$SeatSearch" "members" "I" ∈ GW) (hd : decode cc pc = .ok (.putfield index, 3)) (h : ∀ e : DD, e = u2 d i 3 v → FW g x nL e dl (pc + 3) lo st) : FW g x nL d dl pc lo (.int v :: rf g i :: st) := by
  obtain ⟨⟨p, e, R, s, m⟩, ⟨args, below, meth, c⟩, ⟨A, nc, ns, Z⟩⟩ := x
  obtain ⟨l, dC, dI, ad, cA, sa, sv, vf⟩ := g
  obtain ⟨hx, hb, hr, hml, hown, hts, hlk, hK, hD0, hA, hE, hfr, hlc, hnc, hns⟩ := C0
  intro H locs ls hP hS hl
  refine va_put (D := (dC, dI)) (ci := 6) (ty := .int) (C := RX6) (T := TX6) (N := 17) hx hb hts inX6 tyX6 tyX6_ok nmX6 hown hK hP (D_any hD0) hS i (at_6 hi.1 hi.2) rfl 3 (by decide) (hts _ hw) (fun _ h9 => h9) rfl (by decide +kernel) rfl rfl (Nat.le_of_ble_eq_true rfl) hd (fun H locs hP hD hS => ?_)
  rw [put_6_3 v hi.1 hi.2] at hP
  exact h _ rfl H locs ls hP hS hl
theorem gf_6_4 (C0 : Cx g x cc nL ret own fr lc) {i index : Nat} {r : Nat} (hr9 : i + 1 = r) (hi : KD i 6) (hw : Cond.fieldLink own index "DrumBoats$SeatSearch" "weight" "[I" ∈ GW) (hd : decode cc pc = .ok (.getfield index, 3)) (h : FW g x nL d dl (pc + 3) lo (rf g r :: st)) : FW g x nL d dl pc lo (rf g i :: st) := by
  subst hr9
  obtain ⟨⟨p, e, R, s, m⟩, ⟨args, below, meth, c⟩, ⟨A, nc, ns, Z⟩⟩ := x
  obtain ⟨l, dC, dI, ad, cA, sa, sv, vf⟩ := g
  obtain ⟨hx, hb, hr, hml, hown, hts, hlk, hK, hD0, hA, hE, hfr, hlc, hnc, hns⟩ := C0
  intro H locs ls hP hS hl
  exact va_get (D := (dC, dI)) (ci := 6) (C := RX6) (T := TX6) (N := 17) hx hb hts inX6 hown hK hP i (at_6 hi.1 hi.2) rfl 4 (by decide) (hts _ hw) (fun _ h9 => h9) rfl hd (h H locs ls hP hS hl)
theorem gf_6_5 (C0 : Cx g x cc nL ret own fr lc) {i index : Nat} {r : Nat} (hr9 : i + 2 = r) (hi : KD i 6) (hw : Cond.fieldLink own index "DrumBoats$SeatSearch" "strength" "[I" ∈ GW) (hd : decode cc pc = .ok (.getfield index, 3)) (h : FW g x nL d dl (pc + 3) lo (rf g r :: st)) : FW g x nL d dl pc lo (rf g i :: st) := by
  subst hr9
  obtain ⟨⟨p, e, R, s, m⟩, ⟨args, below, meth, c⟩, ⟨A, nc, ns, Z⟩⟩ := x
  obtain ⟨l, dC, dI, ad, cA, sa, sv, vf⟩ := g
  obtain ⟨hx, hb, hr, hml, hown, hts, hlk, hK, hD0, hA, hE, hfr, hlc, hnc, hns⟩ := C0
  intro H locs ls hP hS hl
  exact va_get (D := (dC, dI)) (ci := 6) (C := RX6) (T := TX6) (N := 17) hx hb hts inX6 hown hK hP i (at_6 hi.1 hi.2) rfl 5 (by decide) (hts _ hw) (fun _ h9 => h9) rfl hd (h H locs ls hP hS hl)
theorem gf_6_6 (C0 : Cx g x cc nL ret own fr lc) {i index : Nat} {r : Nat} (hr9 : i + 3 = r) (hi : KD i 6) (hw : Cond.fieldLink own index "DrumBoats$SeatSearch" "arm" "[I" ∈ GW) (hd : decode cc pc = .ok (.getfield index, 3)) (h : FW g x nL d dl (pc + 3) lo (rf g r :: st)) : FW g x nL d dl pc lo (rf g i :: st) := by
  subst hr9
  obtain ⟨⟨p, e, R, s, m⟩, ⟨args, below, meth, c⟩, ⟨A, nc, ns, Z⟩⟩ := x
  obtain ⟨l, dC, dI, ad, cA, sa, sv, vf⟩ := g
  obtain ⟨hx, hb, hr, hml, hown, hts, hlk, hK, hD0, hA, hE, hfr, hlc, hnc, hns⟩ := C0
  intro H locs ls hP hS hl
  exact va_get (D := (dC, dI)) (ci := 6) (C := RX6) (T := TX6) (N := 17) hx hb hts inX6 hown hK hP i (at_6 hi.1 hi.2) rfl 6 (by decide) (hts _ hw) (fun _ h9 => h9) rfl hd (h H locs ls hP hS hl)
theorem gf_6_7 (C0 : Cx g x cc nL ret own fr lc) {i index : Nat} {r : Nat} (hr9 : i + 4 = r) (hi : KD i 6) (hw : Cond.fieldLink own index "DrumBoats$SeatSearch" "friendBits" "[I" ∈ GW) (hd : decode cc pc = .ok (.getfield index, 3)) (h : FW g x nL d dl (pc + 3) lo (rf g r :: st)) : FW g x nL d dl pc lo (rf g i :: st) := by
  subst hr9
  obtain ⟨⟨p, e, R, s, m⟩, ⟨args, below, meth, c⟩, ⟨A, nc, ns, Z⟩⟩ := x
  obtain ⟨l, dC, dI, ad, cA, sa, sv, vf⟩ := g
  obtain ⟨hx, hb, hr, hml, hown, hts, hlk, hK, hD0, hA, hE, hfr, hlc, hnc, hns⟩ := C0
  intro H locs ls hP hS hl
  exact va_get (D := (dC, dI)) (ci := 6) (C := RX6) (T := TX6) (N := 17) hx hb hts inX6 hown hK hP i (at_6 hi.1 hi.2) rfl 7 (by decide) (hts _ hw) (fun _ h9 => h9) rfl hd (h H locs ls hP hS hl)
theorem gf_6_8 (C0 : Cx g x cc nL ret own fr lc) {i index : Nat} {r : Nat} (hr9 : i + 5 = r) (hi : KD i 6) (hw : Cond.fieldLink own index "DrumBoats$SeatSearch" "pitchFactor" "[I" ∈ GW) (hd : decode cc pc = .ok (.getfield index, 3)) (h : FW g x nL d dl (pc + 3) lo (rf g r :: st)) : FW g x nL d dl pc lo (rf g i :: st) := by
  subst hr9
  obtain ⟨⟨p, e, R, s, m⟩, ⟨args, below, meth, c⟩, ⟨A, nc, ns, Z⟩⟩ := x
  obtain ⟨l, dC, dI, ad, cA, sa, sv, vf⟩ := g
  obtain ⟨hx, hb, hr, hml, hown, hts, hlk, hK, hD0, hA, hE, hfr, hlc, hnc, hns⟩ := C0
  intro H locs ls hP hS hl
  exact va_get (D := (dC, dI)) (ci := 6) (C := RX6) (T := TX6) (N := 17) hx hb hts inX6 hown hK hP i (at_6 hi.1 hi.2) rfl 8 (by decide) (hts _ hw) (fun _ h9 => h9) rfl hd (h H locs ls hP hS hl)
theorem gf_6_9 (C0 : Cx g x cc nL ret own fr lc) {i index : Nat} {r : Nat} (hr9 : i + 6 = r) (hi : KD i 6) (hw : Cond.fieldLink own index "DrumBoats$SeatSearch" "middleFactor" "[I" ∈ GW) (hd : decode cc pc = .ok (.getfield index, 3)) (h : FW g x nL d dl (pc + 3) lo (rf g r :: st)) : FW g x nL d dl pc lo (rf g i :: st) := by
  subst hr9
  obtain ⟨⟨p, e, R, s, m⟩, ⟨args, below, meth, c⟩, ⟨A, nc, ns, Z⟩⟩ := x
  obtain ⟨l, dC, dI, ad, cA, sa, sv, vf⟩ := g
  obtain ⟨hx, hb, hr, hml, hown, hts, hlk, hK, hD0, hA, hE, hfr, hlc, hnc, hns⟩ := C0
  intro H locs ls hP hS hl
  exact va_get (D := (dC, dI)) (ci := 6) (C := RX6) (T := TX6) (N := 17) hx hb hts inX6 hown hK hP i (at_6 hi.1 hi.2) rfl 9 (by decide) (hts _ hw) (fun _ h9 => h9) rfl hd (h H locs ls hP hS hl)
theorem gf_6_10 (C0 : Cx g x cc nL ret own fr lc) {i index : Nat} {r : Nat} (hr9 : i + 7 = r) (hi : KD i 6) (hw : Cond.fieldLink own index "DrumBoats$SeatSearch" "chosen" "[I" ∈ GW) (hd : decode cc pc = .ok (.getfield index, 3)) (h : FW g x nL d dl (pc + 3) lo (rf g r :: st)) : FW g x nL d dl pc lo (rf g i :: st) := by
  subst hr9
  obtain ⟨⟨p, e, R, s, m⟩, ⟨args, below, meth, c⟩, ⟨A, nc, ns, Z⟩⟩ := x
  obtain ⟨l, dC, dI, ad, cA, sa, sv, vf⟩ := g
  obtain ⟨hx, hb, hr, hml, hown, hts, hlk, hK, hD0, hA, hE, hfr, hlc, hnc, hns⟩ := C0
  intro H locs ls hP hS hl
  exact va_get (D := (dC, dI)) (ci := 6) (C := RX6) (T := TX6) (N := 17) hx hb hts inX6 hown hK hP i (at_6 hi.1 hi.2) rfl 10 (by decide) (hts _ hw) (fun _ h9 => h9) rfl hd (h H locs ls hP hS hl)
theorem gf_6_11 (C0 : Cx g x cc nL ret own fr lc) {i index : Nat} {r : Nat} (hr9 : i + 8 = r) (hi : KD i 6) (hw : Cond.fieldLink own index "DrumBoats$SeatSearch" "best" "[I" ∈ GW) (hd : decode cc pc = .ok (.getfield index, 3)) (h : FW g x nL d dl (pc + 3) lo (rf g r :: st)) : FW g x nL d dl pc lo (rf g i :: st) := by
  subst hr9
  obtain ⟨⟨p, e, R, s, m⟩, ⟨args, below, meth, c⟩, ⟨A, nc, ns, Z⟩⟩ := x
  obtain ⟨l, dC, dI, ad, cA, sa, sv, vf⟩ := g
  obtain ⟨hx, hb, hr, hml, hown, hts, hlk, hK, hD0, hA, hE, hfr, hlc, hnc, hns⟩ := C0
  intro H locs ls hP hS hl
  exact va_get (D := (dC, dI)) (ci := 6) (C := RX6) (T := TX6) (N := 17) hx hb hts inX6 hown hK hP i (at_6 hi.1 hi.2) rfl 11 (by decide) (hts _ hw) (fun _ h9 => h9) rfl hd (h H locs ls hP hS hl)
theorem gf_6_12 (C0 : Cx g x cc nL ret own fr lc) {i index : Nat} {r : Nat} (hr9 : i + 9 = r) (hi : KD i 6) (hw : Cond.fieldLink own index "DrumBoats$SeatSearch" "leanLow" "[I" ∈ GW) (hd : decode cc pc = .ok (.getfield index, 3)) (h : FW g x nL d dl (pc + 3) lo (rf g r :: st)) : FW g x nL d dl pc lo (rf g i :: st) := by
  subst hr9
  obtain ⟨⟨p, e, R, s, m⟩, ⟨args, below, meth, c⟩, ⟨A, nc, ns, Z⟩⟩ := x
  obtain ⟨l, dC, dI, ad, cA, sa, sv, vf⟩ := g
  obtain ⟨hx, hb, hr, hml, hown, hts, hlk, hK, hD0, hA, hE, hfr, hlc, hnc, hns⟩ := C0
  intro H locs ls hP hS hl
  exact va_get (D := (dC, dI)) (ci := 6) (C := RX6) (T := TX6) (N := 17) hx hb hts inX6 hown hK hP i (at_6 hi.1 hi.2) rfl 12 (by decide) (hts _ hw) (fun _ h9 => h9) rfl hd (h H locs ls hP hS hl)
theorem gf_6_13 (C0 : Cx g x cc nL ret own fr lc) {i index : Nat} {r : Nat} (hr9 : i + 10 = r) (hi : KD i 6) (hw : Cond.fieldLink own index "DrumBoats$SeatSearch" "leanHigh" "[I" ∈ GW) (hd : decode cc pc = .ok (.getfield index, 3)) (h : FW g x nL d dl (pc + 3) lo (rf g r :: st)) : FW g x nL d dl pc lo (rf g i :: st) := by
  subst hr9
  obtain ⟨⟨p, e, R, s, m⟩, ⟨args, below, meth, c⟩, ⟨A, nc, ns, Z⟩⟩ := x
  obtain ⟨l, dC, dI, ad, cA, sa, sv, vf⟩ := g
  obtain ⟨hx, hb, hr, hml, hown, hts, hlk, hK, hD0, hA, hE, hfr, hlc, hnc, hns⟩ := C0
  intro H locs ls hP hS hl
  exact va_get (D := (dC, dI)) (ci := 6) (C := RX6) (T := TX6) (N := 17) hx hb hts inX6 hown hK hP i (at_6 hi.1 hi.2) rfl 13 (by decide) (hts _ hw) (fun _ h9 => h9) rfl hd (h H locs ls hP hS hl)
theorem gf_6_14 (C0 : Cx g x cc nL ret own fr lc) {i index : Nat} {r : Nat} (hr9 : i + 11 = r) (hi : KD i 6) (hw : Cond.fieldLink own index "DrumBoats$SeatSearch" "pitchLow" "[I" ∈ GW) (hd : decode cc pc = .ok (.getfield index, 3)) (h : FW g x nL d dl (pc + 3) lo (rf g r :: st)) : FW g x nL d dl pc lo (rf g i :: st) := by
  subst hr9
  obtain ⟨⟨p, e, R, s, m⟩, ⟨args, below, meth, c⟩, ⟨A, nc, ns, Z⟩⟩ := x
  obtain ⟨l, dC, dI, ad, cA, sa, sv, vf⟩ := g
  obtain ⟨hx, hb, hr, hml, hown, hts, hlk, hK, hD0, hA, hE, hfr, hlc, hnc, hns⟩ := C0
  intro H locs ls hP hS hl
  exact va_get (D := (dC, dI)) (ci := 6) (C := RX6) (T := TX6) (N := 17) hx hb hts inX6 hown hK hP i (at_6 hi.1 hi.2) rfl 14 (by decide) (hts _ hw) (fun _ h9 => h9) rfl hd (h H locs ls hP hS hl)
theorem gf_6_15 (C0 : Cx g x cc nL ret own fr lc) {i index : Nat} {r : Nat} (hr9 : i + 12 = r) (hi : KD i 6) (hw : Cond.fieldLink own index "DrumBoats$SeatSearch" "pitchHigh" "[I" ∈ GW) (hd : decode cc pc = .ok (.getfield index, 3)) (h : FW g x nL d dl (pc + 3) lo (rf g r :: st)) : FW g x nL d dl pc lo (rf g i :: st) := by
  subst hr9
  obtain ⟨⟨p, e, R, s, m⟩, ⟨args, below, meth, c⟩, ⟨A, nc, ns, Z⟩⟩ := x
  obtain ⟨l, dC, dI, ad, cA, sa, sv, vf⟩ := g
  obtain ⟨hx, hb, hr, hml, hown, hts, hlk, hK, hD0, hA, hE, hfr, hlc, hnc, hns⟩ := C0
  intro H locs ls hP hS hl
  exact va_get (D := (dC, dI)) (ci := 6) (C := RX6) (T := TX6) (N := 17) hx hb hts inX6 hown hK hP i (at_6 hi.1 hi.2) rfl 15 (by decide) (hts _ hw) (fun _ h9 => h9) rfl hd (h H locs ls hP hS hl)
theorem gf_6_16 (C0 : Cx g x cc nL ret own fr lc) {i index : Nat} {r : Nat} (hr9 : i + 13 = r) (hi : KD i 6) (hw : Cond.fieldLink own index "DrumBoats$SeatSearch" "gainHigh" "[I" ∈ GW) (hd : decode cc pc = .ok (.getfield index, 3)) (h : FW g x nL d dl (pc + 3) lo (rf g r :: st)) : FW g x nL d dl pc lo (rf g i :: st) := by
  subst hr9
  obtain ⟨⟨p, e, R, s, m⟩, ⟨args, below, meth, c⟩, ⟨A, nc, ns, Z⟩⟩ := x
  obtain ⟨l, dC, dI, ad, cA, sa, sv, vf⟩ := g
  obtain ⟨hx, hb, hr, hml, hown, hts, hlk, hK, hD0, hA, hE, hfr, hlc, hnc, hns⟩ := C0
  intro H locs ls hP hS hl
  exact va_get (D := (dC, dI)) (ci := 6) (C := RX6) (T := TX6) (N := 17) hx hb hts inX6 hown hK hP i (at_6 hi.1 hi.2) rfl 16 (by decide) (hts _ hw) (fun _ h9 => h9) rfl hd (h H locs ls hP hS hl)
theorem gf_7_0 (C0 : Cx g x cc nL ret own fr lc) {i index : Nat} (hi : KD i 7) (hw : Cond.fieldLink own index "DrumBoats$Tape" "size" "I" ∈ GW) (hd : decode cc pc = .ok (.getfield index, 3)) (h : FW g x nL d dl (pc + 3) lo (.int (d i 0) :: st)) : FW g x nL d dl pc lo (rf g i :: st) := by
  obtain ⟨⟨p, e, R, s, m⟩, ⟨args, below, meth, c⟩, ⟨A, nc, ns, Z⟩⟩ := x
  obtain ⟨l, dC, dI, ad, cA, sa, sv, vf⟩ := g
  obtain ⟨hx, hb, hr, hml, hown, hts, hlk, hK, hD0, hA, hE, hfr, hlc, hnc, hns⟩ := C0
  intro H locs ls hP hS hl
  exact va_get (D := (dC, dI)) (ci := 7) (C := RX7) (T := TX7) (N := 3) hx hb hts inX7 hown hK hP i (at_7 hi.1 hi.2) rfl 0 (by decide) (hts _ hw) (fun _ h9 => h9) rfl hd (h H locs ls hP hS hl)
theorem pf_7_0 (C0 : Cx g x cc nL ret own fr lc) {i index : Nat} {v : Int32} (hi : KD i 7) (hw : Cond.fieldLink own index "DrumBoats$Tape" "size" "I" ∈ GW) (hd : decode cc pc = .ok (.putfield index, 3)) (h : ∀ e : DD, e = u2 d i 0 v → FW g x nL e dl (pc + 3) lo st) : FW g x nL d dl pc lo (.int v :: rf g i :: st) := by
  obtain ⟨⟨p, e, R, s, m⟩, ⟨args, below, meth, c⟩, ⟨A, nc, ns, Z⟩⟩ := x
  obtain ⟨l, dC, dI, ad, cA, sa, sv, vf⟩ := g
  obtain ⟨hx, hb, hr, hml, hown, hts, hlk, hK, hD0, hA, hE, hfr, hlc, hnc, hns⟩ := C0
  intro H locs ls hP hS hl
  refine va_put (D := (dC, dI)) (ci := 7) (ty := .int) (C := RX7) (T := TX7) (N := 3) hx hb hts inX7 tyX7 tyX7_ok nmX7 hown hK hP (D_any hD0) hS i (at_7 hi.1 hi.2) rfl 0 (by decide) (hts _ hw) (fun _ h9 => h9) rfl (by decide +kernel) rfl rfl (Nat.le_of_ble_eq_true rfl) hd (fun H locs hP hD hS => ?_)
  rw [put_7_0 v hi.1 hi.2] at hP
  exact h _ rfl H locs ls hP hS hl
theorem gf_7_1 (C0 : Cx g x cc nL ret own fr lc) {i index : Nat} (hi : KD i 7) (hw : Cond.fieldLink own index "DrumBoats$Tape" "at" "I" ∈ GW) (hd : decode cc pc = .ok (.getfield index, 3)) (h : FW g x nL d dl (pc + 3) lo (.int (d i 1) :: st)) : FW g x nL d dl pc lo (rf g i :: st) := by
  obtain ⟨⟨p, e, R, s, m⟩, ⟨args, below, meth, c⟩, ⟨A, nc, ns, Z⟩⟩ := x
  obtain ⟨l, dC, dI, ad, cA, sa, sv, vf⟩ := g
  obtain ⟨hx, hb, hr, hml, hown, hts, hlk, hK, hD0, hA, hE, hfr, hlc, hnc, hns⟩ := C0
  intro H locs ls hP hS hl
  exact va_get (D := (dC, dI)) (ci := 7) (C := RX7) (T := TX7) (N := 3) hx hb hts inX7 hown hK hP i (at_7 hi.1 hi.2) rfl 1 (by decide) (hts _ hw) (fun _ h9 => h9) rfl hd (h H locs ls hP hS hl)
theorem pf_7_1 (C0 : Cx g x cc nL ret own fr lc) {i index : Nat} {v : Int32} (hi : KD i 7) (hw : Cond.fieldLink own index "DrumBoats$Tape" "at" "I" ∈ GW) (hd : decode cc pc = .ok (.putfield index, 3)) (h : ∀ e : DD, e = u2 d i 1 v → FW g x nL e dl (pc + 3) lo st) : FW g x nL d dl pc lo (.int v :: rf g i :: st) := by
  obtain ⟨⟨p, e, R, s, m⟩, ⟨args, below, meth, c⟩, ⟨A, nc, ns, Z⟩⟩ := x
  obtain ⟨l, dC, dI, ad, cA, sa, sv, vf⟩ := g
  obtain ⟨hx, hb, hr, hml, hown, hts, hlk, hK, hD0, hA, hE, hfr, hlc, hnc, hns⟩ := C0
  intro H locs ls hP hS hl
  refine va_put (D := (dC, dI)) (ci := 7) (ty := .int) (C := RX7) (T := TX7) (N := 3) hx hb hts inX7 tyX7 tyX7_ok nmX7 hown hK hP (D_any hD0) hS i (at_7 hi.1 hi.2) rfl 1 (by decide) (hts _ hw) (fun _ h9 => h9) rfl (by decide +kernel) rfl rfl (Nat.le_of_ble_eq_true rfl) hd (fun H locs hP hD hS => ?_)
  rw [put_7_1 v hi.1 hi.2] at hP
  exact h _ rfl H locs ls hP hS hl
theorem gf_7_2 (C0 : Cx g x cc nL ret own fr lc) {i index : Nat} {r : Nat} (hr9 : i + 1 = r) (hi : KD i 7) (hw : Cond.fieldLink own index "DrumBoats$Tape" "bytes" "[I" ∈ GW) (hd : decode cc pc = .ok (.getfield index, 3)) (h : FW g x nL d dl (pc + 3) lo (rf g r :: st)) : FW g x nL d dl pc lo (rf g i :: st) := by
  subst hr9
  obtain ⟨⟨p, e, R, s, m⟩, ⟨args, below, meth, c⟩, ⟨A, nc, ns, Z⟩⟩ := x
  obtain ⟨l, dC, dI, ad, cA, sa, sv, vf⟩ := g
  obtain ⟨hx, hb, hr, hml, hown, hts, hlk, hK, hD0, hA, hE, hfr, hlc, hnc, hns⟩ := C0
  intro H locs ls hP hS hl
  exact va_get (D := (dC, dI)) (ci := 7) (C := RX7) (T := TX7) (N := 3) hx hb hts inX7 hown hK hP i (at_7 hi.1 hi.2) rfl 2 (by decide) (hts _ hw) (fun _ h9 => h9) rfl hd (h H locs ls hP hS hl)
theorem gf_8_0 (C0 : Cx g x cc nL ret own fr lc) {i index : Nat} (hi : KD i 8) (hw : Cond.fieldLink own index "DrumBoats$Trim" "lean" "I" ∈ GW) (hd : decode cc pc = .ok (.getfield index, 3)) (h : FW g x nL d dl (pc + 3) lo (.int (d i 0) :: st)) : FW g x nL d dl pc lo (rf g i :: st) := by
  obtain ⟨⟨p, e, R, s, m⟩, ⟨args, below, meth, c⟩, ⟨A, nc, ns, Z⟩⟩ := x
  obtain ⟨l, dC, dI, ad, cA, sa, sv, vf⟩ := g
  obtain ⟨hx, hb, hr, hml, hown, hts, hlk, hK, hD0, hA, hE, hfr, hlc, hnc, hns⟩ := C0
  intro H locs ls hP hS hl
  exact va_get (D := (dC, dI)) (ci := 8) (C := RX8) (T := TX8) (N := 4) hx hb hts inX8 hown hK hP i (at_8 hi.1 hi.2) rfl 0 (by decide) (hts _ hw) (fun _ h9 => h9) rfl hd (h H locs ls hP hS hl)
theorem pf_8_0 (C0 : Cx g x cc nL ret own fr lc) {i index : Nat} {v : Int32} (hi : KD i 8) (hw : Cond.fieldLink own index "DrumBoats$Trim" "lean" "I" ∈ GW) (hd : decode cc pc = .ok (.putfield index, 3)) (h : ∀ e : DD, e = u2 d i 0 v → FW g x nL e dl (pc + 3) lo st) : FW g x nL d dl pc lo (.int v :: rf g i :: st) := by
  obtain ⟨⟨p, e, R, s, m⟩, ⟨args, below, meth, c⟩, ⟨A, nc, ns, Z⟩⟩ := x
  obtain ⟨l, dC, dI, ad, cA, sa, sv, vf⟩ := g
  obtain ⟨hx, hb, hr, hml, hown, hts, hlk, hK, hD0, hA, hE, hfr, hlc, hnc, hns⟩ := C0
  intro H locs ls hP hS hl
  refine va_put (D := (dC, dI)) (ci := 8) (ty := .int) (C := RX8) (T := TX8) (N := 4) hx hb hts inX8 tyX8 tyX8_ok nmX8 hown hK hP (D_any hD0) hS i (at_8 hi.1 hi.2) rfl 0 (by decide) (hts _ hw) (fun _ h9 => h9) rfl (by decide +kernel) rfl rfl (Nat.le_of_ble_eq_true rfl) hd (fun H locs hP hD hS => ?_)
  rw [put_8_0 v hi.1 hi.2] at hP
  exact h _ rfl H locs ls hP hS hl
theorem gf_8_1 (C0 : Cx g x cc nL ret own fr lc) {i index : Nat} (hi : KD i 8) (hw : Cond.fieldLink own index "DrumBoats$Trim" "pitch" "I" ∈ GW) (hd : decode cc pc = .ok (.getfield index, 3)) (h : FW g x nL d dl (pc + 3) lo (.int (d i 1) :: st)) : FW g x nL d dl pc lo (rf g i :: st) := by
  obtain ⟨⟨p, e, R, s, m⟩, ⟨args, below, meth, c⟩, ⟨A, nc, ns, Z⟩⟩ := x
  obtain ⟨l, dC, dI, ad, cA, sa, sv, vf⟩ := g
  obtain ⟨hx, hb, hr, hml, hown, hts, hlk, hK, hD0, hA, hE, hfr, hlc, hnc, hns⟩ := C0
  intro H locs ls hP hS hl
  exact va_get (D := (dC, dI)) (ci := 8) (C := RX8) (T := TX8) (N := 4) hx hb hts inX8 hown hK hP i (at_8 hi.1 hi.2) rfl 1 (by decide) (hts _ hw) (fun _ h9 => h9) rfl hd (h H locs ls hP hS hl)
theorem pf_8_1 (C0 : Cx g x cc nL ret own fr lc) {i index : Nat} {v : Int32} (hi : KD i 8) (hw : Cond.fieldLink own index "DrumBoats$Trim" "pitch" "I" ∈ GW) (hd : decode cc pc = .ok (.putfield index, 3)) (h : ∀ e : DD, e = u2 d i 1 v → FW g x nL e dl (pc + 3) lo st) : FW g x nL d dl pc lo (.int v :: rf g i :: st) := by
  obtain ⟨⟨p, e, R, s, m⟩, ⟨args, below, meth, c⟩, ⟨A, nc, ns, Z⟩⟩ := x
  obtain ⟨l, dC, dI, ad, cA, sa, sv, vf⟩ := g
  obtain ⟨hx, hb, hr, hml, hown, hts, hlk, hK, hD0, hA, hE, hfr, hlc, hnc, hns⟩ := C0
  intro H locs ls hP hS hl
  refine va_put (D := (dC, dI)) (ci := 8) (ty := .int) (C := RX8) (T := TX8) (N := 4) hx hb hts inX8 tyX8 tyX8_ok nmX8 hown hK hP (D_any hD0) hS i (at_8 hi.1 hi.2) rfl 1 (by decide) (hts _ hw) (fun _ h9 => h9) rfl (by decide +kernel) rfl rfl (Nat.le_of_ble_eq_true rfl) hd (fun H locs hP hD hS => ?_)
  rw [put_8_1 v hi.1 hi.2] at hP
  exact h _ rfl H locs ls hP hS hl
theorem gf_8_2 (C0 : Cx g x cc nL ret own fr lc) {i index : Nat} (hi : KD i 8) (hw : Cond.fieldLink own index "DrumBoats$Trim" "middle" "I" ∈ GW) (hd : decode cc pc = .ok (.getfield index, 3)) (h : FW g x nL d dl (pc + 3) lo (.int (d i 2) :: st)) : FW g x nL d dl pc lo (rf g i :: st) := by
  obtain ⟨⟨p, e, R, s, m⟩, ⟨args, below, meth, c⟩, ⟨A, nc, ns, Z⟩⟩ := x
  obtain ⟨l, dC, dI, ad, cA, sa, sv, vf⟩ := g
  obtain ⟨hx, hb, hr, hml, hown, hts, hlk, hK, hD0, hA, hE, hfr, hlc, hnc, hns⟩ := C0
  intro H locs ls hP hS hl
  exact va_get (D := (dC, dI)) (ci := 8) (C := RX8) (T := TX8) (N := 4) hx hb hts inX8 hown hK hP i (at_8 hi.1 hi.2) rfl 2 (by decide) (hts _ hw) (fun _ h9 => h9) rfl hd (h H locs ls hP hS hl)
theorem pf_8_2 (C0 : Cx g x cc nL ret own fr lc) {i index : Nat} {v : Int32} (hi : KD i 8) (hw : Cond.fieldLink own index "DrumBoats$Trim" "middle" "I" ∈ GW) (hd : decode cc pc = .ok (.putfield index, 3)) (h : ∀ e : DD, e = u2 d i 2 v → FW g x nL e dl (pc + 3) lo st) : FW g x nL d dl pc lo (.int v :: rf g i :: st) := by
  obtain ⟨⟨p, e, R, s, m⟩, ⟨args, below, meth, c⟩, ⟨A, nc, ns, Z⟩⟩ := x
  obtain ⟨l, dC, dI, ad, cA, sa, sv, vf⟩ := g
  obtain ⟨hx, hb, hr, hml, hown, hts, hlk, hK, hD0, hA, hE, hfr, hlc, hnc, hns⟩ := C0
  intro H locs ls hP hS hl
  refine va_put (D := (dC, dI)) (ci := 8) (ty := .int) (C := RX8) (T := TX8) (N := 4) hx hb hts inX8 tyX8 tyX8_ok nmX8 hown hK hP (D_any hD0) hS i (at_8 hi.1 hi.2) rfl 2 (by decide) (hts _ hw) (fun _ h9 => h9) rfl (by decide +kernel) rfl rfl (Nat.le_of_ble_eq_true rfl) hd (fun H locs hP hD hS => ?_)
  rw [put_8_2 v hi.1 hi.2] at hP
  exact h _ rfl H locs ls hP hS hl
theorem gf_8_3 (C0 : Cx g x cc nL ret own fr lc) {i index : Nat} (hi : KD i 8) (hw : Cond.fieldLink own index "DrumBoats$Trim" "friends" "I" ∈ GW) (hd : decode cc pc = .ok (.getfield index, 3)) (h : FW g x nL d dl (pc + 3) lo (.int (d i 3) :: st)) : FW g x nL d dl pc lo (rf g i :: st) := by
  obtain ⟨⟨p, e, R, s, m⟩, ⟨args, below, meth, c⟩, ⟨A, nc, ns, Z⟩⟩ := x
  obtain ⟨l, dC, dI, ad, cA, sa, sv, vf⟩ := g
  obtain ⟨hx, hb, hr, hml, hown, hts, hlk, hK, hD0, hA, hE, hfr, hlc, hnc, hns⟩ := C0
  intro H locs ls hP hS hl
  exact va_get (D := (dC, dI)) (ci := 8) (C := RX8) (T := TX8) (N := 4) hx hb hts inX8 hown hK hP i (at_8 hi.1 hi.2) rfl 3 (by decide) (hts _ hw) (fun _ h9 => h9) rfl hd (h H locs ls hP hS hl)
theorem pf_8_3 (C0 : Cx g x cc nL ret own fr lc) {i index : Nat} {v : Int32} (hi : KD i 8) (hw : Cond.fieldLink own index "DrumBoats$Trim" "friends" "I" ∈ GW) (hd : decode cc pc = .ok (.putfield index, 3)) (h : ∀ e : DD, e = u2 d i 3 v → FW g x nL e dl (pc + 3) lo st) : FW g x nL d dl pc lo (.int v :: rf g i :: st) := by
  obtain ⟨⟨p, e, R, s, m⟩, ⟨args, below, meth, c⟩, ⟨A, nc, ns, Z⟩⟩ := x
  obtain ⟨l, dC, dI, ad, cA, sa, sv, vf⟩ := g
  obtain ⟨hx, hb, hr, hml, hown, hts, hlk, hK, hD0, hA, hE, hfr, hlc, hnc, hns⟩ := C0
  intro H locs ls hP hS hl
  refine va_put (D := (dC, dI)) (ci := 8) (ty := .int) (C := RX8) (T := TX8) (N := 4) hx hb hts inX8 tyX8 tyX8_ok nmX8 hown hK hP (D_any hD0) hS i (at_8 hi.1 hi.2) rfl 3 (by decide) (hts _ hw) (fun _ h9 => h9) rfl (by decide +kernel) rfl rfl (Nat.le_of_ble_eq_true rfl) hd (fun H locs hP hD hS => ?_)
  rw [put_8_3 v hi.1 hi.2] at hP
  exact h _ rfl H locs ls hP hS hl
theorem gf_9_0 (C0 : Cx g x cc nL ret own fr lc) {i index : Nat} {r : Nat} (hr9 : i + 1 = r) (hi : KD i 9) (hw : Cond.fieldLink own index "DrumBoats" "roster" "LDrumBoats$Roster;" ∈ GW) (hd : decode cc pc = .ok (.getfield index, 3)) (h : FW g x nL d dl (pc + 3) lo (rf g r :: st)) : FW g x nL d dl pc lo (rf g i :: st) := by
  subst hr9
  obtain ⟨⟨p, e, R, s, m⟩, ⟨args, below, meth, c⟩, ⟨A, nc, ns, Z⟩⟩ := x
  obtain ⟨l, dC, dI, ad, cA, sa, sv, vf⟩ := g
  obtain ⟨hx, hb, hr, hml, hown, hts, hlk, hK, hD0, hA, hE, hfr, hlc, hnc, hns⟩ := C0
  intro H locs ls hP hS hl
  exact va_get (D := (dC, dI)) (ci := 9) (C := RX9) (T := TX9) (N := 16) hx hb hts inX9 hown hK hP i (at_9 hi.1 hi.2) rfl 0 (by decide) (hts _ hw) (fun _ h9 => h9) rfl hd (h H locs ls hP hS hl)
theorem gf_9_1 (C0 : Cx g x cc nL ret own fr lc) {i index : Nat} {r : Nat} (hr9 : i + 8 = r) (hi : KD i 9) (hw : Cond.fieldLink own index "DrumBoats" "crews" "[LDrumBoats$Crew;" ∈ GW) (hd : decode cc pc = .ok (.getfield index, 3)) (h : FW g x nL d dl (pc + 3) lo (rf g r :: st)) : FW g x nL d dl pc lo (rf g i :: st) := by
  subst hr9
  obtain ⟨⟨p, e, R, s, m⟩, ⟨args, below, meth, c⟩, ⟨A, nc, ns, Z⟩⟩ := x
  obtain ⟨l, dC, dI, ad, cA, sa, sv, vf⟩ := g
  obtain ⟨hx, hb, hr, hml, hown, hts, hlk, hK, hD0, hA, hE, hfr, hlc, hnc, hns⟩ := C0
  intro H locs ls hP hS hl
  exact va_get (D := (dC, dI)) (ci := 9) (C := RX9) (T := TX9) (N := 16) hx hb hts inX9 hown hK hP i (at_9 hi.1 hi.2) rfl 1 (by decide) (hts _ hw) (fun _ h9 => h9) rfl hd (h H locs ls hP hS hl)
theorem gf_9_2 (C0 : Cx g x cc nL ret own fr lc) {i index : Nat} (hi : KD i 9) (hw : Cond.fieldLink own index "DrumBoats" "crewCount" "I" ∈ GW) (hd : decode cc pc = .ok (.getfield index, 3)) (h : FW g x nL d dl (pc + 3) lo (.int (d i 2) :: st)) : FW g x nL d dl pc lo (rf g i :: st) := by
  obtain ⟨⟨p, e, R, s, m⟩, ⟨args, below, meth, c⟩, ⟨A, nc, ns, Z⟩⟩ := x
  obtain ⟨l, dC, dI, ad, cA, sa, sv, vf⟩ := g
  obtain ⟨hx, hb, hr, hml, hown, hts, hlk, hK, hD0, hA, hE, hfr, hlc, hnc, hns⟩ := C0
  intro H locs ls hP hS hl
  exact va_get (D := (dC, dI)) (ci := 9) (C := RX9) (T := TX9) (N := 16) hx hb hts inX9 hown hK hP i (at_9 hi.1 hi.2) rfl 2 (by decide) (hts _ hw) (fun _ h9 => h9) rfl hd (h H locs ls hP hS hl)
theorem pf_9_2 (C0 : Cx g x cc nL ret own fr lc) {i index : Nat} {v : Int32} (hi : KD i 9) (hw : Cond.fieldLink own index "DrumBoats" "crewCount" "I" ∈ GW) (hd : decode cc pc = .ok (.putfield index, 3)) (h : ∀ e : DD, e = u2 d i 2 v → FW g x nL e dl (pc + 3) lo st) : FW g x nL d dl pc lo (.int v :: rf g i :: st) := by
  obtain ⟨⟨p, e, R, s, m⟩, ⟨args, below, meth, c⟩, ⟨A, nc, ns, Z⟩⟩ := x
  obtain ⟨l, dC, dI, ad, cA, sa, sv, vf⟩ := g
  obtain ⟨hx, hb, hr, hml, hown, hts, hlk, hK, hD0, hA, hE, hfr, hlc, hnc, hns⟩ := C0
  intro H locs ls hP hS hl
  refine va_put (D := (dC, dI)) (ci := 9) (ty := .int) (C := RX9) (T := TX9) (N := 16) hx hb hts inX9 tyX9 tyX9_ok nmX9 hown hK hP (D_any hD0) hS i (at_9 hi.1 hi.2) rfl 2 (by decide) (hts _ hw) (fun _ h9 => h9) rfl (by decide +kernel) rfl rfl (Nat.le_of_ble_eq_true rfl) hd (fun H locs hP hD hS => ?_)
  rw [put_9_2 v hi.1 hi.2] at hP
  exact h _ rfl H locs ls hP hS hl
theorem gf_9_3 (C0 : Cx g x cc nL ret own fr lc) {i index : Nat} {r : Nat} (hr9 : i + 9 = r) (hi : KD i 9) (hw : Cond.fieldLink own index "DrumBoats" "balance" "LDrumBoats$Trim;" ∈ GW) (hd : decode cc pc = .ok (.getfield index, 3)) (h : FW g x nL d dl (pc + 3) lo (rf g r :: st)) : FW g x nL d dl pc lo (rf g i :: st) := by
  subst hr9
  obtain ⟨⟨p, e, R, s, m⟩, ⟨args, below, meth, c⟩, ⟨A, nc, ns, Z⟩⟩ := x
  obtain ⟨l, dC, dI, ad, cA, sa, sv, vf⟩ := g
  obtain ⟨hx, hb, hr, hml, hown, hts, hlk, hK, hD0, hA, hE, hfr, hlc, hnc, hns⟩ := C0
  intro H locs ls hP hS hl
  exact va_get (D := (dC, dI)) (ci := 9) (C := RX9) (T := TX9) (N := 16) hx hb hts inX9 hown hK hP i (at_9 hi.1 hi.2) rfl 3 (by decide) (hts _ hw) (fun _ h9 => h9) rfl hd (h H locs ls hP hS hl)
theorem gf_9_4 (C0 : Cx g x cc nL ret own fr lc) {i index : Nat} {r : Nat} (hr9 : i + 10 = r) (hi : KD i 9) (hw : Cond.fieldLink own index "DrumBoats" "search" "LDrumBoats$SeatSearch;" ∈ GW) (hd : decode cc pc = .ok (.getfield index, 3)) (h : FW g x nL d dl (pc + 3) lo (rf g r :: st)) : FW g x nL d dl pc lo (rf g i :: st) := by
  subst hr9
  obtain ⟨⟨p, e, R, s, m⟩, ⟨args, below, meth, c⟩, ⟨A, nc, ns, Z⟩⟩ := x
  obtain ⟨l, dC, dI, ad, cA, sa, sv, vf⟩ := g
  obtain ⟨hx, hb, hr, hml, hown, hts, hlk, hK, hD0, hA, hE, hfr, hlc, hnc, hns⟩ := C0
  intro H locs ls hP hS hl
  exact va_get (D := (dC, dI)) (ci := 9) (C := RX9) (T := TX9) (N := 16) hx hb hts inX9 hown hK hP i (at_9 hi.1 hi.2) rfl 4 (by decide) (hts _ hw) (fun _ h9 => h9) rfl hd (h H locs ls hP hS hl)
theorem gf_9_5 (C0 : Cx g x cc nL ret own fr lc) {i index : Nat} {r : Nat} (hr9 : i + 24 = r) (hi : KD i 9) (hw : Cond.fieldLink own index "DrumBoats" "tape" "LDrumBoats$Tape;" ∈ GW) (hd : decode cc pc = .ok (.getfield index, 3)) (h : FW g x nL d dl (pc + 3) lo (rf g r :: st)) : FW g x nL d dl pc lo (rf g i :: st) := by
  subst hr9
  obtain ⟨⟨p, e, R, s, m⟩, ⟨args, below, meth, c⟩, ⟨A, nc, ns, Z⟩⟩ := x
  obtain ⟨l, dC, dI, ad, cA, sa, sv, vf⟩ := g
  obtain ⟨hx, hb, hr, hml, hown, hts, hlk, hK, hD0, hA, hE, hfr, hlc, hnc, hns⟩ := C0
  intro H locs ls hP hS hl
  exact va_get (D := (dC, dI)) (ci := 9) (C := RX9) (T := TX9) (N := 16) hx hb hts inX9 hown hK hP i (at_9 hi.1 hi.2) rfl 5 (by decide) (hts _ hw) (fun _ h9 => h9) rfl hd (h H locs ls hP hS hl)
theorem gf_9_6 (C0 : Cx g x cc nL ret own fr lc) {i index : Nat} {r : Nat} (hr9 : i + 26 = r) (hi : KD i 9) (hw : Cond.fieldLink own index "DrumBoats" "rules" "[LDrumBoats$Rule;" ∈ GW) (hd : decode cc pc = .ok (.getfield index, 3)) (h : FW g x nL d dl (pc + 3) lo (rf g r :: st)) : FW g x nL d dl pc lo (rf g i :: st) := by
  subst hr9
  obtain ⟨⟨p, e, R, s, m⟩, ⟨args, below, meth, c⟩, ⟨A, nc, ns, Z⟩⟩ := x
  obtain ⟨l, dC, dI, ad, cA, sa, sv, vf⟩ := g
  obtain ⟨hx, hb, hr, hml, hown, hts, hlk, hK, hD0, hA, hE, hfr, hlc, hnc, hns⟩ := C0
  intro H locs ls hP hS hl
  exact va_get (D := (dC, dI)) (ci := 9) (C := RX9) (T := TX9) (N := 16) hx hb hts inX9 hown hK hP i (at_9 hi.1 hi.2) rfl 6 (by decide) (hts _ hw) (fun _ h9 => h9) rfl hd (h H locs ls hP hS hl)
theorem gf_9_7 (C0 : Cx g x cc nL ret own fr lc) {i index : Nat} (hi : KD i 9) (hw : Cond.fieldLink own index "DrumBoats" "ruleCount" "I" ∈ GW) (hd : decode cc pc = .ok (.getfield index, 3)) (h : FW g x nL d dl (pc + 3) lo (.int (d i 7) :: st)) : FW g x nL d dl pc lo (rf g i :: st) := by
  obtain ⟨⟨p, e, R, s, m⟩, ⟨args, below, meth, c⟩, ⟨A, nc, ns, Z⟩⟩ := x
  obtain ⟨l, dC, dI, ad, cA, sa, sv, vf⟩ := g
  obtain ⟨hx, hb, hr, hml, hown, hts, hlk, hK, hD0, hA, hE, hfr, hlc, hnc, hns⟩ := C0
  intro H locs ls hP hS hl
  exact va_get (D := (dC, dI)) (ci := 9) (C := RX9) (T := TX9) (N := 16) hx hb hts inX9 hown hK hP i (at_9 hi.1 hi.2) rfl 7 (by decide) (hts _ hw) (fun _ h9 => h9) rfl hd (h H locs ls hP hS hl)
theorem pf_9_7 (C0 : Cx g x cc nL ret own fr lc) {i index : Nat} {v : Int32} (hi : KD i 9) (hw : Cond.fieldLink own index "DrumBoats" "ruleCount" "I" ∈ GW) (hd : decode cc pc = .ok (.putfield index, 3)) (h : ∀ e : DD, e = u2 d i 7 v → FW g x nL e dl (pc + 3) lo st) : FW g x nL d dl pc lo (.int v :: rf g i :: st) := by
  obtain ⟨⟨p, e, R, s, m⟩, ⟨args, below, meth, c⟩, ⟨A, nc, ns, Z⟩⟩ := x
  obtain ⟨l, dC, dI, ad, cA, sa, sv, vf⟩ := g
  obtain ⟨hx, hb, hr, hml, hown, hts, hlk, hK, hD0, hA, hE, hfr, hlc, hnc, hns⟩ := C0
  intro H locs ls hP hS hl
  refine va_put (D := (dC, dI)) (ci := 9) (ty := .int) (C := RX9) (T := TX9) (N := 16) hx hb hts inX9 tyX9 tyX9_ok nmX9 hown hK hP (D_any hD0) hS i (at_9 hi.1 hi.2) rfl 7 (by decide) (hts _ hw) (fun _ h9 => h9) rfl (by decide +kernel) rfl rfl (Nat.le_of_ble_eq_true rfl) hd (fun H locs hP hD hS => ?_)
  rw [put_9_7 v hi.1 hi.2] at hP
  exact h _ rfl H locs ls hP hS hl
theorem gf_9_8 (C0 : Cx g x cc nL ret own fr lc) {i index : Nat} {r : Nat} (hr9 : i + 27 = r) (hi : KD i 9) (hw : Cond.fieldLink own index "DrumBoats" "tallies" "[I" ∈ GW) (hd : decode cc pc = .ok (.getfield index, 3)) (h : FW g x nL d dl (pc + 3) lo (rf g r :: st)) : FW g x nL d dl pc lo (rf g i :: st) := by
  subst hr9
  obtain ⟨⟨p, e, R, s, m⟩, ⟨args, below, meth, c⟩, ⟨A, nc, ns, Z⟩⟩ := x
  obtain ⟨l, dC, dI, ad, cA, sa, sv, vf⟩ := g
  obtain ⟨hx, hb, hr, hml, hown, hts, hlk, hK, hD0, hA, hE, hfr, hlc, hnc, hns⟩ := C0
  intro H locs ls hP hS hl
  exact va_get (D := (dC, dI)) (ci := 9) (C := RX9) (T := TX9) (N := 16) hx hb hts inX9 hown hK hP i (at_9 hi.1 hi.2) rfl 8 (by decide) (hts _ hw) (fun _ h9 => h9) rfl hd (h H locs ls hP hS hl)
theorem gf_9_9 (C0 : Cx g x cc nL ret own fr lc) {i index : Nat} (hi : KD i 9) (hw : Cond.fieldLink own index "DrumBoats" "restMinutes" "I" ∈ GW) (hd : decode cc pc = .ok (.getfield index, 3)) (h : FW g x nL d dl (pc + 3) lo (.int (d i 9) :: st)) : FW g x nL d dl pc lo (rf g i :: st) := by
  obtain ⟨⟨p, e, R, s, m⟩, ⟨args, below, meth, c⟩, ⟨A, nc, ns, Z⟩⟩ := x
  obtain ⟨l, dC, dI, ad, cA, sa, sv, vf⟩ := g
  obtain ⟨hx, hb, hr, hml, hown, hts, hlk, hK, hD0, hA, hE, hfr, hlc, hnc, hns⟩ := C0
  intro H locs ls hP hS hl
  exact va_get (D := (dC, dI)) (ci := 9) (C := RX9) (T := TX9) (N := 16) hx hb hts inX9 hown hK hP i (at_9 hi.1 hi.2) rfl 9 (by decide) (hts _ hw) (fun _ h9 => h9) rfl hd (h H locs ls hP hS hl)
theorem pf_9_9 (C0 : Cx g x cc nL ret own fr lc) {i index : Nat} {v : Int32} (hi : KD i 9) (hw : Cond.fieldLink own index "DrumBoats" "restMinutes" "I" ∈ GW) (hd : decode cc pc = .ok (.putfield index, 3)) (h : ∀ e : DD, e = u2 d i 9 v → FW g x nL e dl (pc + 3) lo st) : FW g x nL d dl pc lo (.int v :: rf g i :: st) := by
  obtain ⟨⟨p, e, R, s, m⟩, ⟨args, below, meth, c⟩, ⟨A, nc, ns, Z⟩⟩ := x
  obtain ⟨l, dC, dI, ad, cA, sa, sv, vf⟩ := g
  obtain ⟨hx, hb, hr, hml, hown, hts, hlk, hK, hD0, hA, hE, hfr, hlc, hnc, hns⟩ := C0
  intro H locs ls hP hS hl
  refine va_put (D := (dC, dI)) (ci := 9) (ty := .int) (C := RX9) (T := TX9) (N := 16) hx hb hts inX9 tyX9 tyX9_ok nmX9 hown hK hP (D_any hD0) hS i (at_9 hi.1 hi.2) rfl 9 (by decide) (hts _ hw) (fun _ h9 => h9) rfl (by decide +kernel) rfl rfl (Nat.le_of_ble_eq_true rfl) hd (fun H locs hP hD hS => ?_)
  rw [put_9_9 v hi.1 hi.2] at hP
  exact h _ rfl H locs ls hP hS hl
theorem gf_9_10 (C0 : Cx g x cc nL ret own fr lc) {i index : Nat} {r : Nat} (hr9 : i + 28 = r) (hi : KD i 9) (hw : Cond.fieldLink own index "DrumBoats" "waiting" "[I" ∈ GW) (hd : decode cc pc = .ok (.getfield index, 3)) (h : FW g x nL d dl (pc + 3) lo (rf g r :: st)) : FW g x nL d dl pc lo (rf g i :: st) := by
  subst hr9
  obtain ⟨⟨p, e, R, s, m⟩, ⟨args, below, meth, c⟩, ⟨A, nc, ns, Z⟩⟩ := x
  obtain ⟨l, dC, dI, ad, cA, sa, sv, vf⟩ := g
  obtain ⟨hx, hb, hr, hml, hown, hts, hlk, hK, hD0, hA, hE, hfr, hlc, hnc, hns⟩ := C0
  intro H locs ls hP hS hl
  exact va_get (D := (dC, dI)) (ci := 9) (C := RX9) (T := TX9) (N := 16) hx hb hts inX9 hown hK hP i (at_9 hi.1 hi.2) rfl 10 (by decide) (hts _ hw) (fun _ h9 => h9) rfl hd (h H locs ls hP hS hl)
theorem gf_9_11 (C0 : Cx g x cc nL ret own fr lc) {i index : Nat} {r : Nat} (hr9 : i + 29 = r) (hi : KD i 9) (hw : Cond.fieldLink own index "DrumBoats" "currents" "[I" ∈ GW) (hd : decode cc pc = .ok (.getfield index, 3)) (h : FW g x nL d dl (pc + 3) lo (rf g r :: st)) : FW g x nL d dl pc lo (rf g i :: st) := by
  subst hr9
  obtain ⟨⟨p, e, R, s, m⟩, ⟨args, below, meth, c⟩, ⟨A, nc, ns, Z⟩⟩ := x
  obtain ⟨l, dC, dI, ad, cA, sa, sv, vf⟩ := g
  obtain ⟨hx, hb, hr, hml, hown, hts, hlk, hK, hD0, hA, hE, hfr, hlc, hnc, hns⟩ := C0
  intro H locs ls hP hS hl
  exact va_get (D := (dC, dI)) (ci := 9) (C := RX9) (T := TX9) (N := 16) hx hb hts inX9 hown hK hP i (at_9 hi.1 hi.2) rfl 11 (by decide) (hts _ hw) (fun _ h9 => h9) rfl hd (h H locs ls hP hS hl)
theorem gf_9_12 (C0 : Cx g x cc nL ret own fr lc) {i index : Nat} {r : Nat} (hr9 : i + 30 = r) (hi : KD i 9) (hw : Cond.fieldLink own index "DrumBoats" "races" "[LDrumBoats$Race;" ∈ GW) (hd : decode cc pc = .ok (.getfield index, 3)) (h : FW g x nL d dl (pc + 3) lo (rf g r :: st)) : FW g x nL d dl pc lo (rf g i :: st) := by
  subst hr9
  obtain ⟨⟨p, e, R, s, m⟩, ⟨args, below, meth, c⟩, ⟨A, nc, ns, Z⟩⟩ := x
  obtain ⟨l, dC, dI, ad, cA, sa, sv, vf⟩ := g
  obtain ⟨hx, hb, hr, hml, hown, hts, hlk, hK, hD0, hA, hE, hfr, hlc, hnc, hns⟩ := C0
  intro H locs ls hP hS hl
  exact va_get (D := (dC, dI)) (ci := 9) (C := RX9) (T := TX9) (N := 16) hx hb hts inX9 hown hK hP i (at_9 hi.1 hi.2) rfl 12 (by decide) (hts _ hw) (fun _ h9 => h9) rfl hd (h H locs ls hP hS hl)
theorem gf_9_13 (C0 : Cx g x cc nL ret own fr lc) {i index : Nat} (hi : KD i 9) (hw : Cond.fieldLink own index "DrumBoats" "raceCount" "I" ∈ GW) (hd : decode cc pc = .ok (.getfield index, 3)) (h : FW g x nL d dl (pc + 3) lo (.int (d i 13) :: st)) : FW g x nL d dl pc lo (rf g i :: st) := by
  obtain ⟨⟨p, e, R, s, m⟩, ⟨args, below, meth, c⟩, ⟨A, nc, ns, Z⟩⟩ := x
  obtain ⟨l, dC, dI, ad, cA, sa, sv, vf⟩ := g
  obtain ⟨hx, hb, hr, hml, hown, hts, hlk, hK, hD0, hA, hE, hfr, hlc, hnc, hns⟩ := C0
  intro H locs ls hP hS hl
  exact va_get (D := (dC, dI)) (ci := 9) (C := RX9) (T := TX9) (N := 16) hx hb hts inX9 hown hK hP i (at_9 hi.1 hi.2) rfl 13 (by decide) (hts _ hw) (fun _ h9 => h9) rfl hd (h H locs ls hP hS hl)
theorem pf_9_13 (C0 : Cx g x cc nL ret own fr lc) {i index : Nat} {v : Int32} (hi : KD i 9) (hw : Cond.fieldLink own index "DrumBoats" "raceCount" "I" ∈ GW) (hd : decode cc pc = .ok (.putfield index, 3)) (h : ∀ e : DD, e = u2 d i 13 v → FW g x nL e dl (pc + 3) lo st) : FW g x nL d dl pc lo (.int v :: rf g i :: st) := by
  obtain ⟨⟨p, e, R, s, m⟩, ⟨args, below, meth, c⟩, ⟨A, nc, ns, Z⟩⟩ := x
  obtain ⟨l, dC, dI, ad, cA, sa, sv, vf⟩ := g
  obtain ⟨hx, hb, hr, hml, hown, hts, hlk, hK, hD0, hA, hE, hfr, hlc, hnc, hns⟩ := C0
  intro H locs ls hP hS hl
  refine va_put (D := (dC, dI)) (ci := 9) (ty := .int) (C := RX9) (T := TX9) (N := 16) hx hb hts inX9 tyX9 tyX9_ok nmX9 hown hK hP (D_any hD0) hS i (at_9 hi.1 hi.2) rfl 13 (by decide) (hts _ hw) (fun _ h9 => h9) rfl (by decide +kernel) rfl rfl (Nat.le_of_ble_eq_true rfl) hd (fun H locs hP hD hS => ?_)
  rw [put_9_13 v hi.1 hi.2] at hP
  exact h _ rfl H locs ls hP hS hl
theorem gf_9_14 (C0 : Cx g x cc nL ret own fr lc) {i index : Nat} {r : Nat} (hr9 : i + 31 = r) (hi : KD i 9) (hw : Cond.fieldLink own index "DrumBoats" "course" "LDrumBoats$Course;" ∈ GW) (hd : decode cc pc = .ok (.getfield index, 3)) (h : FW g x nL d dl (pc + 3) lo (rf g r :: st)) : FW g x nL d dl pc lo (rf g i :: st) := by
  subst hr9
  obtain ⟨⟨p, e, R, s, m⟩, ⟨args, below, meth, c⟩, ⟨A, nc, ns, Z⟩⟩ := x
  obtain ⟨l, dC, dI, ad, cA, sa, sv, vf⟩ := g
  obtain ⟨hx, hb, hr, hml, hown, hts, hlk, hK, hD0, hA, hE, hfr, hlc, hnc, hns⟩ := C0
  intro H locs ls hP hS hl
  exact va_get (D := (dC, dI)) (ci := 9) (C := RX9) (T := TX9) (N := 16) hx hb hts inX9 hown hK hP i (at_9 hi.1 hi.2) rfl 14 (by decide) (hts _ hw) (fun _ h9 => h9) rfl hd (h H locs ls hP hS hl)
theorem gf_9_15 (C0 : Cx g x cc nL ret own fr lc) {i index : Nat} {r : Nat} (hr9 : i + 32 = r) (hi : KD i 9) (hw : Cond.fieldLink own index "DrumBoats" "finals" "LDrumBoats$FinalList;" ∈ GW) (hd : decode cc pc = .ok (.getfield index, 3)) (h : FW g x nL d dl (pc + 3) lo (rf g r :: st)) : FW g x nL d dl pc lo (rf g i :: st) := by
  subst hr9
  obtain ⟨⟨p, e, R, s, m⟩, ⟨args, below, meth, c⟩, ⟨A, nc, ns, Z⟩⟩ := x
  obtain ⟨l, dC, dI, ad, cA, sa, sv, vf⟩ := g
  obtain ⟨hx, hb, hr, hml, hown, hts, hlk, hK, hD0, hA, hE, hfr, hlc, hnc, hns⟩ := C0
  intro H locs ls hP hS hl
  exact va_get (D := (dC, dI)) (ci := 9) (C := RX9) (T := TX9) (N := 16) hx hb hts inX9 hown hK hP i (at_9 hi.1 hi.2) rfl 15 (by decide) (hts _ hw) (fun _ h9 => h9) rfl hd (h H locs ls hP hS hl)
theorem gf_10_0 (C0 : Cx g x cc nL ret own fr lc) {i index : Nat} (hi : KD i 10) (hw : Cond.fieldLink own index "DrumBoatsModel" "paddlers" "I" ∈ GW) (hd : decode cc pc = .ok (.getfield index, 3)) (h : FW g x nL d dl (pc + 3) lo (.int (d i 0) :: st)) : FW g x nL d dl pc lo (rf g i :: st) := by
  obtain ⟨⟨p, e, R, s, m⟩, ⟨args, below, meth, c⟩, ⟨A, nc, ns, Z⟩⟩ := x
  obtain ⟨l, dC, dI, ad, cA, sa, sv, vf⟩ := g
  obtain ⟨hx, hb, hr, hml, hown, hts, hlk, hK, hD0, hA, hE, hfr, hlc, hnc, hns⟩ := C0
  intro H locs ls hP hS hl
  exact va_get (D := (dC, dI)) (ci := 10) (C := RX10) (T := TX10) (N := 48) hx hb hts inX10 hown hK hP i (at_10 hi.1 hi.2) rfl 0 (by decide) (hts _ hw) (fun _ h9 => h9) rfl hd (h H locs ls hP hS hl)
theorem pf_10_0 (C0 : Cx g x cc nL ret own fr lc) {i index : Nat} {v : Int32} (hi : KD i 10) (hw : Cond.fieldLink own index "DrumBoatsModel" "paddlers" "I" ∈ GW) (hd : decode cc pc = .ok (.putfield index, 3)) (h : ∀ e : DD, e = u2 d i 0 v → FW g x nL e dl (pc + 3) lo st) : FW g x nL d dl pc lo (.int v :: rf g i :: st) := by
  obtain ⟨⟨p, e, R, s, m⟩, ⟨args, below, meth, c⟩, ⟨A, nc, ns, Z⟩⟩ := x
  obtain ⟨l, dC, dI, ad, cA, sa, sv, vf⟩ := g
  obtain ⟨hx, hb, hr, hml, hown, hts, hlk, hK, hD0, hA, hE, hfr, hlc, hnc, hns⟩ := C0
  intro H locs ls hP hS hl
  refine va_put (D := (dC, dI)) (ci := 10) (ty := .int) (C := RX10) (T := TX10) (N := 48) hx hb hts inX10 tyX10 tyX10_ok nmX10 hown hK hP (D_any hD0) hS i (at_10 hi.1 hi.2) rfl 0 (by decide) (hts _ hw) (fun _ h9 => h9) rfl (by decide +kernel) rfl rfl (Nat.le_of_ble_eq_true rfl) hd (fun H locs hP hD hS => ?_)
  rw [put_10_0 v hi.1 hi.2] at hP
  exact h _ rfl H locs ls hP hS hl
theorem gf_10_1 (C0 : Cx g x cc nL ret own fr lc) {i index : Nat} (hi : KD i 10) (hw : Cond.fieldLink own index "DrumBoatsModel" "crews" "I" ∈ GW) (hd : decode cc pc = .ok (.getfield index, 3)) (h : FW g x nL d dl (pc + 3) lo (.int (d i 1) :: st)) : FW g x nL d dl pc lo (rf g i :: st) := by
  obtain ⟨⟨p, e, R, s, m⟩, ⟨args, below, meth, c⟩, ⟨A, nc, ns, Z⟩⟩ := x
  obtain ⟨l, dC, dI, ad, cA, sa, sv, vf⟩ := g
  obtain ⟨hx, hb, hr, hml, hown, hts, hlk, hK, hD0, hA, hE, hfr, hlc, hnc, hns⟩ := C0
  intro H locs ls hP hS hl
  exact va_get (D := (dC, dI)) (ci := 10) (C := RX10) (T := TX10) (N := 48) hx hb hts inX10 hown hK hP i (at_10 hi.1 hi.2) rfl 1 (by decide) (hts _ hw) (fun _ h9 => h9) rfl hd (h H locs ls hP hS hl)
theorem pf_10_1 (C0 : Cx g x cc nL ret own fr lc) {i index : Nat} {v : Int32} (hi : KD i 10) (hw : Cond.fieldLink own index "DrumBoatsModel" "crews" "I" ∈ GW) (hd : decode cc pc = .ok (.putfield index, 3)) (h : ∀ e : DD, e = u2 d i 1 v → FW g x nL e dl (pc + 3) lo st) : FW g x nL d dl pc lo (.int v :: rf g i :: st) := by
  obtain ⟨⟨p, e, R, s, m⟩, ⟨args, below, meth, c⟩, ⟨A, nc, ns, Z⟩⟩ := x
  obtain ⟨l, dC, dI, ad, cA, sa, sv, vf⟩ := g
  obtain ⟨hx, hb, hr, hml, hown, hts, hlk, hK, hD0, hA, hE, hfr, hlc, hnc, hns⟩ := C0
  intro H locs ls hP hS hl
  refine va_put (D := (dC, dI)) (ci := 10) (ty := .int) (C := RX10) (T := TX10) (N := 48) hx hb hts inX10 tyX10 tyX10_ok nmX10 hown hK hP (D_any hD0) hS i (at_10 hi.1 hi.2) rfl 1 (by decide) (hts _ hw) (fun _ h9 => h9) rfl (by decide +kernel) rfl rfl (Nat.le_of_ble_eq_true rfl) hd (fun H locs hP hD hS => ?_)
  rw [put_10_1 v hi.1 hi.2] at hP
  exact h _ rfl H locs ls hP hS hl
theorem gf_10_2 (C0 : Cx g x cc nL ret own fr lc) {i index : Nat} (hi : KD i 10) (hw : Cond.fieldLink own index "DrumBoatsModel" "rules" "I" ∈ GW) (hd : decode cc pc = .ok (.getfield index, 3)) (h : FW g x nL d dl (pc + 3) lo (.int (d i 2) :: st)) : FW g x nL d dl pc lo (rf g i :: st) := by
  obtain ⟨⟨p, e, R, s, m⟩, ⟨args, below, meth, c⟩, ⟨A, nc, ns, Z⟩⟩ := x
  obtain ⟨l, dC, dI, ad, cA, sa, sv, vf⟩ := g
  obtain ⟨hx, hb, hr, hml, hown, hts, hlk, hK, hD0, hA, hE, hfr, hlc, hnc, hns⟩ := C0
  intro H locs ls hP hS hl
  exact va_get (D := (dC, dI)) (ci := 10) (C := RX10) (T := TX10) (N := 48) hx hb hts inX10 hown hK hP i (at_10 hi.1 hi.2) rfl 2 (by decide) (hts _ hw) (fun _ h9 => h9) rfl hd (h H locs ls hP hS hl)
theorem pf_10_2 (C0 : Cx g x cc nL ret own fr lc) {i index : Nat} {v : Int32} (hi : KD i 10) (hw : Cond.fieldLink own index "DrumBoatsModel" "rules" "I" ∈ GW) (hd : decode cc pc = .ok (.putfield index, 3)) (h : ∀ e : DD, e = u2 d i 2 v → FW g x nL e dl (pc + 3) lo st) : FW g x nL d dl pc lo (.int v :: rf g i :: st) := by
  obtain ⟨⟨p, e, R, s, m⟩, ⟨args, below, meth, c⟩, ⟨A, nc, ns, Z⟩⟩ := x
  obtain ⟨l, dC, dI, ad, cA, sa, sv, vf⟩ := g
  obtain ⟨hx, hb, hr, hml, hown, hts, hlk, hK, hD0, hA, hE, hfr, hlc, hnc, hns⟩ := C0
  intro H locs ls hP hS hl
  refine va_put (D := (dC, dI)) (ci := 10) (ty := .int) (C := RX10) (T := TX10) (N := 48) hx hb hts inX10 tyX10 tyX10_ok nmX10 hown hK hP (D_any hD0) hS i (at_10 hi.1 hi.2) rfl 2 (by decide) (hts _ hw) (fun _ h9 => h9) rfl (by decide +kernel) rfl rfl (Nat.le_of_ble_eq_true rfl) hd (fun H locs hP hD hS => ?_)
  rw [put_10_2 v hi.1 hi.2] at hP
  exact h _ rfl H locs ls hP hS hl
theorem gf_10_3 (C0 : Cx g x cc nL ret own fr lc) {i index : Nat} (hi : KD i 10) (hw : Cond.fieldLink own index "DrumBoatsModel" "races" "I" ∈ GW) (hd : decode cc pc = .ok (.getfield index, 3)) (h : FW g x nL d dl (pc + 3) lo (.int (d i 3) :: st)) : FW g x nL d dl pc lo (rf g i :: st) := by
  obtain ⟨⟨p, e, R, s, m⟩, ⟨args, below, meth, c⟩, ⟨A, nc, ns, Z⟩⟩ := x
  obtain ⟨l, dC, dI, ad, cA, sa, sv, vf⟩ := g
  obtain ⟨hx, hb, hr, hml, hown, hts, hlk, hK, hD0, hA, hE, hfr, hlc, hnc, hns⟩ := C0
  intro H locs ls hP hS hl
  exact va_get (D := (dC, dI)) (ci := 10) (C := RX10) (T := TX10) (N := 48) hx hb hts inX10 hown hK hP i (at_10 hi.1 hi.2) rfl 3 (by decide) (hts _ hw) (fun _ h9 => h9) rfl hd (h H locs ls hP hS hl)
theorem pf_10_3 (C0 : Cx g x cc nL ret own fr lc) {i index : Nat} {v : Int32} (hi : KD i 10) (hw : Cond.fieldLink own index "DrumBoatsModel" "races" "I" ∈ GW) (hd : decode cc pc = .ok (.putfield index, 3)) (h : ∀ e : DD, e = u2 d i 3 v → FW g x nL e dl (pc + 3) lo st) : FW g x nL d dl pc lo (.int v :: rf g i :: st) := by
  obtain ⟨⟨p, e, R, s, m⟩, ⟨args, below, meth, c⟩, ⟨A, nc, ns, Z⟩⟩ := x
  obtain ⟨l, dC, dI, ad, cA, sa, sv, vf⟩ := g
  obtain ⟨hx, hb, hr, hml, hown, hts, hlk, hK, hD0, hA, hE, hfr, hlc, hnc, hns⟩ := C0
  intro H locs ls hP hS hl
  refine va_put (D := (dC, dI)) (ci := 10) (ty := .int) (C := RX10) (T := TX10) (N := 48) hx hb hts inX10 tyX10 tyX10_ok nmX10 hown hK hP (D_any hD0) hS i (at_10 hi.1 hi.2) rfl 3 (by decide) (hts _ hw) (fun _ h9 => h9) rfl (by decide +kernel) rfl rfl (Nat.le_of_ble_eq_true rfl) hd (fun H locs hP hD hS => ?_)
  rw [put_10_3 v hi.1 hi.2] at hP
  exact h _ rfl H locs ls hP hS hl
theorem gf_10_4 (C0 : Cx g x cc nL ret own fr lc) {i index : Nat} (hi : KD i 10) (hw : Cond.fieldLink own index "DrumBoatsModel" "tapeN" "I" ∈ GW) (hd : decode cc pc = .ok (.getfield index, 3)) (h : FW g x nL d dl (pc + 3) lo (.int (d i 4) :: st)) : FW g x nL d dl pc lo (rf g i :: st) := by
  obtain ⟨⟨p, e, R, s, m⟩, ⟨args, below, meth, c⟩, ⟨A, nc, ns, Z⟩⟩ := x
  obtain ⟨l, dC, dI, ad, cA, sa, sv, vf⟩ := g
  obtain ⟨hx, hb, hr, hml, hown, hts, hlk, hK, hD0, hA, hE, hfr, hlc, hnc, hns⟩ := C0
  intro H locs ls hP hS hl
  exact va_get (D := (dC, dI)) (ci := 10) (C := RX10) (T := TX10) (N := 48) hx hb hts inX10 hown hK hP i (at_10 hi.1 hi.2) rfl 4 (by decide) (hts _ hw) (fun _ h9 => h9) rfl hd (h H locs ls hP hS hl)
theorem pf_10_4 (C0 : Cx g x cc nL ret own fr lc) {i index : Nat} {v : Int32} (hi : KD i 10) (hw : Cond.fieldLink own index "DrumBoatsModel" "tapeN" "I" ∈ GW) (hd : decode cc pc = .ok (.putfield index, 3)) (h : ∀ e : DD, e = u2 d i 4 v → FW g x nL e dl (pc + 3) lo st) : FW g x nL d dl pc lo (.int v :: rf g i :: st) := by
  obtain ⟨⟨p, e, R, s, m⟩, ⟨args, below, meth, c⟩, ⟨A, nc, ns, Z⟩⟩ := x
  obtain ⟨l, dC, dI, ad, cA, sa, sv, vf⟩ := g
  obtain ⟨hx, hb, hr, hml, hown, hts, hlk, hK, hD0, hA, hE, hfr, hlc, hnc, hns⟩ := C0
  intro H locs ls hP hS hl
  refine va_put (D := (dC, dI)) (ci := 10) (ty := .int) (C := RX10) (T := TX10) (N := 48) hx hb hts inX10 tyX10 tyX10_ok nmX10 hown hK hP (D_any hD0) hS i (at_10 hi.1 hi.2) rfl 4 (by decide) (hts _ hw) (fun _ h9 => h9) rfl (by decide +kernel) rfl rfl (Nat.le_of_ble_eq_true rfl) hd (fun H locs hP hD hS => ?_)
  rw [put_10_4 v hi.1 hi.2] at hP
  exact h _ rfl H locs ls hP hS hl
theorem gf_10_5 (C0 : Cx g x cc nL ret own fr lc) {i index : Nat} (hi : KD i 10) (hw : Cond.fieldLink own index "DrumBoatsModel" "rest" "I" ∈ GW) (hd : decode cc pc = .ok (.getfield index, 3)) (h : FW g x nL d dl (pc + 3) lo (.int (d i 5) :: st)) : FW g x nL d dl pc lo (rf g i :: st) := by
  obtain ⟨⟨p, e, R, s, m⟩, ⟨args, below, meth, c⟩, ⟨A, nc, ns, Z⟩⟩ := x
  obtain ⟨l, dC, dI, ad, cA, sa, sv, vf⟩ := g
  obtain ⟨hx, hb, hr, hml, hown, hts, hlk, hK, hD0, hA, hE, hfr, hlc, hnc, hns⟩ := C0
  intro H locs ls hP hS hl
  exact va_get (D := (dC, dI)) (ci := 10) (C := RX10) (T := TX10) (N := 48) hx hb hts inX10 hown hK hP i (at_10 hi.1 hi.2) rfl 5 (by decide) (hts _ hw) (fun _ h9 => h9) rfl hd (h H locs ls hP hS hl)
theorem pf_10_5 (C0 : Cx g x cc nL ret own fr lc) {i index : Nat} {v : Int32} (hi : KD i 10) (hw : Cond.fieldLink own index "DrumBoatsModel" "rest" "I" ∈ GW) (hd : decode cc pc = .ok (.putfield index, 3)) (h : ∀ e : DD, e = u2 d i 5 v → FW g x nL e dl (pc + 3) lo st) : FW g x nL d dl pc lo (.int v :: rf g i :: st) := by
  obtain ⟨⟨p, e, R, s, m⟩, ⟨args, below, meth, c⟩, ⟨A, nc, ns, Z⟩⟩ := x
  obtain ⟨l, dC, dI, ad, cA, sa, sv, vf⟩ := g
  obtain ⟨hx, hb, hr, hml, hown, hts, hlk, hK, hD0, hA, hE, hfr, hlc, hnc, hns⟩ := C0
  intro H locs ls hP hS hl
  refine va_put (D := (dC, dI)) (ci := 10) (ty := .int) (C := RX10) (T := TX10) (N := 48) hx hb hts inX10 tyX10 tyX10_ok nmX10 hown hK hP (D_any hD0) hS i (at_10 hi.1 hi.2) rfl 5 (by decide) (hts _ hw) (fun _ h9 => h9) rfl (by decide +kernel) rfl rfl (Nat.le_of_ble_eq_true rfl) hd (fun H locs hP hD hS => ?_)
  rw [put_10_5 v hi.1 hi.2] at hP
  exact h _ rfl H locs ls hP hS hl
theorem gf_10_6 (C0 : Cx g x cc nL ret own fr lc) {i index : Nat} (hi : KD i 10) (hw : Cond.fieldLink own index "DrumBoatsModel" "waiting" "I" ∈ GW) (hd : decode cc pc = .ok (.getfield index, 3)) (h : FW g x nL d dl (pc + 3) lo (.int (d i 6) :: st)) : FW g x nL d dl pc lo (rf g i :: st) := by
  obtain ⟨⟨p, e, R, s, m⟩, ⟨args, below, meth, c⟩, ⟨A, nc, ns, Z⟩⟩ := x
  obtain ⟨l, dC, dI, ad, cA, sa, sv, vf⟩ := g
  obtain ⟨hx, hb, hr, hml, hown, hts, hlk, hK, hD0, hA, hE, hfr, hlc, hnc, hns⟩ := C0
  intro H locs ls hP hS hl
  exact va_get (D := (dC, dI)) (ci := 10) (C := RX10) (T := TX10) (N := 48) hx hb hts inX10 hown hK hP i (at_10 hi.1 hi.2) rfl 6 (by decide) (hts _ hw) (fun _ h9 => h9) rfl hd (h H locs ls hP hS hl)
theorem pf_10_6 (C0 : Cx g x cc nL ret own fr lc) {i index : Nat} {v : Int32} (hi : KD i 10) (hw : Cond.fieldLink own index "DrumBoatsModel" "waiting" "I" ∈ GW) (hd : decode cc pc = .ok (.putfield index, 3)) (h : ∀ e : DD, e = u2 d i 6 v → FW g x nL e dl (pc + 3) lo st) : FW g x nL d dl pc lo (.int v :: rf g i :: st) := by
  obtain ⟨⟨p, e, R, s, m⟩, ⟨args, below, meth, c⟩, ⟨A, nc, ns, Z⟩⟩ := x
  obtain ⟨l, dC, dI, ad, cA, sa, sv, vf⟩ := g
  obtain ⟨hx, hb, hr, hml, hown, hts, hlk, hK, hD0, hA, hE, hfr, hlc, hnc, hns⟩ := C0
  intro H locs ls hP hS hl
  refine va_put (D := (dC, dI)) (ci := 10) (ty := .int) (C := RX10) (T := TX10) (N := 48) hx hb hts inX10 tyX10 tyX10_ok nmX10 hown hK hP (D_any hD0) hS i (at_10 hi.1 hi.2) rfl 6 (by decide) (hts _ hw) (fun _ h9 => h9) rfl (by decide +kernel) rfl rfl (Nat.le_of_ble_eq_true rfl) hd (fun H locs hP hD hS => ?_)
  rw [put_10_6 v hi.1 hi.2] at hP
  exact h _ rfl H locs ls hP hS hl
theorem gf_10_7 (C0 : Cx g x cc nL ret own fr lc) {i index : Nat} (hi : KD i 10) (hw : Cond.fieldLink own index "DrumBoatsModel" "finalN" "I" ∈ GW) (hd : decode cc pc = .ok (.getfield index, 3)) (h : FW g x nL d dl (pc + 3) lo (.int (d i 7) :: st)) : FW g x nL d dl pc lo (rf g i :: st) := by
  obtain ⟨⟨p, e, R, s, m⟩, ⟨args, below, meth, c⟩, ⟨A, nc, ns, Z⟩⟩ := x
  obtain ⟨l, dC, dI, ad, cA, sa, sv, vf⟩ := g
  obtain ⟨hx, hb, hr, hml, hown, hts, hlk, hK, hD0, hA, hE, hfr, hlc, hnc, hns⟩ := C0
  intro H locs ls hP hS hl
  exact va_get (D := (dC, dI)) (ci := 10) (C := RX10) (T := TX10) (N := 48) hx hb hts inX10 hown hK hP i (at_10 hi.1 hi.2) rfl 7 (by decide) (hts _ hw) (fun _ h9 => h9) rfl hd (h H locs ls hP hS hl)
theorem pf_10_7 (C0 : Cx g x cc nL ret own fr lc) {i index : Nat} {v : Int32} (hi : KD i 10) (hw : Cond.fieldLink own index "DrumBoatsModel" "finalN" "I" ∈ GW) (hd : decode cc pc = .ok (.putfield index, 3)) (h : ∀ e : DD, e = u2 d i 7 v → FW g x nL e dl (pc + 3) lo st) : FW g x nL d dl pc lo (.int v :: rf g i :: st) := by
  obtain ⟨⟨p, e, R, s, m⟩, ⟨args, below, meth, c⟩, ⟨A, nc, ns, Z⟩⟩ := x
  obtain ⟨l, dC, dI, ad, cA, sa, sv, vf⟩ := g
  obtain ⟨hx, hb, hr, hml, hown, hts, hlk, hK, hD0, hA, hE, hfr, hlc, hnc, hns⟩ := C0
  intro H locs ls hP hS hl
  refine va_put (D := (dC, dI)) (ci := 10) (ty := .int) (C := RX10) (T := TX10) (N := 48) hx hb hts inX10 tyX10 tyX10_ok nmX10 hown hK hP (D_any hD0) hS i (at_10 hi.1 hi.2) rfl 7 (by decide) (hts _ hw) (fun _ h9 => h9) rfl (by decide +kernel) rfl rfl (Nat.le_of_ble_eq_true rfl) hd (fun H locs hP hD hS => ?_)
  rw [put_10_7 v hi.1 hi.2] at hP
  exact h _ rfl H locs ls hP hS hl
theorem gf_10_8 (C0 : Cx g x cc nL ret own fr lc) {i index : Nat} {r : Nat} (hr9 : i + 1 = r) (hi : KD i 10) (hw : Cond.fieldLink own index "DrumBoatsModel" "weight" "[I" ∈ GW) (hd : decode cc pc = .ok (.getfield index, 3)) (h : FW g x nL d dl (pc + 3) lo (rf g r :: st)) : FW g x nL d dl pc lo (rf g i :: st) := by
  subst hr9
  obtain ⟨⟨p, e, R, s, m⟩, ⟨args, below, meth, c⟩, ⟨A, nc, ns, Z⟩⟩ := x
  obtain ⟨l, dC, dI, ad, cA, sa, sv, vf⟩ := g
  obtain ⟨hx, hb, hr, hml, hown, hts, hlk, hK, hD0, hA, hE, hfr, hlc, hnc, hns⟩ := C0
  intro H locs ls hP hS hl
  exact va_get (D := (dC, dI)) (ci := 10) (C := RX10) (T := TX10) (N := 48) hx hb hts inX10 hown hK hP i (at_10 hi.1 hi.2) rfl 8 (by decide) (hts _ hw) (fun _ h9 => h9) rfl hd (h H locs ls hP hS hl)
theorem gf_10_9 (C0 : Cx g x cc nL ret own fr lc) {i index : Nat} {r : Nat} (hr9 : i + 2 = r) (hi : KD i 10) (hw : Cond.fieldLink own index "DrumBoatsModel" "strength" "[I" ∈ GW) (hd : decode cc pc = .ok (.getfield index, 3)) (h : FW g x nL d dl (pc + 3) lo (rf g r :: st)) : FW g x nL d dl pc lo (rf g i :: st) := by
  subst hr9
  obtain ⟨⟨p, e, R, s, m⟩, ⟨args, below, meth, c⟩, ⟨A, nc, ns, Z⟩⟩ := x
  obtain ⟨l, dC, dI, ad, cA, sa, sv, vf⟩ := g
  obtain ⟨hx, hb, hr, hml, hown, hts, hlk, hK, hD0, hA, hE, hfr, hlc, hnc, hns⟩ := C0
  intro H locs ls hP hS hl
  exact va_get (D := (dC, dI)) (ci := 10) (C := RX10) (T := TX10) (N := 48) hx hb hts inX10 hown hK hP i (at_10 hi.1 hi.2) rfl 9 (by decide) (hts _ hw) (fun _ h9 => h9) rfl hd (h H locs ls hP hS hl)
theorem gf_10_10 (C0 : Cx g x cc nL ret own fr lc) {i index : Nat} {r : Nat} (hr9 : i + 3 = r) (hi : KD i 10) (hw : Cond.fieldLink own index "DrumBoatsModel" "arm" "[I" ∈ GW) (hd : decode cc pc = .ok (.getfield index, 3)) (h : FW g x nL d dl (pc + 3) lo (rf g r :: st)) : FW g x nL d dl pc lo (rf g i :: st) := by
  subst hr9
  obtain ⟨⟨p, e, R, s, m⟩, ⟨args, below, meth, c⟩, ⟨A, nc, ns, Z⟩⟩ := x
  obtain ⟨l, dC, dI, ad, cA, sa, sv, vf⟩ := g
  obtain ⟨hx, hb, hr, hml, hown, hts, hlk, hK, hD0, hA, hE, hfr, hlc, hnc, hns⟩ := C0
  intro H locs ls hP hS hl
  exact va_get (D := (dC, dI)) (ci := 10) (C := RX10) (T := TX10) (N := 48) hx hb hts inX10 hown hK hP i (at_10 hi.1 hi.2) rfl 10 (by decide) (hts _ hw) (fun _ h9 => h9) rfl hd (h H locs ls hP hS hl)
theorem gf_10_11 (C0 : Cx g x cc nL ret own fr lc) {i index : Nat} {r : Nat} (hr9 : i + 4 = r) (hi : KD i 10) (hw : Cond.fieldLink own index "DrumBoatsModel" "sex" "[I" ∈ GW) (hd : decode cc pc = .ok (.getfield index, 3)) (h : FW g x nL d dl (pc + 3) lo (rf g r :: st)) : FW g x nL d dl pc lo (rf g i :: st) := by
  subst hr9
  obtain ⟨⟨p, e, R, s, m⟩, ⟨args, below, meth, c⟩, ⟨A, nc, ns, Z⟩⟩ := x
  obtain ⟨l, dC, dI, ad, cA, sa, sv, vf⟩ := g
  obtain ⟨hx, hb, hr, hml, hown, hts, hlk, hK, hD0, hA, hE, hfr, hlc, hnc, hns⟩ := C0
  intro H locs ls hP hS hl
  exact va_get (D := (dC, dI)) (ci := 10) (C := RX10) (T := TX10) (N := 48) hx hb hts inX10 hown hK hP i (at_10 hi.1 hi.2) rfl 11 (by decide) (hts _ hw) (fun _ h9 => h9) rfl hd (h H locs ls hP hS hl)
theorem gf_10_12 (C0 : Cx g x cc nL ret own fr lc) {i index : Nat} {r : Nat} (hr9 : i + 5 = r) (hi : KD i 10) (hw : Cond.fieldLink own index "DrumBoatsModel" "age" "[I" ∈ GW) (hd : decode cc pc = .ok (.getfield index, 3)) (h : FW g x nL d dl (pc + 3) lo (rf g r :: st)) : FW g x nL d dl pc lo (rf g i :: st) := by
  subst hr9
  obtain ⟨⟨p, e, R, s, m⟩, ⟨args, below, meth, c⟩, ⟨A, nc, ns, Z⟩⟩ := x
  obtain ⟨l, dC, dI, ad, cA, sa, sv, vf⟩ := g
  obtain ⟨hx, hb, hr, hml, hown, hts, hlk, hK, hD0, hA, hE, hfr, hlc, hnc, hns⟩ := C0
  intro H locs ls hP hS hl
  exact va_get (D := (dC, dI)) (ci := 10) (C := RX10) (T := TX10) (N := 48) hx hb hts inX10 hown hK hP i (at_10 hi.1 hi.2) rfl 12 (by decide) (hts _ hw) (fun _ h9 => h9) rfl hd (h H locs ls hP hS hl)
theorem gf_10_13 (C0 : Cx g x cc nL ret own fr lc) {i index : Nat} {r : Nat} (hr9 : i + 6 = r) (hi : KD i 10) (hw : Cond.fieldLink own index "DrumBoatsModel" "likes" "[Z" ∈ GW) (hd : decode cc pc = .ok (.getfield index, 3)) (h : FW g x nL d dl (pc + 3) lo (rf g r :: st)) : FW g x nL d dl pc lo (rf g i :: st) := by
  subst hr9
  obtain ⟨⟨p, e, R, s, m⟩, ⟨args, below, meth, c⟩, ⟨A, nc, ns, Z⟩⟩ := x
  obtain ⟨l, dC, dI, ad, cA, sa, sv, vf⟩ := g
  obtain ⟨hx, hb, hr, hml, hown, hts, hlk, hK, hD0, hA, hE, hfr, hlc, hnc, hns⟩ := C0
  intro H locs ls hP hS hl
  exact va_get (D := (dC, dI)) (ci := 10) (C := RX10) (T := TX10) (N := 48) hx hb hts inX10 hown hK hP i (at_10 hi.1 hi.2) rfl 13 (by decide) (hts _ hw) (fun _ h9 => h9) rfl hd (h H locs ls hP hS hl)
theorem gf_10_14 (C0 : Cx g x cc nL ret own fr lc) {i index : Nat} {r : Nat} (hr9 : i + 7 = r) (hi : KD i 10) (hw : Cond.fieldLink own index "DrumBoatsModel" "rows" "[I" ∈ GW) (hd : decode cc pc = .ok (.getfield index, 3)) (h : FW g x nL d dl (pc + 3) lo (rf g r :: st)) : FW g x nL d dl pc lo (rf g i :: st) := by
  subst hr9
  obtain ⟨⟨p, e, R, s, m⟩, ⟨args, below, meth, c⟩, ⟨A, nc, ns, Z⟩⟩ := x
  obtain ⟨l, dC, dI, ad, cA, sa, sv, vf⟩ := g
  obtain ⟨hx, hb, hr, hml, hown, hts, hlk, hK, hD0, hA, hE, hfr, hlc, hnc, hns⟩ := C0
  intro H locs ls hP hS hl
  exact va_get (D := (dC, dI)) (ci := 10) (C := RX10) (T := TX10) (N := 48) hx hb hts inX10 hown hK hP i (at_10 hi.1 hi.2) rfl 14 (by decide) (hts _ hw) (fun _ h9 => h9) rfl hd (h H locs ls hP hS hl)
theorem gf_10_15 (C0 : Cx g x cc nL ret own fr lc) {i index : Nat} {r : Nat} (hr9 : i + 8 = r) (hi : KD i 10) (hw : Cond.fieldLink own index "DrumBoatsModel" "drummer" "[I" ∈ GW) (hd : decode cc pc = .ok (.getfield index, 3)) (h : FW g x nL d dl (pc + 3) lo (rf g r :: st)) : FW g x nL d dl pc lo (rf g i :: st) := by
  subst hr9
  obtain ⟨⟨p, e, R, s, m⟩, ⟨args, below, meth, c⟩, ⟨A, nc, ns, Z⟩⟩ := x
  obtain ⟨l, dC, dI, ad, cA, sa, sv, vf⟩ := g
  obtain ⟨hx, hb, hr, hml, hown, hts, hlk, hK, hD0, hA, hE, hfr, hlc, hnc, hns⟩ := C0
  intro H locs ls hP hS hl
  exact va_get (D := (dC, dI)) (ci := 10) (C := RX10) (T := TX10) (N := 48) hx hb hts inX10 hown hK hP i (at_10 hi.1 hi.2) rfl 15 (by decide) (hts _ hw) (fun _ h9 => h9) rfl hd (h H locs ls hP hS hl)
theorem gf_10_16 (C0 : Cx g x cc nL ret own fr lc) {i index : Nat} {r : Nat} (hr9 : i + 9 = r) (hi : KD i 10) (hw : Cond.fieldLink own index "DrumBoatsModel" "members" "[I" ∈ GW) (hd : decode cc pc = .ok (.getfield index, 3)) (h : FW g x nL d dl (pc + 3) lo (rf g r :: st)) : FW g x nL d dl pc lo (rf g i :: st) := by
  subst hr9
  obtain ⟨⟨p, e, R, s, m⟩, ⟨args, below, meth, c⟩, ⟨A, nc, ns, Z⟩⟩ := x
  obtain ⟨l, dC, dI, ad, cA, sa, sv, vf⟩ := g
  obtain ⟨hx, hb, hr, hml, hown, hts, hlk, hK, hD0, hA, hE, hfr, hlc, hnc, hns⟩ := C0
  intro H locs ls hP hS hl
  exact va_get (D := (dC, dI)) (ci := 10) (C := RX10) (T := TX10) (N := 48) hx hb hts inX10 hown hK hP i (at_10 hi.1 hi.2) rfl 16 (by decide) (hts _ hw) (fun _ h9 => h9) rfl hd (h H locs ls hP hS hl)
theorem gf_10_17 (C0 : Cx g x cc nL ret own fr lc) {i index : Nat} {r : Nat} (hr9 : i + 10 = r) (hi : KD i 10) (hw : Cond.fieldLink own index "DrumBoatsModel" "beat" "[I" ∈ GW) (hd : decode cc pc = .ok (.getfield index, 3)) (h : FW g x nL d dl (pc + 3) lo (rf g r :: st)) : FW g x nL d dl pc lo (rf g i :: st) := by
  subst hr9
  obtain ⟨⟨p, e, R, s, m⟩, ⟨args, below, meth, c⟩, ⟨A, nc, ns, Z⟩⟩ := x
  obtain ⟨l, dC, dI, ad, cA, sa, sv, vf⟩ := g
  obtain ⟨hx, hb, hr, hml, hown, hts, hlk, hK, hD0, hA, hE, hfr, hlc, hnc, hns⟩ := C0
  intro H locs ls hP hS hl
  exact va_get (D := (dC, dI)) (ci := 10) (C := RX10) (T := TX10) (N := 48) hx hb hts inX10 hown hK hP i (at_10 hi.1 hi.2) rfl 17 (by decide) (hts _ hw) (fun _ h9 => h9) rfl hd (h H locs ls hP hS hl)
theorem gf_10_18 (C0 : Cx g x cc nL ret own fr lc) {i index : Nat} {r : Nat} (hr9 : i + 11 = r) (hi : KD i 10) (hw : Cond.fieldLink own index "DrumBoatsModel" "member" "[I" ∈ GW) (hd : decode cc pc = .ok (.getfield index, 3)) (h : FW g x nL d dl (pc + 3) lo (rf g r :: st)) : FW g x nL d dl pc lo (rf g i :: st) := by
  subst hr9
  obtain ⟨⟨p, e, R, s, m⟩, ⟨args, below, meth, c⟩, ⟨A, nc, ns, Z⟩⟩ := x
  obtain ⟨l, dC, dI, ad, cA, sa, sv, vf⟩ := g
  obtain ⟨hx, hb, hr, hml, hown, hts, hlk, hK, hD0, hA, hE, hfr, hlc, hnc, hns⟩ := C0
  intro H locs ls hP hS hl
  exact va_get (D := (dC, dI)) (ci := 10) (C := RX10) (T := TX10) (N := 48) hx hb hts inX10 hown hK hP i (at_10 hi.1 hi.2) rfl 18 (by decide) (hts _ hw) (fun _ h9 => h9) rfl hd (h H locs ls hP hS hl)
theorem gf_10_19 (C0 : Cx g x cc nL ret own fr lc) {i index : Nat} {r : Nat} (hr9 : i + 12 = r) (hi : KD i 10) (hw : Cond.fieldLink own index "DrumBoatsModel" "seated" "[I" ∈ GW) (hd : decode cc pc = .ok (.getfield index, 3)) (h : FW g x nL d dl (pc + 3) lo (rf g r :: st)) : FW g x nL d dl pc lo (rf g i :: st) := by
  subst hr9
  obtain ⟨⟨p, e, R, s, m⟩, ⟨args, below, meth, c⟩, ⟨A, nc, ns, Z⟩⟩ := x
  obtain ⟨l, dC, dI, ad, cA, sa, sv, vf⟩ := g
  obtain ⟨hx, hb, hr, hml, hown, hts, hlk, hK, hD0, hA, hE, hfr, hlc, hnc, hns⟩ := C0
  intro H locs ls hP hS hl
  exact va_get (D := (dC, dI)) (ci := 10) (C := RX10) (T := TX10) (N := 48) hx hb hts inX10 hown hK hP i (at_10 hi.1 hi.2) rfl 19 (by decide) (hts _ hw) (fun _ h9 => h9) rfl hd (h H locs ls hP hS hl)
theorem gf_10_20 (C0 : Cx g x cc nL ret own fr lc) {i index : Nat} {r : Nat} (hr9 : i + 13 = r) (hi : KD i 10) (hw : Cond.fieldLink own index "DrumBoatsModel" "isSeated" "[Z" ∈ GW) (hd : decode cc pc = .ok (.getfield index, 3)) (h : FW g x nL d dl (pc + 3) lo (rf g r :: st)) : FW g x nL d dl pc lo (rf g i :: st) := by
  subst hr9
  obtain ⟨⟨p, e, R, s, m⟩, ⟨args, below, meth, c⟩, ⟨A, nc, ns, Z⟩⟩ := x
  obtain ⟨l, dC, dI, ad, cA, sa, sv, vf⟩ := g
  obtain ⟨hx, hb, hr, hml, hown, hts, hlk, hK, hD0, hA, hE, hfr, hlc, hnc, hns⟩ := C0
  intro H locs ls hP hS hl
  exact va_get (D := (dC, dI)) (ci := 10) (C := RX10) (T := TX10) (N := 48) hx hb hts inX10 hown hK hP i (at_10 hi.1 hi.2) rfl 20 (by decide) (hts _ hw) (fun _ h9 => h9) rfl hd (h H locs ls hP hS hl)
theorem gf_10_21 (C0 : Cx g x cc nL ret own fr lc) {i index : Nat} {r : Nat} (hr9 : i + 14 = r) (hi : KD i 10) (hw : Cond.fieldLink own index "DrumBoatsModel" "tape" "[I" ∈ GW) (hd : decode cc pc = .ok (.getfield index, 3)) (h : FW g x nL d dl (pc + 3) lo (rf g r :: st)) : FW g x nL d dl pc lo (rf g i :: st) := by
  subst hr9
  obtain ⟨⟨p, e, R, s, m⟩, ⟨args, below, meth, c⟩, ⟨A, nc, ns, Z⟩⟩ := x
  obtain ⟨l, dC, dI, ad, cA, sa, sv, vf⟩ := g
  obtain ⟨hx, hb, hr, hml, hown, hts, hlk, hK, hD0, hA, hE, hfr, hlc, hnc, hns⟩ := C0
  intro H locs ls hP hS hl
  exact va_get (D := (dC, dI)) (ci := 10) (C := RX10) (T := TX10) (N := 48) hx hb hts inX10 hown hK hP i (at_10 hi.1 hi.2) rfl 21 (by decide) (hts _ hw) (fun _ h9 => h9) rfl hd (h H locs ls hP hS hl)
theorem gf_10_22 (C0 : Cx g x cc nL ret own fr lc) {i index : Nat} {r : Nat} (hr9 : i + 15 = r) (hi : KD i 10) (hw : Cond.fieldLink own index "DrumBoatsModel" "rTests" "[I" ∈ GW) (hd : decode cc pc = .ok (.getfield index, 3)) (h : FW g x nL d dl (pc + 3) lo (rf g r :: st)) : FW g x nL d dl pc lo (rf g i :: st) := by
  subst hr9
  obtain ⟨⟨p, e, R, s, m⟩, ⟨args, below, meth, c⟩, ⟨A, nc, ns, Z⟩⟩ := x
  obtain ⟨l, dC, dI, ad, cA, sa, sv, vf⟩ := g
  obtain ⟨hx, hb, hr, hml, hown, hts, hlk, hK, hD0, hA, hE, hfr, hlc, hnc, hns⟩ := C0
  intro H locs ls hP hS hl
  exact va_get (D := (dC, dI)) (ci := 10) (C := RX10) (T := TX10) (N := 48) hx hb hts inX10 hown hK hP i (at_10 hi.1 hi.2) rfl 22 (by decide) (hts _ hw) (fun _ h9 => h9) rfl hd (h H locs ls hP hS hl)
theorem gf_10_23 (C0 : Cx g x cc nL ret own fr lc) {i index : Nat} {r : Nat} (hr9 : i + 16 = r) (hi : KD i 10) (hw : Cond.fieldLink own index "DrumBoatsModel" "tField" "[I" ∈ GW) (hd : decode cc pc = .ok (.getfield index, 3)) (h : FW g x nL d dl (pc + 3) lo (rf g r :: st)) : FW g x nL d dl pc lo (rf g i :: st) := by
  subst hr9
  obtain ⟨⟨p, e, R, s, m⟩, ⟨args, below, meth, c⟩, ⟨A, nc, ns, Z⟩⟩ := x
  obtain ⟨l, dC, dI, ad, cA, sa, sv, vf⟩ := g
  obtain ⟨hx, hb, hr, hml, hown, hts, hlk, hK, hD0, hA, hE, hfr, hlc, hnc, hns⟩ := C0
  intro H locs ls hP hS hl
  exact va_get (D := (dC, dI)) (ci := 10) (C := RX10) (T := TX10) (N := 48) hx hb hts inX10 hown hK hP i (at_10 hi.1 hi.2) rfl 23 (by decide) (hts _ hw) (fun _ h9 => h9) rfl hd (h H locs ls hP hS hl)
theorem gf_10_24 (C0 : Cx g x cc nL ret own fr lc) {i index : Nat} {r : Nat} (hr9 : i + 17 = r) (hi : KD i 10) (hw : Cond.fieldLink own index "DrumBoatsModel" "tSign" "[I" ∈ GW) (hd : decode cc pc = .ok (.getfield index, 3)) (h : FW g x nL d dl (pc + 3) lo (rf g r :: st)) : FW g x nL d dl pc lo (rf g i :: st) := by
  subst hr9
  obtain ⟨⟨p, e, R, s, m⟩, ⟨args, below, meth, c⟩, ⟨A, nc, ns, Z⟩⟩ := x
  obtain ⟨l, dC, dI, ad, cA, sa, sv, vf⟩ := g
  obtain ⟨hx, hb, hr, hml, hown, hts, hlk, hK, hD0, hA, hE, hfr, hlc, hnc, hns⟩ := C0
  intro H locs ls hP hS hl
  exact va_get (D := (dC, dI)) (ci := 10) (C := RX10) (T := TX10) (N := 48) hx hb hts inX10 hown hK hP i (at_10 hi.1 hi.2) rfl 24 (by decide) (hts _ hw) (fun _ h9 => h9) rfl hd (h H locs ls hP hS hl)
theorem gf_10_25 (C0 : Cx g x cc nL ret own fr lc) {i index : Nat} {r : Nat} (hr9 : i + 18 = r) (hi : KD i 10) (hw : Cond.fieldLink own index "DrumBoatsModel" "tNumber" "[I" ∈ GW) (hd : decode cc pc = .ok (.getfield index, 3)) (h : FW g x nL d dl (pc + 3) lo (rf g r :: st)) : FW g x nL d dl pc lo (rf g i :: st) := by
  subst hr9
  obtain ⟨⟨p, e, R, s, m⟩, ⟨args, below, meth, c⟩, ⟨A, nc, ns, Z⟩⟩ := x
  obtain ⟨l, dC, dI, ad, cA, sa, sv, vf⟩ := g
  obtain ⟨hx, hb, hr, hml, hown, hts, hlk, hK, hD0, hA, hE, hfr, hlc, hnc, hns⟩ := C0
  intro H locs ls hP hS hl
  exact va_get (D := (dC, dI)) (ci := 10) (C := RX10) (T := TX10) (N := 48) hx hb hts inX10 hown hK hP i (at_10 hi.1 hi.2) rfl 25 (by decide) (hts _ hw) (fun _ h9 => h9) rfl hd (h H locs ls hP hS hl)
theorem gf_10_26 (C0 : Cx g x cc nL ret own fr lc) {i index : Nat} {r : Nat} (hr9 : i + 19 = r) (hi : KD i 10) (hw : Cond.fieldLink own index "DrumBoatsModel" "tNot" "[Z" ∈ GW) (hd : decode cc pc = .ok (.getfield index, 3)) (h : FW g x nL d dl (pc + 3) lo (rf g r :: st)) : FW g x nL d dl pc lo (rf g i :: st) := by
  subst hr9
  obtain ⟨⟨p, e, R, s, m⟩, ⟨args, below, meth, c⟩, ⟨A, nc, ns, Z⟩⟩ := x
  obtain ⟨l, dC, dI, ad, cA, sa, sv, vf⟩ := g
  obtain ⟨hx, hb, hr, hml, hown, hts, hlk, hK, hD0, hA, hE, hfr, hlc, hnc, hns⟩ := C0
  intro H locs ls hP hS hl
  exact va_get (D := (dC, dI)) (ci := 10) (C := RX10) (T := TX10) (N := 48) hx hb hts inX10 hown hK hP i (at_10 hi.1 hi.2) rfl 26 (by decide) (hts _ hw) (fun _ h9 => h9) rfl hd (h H locs ls hP hS hl)
theorem gf_10_27 (C0 : Cx g x cc nL ret own fr lc) {i index : Nat} {r : Nat} (hr9 : i + 20 = r) (hi : KD i 10) (hw : Cond.fieldLink own index "DrumBoatsModel" "tOr" "[Z" ∈ GW) (hd : decode cc pc = .ok (.getfield index, 3)) (h : FW g x nL d dl (pc + 3) lo (rf g r :: st)) : FW g x nL d dl pc lo (rf g i :: st) := by
  subst hr9
  obtain ⟨⟨p, e, R, s, m⟩, ⟨args, below, meth, c⟩, ⟨A, nc, ns, Z⟩⟩ := x
  obtain ⟨l, dC, dI, ad, cA, sa, sv, vf⟩ := g
  obtain ⟨hx, hb, hr, hml, hown, hts, hlk, hK, hD0, hA, hE, hfr, hlc, hnc, hns⟩ := C0
  intro H locs ls hP hS hl
  exact va_get (D := (dC, dI)) (ci := 10) (C := RX10) (T := TX10) (N := 48) hx hb hts inX10 hown hK hP i (at_10 hi.1 hi.2) rfl 27 (by decide) (hts _ hw) (fun _ h9 => h9) rfl hd (h H locs ls hP hS hl)
theorem gf_10_28 (C0 : Cx g x cc nL ret own fr lc) {i index : Nat} {r : Nat} (hr9 : i + 21 = r) (hi : KD i 10) (hw : Cond.fieldLink own index "DrumBoatsModel" "minute" "[I" ∈ GW) (hd : decode cc pc = .ok (.getfield index, 3)) (h : FW g x nL d dl (pc + 3) lo (rf g r :: st)) : FW g x nL d dl pc lo (rf g i :: st) := by
  subst hr9
  obtain ⟨⟨p, e, R, s, m⟩, ⟨args, below, meth, c⟩, ⟨A, nc, ns, Z⟩⟩ := x
  obtain ⟨l, dC, dI, ad, cA, sa, sv, vf⟩ := g
  obtain ⟨hx, hb, hr, hml, hown, hts, hlk, hK, hD0, hA, hE, hfr, hlc, hnc, hns⟩ := C0
  intro H locs ls hP hS hl
  exact va_get (D := (dC, dI)) (ci := 10) (C := RX10) (T := TX10) (N := 48) hx hb hts inX10 hown hK hP i (at_10 hi.1 hi.2) rfl 28 (by decide) (hts _ hw) (fun _ h9 => h9) rfl hd (h H locs ls hP hS hl)
theorem gf_10_29 (C0 : Cx g x cc nL ret own fr lc) {i index : Nat} {r : Nat} (hr9 : i + 22 = r) (hi : KD i 10) (hw : Cond.fieldLink own index "DrumBoatsModel" "round" "[I" ∈ GW) (hd : decode cc pc = .ok (.getfield index, 3)) (h : FW g x nL d dl (pc + 3) lo (rf g r :: st)) : FW g x nL d dl pc lo (rf g i :: st) := by
  subst hr9
  obtain ⟨⟨p, e, R, s, m⟩, ⟨args, below, meth, c⟩, ⟨A, nc, ns, Z⟩⟩ := x
  obtain ⟨l, dC, dI, ad, cA, sa, sv, vf⟩ := g
  obtain ⟨hx, hb, hr, hml, hown, hts, hlk, hK, hD0, hA, hE, hfr, hlc, hnc, hns⟩ := C0
  intro H locs ls hP hS hl
  exact va_get (D := (dC, dI)) (ci := 10) (C := RX10) (T := TX10) (N := 48) hx hb hts inX10 hown hK hP i (at_10 hi.1 hi.2) rfl 29 (by decide) (hts _ hw) (fun _ h9 => h9) rfl hd (h H locs ls hP hS hl)
theorem gf_10_30 (C0 : Cx g x cc nL ret own fr lc) {i index : Nat} {r : Nat} (hr9 : i + 23 = r) (hi : KD i 10) (hw : Cond.fieldLink own index "DrumBoatsModel" "laneCrew" "[I" ∈ GW) (hd : decode cc pc = .ok (.getfield index, 3)) (h : FW g x nL d dl (pc + 3) lo (rf g r :: st)) : FW g x nL d dl pc lo (rf g i :: st) := by
  subst hr9
  obtain ⟨⟨p, e, R, s, m⟩, ⟨args, below, meth, c⟩, ⟨A, nc, ns, Z⟩⟩ := x
  obtain ⟨l, dC, dI, ad, cA, sa, sv, vf⟩ := g
  obtain ⟨hx, hb, hr, hml, hown, hts, hlk, hK, hD0, hA, hE, hfr, hlc, hnc, hns⟩ := C0
  intro H locs ls hP hS hl
  exact va_get (D := (dC, dI)) (ci := 10) (C := RX10) (T := TX10) (N := 48) hx hb hts inX10 hown hK hP i (at_10 hi.1 hi.2) rfl 30 (by decide) (hts _ hw) (fun _ h9 => h9) rfl hd (h H locs ls hP hS hl)
theorem gf_10_31 (C0 : Cx g x cc nL ret own fr lc) {i index : Nat} {r : Nat} (hr9 : i + 24 = r) (hi : KD i 10) (hw : Cond.fieldLink own index "DrumBoatsModel" "laneTime" "[I" ∈ GW) (hd : decode cc pc = .ok (.getfield index, 3)) (h : FW g x nL d dl (pc + 3) lo (rf g r :: st)) : FW g x nL d dl pc lo (rf g i :: st) := by
  subst hr9
  obtain ⟨⟨p, e, R, s, m⟩, ⟨args, below, meth, c⟩, ⟨A, nc, ns, Z⟩⟩ := x
  obtain ⟨l, dC, dI, ad, cA, sa, sv, vf⟩ := g
  obtain ⟨hx, hb, hr, hml, hown, hts, hlk, hK, hD0, hA, hE, hfr, hlc, hnc, hns⟩ := C0
  intro H locs ls hP hS hl
  exact va_get (D := (dC, dI)) (ci := 10) (C := RX10) (T := TX10) (N := 48) hx hb hts inX10 hown hK hP i (at_10 hi.1 hi.2) rfl 31 (by decide) (hts _ hw) (fun _ h9 => h9) rfl hd (h H locs ls hP hS hl)
theorem gf_10_32 (C0 : Cx g x cc nL ret own fr lc) {i index : Nat} {r : Nat} (hr9 : i + 25 = r) (hi : KD i 10) (hw : Cond.fieldLink own index "DrumBoatsModel" "gone" "[I" ∈ GW) (hd : decode cc pc = .ok (.getfield index, 3)) (h : FW g x nL d dl (pc + 3) lo (rf g r :: st)) : FW g x nL d dl pc lo (rf g i :: st) := by
  subst hr9
  obtain ⟨⟨p, e, R, s, m⟩, ⟨args, below, meth, c⟩, ⟨A, nc, ns, Z⟩⟩ := x
  obtain ⟨l, dC, dI, ad, cA, sa, sv, vf⟩ := g
  obtain ⟨hx, hb, hr, hml, hown, hts, hlk, hK, hD0, hA, hE, hfr, hlc, hnc, hns⟩ := C0
  intro H locs ls hP hS hl
  exact va_get (D := (dC, dI)) (ci := 10) (C := RX10) (T := TX10) (N := 48) hx hb hts inX10 hown hK hP i (at_10 hi.1 hi.2) rfl 32 (by decide) (hts _ hw) (fun _ h9 => h9) rfl hd (h H locs ls hP hS hl)
theorem gf_10_33 (C0 : Cx g x cc nL ret own fr lc) {i index : Nat} {r : Nat} (hr9 : i + 26 = r) (hi : KD i 10) (hw : Cond.fieldLink own index "DrumBoatsModel" "struck" "[Z" ∈ GW) (hd : decode cc pc = .ok (.getfield index, 3)) (h : FW g x nL d dl (pc + 3) lo (rf g r :: st)) : FW g x nL d dl pc lo (rf g i :: st) := by
  subst hr9
  obtain ⟨⟨p, e, R, s, m⟩, ⟨args, below, meth, c⟩, ⟨A, nc, ns, Z⟩⟩ := x
  obtain ⟨l, dC, dI, ad, cA, sa, sv, vf⟩ := g
  obtain ⟨hx, hb, hr, hml, hown, hts, hlk, hK, hD0, hA, hE, hfr, hlc, hnc, hns⟩ := C0
  intro H locs ls hP hS hl
  exact va_get (D := (dC, dI)) (ci := 10) (C := RX10) (T := TX10) (N := 48) hx hb hts inX10 hown hK hP i (at_10 hi.1 hi.2) rfl 33 (by decide) (hts _ hw) (fun _ h9 => h9) rfl hd (h H locs ls hP hS hl)
theorem gf_10_34 (C0 : Cx g x cc nL ret own fr lc) {i index : Nat} {r : Nat} (hr9 : i + 27 = r) (hi : KD i 10) (hw : Cond.fieldLink own index "DrumBoatsModel" "wasRun" "[Z" ∈ GW) (hd : decode cc pc = .ok (.getfield index, 3)) (h : FW g x nL d dl (pc + 3) lo (rf g r :: st)) : FW g x nL d dl pc lo (rf g i :: st) := by
  subst hr9
  obtain ⟨⟨p, e, R, s, m⟩, ⟨args, below, meth, c⟩, ⟨A, nc, ns, Z⟩⟩ := x
  obtain ⟨l, dC, dI, ad, cA, sa, sv, vf⟩ := g
  obtain ⟨hx, hb, hr, hml, hown, hts, hlk, hK, hD0, hA, hE, hfr, hlc, hnc, hns⟩ := C0
  intro H locs ls hP hS hl
  exact va_get (D := (dC, dI)) (ci := 10) (C := RX10) (T := TX10) (N := 48) hx hb hts inX10 hown hK hP i (at_10 hi.1 hi.2) rfl 34 (by decide) (hts _ hw) (fun _ h9 => h9) rfl hd (h H locs ls hP hS hl)
theorem gf_10_35 (C0 : Cx g x cc nL ret own fr lc) {i index : Nat} {r : Nat} (hr9 : i + 28 = r) (hi : KD i 10) (hw : Cond.fieldLink own index "DrumBoatsModel" "wait" "[I" ∈ GW) (hd : decode cc pc = .ok (.getfield index, 3)) (h : FW g x nL d dl (pc + 3) lo (rf g r :: st)) : FW g x nL d dl pc lo (rf g i :: st) := by
  subst hr9
  obtain ⟨⟨p, e, R, s, m⟩, ⟨args, below, meth, c⟩, ⟨A, nc, ns, Z⟩⟩ := x
  obtain ⟨l, dC, dI, ad, cA, sa, sv, vf⟩ := g
  obtain ⟨hx, hb, hr, hml, hown, hts, hlk, hK, hD0, hA, hE, hfr, hlc, hnc, hns⟩ := C0
  intro H locs ls hP hS hl
  exact va_get (D := (dC, dI)) (ci := 10) (C := RX10) (T := TX10) (N := 48) hx hb hts inX10 hown hK hP i (at_10 hi.1 hi.2) rfl 35 (by decide) (hts _ hw) (fun _ h9 => h9) rfl hd (h H locs ls hP hS hl)
theorem gf_10_36 (C0 : Cx g x cc nL ret own fr lc) {i index : Nat} {r : Nat} (hr9 : i + 29 = r) (hi : KD i 10) (hw : Cond.fieldLink own index "DrumBoatsModel" "current" "[I" ∈ GW) (hd : decode cc pc = .ok (.getfield index, 3)) (h : FW g x nL d dl (pc + 3) lo (rf g r :: st)) : FW g x nL d dl pc lo (rf g i :: st) := by
  subst hr9
  obtain ⟨⟨p, e, R, s, m⟩, ⟨args, below, meth, c⟩, ⟨A, nc, ns, Z⟩⟩ := x
  obtain ⟨l, dC, dI, ad, cA, sa, sv, vf⟩ := g
  obtain ⟨hx, hb, hr, hml, hown, hts, hlk, hK, hD0, hA, hE, hfr, hlc, hnc, hns⟩ := C0
  intro H locs ls hP hS hl
  exact va_get (D := (dC, dI)) (ci := 10) (C := RX10) (T := TX10) (N := 48) hx hb hts inX10 hown hK hP i (at_10 hi.1 hi.2) rfl 36 (by decide) (hts _ hw) (fun _ h9 => h9) rfl hd (h H locs ls hP hS hl)
theorem gf_10_37 (C0 : Cx g x cc nL ret own fr lc) {i index : Nat} {r : Nat} (hr9 : i + 30 = r) (hi : KD i 10) (hw : Cond.fieldLink own index "DrumBoatsModel" "finals" "[I" ∈ GW) (hd : decode cc pc = .ok (.getfield index, 3)) (h : FW g x nL d dl (pc + 3) lo (rf g r :: st)) : FW g x nL d dl pc lo (rf g i :: st) := by
  subst hr9
  obtain ⟨⟨p, e, R, s, m⟩, ⟨args, below, meth, c⟩, ⟨A, nc, ns, Z⟩⟩ := x
  obtain ⟨l, dC, dI, ad, cA, sa, sv, vf⟩ := g
  obtain ⟨hx, hb, hr, hml, hown, hts, hlk, hK, hD0, hA, hE, hfr, hlc, hnc, hns⟩ := C0
  intro H locs ls hP hS hl
  exact va_get (D := (dC, dI)) (ci := 10) (C := RX10) (T := TX10) (N := 48) hx hb hts inX10 hown hK hP i (at_10 hi.1 hi.2) rfl 37 (by decide) (hts _ hw) (fun _ h9 => h9) rfl hd (h H locs ls hP hS hl)
theorem gf_10_38 (C0 : Cx g x cc nL ret own fr lc) {i index : Nat} {r : Nat} (hr9 : i + 31 = r) (hi : KD i 10) (hw : Cond.fieldLink own index "DrumBoatsModel" "bestTime" "[I" ∈ GW) (hd : decode cc pc = .ok (.getfield index, 3)) (h : FW g x nL d dl (pc + 3) lo (rf g r :: st)) : FW g x nL d dl pc lo (rf g i :: st) := by
  subst hr9
  obtain ⟨⟨p, e, R, s, m⟩, ⟨args, below, meth, c⟩, ⟨A, nc, ns, Z⟩⟩ := x
  obtain ⟨l, dC, dI, ad, cA, sa, sv, vf⟩ := g
  obtain ⟨hx, hb, hr, hml, hown, hts, hlk, hK, hD0, hA, hE, hfr, hlc, hnc, hns⟩ := C0
  intro H locs ls hP hS hl
  exact va_get (D := (dC, dI)) (ci := 10) (C := RX10) (T := TX10) (N := 48) hx hb hts inX10 hown hK hP i (at_10 hi.1 hi.2) rfl 38 (by decide) (hts _ hw) (fun _ h9 => h9) rfl hd (h H locs ls hP hS hl)
theorem gf_10_39 (C0 : Cx g x cc nL ret own fr lc) {i index : Nat} {r : Nat} (hr9 : i + 32 = r) (hi : KD i 10) (hw : Cond.fieldLink own index "DrumBoatsModel" "inFinal" "[Z" ∈ GW) (hd : decode cc pc = .ok (.getfield index, 3)) (h : FW g x nL d dl (pc + 3) lo (rf g r :: st)) : FW g x nL d dl pc lo (rf g i :: st) := by
  subst hr9
  obtain ⟨⟨p, e, R, s, m⟩, ⟨args, below, meth, c⟩, ⟨A, nc, ns, Z⟩⟩ := x
  obtain ⟨l, dC, dI, ad, cA, sa, sv, vf⟩ := g
  obtain ⟨hx, hb, hr, hml, hown, hts, hlk, hK, hD0, hA, hE, hfr, hlc, hnc, hns⟩ := C0
  intro H locs ls hP hS hl
  exact va_get (D := (dC, dI)) (ci := 10) (C := RX10) (T := TX10) (N := 48) hx hb hts inX10 hown hK hP i (at_10 hi.1 hi.2) rfl 39 (by decide) (hts _ hw) (fun _ h9 => h9) rfl hd (h H locs ls hP hS hl)
theorem gf_10_40 (C0 : Cx g x cc nL ret own fr lc) {i index : Nat} {r : Nat} (hr9 : i + 33 = r) (hi : KD i 10) (hw : Cond.fieldLink own index "DrumBoatsModel" "pick" "[I" ∈ GW) (hd : decode cc pc = .ok (.getfield index, 3)) (h : FW g x nL d dl (pc + 3) lo (rf g r :: st)) : FW g x nL d dl pc lo (rf g i :: st) := by
  subst hr9
  obtain ⟨⟨p, e, R, s, m⟩, ⟨args, below, meth, c⟩, ⟨A, nc, ns, Z⟩⟩ := x
  obtain ⟨l, dC, dI, ad, cA, sa, sv, vf⟩ := g
  obtain ⟨hx, hb, hr, hml, hown, hts, hlk, hK, hD0, hA, hE, hfr, hlc, hnc, hns⟩ := C0
  intro H locs ls hP hS hl
  exact va_get (D := (dC, dI)) (ci := 10) (C := RX10) (T := TX10) (N := 48) hx hb hts inX10 hown hK hP i (at_10 hi.1 hi.2) rfl 40 (by decide) (hts _ hw) (fun _ h9 => h9) rfl hd (h H locs ls hP hS hl)
theorem gf_10_41 (C0 : Cx g x cc nL ret own fr lc) {i index : Nat} {r : Nat} (hr9 : i + 34 = r) (hi : KD i 10) (hw : Cond.fieldLink own index "DrumBoatsModel" "found" "[I" ∈ GW) (hd : decode cc pc = .ok (.getfield index, 3)) (h : FW g x nL d dl (pc + 3) lo (rf g r :: st)) : FW g x nL d dl pc lo (rf g i :: st) := by
  subst hr9
  obtain ⟨⟨p, e, R, s, m⟩, ⟨args, below, meth, c⟩, ⟨A, nc, ns, Z⟩⟩ := x
  obtain ⟨l, dC, dI, ad, cA, sa, sv, vf⟩ := g
  obtain ⟨hx, hb, hr, hml, hown, hts, hlk, hK, hD0, hA, hE, hfr, hlc, hnc, hns⟩ := C0
  intro H locs ls hP hS hl
  exact va_get (D := (dC, dI)) (ci := 10) (C := RX10) (T := TX10) (N := 48) hx hb hts inX10 hown hK hP i (at_10 hi.1 hi.2) rfl 41 (by decide) (hts _ hw) (fun _ h9 => h9) rfl hd (h H locs ls hP hS hl)
theorem gf_10_42 (C0 : Cx g x cc nL ret own fr lc) {i index : Nat} {r : Nat} (hr9 : i + 35 = r) (hi : KD i 10) (hw : Cond.fieldLink own index "DrumBoatsModel" "fresh" "[I" ∈ GW) (hd : decode cc pc = .ok (.getfield index, 3)) (h : FW g x nL d dl (pc + 3) lo (rf g r :: st)) : FW g x nL d dl pc lo (rf g i :: st) := by
  subst hr9
  obtain ⟨⟨p, e, R, s, m⟩, ⟨args, below, meth, c⟩, ⟨A, nc, ns, Z⟩⟩ := x
  obtain ⟨l, dC, dI, ad, cA, sa, sv, vf⟩ := g
  obtain ⟨hx, hb, hr, hml, hown, hts, hlk, hK, hD0, hA, hE, hfr, hlc, hnc, hns⟩ := C0
  intro H locs ls hP hS hl
  exact va_get (D := (dC, dI)) (ci := 10) (C := RX10) (T := TX10) (N := 48) hx hb hts inX10 hown hK hP i (at_10 hi.1 hi.2) rfl 42 (by decide) (hts _ hw) (fun _ h9 => h9) rfl hd (h H locs ls hP hS hl)
theorem gf_10_43 (C0 : Cx g x cc nL ret own fr lc) {i index : Nat} {r : Nat} (hr9 : i + 36 = r) (hi : KD i 10) (hw : Cond.fieldLink own index "DrumBoatsModel" "at" "[I" ∈ GW) (hd : decode cc pc = .ok (.getfield index, 3)) (h : FW g x nL d dl (pc + 3) lo (rf g r :: st)) : FW g x nL d dl pc lo (rf g i :: st) := by
  subst hr9
  obtain ⟨⟨p, e, R, s, m⟩, ⟨args, below, meth, c⟩, ⟨A, nc, ns, Z⟩⟩ := x
  obtain ⟨l, dC, dI, ad, cA, sa, sv, vf⟩ := g
  obtain ⟨hx, hb, hr, hml, hown, hts, hlk, hK, hD0, hA, hE, hfr, hlc, hnc, hns⟩ := C0
  intro H locs ls hP hS hl
  exact va_get (D := (dC, dI)) (ci := 10) (C := RX10) (T := TX10) (N := 48) hx hb hts inX10 hown hK hP i (at_10 hi.1 hi.2) rfl 43 (by decide) (hts _ hw) (fun _ h9 => h9) rfl hd (h H locs ls hP hS hl)
theorem gf_10_44 (C0 : Cx g x cc nL ret own fr lc) {i index : Nat} (hi : KD i 10) (hw : Cond.fieldLink own index "DrumBoatsModel" "above" "J" ∈ GW) (hd : decode cc pc = .ok (.getfield index, 3)) (h : FW g x nL d dl (pc + 3) lo (.long (dl i 44) :: st)) : FW g x nL d dl pc lo (rf g i :: st) := by
  obtain ⟨⟨p, e, R, s, m⟩, ⟨args, below, meth, c⟩, ⟨A, nc, ns, Z⟩⟩ := x
  obtain ⟨l, dC, dI, ad, cA, sa, sv, vf⟩ := g
  obtain ⟨hx, hb, hr, hml, hown, hts, hlk, hK, hD0, hA, hE, hfr, hlc, hnc, hns⟩ := C0
  intro H locs ls hP hS hl
  exact va_get (D := (dC, dI)) (ci := 10) (C := RX10) (T := TX10) (N := 48) hx hb hts inX10 hown hK hP i (at_10 hi.1 hi.2) rfl 44 (by decide) (hts _ hw) (fun _ h9 => h9) rfl hd (h H locs ls hP hS hl)
theorem pf_10_44 (C0 : Cx g x cc nL ret own fr lc) {i index : Nat} {v : Int64} (hi : KD i 10) (hw : Cond.fieldLink own index "DrumBoatsModel" "above" "J" ∈ GW) (hd : decode cc pc = .ok (.putfield index, 3)) (h : ∀ e : LL, e = l2 dl i 44 v → FW g x nL d e (pc + 3) lo st) : FW g x nL d dl pc lo (.long v :: rf g i :: st) := by
  obtain ⟨⟨p, e, R, s, m⟩, ⟨args, below, meth, c⟩, ⟨A, nc, ns, Z⟩⟩ := x
  obtain ⟨l, dC, dI, ad, cA, sa, sv, vf⟩ := g
  obtain ⟨hx, hb, hr, hml, hown, hts, hlk, hK, hD0, hA, hE, hfr, hlc, hnc, hns⟩ := C0
  intro H locs ls hP hS hl
  refine va_put (D := (dC, dI)) (ci := 10) (ty := .long) (C := RX10) (T := TX10) (N := 48) hx hb hts inX10 tyX10 tyX10_ok nmX10 hown hK hP (D_any hD0) hS i (at_10 hi.1 hi.2) rfl 44 (by decide) (hts _ hw) (fun _ h9 => h9) rfl (by decide +kernel) rfl rfl (Nat.le_of_ble_eq_true rfl) hd (fun H locs hP hD hS => ?_)
  rw [put_10_44 v hi.1 hi.2] at hP
  exact h _ rfl H locs ls hP hS hl
theorem gf_10_45 (C0 : Cx g x cc nL ret own fr lc) {i index : Nat} (hi : KD i 10) (hw : Cond.fieldLink own index "DrumBoatsModel" "below" "J" ∈ GW) (hd : decode cc pc = .ok (.getfield index, 3)) (h : FW g x nL d dl (pc + 3) lo (.long (dl i 45) :: st)) : FW g x nL d dl pc lo (rf g i :: st) := by
  obtain ⟨⟨p, e, R, s, m⟩, ⟨args, below, meth, c⟩, ⟨A, nc, ns, Z⟩⟩ := x
  obtain ⟨l, dC, dI, ad, cA, sa, sv, vf⟩ := g
  obtain ⟨hx, hb, hr, hml, hown, hts, hlk, hK, hD0, hA, hE, hfr, hlc, hnc, hns⟩ := C0
  intro H locs ls hP hS hl
  exact va_get (D := (dC, dI)) (ci := 10) (C := RX10) (T := TX10) (N := 48) hx hb hts inX10 hown hK hP i (at_10 hi.1 hi.2) rfl 45 (by decide) (hts _ hw) (fun _ h9 => h9) rfl hd (h H locs ls hP hS hl)
theorem pf_10_45 (C0 : Cx g x cc nL ret own fr lc) {i index : Nat} {v : Int64} (hi : KD i 10) (hw : Cond.fieldLink own index "DrumBoatsModel" "below" "J" ∈ GW) (hd : decode cc pc = .ok (.putfield index, 3)) (h : ∀ e : LL, e = l2 dl i 45 v → FW g x nL d e (pc + 3) lo st) : FW g x nL d dl pc lo (.long v :: rf g i :: st) := by
  obtain ⟨⟨p, e, R, s, m⟩, ⟨args, below, meth, c⟩, ⟨A, nc, ns, Z⟩⟩ := x
  obtain ⟨l, dC, dI, ad, cA, sa, sv, vf⟩ := g
  obtain ⟨hx, hb, hr, hml, hown, hts, hlk, hK, hD0, hA, hE, hfr, hlc, hnc, hns⟩ := C0
  intro H locs ls hP hS hl
  refine va_put (D := (dC, dI)) (ci := 10) (ty := .long) (C := RX10) (T := TX10) (N := 48) hx hb hts inX10 tyX10 tyX10_ok nmX10 hown hK hP (D_any hD0) hS i (at_10 hi.1 hi.2) rfl 45 (by decide) (hts _ hw) (fun _ h9 => h9) rfl (by decide +kernel) rfl rfl (Nat.le_of_ble_eq_true rfl) hd (fun H locs hP hD hS => ?_)
  rw [put_10_45 v hi.1 hi.2] at hP
  exact h _ rfl H locs ls hP hS hl
theorem gf_10_46 (C0 : Cx g x cc nL ret own fr lc) {i index : Nat} (hi : KD i 10) (hw : Cond.fieldLink own index "DrumBoatsModel" "here" "I" ∈ GW) (hd : decode cc pc = .ok (.getfield index, 3)) (h : FW g x nL d dl (pc + 3) lo (.int (d i 46) :: st)) : FW g x nL d dl pc lo (rf g i :: st) := by
  obtain ⟨⟨p, e, R, s, m⟩, ⟨args, below, meth, c⟩, ⟨A, nc, ns, Z⟩⟩ := x
  obtain ⟨l, dC, dI, ad, cA, sa, sv, vf⟩ := g
  obtain ⟨hx, hb, hr, hml, hown, hts, hlk, hK, hD0, hA, hE, hfr, hlc, hnc, hns⟩ := C0
  intro H locs ls hP hS hl
  exact va_get (D := (dC, dI)) (ci := 10) (C := RX10) (T := TX10) (N := 48) hx hb hts inX10 hown hK hP i (at_10 hi.1 hi.2) rfl 46 (by decide) (hts _ hw) (fun _ h9 => h9) rfl hd (h H locs ls hP hS hl)
theorem pf_10_46 (C0 : Cx g x cc nL ret own fr lc) {i index : Nat} {v : Int32} (hi : KD i 10) (hw : Cond.fieldLink own index "DrumBoatsModel" "here" "I" ∈ GW) (hd : decode cc pc = .ok (.putfield index, 3)) (h : ∀ e : DD, e = u2 d i 46 v → FW g x nL e dl (pc + 3) lo st) : FW g x nL d dl pc lo (.int v :: rf g i :: st) := by
  obtain ⟨⟨p, e, R, s, m⟩, ⟨args, below, meth, c⟩, ⟨A, nc, ns, Z⟩⟩ := x
  obtain ⟨l, dC, dI, ad, cA, sa, sv, vf⟩ := g
  obtain ⟨hx, hb, hr, hml, hown, hts, hlk, hK, hD0, hA, hE, hfr, hlc, hnc, hns⟩ := C0
  intro H locs ls hP hS hl
  refine va_put (D := (dC, dI)) (ci := 10) (ty := .int) (C := RX10) (T := TX10) (N := 48) hx hb hts inX10 tyX10 tyX10_ok nmX10 hown hK hP (D_any hD0) hS i (at_10 hi.1 hi.2) rfl 46 (by decide) (hts _ hw) (fun _ h9 => h9) rfl (by decide +kernel) rfl rfl (Nat.le_of_ble_eq_true rfl) hd (fun H locs hP hD hS => ?_)
  rw [put_10_46 v hi.1 hi.2] at hP
  exact h _ rfl H locs ls hP hS hl
theorem gf_10_47 (C0 : Cx g x cc nL ret own fr lc) {i index : Nat} (hi : KD i 10) (hw : Cond.fieldLink own index "DrumBoatsModel" "fault" "I" ∈ GW) (hd : decode cc pc = .ok (.getfield index, 3)) (h : FW g x nL d dl (pc + 3) lo (.int (d i 47) :: st)) : FW g x nL d dl pc lo (rf g i :: st) := by
  obtain ⟨⟨p, e, R, s, m⟩, ⟨args, below, meth, c⟩, ⟨A, nc, ns, Z⟩⟩ := x
  obtain ⟨l, dC, dI, ad, cA, sa, sv, vf⟩ := g
  obtain ⟨hx, hb, hr, hml, hown, hts, hlk, hK, hD0, hA, hE, hfr, hlc, hnc, hns⟩ := C0
  intro H locs ls hP hS hl
  exact va_get (D := (dC, dI)) (ci := 10) (C := RX10) (T := TX10) (N := 48) hx hb hts inX10 hown hK hP i (at_10 hi.1 hi.2) rfl 47 (by decide) (hts _ hw) (fun _ h9 => h9) rfl hd (h H locs ls hP hS hl)
theorem pf_10_47 (C0 : Cx g x cc nL ret own fr lc) {i index : Nat} {v : Int32} (hi : KD i 10) (hw : Cond.fieldLink own index "DrumBoatsModel" "fault" "I" ∈ GW) (hd : decode cc pc = .ok (.putfield index, 3)) (h : ∀ e : DD, e = u2 d i 47 v → FW g x nL e dl (pc + 3) lo st) : FW g x nL d dl pc lo (.int v :: rf g i :: st) := by
  obtain ⟨⟨p, e, R, s, m⟩, ⟨args, below, meth, c⟩, ⟨A, nc, ns, Z⟩⟩ := x
  obtain ⟨l, dC, dI, ad, cA, sa, sv, vf⟩ := g
  obtain ⟨hx, hb, hr, hml, hown, hts, hlk, hK, hD0, hA, hE, hfr, hlc, hnc, hns⟩ := C0
  intro H locs ls hP hS hl
  refine va_put (D := (dC, dI)) (ci := 10) (ty := .int) (C := RX10) (T := TX10) (N := 48) hx hb hts inX10 tyX10 tyX10_ok nmX10 hown hK hP (D_any hD0) hS i (at_10 hi.1 hi.2) rfl 47 (by decide) (hts _ hw) (fun _ h9 => h9) rfl (by decide +kernel) rfl rfl (Nat.le_of_ble_eq_true rfl) hd (fun H locs hP hD hS => ?_)
  rw [put_10_47 v hi.1 hi.2] at hP
  exact h _ rfl H locs ls hP hS hl
end FFIELDS
def FPre (g : Ex) (sz : Nat) (d : DD) (dl : LL) (U : State) : Prop :=
  match g with
  | (l, dC, dI, ad, cA, sa, sv, vf) => U.heap.size = sz ∧ va_P (dC, dI) vwCl (pw 248 ad (CC ad cA d dl)) U.heap ∧ va_K (dC, dI) vwCl (tysW cA) U ∧ va_D (AA ad sz) (pw 248 ad (fun _ => .inr (0, []))) ∧ EV sa sv vf (AA ad sz) U U.heap
def rmm (fr lc : Nat) : Room := { frames := fr, cells := 0, slots := 0, locals := lc }
def FPo (g : Ex) (u : DD × LL) (t : State) : Prop :=
  match g with
  | (l, dC, dI, ad, cA, sa, sv, vf) => va_P (dC, dI) vwCl (pw 248 ad (CC ad cA u.1 u.2)) t.heap
def FPr (g : Ex) (u : Nat × DD × LL) (a : Nat) (t : State) : Prop :=
  match g with
  | (l, dC, dI, ad, cA, sa, sv, vf) => a = sa u.1 ∧ va_P (dC, dI) vwCl (pw 248 ad (CC ad cA u.2.1 u.2.2)) t.heap
def Mi (g : Ex) (y : MethodName) (bytes : ByteArray) (maxL : Nat) (rt : Option FieldType) (fr lc : Nat) (As : List Value) (d : DD) (dl : LL) (Q : Int32 → DD → LL → Prop) : Prop := ∀ sz : Nat, Met g.1 y (.code y bytes maxL rt :: GW) (rmm fr lc) (va_Pc As (FPre g sz d dl)) (va_Qi (fun (r : Int32) (u : DD × LL) => Q r u.1 u.2) (FPo g) (AA g.2.2.2.1 sz)) 0 0 (AA g.2.2.2.1 sz)
theorem Mi.of {g : Ex} {y : MethodName} {bytes : ByteArray} {maxL : Nat} {rt : Option FieldType} {fr lc : Nat} {As : List Value} {d : DD} {dl : LL} {Q : Int32 → DD → LL → Prop} (hy : plainName y.cls = true) (hlen : (lg_sl As).length ≤ maxL) (body : ∀ x : Fx, Cx g x bytes maxL rt y.cls fr lc → Zi g x Q → FW g x maxL d dl 0 (lv_args 0 As) []) : Mi g y bytes maxL rt fr lc As d dl Q := by
  intro sz
  obtain ⟨l, dC, dI, ad, cA, sa, sv, vf⟩ := g
  refine Met.ofW (cc := bytes) (maxL := maxL) (ret := rt) hy rfl ?_
  intro p e s m args below meth c s₁ B hml hv
  obtain ⟨rfl, hsz, hP, hK, hD, hE⟩ := hv
  subst hsz
  have hts := atoms_spec (ws := .code y bytes maxL rt :: GW) B.pre
  have hown : s.vm.findClass y.cls = some m.cls := findClass_of_methodNamed B.named
  have h9 := body ((p, e, rmm fr lc, s, m), (As.toArray, below, meth, c), (AA ad s.heap.size, 0, 0, _)) ⟨B.exec, B.bytes, B.returns, hml, hown, fun w hw => hts w (List.mem_cons_of_mem _ hw), B.notSynchronized, hK, hD, fun q h => Or.inr h, hE, Nat.le_refl _, Nat.le_refl _, Nat.zero_le _, Nat.zero_le _⟩ ⟨rfl, rfl⟩
  rw [lg_entry_eq]
  exact h9 s.heap [] _ hP va_S.rf (lv_entry As hlen)
def Ml (g : Ex) (y : MethodName) (bytes : ByteArray) (maxL : Nat) (rt : Option FieldType) (fr lc : Nat) (As : List Value) (d : DD) (dl : LL) (Q : Int64 → DD → LL → Prop) : Prop := ∀ sz : Nat, Met g.1 y (.code y bytes maxL rt :: GW) (rmm fr lc) (va_Pc As (FPre g sz d dl)) (va_Ql (fun (r : Int64) (u : DD × LL) => Q r u.1 u.2) (FPo g) (AA g.2.2.2.1 sz)) 0 0 (AA g.2.2.2.1 sz)
theorem Ml.of {g : Ex} {y : MethodName} {bytes : ByteArray} {maxL : Nat} {rt : Option FieldType} {fr lc : Nat} {As : List Value} {d : DD} {dl : LL} {Q : Int64 → DD → LL → Prop} (hy : plainName y.cls = true) (hlen : (lg_sl As).length ≤ maxL) (body : ∀ x : Fx, Cx g x bytes maxL rt y.cls fr lc → Zl g x Q → FW g x maxL d dl 0 (lv_args 0 As) []) : Ml g y bytes maxL rt fr lc As d dl Q := by
  intro sz
  obtain ⟨l, dC, dI, ad, cA, sa, sv, vf⟩ := g
  refine Met.ofW (cc := bytes) (maxL := maxL) (ret := rt) hy rfl ?_
  intro p e s m args below meth c s₁ B hml hv
  obtain ⟨rfl, hsz, hP, hK, hD, hE⟩ := hv
  subst hsz
  have hts := atoms_spec (ws := .code y bytes maxL rt :: GW) B.pre
  have hown : s.vm.findClass y.cls = some m.cls := findClass_of_methodNamed B.named
  have h9 := body ((p, e, rmm fr lc, s, m), (As.toArray, below, meth, c), (AA ad s.heap.size, 0, 0, _)) ⟨B.exec, B.bytes, B.returns, hml, hown, fun w hw => hts w (List.mem_cons_of_mem _ hw), B.notSynchronized, hK, hD, fun q h => Or.inr h, hE, Nat.le_refl _, Nat.le_refl _, Nat.zero_le _, Nat.zero_le _⟩ ⟨rfl, rfl⟩
  rw [lg_entry_eq]
  exact h9 s.heap [] _ hP va_S.rf (lv_entry As hlen)
def Mv (g : Ex) (y : MethodName) (bytes : ByteArray) (maxL : Nat) (rt : Option FieldType) (fr lc : Nat) (As : List Value) (d : DD) (dl : LL) (Q : DD → LL → Prop) : Prop := ∀ sz : Nat, Met g.1 y (.code y bytes maxL rt :: GW) (rmm fr lc) (va_Pc As (FPre g sz d dl)) (va_Qv (fun (u : DD × LL) => Q u.1 u.2) (FPo g) (AA g.2.2.2.1 sz)) 0 0 (AA g.2.2.2.1 sz)
theorem Mv.of {g : Ex} {y : MethodName} {bytes : ByteArray} {maxL : Nat} {rt : Option FieldType} {fr lc : Nat} {As : List Value} {d : DD} {dl : LL} {Q : DD → LL → Prop} (hy : plainName y.cls = true) (hlen : (lg_sl As).length ≤ maxL) (body : ∀ x : Fx, Cx g x bytes maxL rt y.cls fr lc → Zv g x Q → FW g x maxL d dl 0 (lv_args 0 As) []) : Mv g y bytes maxL rt fr lc As d dl Q := by
  intro sz
  obtain ⟨l, dC, dI, ad, cA, sa, sv, vf⟩ := g
  refine Met.ofW (cc := bytes) (maxL := maxL) (ret := rt) hy rfl ?_
  intro p e s m args below meth c s₁ B hml hv
  obtain ⟨rfl, hsz, hP, hK, hD, hE⟩ := hv
  subst hsz
  have hts := atoms_spec (ws := .code y bytes maxL rt :: GW) B.pre
  have hown : s.vm.findClass y.cls = some m.cls := findClass_of_methodNamed B.named
  have h9 := body ((p, e, rmm fr lc, s, m), (As.toArray, below, meth, c), (AA ad s.heap.size, 0, 0, _)) ⟨B.exec, B.bytes, B.returns, hml, hown, fun w hw => hts w (List.mem_cons_of_mem _ hw), B.notSynchronized, hK, hD, fun q h => Or.inr h, hE, Nat.le_refl _, Nat.le_refl _, Nat.zero_le _, Nat.zero_le _⟩ ⟨rfl, rfl⟩
  rw [lg_entry_eq]
  exact h9 s.heap [] _ hP va_S.rf (lv_entry As hlen)
def Mr (g : Ex) (y : MethodName) (bytes : ByteArray) (maxL : Nat) (rt : Option FieldType) (fr lc : Nat) (As : List Value) (d : DD) (dl : LL) (Q : Nat → DD → LL → Prop) : Prop := ∀ sz : Nat, Met g.1 y (.code y bytes maxL rt :: GW) (rmm fr lc) (va_Pc As (FPre g sz d dl)) (va_Qr (fun (u : Nat × DD × LL) => Q u.1 u.2.1 u.2.2) (FPr g) (AA g.2.2.2.1 sz)) 0 0 (AA g.2.2.2.1 sz)
theorem Mr.of {g : Ex} {y : MethodName} {bytes : ByteArray} {maxL : Nat} {rt : Option FieldType} {fr lc : Nat} {As : List Value} {d : DD} {dl : LL} {Q : Nat → DD → LL → Prop} (hy : plainName y.cls = true) (hlen : (lg_sl As).length ≤ maxL) (body : ∀ x : Fx, Cx g x bytes maxL rt y.cls fr lc → Zr g x Q → FW g x maxL d dl 0 (lv_args 0 As) []) : Mr g y bytes maxL rt fr lc As d dl Q := by
  intro sz
  obtain ⟨l, dC, dI, ad, cA, sa, sv, vf⟩ := g
  refine Met.ofW (cc := bytes) (maxL := maxL) (ret := rt) hy rfl ?_
  intro p e s m args below meth c s₁ B hml hv
  obtain ⟨rfl, hsz, hP, hK, hD, hE⟩ := hv
  subst hsz
  have hts := atoms_spec (ws := .code y bytes maxL rt :: GW) B.pre
  have hown : s.vm.findClass y.cls = some m.cls := findClass_of_methodNamed B.named
  have h9 := body ((p, e, rmm fr lc, s, m), (As.toArray, below, meth, c), (AA ad s.heap.size, 0, 0, _)) ⟨B.exec, B.bytes, B.returns, hml, hown, fun w hw => hts w (List.mem_cons_of_mem _ hw), B.notSynchronized, hK, hD, fun q h => Or.inr h, hE, Nat.le_refl _, Nat.le_refl _, Nat.zero_le _, Nat.zero_le _⟩ ⟨rfl, rfl⟩
  rw [lg_entry_eq]
  exact h9 s.heap [] _ hP va_S.rf (lv_entry As hlen)
theorem AA_sub {s : State} {A : Nat → Prop} {ad : Nat → Nat} {H : Heap} {locs : List Loc} (hD0 : va_D A (pw 248 ad (fun _ => .inr (0, [])))) (hA : ∀ q : Nat, s.heap.size ≤ q → A q) (hS : va_S A s.heap H locs) : ∀ q, AA ad H.size q → A q := by
  intro q h
  rcases h with ⟨i, hi, rfl⟩ | h
  · exact hD0.2 i (ad i, .inr (0, [])) (pw_get hi)
  · exact hA q (Nat.le_trans hS.1 h)
theorem AA_Dz {A : Nat → Prop} {ad : Nat → Nat} (sz : Nat) (hD0 : va_D A (pw 248 ad (fun _ => .inr (0, [])))) : va_D (AA ad sz) (pw 248 ad (fun _ => .inr (0, []))) := AA_D hD0
theorem FPre.blind {g : Ex} {sz : Nat} {d : DD} {dl : LL} {As : List Value} : FrameBlind (va_Pc As (FPre g sz d dl)) := by
  intro a U g9 mk q
  obtain ⟨l, dC, dI, ad, cA, sa, sv, vf⟩ := g
  obtain ⟨q0, q1, qP, qK, qD, qE⟩ := q
  exact ⟨q0, q1, qP, va_K.moved (u := U) (U := U.calling g9 mk a) (Vm.Alike.refl U.vm) qK, qD, EV.calling g9 mk a qE⟩
theorem kobj {i ci : Nat} (h : KD i ci) (hc : ci < 11) (ad : Nat → Nat) (cA : Nat → ClassId) (d : DD) (dl : LL) : ∃ fs, (pw 248 ad (CC ad cA d dl))[i]? = some (ad i, .inr (ci, fs)) := by
  rcases (show ci = 0 ∨ ci = 1 ∨ ci = 2 ∨ ci = 3 ∨ ci = 4 ∨ ci = 5 ∨ ci = 6 ∨ ci = 7 ∨ ci = 8 ∨ ci = 9 ∨ ci = 10 by omega) with rfl | rfl | rfl | rfl | rfl | rfl | rfl | rfl | rfl | rfl | rfl
  · exact ⟨_, at_0 h.1 h.2⟩
  · exact ⟨_, at_1 h.1 h.2⟩
  · exact ⟨_, at_2 h.1 h.2⟩
  · exact ⟨_, at_3 h.1 h.2⟩
  · exact ⟨_, at_4 h.1 h.2⟩
  · exact ⟨_, at_5 h.1 h.2⟩
  · exact ⟨_, at_6 h.1 h.2⟩
  · exact ⟨_, at_7 h.1 h.2⟩
  · exact ⟨_, at_8 h.1 h.2⟩
  · exact ⟨_, at_9 h.1 h.2⟩
  · exact ⟨_, at_10 h.1 h.2⟩
def CB (own : String) (index : Nat) (y : MethodName) (bytes : ByteArray) (maxL : Nat) (rt : Option FieldType) (n : Nat) : Prop := Cond.initialized y.cls ∈ GW ∧ Cond.code y bytes maxL rt ∈ GW ∧ y.cls ≠ "java/lang/invoke/MethodHandle" ∧ y.cls ≠ "java/lang/invoke/VarHandle" ∧ (parseMethodDescriptor y.desc).map (fun d => d.parameters.length) = some n
def CV (own : String) (index : Nat) (y : MethodName) (bytes : ByteArray) (maxL : Nat) (rt : Option FieldType) (n : Nat) : Prop := CB own index y bytes maxL rt n ∧ Cond.methodLink own index y ∈ GW ∧ Cond.instanceMethod y ∈ GW ∧ Cond.selects y.cls y y ∈ GW
def CS (own : String) (index : Nat) (y : MethodName) (bytes : ByteArray) (maxL : Nat) (rt : Option FieldType) (n : Nat) : Prop := CB own index y bytes maxL rt n ∧ Cond.methodLink own index y ∈ GW ∧ Cond.static y ∈ GW
def CN (own : String) (index : Nat) (y : MethodName) (bytes : ByteArray) (maxL : Nat) (rt : Option FieldType) (n : Nat) : Prop := CB own index y bytes maxL rt n ∧ Cond.static y ∈ GW
theorem callB9 {R : Room} {s : State} {args : Array Value} {own : String} {index : Nat} {y : MethodName} {bytes : ByteArray} {maxL : Nat} {rt : Option FieldType} {n fr lc rfr rlc : Nat} (hts : ∀ w ∈ GW, w.before args s = true) (hw : CB own index y bytes maxL rt n) (hl : (Cond.methodLink own index y).before args s = true) (hfr : fr ≤ R.frames) (hlc : lc ≤ R.locals) (hR : rfr + 1 ≤ fr ∧ 19 + maxL + rlc ≤ lc) : CallB R s args own index y bytes maxL rt (.code y bytes maxL rt :: GW) (rmm rfr rlc) 0 0 n :=
  callB_of n hts (gw_cons hw.2.1 gw_good) rfl rfl rfl (hts _ hw.1) hl ⟨hw.2.2.1, hw.2.2.2.1, hw.2.2.2.2⟩ ⟨Nat.le_trans hR.1 hfr, by have := hR.2; have h1 : (rmm rfr rlc).locals = rlc := rfl; omega⟩
section FCALLS
variable {g : Ex} {x : Fx} {cc : ByteArray} {nL fr lc pc : Nat} {ret : Option FieldType} {own : String} {d : DD} {dl : LL} {lo : List (Nat × Value)} {st : List Value}
variable {y : MethodName} {bytes : ByteArray} {maxL n index rfr rlc : Nat} {rt : Option FieldType} {As rest st0 : List Value}
theorem f_callVi (C0 : Cx g x cc nL ret own fr lc) {i ci : Nat} {q : vw_C} {Q : Int32 → DD → LL → Prop} (hM : Mi g y bytes maxL rt rfr rlc (rf g i :: As) d dl Q) (hw : CV own index y bytes maxL rt n) (hi : KD i ci) (hci : ci < 11) (hq : vwCl[ci]? = some q) (hq1 : q.1 = y.cls) (hR : rfr + 1 ≤ fr ∧ 19 + maxL + rlc ≤ lc) (hn : As.length = n) (hst : st0 = As.reverse ++ rf g i :: rest) (hcat : (rest.map fun v => v.category).sum ≤ 8) (hd : decode cc pc = .ok (.invokevirtual index, 3)) (h : ∀ (r : Int32) (d' : DD) (dl' : LL), Q r d' dl' → FW g x nL d' dl' (pc + 3) lo (.int r :: rest)) : FW g x nL d dl pc lo st0 := by
  subst hst
  obtain ⟨⟨p, e, R, s, m⟩, ⟨args, below, meth, c⟩, ⟨A, nc, ns, Z⟩⟩ := x
  obtain ⟨l, dC, dI, ad, cA, sa, sv, vf⟩ := g
  obtain ⟨hx, hb, hr, hml, hown, hts, hlk, hK, hD0, hA, hE, hfr, hlc, hnc, hns⟩ := C0
  intro H locs ls hP hS hl
  obtain ⟨fs, hfs⟩ := kobj hi hci ad cA d dl
  have hFc := AA_sub hD0 hA hS
  refine va_calli (va_runV (C := y.cls) (As := As) (rest := rest) ⟨hx, hb, hml, hown, hts⟩ (hM H.size) ⟨callB9 hts hw.1 (hts _ hw.2.1) hfr hlc hR, hts _ hw.2.2.1, hts _ hw.2.2.2⟩ ⟨FPre.blind, (by rw [← hq1]; exact va_recv hK hP (ci := ci) (q0 := i) hq hfs), (fun U hU hW => ⟨rfl, by rw [hU], by rw [hU]; exact hP, va_K.moved hW.alike hK, AA_Dz _ hD0, by rw [hU]; exact EV.warm hW hS (AA_sub hD0 hA hS) hE⟩)⟩ rfl hn hl.1 rfl (lv_room hcat) hd ⟨hnc, hns⟩) hS (fun q _ h9 => hFc q h9) hFc (fun r u t H1 locs ht hvm hw9 hB hz1 hk1 hS => ?_)
  exact h r u.1 u.2 hw9 H1 locs ls (ht ▸ hB) hS hl
theorem f_callSi (C0 : Cx g x cc nL ret own fr lc) {Q : Int32 → DD → LL → Prop} (hM : Mi g y bytes maxL rt rfr rlc As d dl Q) (hw : CS own index y bytes maxL rt n) (hR : rfr + 1 ≤ fr ∧ 19 + maxL + rlc ≤ lc) (hn : As.length = n) (hst : st0 = As.reverse ++ rest) (hcat : (rest.map fun v => v.category).sum ≤ 8) (hd : decode cc pc = .ok (.invokestatic index, 3)) (h : ∀ (r : Int32) (d' : DD) (dl' : LL), Q r d' dl' → FW g x nL d' dl' (pc + 3) lo (.int r :: rest)) : FW g x nL d dl pc lo st0 := by
  subst hst
  obtain ⟨⟨p, e, R, s, m⟩, ⟨args, below, meth, c⟩, ⟨A, nc, ns, Z⟩⟩ := x
  obtain ⟨l, dC, dI, ad, cA, sa, sv, vf⟩ := g
  obtain ⟨hx, hb, hr, hml, hown, hts, hlk, hK, hD0, hA, hE, hfr, hlc, hnc, hns⟩ := C0
  intro H locs ls hP hS hl
  have hFc := AA_sub hD0 hA hS
  refine va_calli (va_runS (As := As) (rest := rest) ⟨hx, hb, hml, hown, hts⟩ (hM H.size) ⟨callB9 hts hw.1 (hts _ hw.2.1) hfr hlc hR, hts _ hw.2.2⟩ ⟨FPre.blind, (fun U hU hW => ⟨rfl, by rw [hU], by rw [hU]; exact hP, va_K.moved hW.alike hK, AA_Dz _ hD0, by rw [hU]; exact EV.warm hW hS (AA_sub hD0 hA hS) hE⟩)⟩ rfl hn hl.1 rfl (lv_room hcat) hd ⟨hnc, hns⟩) hS (fun q _ h9 => hFc q h9) hFc (fun r u t H1 locs ht hvm hw9 hB hz1 hk1 hS => ?_)
  exact h r u.1 u.2 hw9 H1 locs ls (ht ▸ hB) hS hl
theorem f_callNi (C0 : Cx g x cc nL ret own fr lc) {Q : Int32 → DD → LL → Prop} (hM : Mi g y bytes maxL rt rfr rlc As d dl Q) (hw : CN own index y bytes maxL rt n) (hnw : ∀ U : State, EVn U → va_Nw (.methodLinkNest own index y RX9) U) (hR : rfr + 1 ≤ fr ∧ 19 + maxL + rlc ≤ lc) (hn : As.length = n) (hst : st0 = As.reverse ++ rest) (hcat : (rest.map fun v => v.category).sum ≤ 8) (hd : decode cc pc = .ok (.invokestatic index, 3)) (h : ∀ (r : Int32) (d' : DD) (dl' : LL), Q r d' dl' → FW g x nL d' dl' (pc + 3) lo (.int r :: rest)) : FW g x nL d dl pc lo st0 := by
  subst hst
  obtain ⟨⟨p, e, R, s, m⟩, ⟨args, below, meth, c⟩, ⟨A, nc, ns, Z⟩⟩ := x
  obtain ⟨l, dC, dI, ad, cA, sa, sv, vf⟩ := g
  obtain ⟨hx, hb, hr, hml, hown, hts, hlk, hK, hD0, hA, hE, hfr, hlc, hnc, hns⟩ := C0
  intro H locs ls hP hS hl
  have hFc := AA_sub hD0 hA hS
  refine va_calli (va_runSN (As := As) (rest := rest) ⟨hx, hb, hml, hown, hts⟩ (hM H.size) ⟨va_cnB n hts (gw_cons hw.1.2.1 gw_good) rfl rfl rfl (hnw s hE.2.2.1) (hts _ hw.1.1) ⟨hw.1.2.2.1, hw.1.2.2.2.1, hw.1.2.2.2.2⟩ ⟨Nat.le_trans hR.1 hfr, by have := hR.2; have h1 : (rmm rfr rlc).locals = rlc := rfl; omega⟩, hts _ hw.2, trivial⟩ ⟨FPre.blind, (fun U hU hW => ⟨rfl, by rw [hU], by rw [hU]; exact hP, va_K.moved hW.alike hK, AA_Dz _ hD0, by rw [hU]; exact EV.warm hW hS (AA_sub hD0 hA hS) hE⟩)⟩ rfl hn hl.1 rfl (lv_room hcat) hd ⟨hnc, hns⟩) hS (fun q _ h9 => hFc q h9) hFc (fun r u t H1 locs ht hvm hw9 hB hz1 hk1 hS => ?_)
  exact h r u.1 u.2 hw9 H1 locs ls (ht ▸ hB) hS hl
theorem f_callTi (C0 : Cx g x cc nL ret own fr lc) {w : Nat} {Q : Int32 → DD → LL → Prop} (hM : Mi g y bytes maxL rt rfr rlc (rs g w :: As) d dl Q) (hw : CV own index y bytes maxL rt n) (hi : w < 19) (hq1 : "java/lang/String" = y.cls) (hR : rfr + 1 ≤ fr ∧ 19 + maxL + rlc ≤ lc) (hn : As.length = n) (hst : st0 = As.reverse ++ rs g w :: rest) (hcat : (rest.map fun v => v.category).sum ≤ 8) (hd : decode cc pc = .ok (.invokevirtual index, 3)) (h : ∀ (r : Int32) (d' : DD) (dl' : LL), Q r d' dl' → FW g x nL d' dl' (pc + 3) lo (.int r :: rest)) : FW g x nL d dl pc lo st0 := by
  subst hst
  obtain ⟨⟨p, e, R, s, m⟩, ⟨args, below, meth, c⟩, ⟨A, nc, ns, Z⟩⟩ := x
  obtain ⟨l, dC, dI, ad, cA, sa, sv, vf⟩ := g
  obtain ⟨hx, hb, hr, hml, hown, hts, hlk, hK, hD0, hA, hE, hfr, hlc, hnc, hns⟩ := C0
  intro H locs ls hP hS hl
  have hFc := AA_sub hD0 hA hS
  refine va_calli (va_runV (C := y.cls) (As := As) (rest := rest) ⟨hx, hb, hml, hown, hts⟩ (hM H.size) ⟨callB9 hts hw.1 (hts _ hw.2.1) hfr hlc hR, hts _ hw.2.2.1, hts _ hw.2.2.2⟩ ⟨FPre.blind, (by rw [← hq1]; exact va_Orecv (hE.1 w hi).1 hS), (fun U hU hW => ⟨rfl, by rw [hU], by rw [hU]; exact hP, va_K.moved hW.alike hK, AA_Dz _ hD0, by rw [hU]; exact EV.warm hW hS (AA_sub hD0 hA hS) hE⟩)⟩ rfl hn hl.1 rfl (lv_room hcat) hd ⟨hnc, hns⟩) hS (fun q _ h9 => hFc q h9) hFc (fun r u t H1 locs ht hvm hw9 hB hz1 hk1 hS => ?_)
  exact h r u.1 u.2 hw9 H1 locs ls (ht ▸ hB) hS hl
theorem f_callVl (C0 : Cx g x cc nL ret own fr lc) {i ci : Nat} {q : vw_C} {Q : Int64 → DD → LL → Prop} (hM : Ml g y bytes maxL rt rfr rlc (rf g i :: As) d dl Q) (hw : CV own index y bytes maxL rt n) (hi : KD i ci) (hci : ci < 11) (hq : vwCl[ci]? = some q) (hq1 : q.1 = y.cls) (hR : rfr + 1 ≤ fr ∧ 19 + maxL + rlc ≤ lc) (hn : As.length = n) (hst : st0 = As.reverse ++ rf g i :: rest) (hcat : (rest.map fun v => v.category).sum ≤ 8) (hd : decode cc pc = .ok (.invokevirtual index, 3)) (h : ∀ (r : Int64) (d' : DD) (dl' : LL), Q r d' dl' → FW g x nL d' dl' (pc + 3) lo (.long r :: rest)) : FW g x nL d dl pc lo st0 := by
  subst hst
  obtain ⟨⟨p, e, R, s, m⟩, ⟨args, below, meth, c⟩, ⟨A, nc, ns, Z⟩⟩ := x
  obtain ⟨l, dC, dI, ad, cA, sa, sv, vf⟩ := g
  obtain ⟨hx, hb, hr, hml, hown, hts, hlk, hK, hD0, hA, hE, hfr, hlc, hnc, hns⟩ := C0
  intro H locs ls hP hS hl
  obtain ⟨fs, hfs⟩ := kobj hi hci ad cA d dl
  have hFc := AA_sub hD0 hA hS
  refine va_calll (va_runV (C := y.cls) (As := As) (rest := rest) ⟨hx, hb, hml, hown, hts⟩ (hM H.size) ⟨callB9 hts hw.1 (hts _ hw.2.1) hfr hlc hR, hts _ hw.2.2.1, hts _ hw.2.2.2⟩ ⟨FPre.blind, (by rw [← hq1]; exact va_recv hK hP (ci := ci) (q0 := i) hq hfs), (fun U hU hW => ⟨rfl, by rw [hU], by rw [hU]; exact hP, va_K.moved hW.alike hK, AA_Dz _ hD0, by rw [hU]; exact EV.warm hW hS (AA_sub hD0 hA hS) hE⟩)⟩ rfl hn hl.1 rfl (lv_room hcat) hd ⟨hnc, hns⟩) hS (fun q _ h9 => hFc q h9) hFc (fun r u t H1 locs ht hvm hw9 hB hz1 hk1 hS => ?_)
  exact h r u.1 u.2 hw9 H1 locs ls (ht ▸ hB) hS hl
theorem f_callSl (C0 : Cx g x cc nL ret own fr lc) {Q : Int64 → DD → LL → Prop} (hM : Ml g y bytes maxL rt rfr rlc As d dl Q) (hw : CS own index y bytes maxL rt n) (hR : rfr + 1 ≤ fr ∧ 19 + maxL + rlc ≤ lc) (hn : As.length = n) (hst : st0 = As.reverse ++ rest) (hcat : (rest.map fun v => v.category).sum ≤ 8) (hd : decode cc pc = .ok (.invokestatic index, 3)) (h : ∀ (r : Int64) (d' : DD) (dl' : LL), Q r d' dl' → FW g x nL d' dl' (pc + 3) lo (.long r :: rest)) : FW g x nL d dl pc lo st0 := by
  subst hst
  obtain ⟨⟨p, e, R, s, m⟩, ⟨args, below, meth, c⟩, ⟨A, nc, ns, Z⟩⟩ := x
  obtain ⟨l, dC, dI, ad, cA, sa, sv, vf⟩ := g
  obtain ⟨hx, hb, hr, hml, hown, hts, hlk, hK, hD0, hA, hE, hfr, hlc, hnc, hns⟩ := C0
  intro H locs ls hP hS hl
  have hFc := AA_sub hD0 hA hS
  refine va_calll (va_runS (As := As) (rest := rest) ⟨hx, hb, hml, hown, hts⟩ (hM H.size) ⟨callB9 hts hw.1 (hts _ hw.2.1) hfr hlc hR, hts _ hw.2.2⟩ ⟨FPre.blind, (fun U hU hW => ⟨rfl, by rw [hU], by rw [hU]; exact hP, va_K.moved hW.alike hK, AA_Dz _ hD0, by rw [hU]; exact EV.warm hW hS (AA_sub hD0 hA hS) hE⟩)⟩ rfl hn hl.1 rfl (lv_room hcat) hd ⟨hnc, hns⟩) hS (fun q _ h9 => hFc q h9) hFc (fun r u t H1 locs ht hvm hw9 hB hz1 hk1 hS => ?_)
  exact h r u.1 u.2 hw9 H1 locs ls (ht ▸ hB) hS hl
theorem f_callVv (C0 : Cx g x cc nL ret own fr lc) {i ci : Nat} {q : vw_C} {Q : DD → LL → Prop} (hM : Mv g y bytes maxL rt rfr rlc (rf g i :: As) d dl Q) (hw : CV own index y bytes maxL rt n) (hi : KD i ci) (hci : ci < 11) (hq : vwCl[ci]? = some q) (hq1 : q.1 = y.cls) (hR : rfr + 1 ≤ fr ∧ 19 + maxL + rlc ≤ lc) (hn : As.length = n) (hst : st0 = As.reverse ++ rf g i :: rest) (hcat : (rest.map fun v => v.category).sum ≤ 8) (hd : decode cc pc = .ok (.invokevirtual index, 3)) (h : ∀ (d' : DD) (dl' : LL), Q d' dl' → FW g x nL d' dl' (pc + 3) lo rest) : FW g x nL d dl pc lo st0 := by
  subst hst
  obtain ⟨⟨p, e, R, s, m⟩, ⟨args, below, meth, c⟩, ⟨A, nc, ns, Z⟩⟩ := x
  obtain ⟨l, dC, dI, ad, cA, sa, sv, vf⟩ := g
  obtain ⟨hx, hb, hr, hml, hown, hts, hlk, hK, hD0, hA, hE, hfr, hlc, hnc, hns⟩ := C0
  intro H locs ls hP hS hl
  obtain ⟨fs, hfs⟩ := kobj hi hci ad cA d dl
  have hFc := AA_sub hD0 hA hS
  refine va_callv (va_runV (C := y.cls) (As := As) (rest := rest) ⟨hx, hb, hml, hown, hts⟩ (hM H.size) ⟨callB9 hts hw.1 (hts _ hw.2.1) hfr hlc hR, hts _ hw.2.2.1, hts _ hw.2.2.2⟩ ⟨FPre.blind, (by rw [← hq1]; exact va_recv hK hP (ci := ci) (q0 := i) hq hfs), (fun U hU hW => ⟨rfl, by rw [hU], by rw [hU]; exact hP, va_K.moved hW.alike hK, AA_Dz _ hD0, by rw [hU]; exact EV.warm hW hS (AA_sub hD0 hA hS) hE⟩)⟩ rfl hn hl.1 rfl (lv_room hcat) hd ⟨hnc, hns⟩) hS (fun q _ h9 => hFc q h9) hFc (fun u t H1 locs ht hvm hw9 hB hz1 hk1 hS => ?_)
  exact h u.1 u.2 hw9 H1 locs ls (ht ▸ hB) hS hl
theorem f_callSv (C0 : Cx g x cc nL ret own fr lc) {Q : DD → LL → Prop} (hM : Mv g y bytes maxL rt rfr rlc As d dl Q) (hw : CS own index y bytes maxL rt n) (hR : rfr + 1 ≤ fr ∧ 19 + maxL + rlc ≤ lc) (hn : As.length = n) (hst : st0 = As.reverse ++ rest) (hcat : (rest.map fun v => v.category).sum ≤ 8) (hd : decode cc pc = .ok (.invokestatic index, 3)) (h : ∀ (d' : DD) (dl' : LL), Q d' dl' → FW g x nL d' dl' (pc + 3) lo rest) : FW g x nL d dl pc lo st0 := by
  subst hst
  obtain ⟨⟨p, e, R, s, m⟩, ⟨args, below, meth, c⟩, ⟨A, nc, ns, Z⟩⟩ := x
  obtain ⟨l, dC, dI, ad, cA, sa, sv, vf⟩ := g
  obtain ⟨hx, hb, hr, hml, hown, hts, hlk, hK, hD0, hA, hE, hfr, hlc, hnc, hns⟩ := C0
  intro H locs ls hP hS hl
  have hFc := AA_sub hD0 hA hS
  refine va_callv (va_runS (As := As) (rest := rest) ⟨hx, hb, hml, hown, hts⟩ (hM H.size) ⟨callB9 hts hw.1 (hts _ hw.2.1) hfr hlc hR, hts _ hw.2.2⟩ ⟨FPre.blind, (fun U hU hW => ⟨rfl, by rw [hU], by rw [hU]; exact hP, va_K.moved hW.alike hK, AA_Dz _ hD0, by rw [hU]; exact EV.warm hW hS (AA_sub hD0 hA hS) hE⟩)⟩ rfl hn hl.1 rfl (lv_room hcat) hd ⟨hnc, hns⟩) hS (fun q _ h9 => hFc q h9) hFc (fun u t H1 locs ht hvm hw9 hB hz1 hk1 hS => ?_)
  exact h u.1 u.2 hw9 H1 locs ls (ht ▸ hB) hS hl
theorem f_callSr (C0 : Cx g x cc nL ret own fr lc) {Q : Nat → DD → LL → Prop} (hM : Mr g y bytes maxL rt rfr rlc As d dl Q) (hw : CS own index y bytes maxL rt n) (hR : rfr + 1 ≤ fr ∧ 19 + maxL + rlc ≤ lc) (hn : As.length = n) (hst : st0 = As.reverse ++ rest) (hcat : (rest.map fun v => v.category).sum ≤ 8) (hd : decode cc pc = .ok (.invokestatic index, 3)) (h : ∀ (r : Nat) (d' : DD) (dl' : LL), Q r d' dl' → FW g x nL d' dl' (pc + 3) lo (rs g r :: rest)) : FW g x nL d dl pc lo st0 := by
  subst hst
  obtain ⟨⟨p, e, R, s, m⟩, ⟨args, below, meth, c⟩, ⟨A, nc, ns, Z⟩⟩ := x
  obtain ⟨l, dC, dI, ad, cA, sa, sv, vf⟩ := g
  obtain ⟨hx, hb, hr, hml, hown, hts, hlk, hK, hD0, hA, hE, hfr, hlc, hnc, hns⟩ := C0
  intro H locs ls hP hS hl
  have hFc := AA_sub hD0 hA hS
  refine va_callr (va_runS (As := As) (rest := rest) ⟨hx, hb, hml, hown, hts⟩ (hM H.size) ⟨callB9 hts hw.1 (hts _ hw.2.1) hfr hlc hR, hts _ hw.2.2⟩ ⟨FPre.blind, (fun U hU hW => ⟨rfl, by rw [hU], by rw [hU]; exact hP, va_K.moved hW.alike hK, AA_Dz _ hD0, by rw [hU]; exact EV.warm hW hS (AA_sub hD0 hA hS) hE⟩)⟩ rfl hn hl.1 rfl (lv_room hcat) hd ⟨hnc, hns⟩) hS (fun q _ h9 => hFc q h9) hFc (fun u ra t H1 locs ht hvm hw9 hB hz1 hk1 hS => ?_)
  obtain ⟨rfl, hB⟩ := hB
  exact h u.1 u.2.1 u.2.2 hw9 H1 locs ls (ht ▸ hB) hS hl
theorem f_mmax (C0 : Cx g x cc nL ret own fr lc) {u v : Int32} (w1 : Cond.methodLink own index Lib.Math.max.name ∈ GW) (w2 : Cond.static Lib.Math.max.name ∈ GW) (w3 : Cond.initialized "java/lang/Math" ∈ GW) (w4 : Cond.code Lib.Math.max.name Lib.Math.max.code 2 (some .int) ∈ GW) (hR : 1 ≤ fr ∧ (st.map fun v => v.category).sum + 13 ≤ lc) (hd : decode cc pc = .ok (.invokestatic index, 3)) (h : FW g x nL d dl (pc + 3) lo (.int (if u < v then v else u) :: st)) : FW g x nL d dl pc lo (.int v :: .int u :: st) := by
  obtain ⟨⟨p, e, R, s, m⟩, ⟨args, below, meth, c⟩, ⟨A, nc, ns, Z⟩⟩ := x
  obtain ⟨l, dC, dI, ad, cA, sa, sv, vf⟩ := g
  obtain ⟨hx, hb, hr, hml, hown, hts, hlk, hK, hD0, hA, hE, hfr, hlc, hnc, hns⟩ := C0
  intro H locs ls hP hS hl
  exact va_mmax hx hb (by rw [hml]; exact hl.1.symm) hown (hts _ w1) (hts _ w2) (hts _ w3) (hts _ w4) (Nat.le_trans hR.1 hfr) (Nat.le_trans hR.2 hlc) hnc hns hd (h H locs ls hP hS hl)
theorem f_mmin (C0 : Cx g x cc nL ret own fr lc) {u v : Int32} (w1 : Cond.methodLink own index Lib.Math.min.name ∈ GW) (w2 : Cond.static Lib.Math.min.name ∈ GW) (w3 : Cond.initialized "java/lang/Math" ∈ GW) (w4 : Cond.code Lib.Math.min.name Lib.Math.min.code 2 (some .int) ∈ GW) (hR : 1 ≤ fr ∧ (st.map fun v => v.category).sum + 13 ≤ lc) (hd : decode cc pc = .ok (.invokestatic index, 3)) (h : FW g x nL d dl (pc + 3) lo (.int (if v < u then v else u) :: st)) : FW g x nL d dl pc lo (.int v :: .int u :: st) := by
  obtain ⟨⟨p, e, R, s, m⟩, ⟨args, below, meth, c⟩, ⟨A, nc, ns, Z⟩⟩ := x
  obtain ⟨l, dC, dI, ad, cA, sa, sv, vf⟩ := g
  obtain ⟨hx, hb, hr, hml, hown, hts, hlk, hK, hD0, hA, hE, hfr, hlc, hnc, hns⟩ := C0
  intro H locs ls hP hS hl
  exact va_mmin hx hb (by rw [hml]; exact hl.1.symm) hown (hts _ w1) (hts _ w2) (hts _ w3) (hts _ w4) (Nat.le_trans hR.1 hfr) (Nat.le_trans hR.2 hlc) hnc hns hd (h H locs ls hP hS hl)
theorem f_mabs (C0 : Cx g x cc nL ret own fr lc) {u v : Int32} (w1 : Cond.methodLink own index Lib.Math.abs.name ∈ GW) (w2 : Cond.static Lib.Math.abs.name ∈ GW) (w3 : Cond.initialized "java/lang/Math" ∈ GW) (w4 : Cond.code Lib.Math.abs.name Lib.Math.abs.code 1 (some .int) ∈ GW) (hR : 1 ≤ fr ∧ (st.map fun v => v.category).sum + 13 ≤ lc) (hd : decode cc pc = .ok (.invokestatic index, 3)) (h : FW g x nL d dl (pc + 3) lo (.int (if 0 ≤ u then u else -u) :: st)) : FW g x nL d dl pc lo (.int u :: st) := by
  obtain ⟨⟨p, e, R, s, m⟩, ⟨args, below, meth, c⟩, ⟨A, nc, ns, Z⟩⟩ := x
  obtain ⟨l, dC, dI, ad, cA, sa, sv, vf⟩ := g
  obtain ⟨hx, hb, hr, hml, hown, hts, hlk, hK, hD0, hA, hE, hfr, hlc, hnc, hns⟩ := C0
  intro H locs ls hP hS hl
  exact va_mabs hx hb (by rw [hml]; exact hl.1.symm) hown (hts _ w1) (hts _ w2) (hts _ w3) (hts _ w4) (Nat.le_trans hR.1 hfr) (Nat.le_trans hR.2 hlc) hnc hns hd (h H locs ls hP hS hl)
theorem f_mabsl (C0 : Cx g x cc nL ret own fr lc) {u : Int64} (w1 : Cond.methodLink own index Lib.MathLoose.abs_long.x ∈ GW) (w2 : Cond.static Lib.MathLoose.abs_long.x ∈ GW) (w3 : Cond.initialized "java/lang/Math" ∈ GW) (w4 : Cond.code Lib.MathLoose.abs_long.x Lib.MathLoose.abs_long.code 2 (some .long) ∈ GW) (hR : 1 ≤ fr ∧ (st.map fun v => v.category).sum + 13 ≤ lc) (hd : decode cc pc = .ok (.invokestatic index, 3)) (h : FW g x nL d dl (pc + 3) lo (.long (if 0 < u then u else -u) :: st)) : FW g x nL d dl pc lo (.long u :: st) := by
  obtain ⟨⟨p, e, R, s, m⟩, ⟨args, below, meth, c⟩, ⟨A, nc, ns, Z⟩⟩ := x
  obtain ⟨l, dC, dI, ad, cA, sa, sv, vf⟩ := g
  obtain ⟨hx, hb, hr, hml, hown, hts, hlk, hK, hD0, hA, hE, hfr, hlc, hnc, hns⟩ := C0
  intro H locs ls hP hS hl
  exact va_mabs_long hx hb (by rw [hml]; exact hl.1.symm) hown (hts _ w1) (hts _ w2) (hts _ w3) (hts _ w4) (Nat.le_trans hR.1 hfr) (Nat.le_trans hR.2 hlc) hnc hns hd (h H locs ls hP hS hl)
end FCALLS
theorem kn_0 : KD 0 9 := ⟨(Nat.le_of_ble_eq_true rfl), rfl⟩
theorem kn_1 : KD 1 4 := ⟨(Nat.le_of_ble_eq_true rfl), rfl⟩
theorem kn_2 : KL 2 11 40 := ⟨(Nat.le_of_ble_eq_true rfl), rfl, rfl⟩
theorem kn_3 : KL 3 11 40 := ⟨(Nat.le_of_ble_eq_true rfl), rfl, rfl⟩
theorem kn_4 : KL 4 11 40 := ⟨(Nat.le_of_ble_eq_true rfl), rfl, rfl⟩
theorem kn_5 : KL 5 11 40 := ⟨(Nat.le_of_ble_eq_true rfl), rfl, rfl⟩
theorem kn_6 : KL 6 11 40 := ⟨(Nat.le_of_ble_eq_true rfl), rfl, rfl⟩
theorem kn_7 : KL 7 12 40 := ⟨(Nat.le_of_ble_eq_true rfl), rfl, rfl⟩
theorem kn_8 : KL 8 14 6 := ⟨(Nat.le_of_ble_eq_true rfl), rfl, rfl⟩
theorem kn_9 : KD 9 8 := ⟨(Nat.le_of_ble_eq_true rfl), rfl⟩
theorem kn_10 : KD 10 6 := ⟨(Nat.le_of_ble_eq_true rfl), rfl⟩
theorem kn_11 : KL 11 11 8 := ⟨(Nat.le_of_ble_eq_true rfl), rfl, rfl⟩
theorem kn_12 : KL 12 11 8 := ⟨(Nat.le_of_ble_eq_true rfl), rfl, rfl⟩
theorem kn_13 : KL 13 11 8 := ⟨(Nat.le_of_ble_eq_true rfl), rfl, rfl⟩
theorem kn_14 : KL 14 11 8 := ⟨(Nat.le_of_ble_eq_true rfl), rfl, rfl⟩
theorem kn_15 : KL 15 11 8 := ⟨(Nat.le_of_ble_eq_true rfl), rfl, rfl⟩
theorem kn_16 : KL 16 11 8 := ⟨(Nat.le_of_ble_eq_true rfl), rfl, rfl⟩
theorem kn_17 : KL 17 11 8 := ⟨(Nat.le_of_ble_eq_true rfl), rfl, rfl⟩
theorem kn_18 : KL 18 11 8 := ⟨(Nat.le_of_ble_eq_true rfl), rfl, rfl⟩
theorem kn_19 : KL 19 11 9 := ⟨(Nat.le_of_ble_eq_true rfl), rfl, rfl⟩
theorem kn_20 : KL 20 11 9 := ⟨(Nat.le_of_ble_eq_true rfl), rfl, rfl⟩
theorem kn_21 : KL 21 11 9 := ⟨(Nat.le_of_ble_eq_true rfl), rfl, rfl⟩
theorem kn_22 : KL 22 11 9 := ⟨(Nat.le_of_ble_eq_true rfl), rfl, rfl⟩
theorem kn_23 : KL 23 11 9 := ⟨(Nat.le_of_ble_eq_true rfl), rfl, rfl⟩
theorem kn_24 : KD 24 7 := ⟨(Nat.le_of_ble_eq_true rfl), rfl⟩
theorem kn_25 : KL 25 11 120 := ⟨(Nat.le_of_ble_eq_true rfl), rfl, rfl⟩
theorem kn_26 : KL 26 15 6 := ⟨(Nat.le_of_ble_eq_true rfl), rfl, rfl⟩
theorem kn_27 : KL 27 11 6 := ⟨(Nat.le_of_ble_eq_true rfl), rfl, rfl⟩
theorem kn_28 : KL 28 11 4 := ⟨(Nat.le_of_ble_eq_true rfl), rfl, rfl⟩
theorem kn_29 : KL 29 11 4 := ⟨(Nat.le_of_ble_eq_true rfl), rfl, rfl⟩
theorem kn_30 : KL 30 16 24 := ⟨(Nat.le_of_ble_eq_true rfl), rfl, rfl⟩
theorem kn_31 : KD 31 0 := ⟨(Nat.le_of_ble_eq_true rfl), rfl⟩
theorem kn_32 : KD 32 2 := ⟨(Nat.le_of_ble_eq_true rfl), rfl⟩
theorem kn_33 : KL 33 11 6 := ⟨(Nat.le_of_ble_eq_true rfl), rfl, rfl⟩
theorem kn_34 : KL 34 11 6 := ⟨(Nat.le_of_ble_eq_true rfl), rfl, rfl⟩
theorem kn_35 : KL 35 13 6 := ⟨(Nat.le_of_ble_eq_true rfl), rfl, rfl⟩
theorem kn_36 : KL 36 13 6 := ⟨(Nat.le_of_ble_eq_true rfl), rfl, rfl⟩
theorem kn_211 : KD 211 10 := ⟨(Nat.le_of_ble_eq_true rfl), rfl⟩
theorem kn_212 : KL 212 11 40 := ⟨(Nat.le_of_ble_eq_true rfl), rfl, rfl⟩
theorem kn_213 : KL 213 11 40 := ⟨(Nat.le_of_ble_eq_true rfl), rfl, rfl⟩
theorem kn_214 : KL 214 11 40 := ⟨(Nat.le_of_ble_eq_true rfl), rfl, rfl⟩
theorem kn_215 : KL 215 11 40 := ⟨(Nat.le_of_ble_eq_true rfl), rfl, rfl⟩
theorem kn_216 : KL 216 11 40 := ⟨(Nat.le_of_ble_eq_true rfl), rfl, rfl⟩
theorem kn_217 : KL 217 13 1600 := ⟨(Nat.le_of_ble_eq_true rfl), rfl, rfl⟩
theorem kn_218 : KL 218 11 6 := ⟨(Nat.le_of_ble_eq_true rfl), rfl, rfl⟩
theorem kn_219 : KL 219 11 6 := ⟨(Nat.le_of_ble_eq_true rfl), rfl, rfl⟩
theorem kn_220 : KL 220 11 6 := ⟨(Nat.le_of_ble_eq_true rfl), rfl, rfl⟩
theorem kn_221 : KL 221 11 6 := ⟨(Nat.le_of_ble_eq_true rfl), rfl, rfl⟩
theorem kn_222 : KL 222 11 48 := ⟨(Nat.le_of_ble_eq_true rfl), rfl, rfl⟩
theorem kn_223 : KL 223 11 48 := ⟨(Nat.le_of_ble_eq_true rfl), rfl, rfl⟩
theorem kn_224 : KL 224 13 6 := ⟨(Nat.le_of_ble_eq_true rfl), rfl, rfl⟩
theorem kn_225 : KL 225 11 120 := ⟨(Nat.le_of_ble_eq_true rfl), rfl, rfl⟩
theorem kn_226 : KL 226 11 6 := ⟨(Nat.le_of_ble_eq_true rfl), rfl, rfl⟩
theorem kn_227 : KL 227 11 48 := ⟨(Nat.le_of_ble_eq_true rfl), rfl, rfl⟩
theorem kn_228 : KL 228 11 48 := ⟨(Nat.le_of_ble_eq_true rfl), rfl, rfl⟩
theorem kn_229 : KL 229 11 48 := ⟨(Nat.le_of_ble_eq_true rfl), rfl, rfl⟩
theorem kn_230 : KL 230 13 48 := ⟨(Nat.le_of_ble_eq_true rfl), rfl, rfl⟩
theorem kn_231 : KL 231 13 48 := ⟨(Nat.le_of_ble_eq_true rfl), rfl, rfl⟩
theorem kn_232 : KL 232 11 24 := ⟨(Nat.le_of_ble_eq_true rfl), rfl, rfl⟩
theorem kn_233 : KL 233 11 24 := ⟨(Nat.le_of_ble_eq_true rfl), rfl, rfl⟩
theorem kn_234 : KL 234 11 96 := ⟨(Nat.le_of_ble_eq_true rfl), rfl, rfl⟩
theorem kn_235 : KL 235 11 96 := ⟨(Nat.le_of_ble_eq_true rfl), rfl, rfl⟩
theorem kn_236 : KL 236 11 96 := ⟨(Nat.le_of_ble_eq_true rfl), rfl, rfl⟩
theorem kn_237 : KL 237 13 96 := ⟨(Nat.le_of_ble_eq_true rfl), rfl, rfl⟩
theorem kn_238 : KL 238 13 24 := ⟨(Nat.le_of_ble_eq_true rfl), rfl, rfl⟩
theorem kn_239 : KL 239 11 4 := ⟨(Nat.le_of_ble_eq_true rfl), rfl, rfl⟩
theorem kn_240 : KL 240 11 4 := ⟨(Nat.le_of_ble_eq_true rfl), rfl, rfl⟩
theorem kn_241 : KL 241 11 6 := ⟨(Nat.le_of_ble_eq_true rfl), rfl, rfl⟩
theorem kn_242 : KL 242 11 6 := ⟨(Nat.le_of_ble_eq_true rfl), rfl, rfl⟩
theorem kn_243 : KL 243 13 6 := ⟨(Nat.le_of_ble_eq_true rfl), rfl, rfl⟩
theorem kn_244 : KL 244 11 8 := ⟨(Nat.le_of_ble_eq_true rfl), rfl, rfl⟩
theorem kn_245 : KL 245 11 8 := ⟨(Nat.le_of_ble_eq_true rfl), rfl, rfl⟩
theorem kn_246 : KL 246 11 8 := ⟨(Nat.le_of_ble_eq_true rfl), rfl, rfl⟩
theorem kn_247 : KL 247 11 8 := ⟨(Nat.le_of_ble_eq_true rfl), rfl, rfl⟩
theorem kn_crew_0 {k : Nat} (h : k < 6) : KD (37 + 3 * k) 1 := ⟨by omega, (kd_crew_0 k h).1⟩
theorem kn_crew_1 {k : Nat} (h : k < 6) : KL (38 + 3 * k) 11 8 := ⟨by omega, (kd_crew_1 k h).1, (kd_crew_1 k h).2⟩
theorem kn_crew_2 {k : Nat} (h : k < 6) : KL (39 + 3 * k) 11 8 := ⟨by omega, (kd_crew_2 k h).1, (kd_crew_2 k h).2⟩
theorem kn_rule_0 {k : Nat} (h : k < 6) : KD (55 + 6 * k) 5 := ⟨by omega, (kd_rule_0 k h).1⟩
theorem kn_rule_1 {k : Nat} (h : k < 6) : KL (56 + 6 * k) 13 8 := ⟨by omega, (kd_rule_1 k h).1, (kd_rule_1 k h).2⟩
theorem kn_rule_2 {k : Nat} (h : k < 6) : KL (57 + 6 * k) 11 8 := ⟨by omega, (kd_rule_2 k h).1, (kd_rule_2 k h).2⟩
theorem kn_rule_3 {k : Nat} (h : k < 6) : KL (58 + 6 * k) 11 8 := ⟨by omega, (kd_rule_3 k h).1, (kd_rule_3 k h).2⟩
theorem kn_rule_4 {k : Nat} (h : k < 6) : KL (59 + 6 * k) 11 8 := ⟨by omega, (kd_rule_4 k h).1, (kd_rule_4 k h).2⟩
theorem kn_rule_5 {k : Nat} (h : k < 6) : KL (60 + 6 * k) 13 8 := ⟨by omega, (kd_rule_5 k h).1, (kd_rule_5 k h).2⟩
theorem kn_race_0 {k : Nat} (h : k < 24) : KD (91 + 5 * k) 3 := ⟨by omega, (kd_race_0 k h).1⟩
theorem kn_race_1 {k : Nat} (h : k < 24) : KL (92 + 5 * k) 11 4 := ⟨by omega, (kd_race_1 k h).1, (kd_race_1 k h).2⟩
theorem kn_race_2 {k : Nat} (h : k < 24) : KL (93 + 5 * k) 11 4 := ⟨by omega, (kd_race_2 k h).1, (kd_race_2 k h).2⟩
theorem kn_race_3 {k : Nat} (h : k < 24) : KL (94 + 5 * k) 11 4 := ⟨by omega, (kd_race_3 k h).1, (kd_race_3 k h).2⟩
theorem kn_race_4 {k : Nat} (h : k < 24) : KL (95 + 5 * k) 13 4 := ⟨by omega, (kd_race_4 k h).1, (kd_race_4 k h).2⟩
