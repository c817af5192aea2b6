def ZL (g : Ex) (x : Fx) (b : Nat) (Q : Nat × (Nat → Int32)) : Prop :=
  match g, x with
  | (l, dC, dI, ad, cA, sa, sv, vf), ((p, e, R, s, m), (args, below, meth, c), (A, nc, ns, Z)) => va_X b Q.1 Q.2 s s.heap ∧ b < s.heap.size ∧ ¬ A b ∧ (∀ q, A q → s.heap.size ≤ q) ∧ R = room_1 ∧ Z = lw_Z below #[Value.ref b] s ∧ args = #[Value.ref b] ∧ nc ≤ 600000 ∧ ns ≤ 7302250
section FLAW
variable {g : Ex} {x : Fx} {cc : ByteArray} {nL fr lc pc : Nat} {ret : Option FieldType} {own : String} {d : DD} {dl : LL} {lo : List (Nat × Value)} {st : List Value}
variable {b : Nat} {Q : Nat × (Nat → Int32)}
theorem f_xlen (C0 : Cx g x cc nL ret own fr lc) (hZ : ZL g x b Q) (hd : decode cc pc = .ok (.arraylength, 1)) (h : FW g x nL d dl (pc + 1) lo (.int (Int32.ofNat Q.1) :: st)) : FW g x nL d dl pc lo (.ref b :: st) := by
  obtain ⟨⟨p, e, R, s, m⟩, ⟨args, below, meth, c⟩, ⟨A, nc, ns, Z⟩⟩ := x
  obtain ⟨l, dC, dI, ad, cA, sa, sv, vf⟩ := g
  obtain ⟨hx, hb, hr, hml, hown, hts, hlk, hK, hD0, hA, hE, hfr, hlc, hnc, hns⟩ := C0
  obtain ⟨hX, hbl, hbA, -⟩ := hZ
  intro H locs ls hP hS hl
  exact va_slen hx hb hX hbl hbA hS hd (h H locs ls hP hS hl)
theorem f_xld (C0 : Cx g x cc nL ret own fr lc) (hZ : ZL g x b Q) {v : Int32} (hin : vp_in v Q.1) (hd : decode cc pc = .ok (.iaload, 1)) (h : FW g x nL d dl (pc + 1) lo (.int (Q.2 v.toNatClampNeg) :: st)) : FW g x nL d dl pc lo (.int v :: .ref b :: st) := by
  obtain ⟨⟨p, e, R, s, m⟩, ⟨args, below, meth, c⟩, ⟨A, nc, ns, Z⟩⟩ := x
  obtain ⟨l, dC, dI, ad, cA, sa, sv, vf⟩ := g
  obtain ⟨hx, hb, hr, hml, hown, hts, hlk, hK, hD0, hA, hE, hfr, hlc, hnc, hns⟩ := C0
  obtain ⟨hX, hbl, hbA, -⟩ := hZ
  intro H locs ls hP hS hl
  exact va_sld hx hb hX hbl hbA hS hin hd (h H locs ls hP hS hl)
theorem f_lend (C0 : Cx g x cL_law nL (some .boolean) own fr lc) (hZ : ZL g x b Q) (hd : decode cL_law pc = .ok (.ireturn, 1)) : FW g x nL d dl pc lo [.int 1] := by
  obtain ⟨⟨p, e, R, s, m⟩, ⟨args, below, meth, c⟩, ⟨A, nc, ns, Z⟩⟩ := x
  obtain ⟨l, dC, dI, ad, cA, sa, sv, vf⟩ := g
  obtain ⟨hx, hb, hr, hml, hown, hts, hlk, hK, hD0, hA, hE, hfr, hlc, hnc, hns⟩ := C0
  obtain ⟨hX, hbl, hbA, hAl, hR, hZ, ha, h1, h2⟩ := hZ
  subst hR
  subst hZ
  subst ha
  intro H locs ls hP hS hl
  refine va_forget (fun q hq => hAl _ (hS.2.2 q hq)) ?_
  refine W.widen (k := 600000) (n := 7302250) h1 h2 ?_
  exact lw_ret hx hb hr hlk hd
end FLAW
