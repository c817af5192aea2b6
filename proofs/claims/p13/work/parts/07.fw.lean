/-- shifts as the machine has them -/
def ushr (u v : Int32) : Int32 := (u.toUInt32 >>> (v.toUInt32 &&& Int32.toUInt32 31)).toInt32
def lushr (u : Int64) (v : Int32) : Int64 := (u.toUInt64 >>> (v.toInt64.toUInt64 &&& Int64.toUInt64 63)).toInt64
def lshl (u : Int64) (v : Int32) : Int64 := u <<< (v.toInt64 &&& 63)
def irem (u v : Int32) : Int32 := u - u / v * v
def lrem (u v : Int64) : Int64 := u - u / v * v
def lshr (u : Int64) (v : Int32) : Int64 := u >>> (v.toInt64 &&& 63)
abbrev DD : Type := Nat → Nat → Int32
abbrev LL : Type := Nat → Nat → Int64
abbrev Ex : Type := Launch × (Nat → ClassId) × (Nat → Nat → Nat) × (Nat → Nat) × (Nat → ClassId) × (Nat → Nat) × (Nat → Nat) × Value
abbrev Fx : Type := (Program × Env × Room × State × MethodId) × (Array Value × List Frame × Method × Code) × ((Nat → Prop) × Nat × Nat × (State → Prop))
/-- the bytes of a text, as cells of its row -/
def sb (l : List Int32) : Nat → Value := fun j => .int (l.getD j 0)
def sbs (w : Nat) : List Int32 := ([[109, 101, 110], [119, 111, 109, 101, 110], [111, 108, 100], [121, 111, 117, 110, 103], [119, 101, 105, 103, 104, 116], [99, 114, 101, 119], [110, 111, 116], [111, 114], [97, 110, 100], [110, 111, 116, 32], [109, 101, 110], [119, 111, 109, 101, 110], [111, 108, 100], [121, 111, 117, 110, 103], [119, 101, 105, 103, 104, 116], [99, 114, 101, 119], [32], [111, 114, 32], [97, 110, 100, 32]] : List (List Int32)).getD w []
def sown (w : Nat) : String := if w < 9 then RX7 else RX10
def sidx (w : Nat) : Nat := ([91, 93, 95, 97, 99, 101, 103, 105, 107, 183, 189, 191, 193, 195, 197, 198, 207, 209, 211] : List Nat).getD w 0
def stx (w : Nat) : String := (["men", "women", "old", "young", "weight", "crew", "not", "or", "and", "not ", "men", "women", "old", "young", "weight", "crew", " ", "or ", "and "] : List String).getD w ""
def EVs (sa sv : Nat → Nat) (A : Nat → Prop) (U : State) (H : Heap) : Prop := ∀ w, w < 19 → va_O "java/lang/String" (sa w) A U H ∧ va_OF "java/lang/String" "coder" "B" (.int 0) (sa w) A U H ∧ va_OF "java/lang/String" "value" "[B" (.ref (sv w)) (sa w) A U H ∧ va_T .byte (sv w) (sbs w).length (sb (sbs w)) A U H
def EVr (sa : Nat → Nat) (U : State) : Prop := ∀ w, w < 19 → vk_R (sown w) (sidx w) (stx w) (sa w) U
def EVn (U : State) : Prop := va_Nw (.methodLinkNest RX4 35 yX9_within RX9) U ∧ va_Nw (.methodLinkNest RX7 67 yX9_within RX9) U ∧ va_Nw (.methodLinkNest RX2 51 yX9_within RX9) U ∧ va_Nw (.fieldLinkNest RX3 45 "DrumBoats" "PLACE_POINTS" "[I" RX9) U
def EVz (sa : Nat → Nat) (vf : Value) (A : Nat → Prop) (U : State) (H : Heap) : Prop := va_Z "java/lang/String" "COMPACT_STRINGS" "Z" (.int 1) A U H ∧ va_Z "jdk/internal/util/Preconditions" "SIOOBE_FORMATTER" "Ljava/util/function/BiFunction;" vf A U H ∧ va_Z "DrumBoats" "PLACE_POINTS" "[I" (.ref (sa 19)) A U H ∧ va_T .int (sa 19) 6 (sb [10, 8, 6, 5, 4, 3]) A U H ∧ vf.category = 1
def EV (sa sv : Nat → Nat) (vf : Value) (A : Nat → Prop) (U : State) (H : Heap) : Prop := EVs sa sv A U H ∧ EVr sa U ∧ EVn U ∧ EVz sa vf A U H
theorem EV.calling {sa sv : Nat → Nat} {vf : Value} {A : Nat → Prop} {U : State} {H : Heap} (g : JFrame) (mk : MethodId) (a : Array Value) (h : EV sa sv vf A U H) : EV sa sv vf A (U.calling g mk a) H := by
  obtain ⟨h1, h2, ⟨n1, n2, n3, n4⟩, z1, z2, z3, z4, z5⟩ := h
  refine ⟨fun w hw => ?_, fun w hw => vk_R.same (U := U.calling g mk a) rfl (h2 w hw), ⟨va_Nw.same (U := U.calling g mk a) rfl rfl n1, va_Nw.same (U := U.calling g mk a) rfl rfl n2, va_Nw.same (U := U.calling g mk a) rfl rfl n3, va_Nw.same (U := U.calling g mk a) rfl rfl n4⟩, va_Z.moved (U := U.calling g mk a) (Vm.Alike.refl U.vm) z1, va_Z.moved (U := U.calling g mk a) (Vm.Alike.refl U.vm) z2, va_Z.moved (U := U.calling g mk a) (Vm.Alike.refl U.vm) z3, va_T.moved (U := U.calling g mk a) (Vm.Alike.refl U.vm) z4, z5⟩
  obtain ⟨q1, q2, q3, q4⟩ := h1 w hw
  exact ⟨va_O.moved (U := U.calling g mk a) (Vm.Alike.refl U.vm) q1, va_OF.moved (U := U.calling g mk a) (Vm.Alike.refl U.vm) q2, va_OF.moved (U := U.calling g mk a) (Vm.Alike.refl U.vm) q3, va_T.moved (U := U.calling g mk a) (Vm.Alike.refl U.vm) q4⟩
theorem EV.warm {sa sv : Nat → Nat} {vf : Value} {A B : Nat → Prop} {s U : State} {H : Heap} {locs : List Loc} (hW : s.WarmedH U.vm) (hS : va_S A s.heap H locs) (hAB : ∀ q, B q → A q) (h : EV sa sv vf A s s.heap) : EV sa sv vf B U H := by
  obtain ⟨h1, h2, ⟨n1, n2, n3, n4⟩, z1, z2, z3, z4, z5⟩ := h
  refine ⟨fun w hw => ?_, fun w hw => vk_R.warm hW (h2 w hw), ⟨va_Nw.warmM hW n1, va_Nw.warmM hW n2, va_Nw.warmM hW n3, va_Nw.warmF hW n4⟩, va_Z.moved hW.alike ((z1.kept hS.2.1).narrow hAB), va_Z.moved hW.alike ((z2.kept hS.2.1).narrow hAB), va_Z.moved hW.alike ((z3.kept hS.2.1).narrow hAB), va_T.moved hW.alike ((z4.kept hS.2.1).narrow hAB), z5⟩
  obtain ⟨q1, q2, q3, q4⟩ := h1 w hw
  exact ⟨va_O.moved hW.alike ((q1.kept hS.2.1).narrow hAB), va_OF.moved hW.alike ((q2.kept hS.2.1).narrow hAB), va_OF.moved hW.alike ((q3.kept hS.2.1).narrow hAB), va_T.moved hW.alike ((q4.kept hS.2.1).narrow hAB)⟩
/-- cell i of the pool, as a reference -/
def rf (g : Ex) (i : Nat) : Value := .ref (g.2.2.2.1 i)
/-- text w, as a reference -/
def rs (g : Ex) (w : Nat) : Value := .ref (g.2.2.2.2.2.1 w)
/-- the bytes of text w -/
def rv (g : Ex) (w : Nat) : Value := .ref (g.2.2.2.2.2.2.1 w)
def rz (g : Ex) : Value := g.2.2.2.2.2.2.2
/-- the frame at pc with these locals and this stack, the pool holding d and dl: the machine comes to the end Z -/
def FW (g : Ex) (x : Fx) (nL : Nat) (d : DD) (dl : LL) (pc : Nat) (lo : List (Nat × Value)) (st : List Value) : Prop :=
  match g, x with
  | (l, dC, dI, ad, cA, sa, sv, vf), ((p, e, R, s, m), (args, below, meth, c), (A, nc, ns, Z)) => ∀ (H : Heap) (locs : List Loc) (ls : Array Slot), va_P (dC, dI) vwCl (pw 248 ad (CC ad cA d dl)) H → va_S A s.heap H locs → lv_has ls nL lo → W p l e R s m args below meth c H locs nc ns Z (F0 m pc ls st)
def Cx (g : Ex) (x : Fx) (cc : ByteArray) (nL : Nat) (ret : Option FieldType) (own : String) (fr lc : Nat) : Prop :=
  match g, x with
  | (l, dC, dI, ad, cA, sa, sv, vf), ((p, e, R, s, m), (args, below, meth, c), (A, nc, ns, Z)) => p.tables.exec = Jvm.exec ∧ c.code = cc ∧ meth.sig.returnType = ret ∧ c.maxLocals = nL ∧ s.vm.findClass own = some m.cls ∧ (∀ w ∈ GW, w.before args s = true) ∧ meth.locks = false ∧ va_K (dC, dI) vwCl (tysW cA) s ∧ va_D A (pw 248 ad (fun _ => .inr (0, []))) ∧ (∀ q : Nat, s.heap.size ≤ q → A q) ∧ EV sa sv vf A s s.heap ∧ fr ≤ R.frames ∧ lc ≤ R.locals ∧ nc ≤ R.cells ∧ ns ≤ R.slots
def Zi (g : Ex) (x : Fx) (Q : Int32 → DD → LL → Prop) : Prop :=
  match g, x with
  | (l, dC, dI, ad, cA, sa, sv, vf), ((p, e, R, s, m), (args, below, meth, c), (A, nc, ns, Z)) => Z = MQ below (va_Qi (fun (r : Int32) (u : DD × LL) => Q r u.1 u.2) (fun u t => va_P (dC, dI) vwCl (pw 248 ad (CC ad cA u.1 u.2)) t.heap) (AA ad s.heap.size)) args s nc ns (AA ad s.heap.size) ∧ A = AA ad s.heap.size
def Zl (g : Ex) (x : Fx) (Q : Int64 → DD → LL → Prop) : Prop :=
  match g, x with
  | (l, dC, dI, ad, cA, sa, sv, vf), ((p, e, R, s, m), (args, below, meth, c), (A, nc, ns, Z)) => Z = MQ below (va_Ql (fun (r : Int64) (u : DD × LL) => Q r u.1 u.2) (fun u t => va_P (dC, dI) vwCl (pw 248 ad (CC ad cA u.1 u.2)) t.heap) (AA ad s.heap.size)) args s nc ns (AA ad s.heap.size) ∧ A = AA ad s.heap.size
def Zr (g : Ex) (x : Fx) (Q : Nat → DD → LL → Prop) : Prop :=
  match g, x with
  | (l, dC, dI, ad, cA, sa, sv, vf), ((p, e, R, s, m), (args, below, meth, c), (A, nc, ns, Z)) => Z = MQ below (va_Qr (fun (u : Nat × DD × LL) => Q u.1 u.2.1 u.2.2) (fun u a t => a = sa u.1 ∧ va_P (dC, dI) vwCl (pw 248 ad (CC ad cA u.2.1 u.2.2)) t.heap) (AA ad s.heap.size)) args s nc ns (AA ad s.heap.size) ∧ A = AA ad s.heap.size
def Zv (g : Ex) (x : Fx) (Q : DD → LL → Prop) : Prop :=
  match g, x with
  | (l, dC, dI, ad, cA, sa, sv, vf), ((p, e, R, s, m), (args, below, meth, c), (A, nc, ns, Z)) => Z = MQ below (va_Qv (fun (u : DD × LL) => Q u.1 u.2) (fun u t => va_P (dC, dI) vwCl (pw 248 ad (CC ad cA u.1 u.2)) t.heap) (AA ad s.heap.size)) args s nc ns (AA ad s.heap.size) ∧ A = AA ad s.heap.size
def KD (i k : Nat) : Prop := i < 248 ∧ kd i = k
def KL (i k n : Nat) : Prop := i < 248 ∧ kd i = k ∧ ln i = n
section FROWS
variable {g : Ex} {x : Fx} {cc : ByteArray} {nL fr lc pc : Nat} {ret : Option FieldType} {own : String} {d : DD} {dl : LL} {lo : List (Nat × Value)} {st : List Value}
theorem f_iconst (C0 : Cx g x cc nL ret own fr lc) {n : Int} {v : Int32} (hd : decode cc pc = .ok (.iconst n, 1)) (hv : Int32.ofInt n = v) (h : FW g x nL d dl (pc + 1) lo (.int v :: st)) : FW g x nL d dl pc lo st := by
  obtain ⟨⟨p, e, R, s, m⟩, ⟨args, below, meth, c⟩, ⟨A, nc, ns, Z⟩⟩ := x
  obtain ⟨l, dC, dI, ad, cA, sa, sv, vf⟩ := g
  obtain ⟨hx, hb, hr, hml, hown, hts, hlk, hK, hD0, hA, hE, hfr, hlc, hnc, hns⟩ := C0
  intro H locs ls hP hS hl
  exact lv_iconst hx hb hd hv (h H locs ls hP hS hl)
theorem f_bipush (C0 : Cx g x cc nL ret own fr lc) {n : Int} {v : Int32} (hd : decode cc pc = .ok (.bipush n, 2)) (hv : (Int8.ofInt n).toInt32 = v) (h : FW g x nL d dl (pc + 2) lo (.int v :: st)) : FW g x nL d dl pc lo st := by
  obtain ⟨⟨p, e, R, s, m⟩, ⟨args, below, meth, c⟩, ⟨A, nc, ns, Z⟩⟩ := x
  obtain ⟨l, dC, dI, ad, cA, sa, sv, vf⟩ := g
  obtain ⟨hx, hb, hr, hml, hown, hts, hlk, hK, hD0, hA, hE, hfr, hlc, hnc, hns⟩ := C0
  intro H locs ls hP hS hl
  exact lv_bipush hx hb hd hv (h H locs ls hP hS hl)
theorem f_sipush (C0 : Cx g x cc nL ret own fr lc) {n : Int} {v : Int32} (hd : decode cc pc = .ok (.sipush n, 3)) (hv : (Int16.ofInt n).toInt32 = v) (h : FW g x nL d dl (pc + 3) lo (.int v :: st)) : FW g x nL d dl pc lo st := by
  obtain ⟨⟨p, e, R, s, m⟩, ⟨args, below, meth, c⟩, ⟨A, nc, ns, Z⟩⟩ := x
  obtain ⟨l, dC, dI, ad, cA, sa, sv, vf⟩ := g
  obtain ⟨hx, hb, hr, hml, hown, hts, hlk, hK, hD0, hA, hE, hfr, hlc, hnc, hns⟩ := C0
  intro H locs ls hP hS hl
  exact lv_sipush hx hb hd hv (h H locs ls hP hS hl)
theorem f_lconst (C0 : Cx g x cc nL ret own fr lc) {n : Fin 2} {v : Int64} (hd : decode cc pc = .ok (.lconst n, 1)) (hv : Int64.ofNat (n : Nat) = v) (h : FW g x nL d dl (pc + 1) lo (.long v :: st)) : FW g x nL d dl pc lo st := by
  obtain ⟨⟨p, e, R, s, m⟩, ⟨args, below, meth, c⟩, ⟨A, nc, ns, Z⟩⟩ := x
  obtain ⟨l, dC, dI, ad, cA, sa, sv, vf⟩ := g
  obtain ⟨hx, hb, hr, hml, hown, hts, hlk, hK, hD0, hA, hE, hfr, hlc, hnc, hns⟩ := C0
  intro H locs ls hP hS hl
  exact lv_lconst hx hb hd hv (h H locs ls hP hS hl)
theorem f_ldc (C0 : Cx g x cc nL ret own fr lc) {index : Nat} {v : Int32} (hw : Jvm.Cond.constant own index v ∈ GW) (hd : decode cc pc = .ok (.ldc index, 2)) (h : FW g x nL d dl (pc + 2) lo (.int v :: st)) : FW g x nL d dl pc lo st := by
  obtain ⟨⟨p, e, R, s, m⟩, ⟨args, below, meth, c⟩, ⟨A, nc, ns, Z⟩⟩ := x
  obtain ⟨l, dC, dI, ad, cA, sa, sv, vf⟩ := g
  obtain ⟨hx, hb, hr, hml, hown, hts, hlk, hK, hD0, hA, hE, hfr, hlc, hnc, hns⟩ := C0
  intro H locs ls hP hS hl
  exact lv_ldc hx hb hown (hts _ hw) hd (h H locs ls hP hS hl)
theorem f_ldc2 (C0 : Cx g x cc nL ret own fr lc) {index : Nat} {v : Int64} (hw : Jvm.Cond.constantLong own index v ∈ GW) (hd : decode cc pc = .ok (.ldc2_w index, 3)) (h : FW g x nL d dl (pc + 3) lo (.long v :: st)) : FW g x nL d dl pc lo st := by
  obtain ⟨⟨p, e, R, s, m⟩, ⟨args, below, meth, c⟩, ⟨A, nc, ns, Z⟩⟩ := x
  obtain ⟨l, dC, dI, ad, cA, sa, sv, vf⟩ := g
  obtain ⟨hx, hb, hr, hml, hown, hts, hlk, hK, hD0, hA, hE, hfr, hlc, hnc, hns⟩ := C0
  intro H locs ls hP hS hl
  exact lv_ldc2 hx hb hown (hts _ hw) hd (h H locs ls hP hS hl)
theorem f_ldcS (C0 : Cx g x cc nL ret own fr lc) {w index : Nat} (hw : w < 19) (ho : sown w = own) (hi : sidx w = index) (hd : decode cc pc = .ok (.ldc index, 2)) (h : FW g x nL d dl (pc + 2) lo (rs g w :: st)) : FW g x nL d dl pc lo st := by
  obtain ⟨⟨p, e, R, s, m⟩, ⟨args, below, meth, c⟩, ⟨A, nc, ns, Z⟩⟩ := x
  obtain ⟨l, dC, dI, ad, cA, sa, sv, vf⟩ := g
  obtain ⟨hx, hb, hr, hml, hown, hts, hlk, hK, hD0, hA, hE, hfr, hlc, hnc, hns⟩ := C0
  intro H locs ls hP hS hl
  exact va_ldcS hx hb hown (by rw [← ho, ← hi]; exact hE.2.1 w hw) hd (h H locs ls hP hS hl)
theorem f_iload_n (C0 : Cx g x cc nL ret own fr lc) {k : Fin 4} {i : Nat} {v : Int32} (hd : decode cc pc = .ok (.iload_n k, 1)) (hi : (k : Nat) = i) (j : Nat) (hj : lo[j]? = some (i, .int v)) (h : FW g x nL d dl (pc + 1) lo (.int v :: st)) : FW g x nL d dl pc lo st := by
  obtain ⟨⟨p, e, R, s, m⟩, ⟨args, below, meth, c⟩, ⟨A, nc, ns, Z⟩⟩ := x
  obtain ⟨l, dC, dI, ad, cA, sa, sv, vf⟩ := g
  obtain ⟨hx, hb, hr, hml, hown, hts, hlk, hK, hD0, hA, hE, hfr, hlc, hnc, hns⟩ := C0
  intro H locs ls hP hS hl
  exact lv_iload_n hx hb hd hi (lv_at hl j hj) (h H locs ls hP hS hl)
theorem f_iload (C0 : Cx g x cc nL ret own fr lc) {i : Nat} {v : Int32} (hd : decode cc pc = .ok (.iload i, 2)) (j : Nat) (hj : lo[j]? = some (i, .int v)) (h : FW g x nL d dl (pc + 2) lo (.int v :: st)) : FW g x nL d dl pc lo st := by
  obtain ⟨⟨p, e, R, s, m⟩, ⟨args, below, meth, c⟩, ⟨A, nc, ns, Z⟩⟩ := x
  obtain ⟨l, dC, dI, ad, cA, sa, sv, vf⟩ := g
  obtain ⟨hx, hb, hr, hml, hown, hts, hlk, hK, hD0, hA, hE, hfr, hlc, hnc, hns⟩ := C0
  intro H locs ls hP hS hl
  exact lv_iload hx hb hd (lv_at hl j hj) (h H locs ls hP hS hl)
theorem f_lload_n (C0 : Cx g x cc nL ret own fr lc) {k : Fin 4} {i : Nat} {v : Int64} (hd : decode cc pc = .ok (.lload_n k, 1)) (hi : (k : Nat) = i) (j : Nat) (hj : lo[j]? = some (i, .long v)) (h : FW g x nL d dl (pc + 1) lo (.long v :: st)) : FW g x nL d dl pc lo st := by
  obtain ⟨⟨p, e, R, s, m⟩, ⟨args, below, meth, c⟩, ⟨A, nc, ns, Z⟩⟩ := x
  obtain ⟨l, dC, dI, ad, cA, sa, sv, vf⟩ := g
  obtain ⟨hx, hb, hr, hml, hown, hts, hlk, hK, hD0, hA, hE, hfr, hlc, hnc, hns⟩ := C0
  intro H locs ls hP hS hl
  exact lv_lload_n hx hb hd hi (lv_at hl j hj) (h H locs ls hP hS hl)
theorem f_lload (C0 : Cx g x cc nL ret own fr lc) {i : Nat} {v : Int64} (hd : decode cc pc = .ok (.lload i, 2)) (j : Nat) (hj : lo[j]? = some (i, .long v)) (h : FW g x nL d dl (pc + 2) lo (.long v :: st)) : FW g x nL d dl pc lo st := by
  obtain ⟨⟨p, e, R, s, m⟩, ⟨args, below, meth, c⟩, ⟨A, nc, ns, Z⟩⟩ := x
  obtain ⟨l, dC, dI, ad, cA, sa, sv, vf⟩ := g
  obtain ⟨hx, hb, hr, hml, hown, hts, hlk, hK, hD0, hA, hE, hfr, hlc, hnc, hns⟩ := C0
  intro H locs ls hP hS hl
  exact lv_lload hx hb hd (lv_at hl j hj) (h H locs ls hP hS hl)
theorem f_istore_n (C0 : Cx g x cc nL ret own fr lc) {lo' : List (Nat × Value)} {k : Fin 4} {i : Nat} {v : Int32} (hd : decode cc pc = .ok (.istore_n k, 1)) (hi : (k : Nat) = i) (hn : i < nL) (hf : (i, Value.int v) :: lo.filter (fun q => !(q.1 == i) && !(q.1 + 1 == i && q.2.category == 2)) = lo') (h : FW g x nL d dl (pc + 1) lo' st) : FW g x nL d dl pc lo (.int v :: st) := by
  obtain ⟨⟨p, e, R, s, m⟩, ⟨args, below, meth, c⟩, ⟨A, nc, ns, Z⟩⟩ := x
  obtain ⟨l, dC, dI, ad, cA, sa, sv, vf⟩ := g
  obtain ⟨hx, hb, hr, hml, hown, hts, hlk, hK, hD0, hA, hE, hfr, hlc, hnc, hns⟩ := C0
  intro H locs ls hP hS hl
  exact lv_istore_n hx hb hd hi hl hn hf (fun ls hl => (h H locs ls hP hS hl))
theorem f_istore (C0 : Cx g x cc nL ret own fr lc) {lo' : List (Nat × Value)} {i : Nat} {v : Int32} (hd : decode cc pc = .ok (.istore i, 2)) (hn : i < nL) (hf : (i, Value.int v) :: lo.filter (fun q => !(q.1 == i) && !(q.1 + 1 == i && q.2.category == 2)) = lo') (h : FW g x nL d dl (pc + 2) lo' st) : FW g x nL d dl pc lo (.int v :: st) := by
  obtain ⟨⟨p, e, R, s, m⟩, ⟨args, below, meth, c⟩, ⟨A, nc, ns, Z⟩⟩ := x
  obtain ⟨l, dC, dI, ad, cA, sa, sv, vf⟩ := g
  obtain ⟨hx, hb, hr, hml, hown, hts, hlk, hK, hD0, hA, hE, hfr, hlc, hnc, hns⟩ := C0
  intro H locs ls hP hS hl
  exact lv_istore hx hb hd hl hn hf (fun ls hl => (h H locs ls hP hS hl))
theorem f_lstore_n (C0 : Cx g x cc nL ret own fr lc) {lo' : List (Nat × Value)} {k : Fin 4} {i : Nat} {v : Int64} (hd : decode cc pc = .ok (.lstore_n k, 1)) (hi : (k : Nat) = i) (hn : i + 1 < nL) (hf : (i, Value.long v) :: lo.filter (fun q => !(q.1 == i) && (!(q.1 == i + 1) && !(q.1 + 1 == i && q.2.category == 2))) = lo') (h : FW g x nL d dl (pc + 1) lo' st) : FW g x nL d dl pc lo (.long v :: st) := by
  obtain ⟨⟨p, e, R, s, m⟩, ⟨args, below, meth, c⟩, ⟨A, nc, ns, Z⟩⟩ := x
  obtain ⟨l, dC, dI, ad, cA, sa, sv, vf⟩ := g
  obtain ⟨hx, hb, hr, hml, hown, hts, hlk, hK, hD0, hA, hE, hfr, hlc, hnc, hns⟩ := C0
  intro H locs ls hP hS hl
  exact lv_lstore_n hx hb hd hi hl hn hf (fun ls hl => (h H locs ls hP hS hl))
theorem f_lstore (C0 : Cx g x cc nL ret own fr lc) {lo' : List (Nat × Value)} {i : Nat} {v : Int64} (hd : decode cc pc = .ok (.lstore i, 2)) (hn : i + 1 < nL) (hf : (i, Value.long v) :: lo.filter (fun q => !(q.1 == i) && (!(q.1 == i + 1) && !(q.1 + 1 == i && q.2.category == 2))) = lo') (h : FW g x nL d dl (pc + 2) lo' st) : FW g x nL d dl pc lo (.long v :: st) := by
  obtain ⟨⟨p, e, R, s, m⟩, ⟨args, below, meth, c⟩, ⟨A, nc, ns, Z⟩⟩ := x
  obtain ⟨l, dC, dI, ad, cA, sa, sv, vf⟩ := g
  obtain ⟨hx, hb, hr, hml, hown, hts, hlk, hK, hD0, hA, hE, hfr, hlc, hnc, hns⟩ := C0
  intro H locs ls hP hS hl
  exact lv_lstore hx hb hd hl hn hf (fun ls hl => (h H locs ls hP hS hl))
theorem f_iinc (C0 : Cx g x cc nL ret own fr lc) {lo' : List (Nat × Value)} {i : Nat} {n : Int} {u v : Int32} (hd : decode cc pc = .ok (.iinc i n, 3)) (j : Nat) (hj : lo[j]? = some (i, .int u)) (hv : u + Int32.ofInt n = v) (hn : i < nL) (hf : (i, Value.int v) :: lo.filter (fun q => !(q.1 == i) && !(q.1 + 1 == i && q.2.category == 2)) = lo') (h : FW g x nL d dl (pc + 3) lo' st) : FW g x nL d dl pc lo st := by
  obtain ⟨⟨p, e, R, s, m⟩, ⟨args, below, meth, c⟩, ⟨A, nc, ns, Z⟩⟩ := x
  obtain ⟨l, dC, dI, ad, cA, sa, sv, vf⟩ := g
  obtain ⟨hx, hb, hr, hml, hown, hts, hlk, hK, hD0, hA, hE, hfr, hlc, hnc, hns⟩ := C0
  intro H locs ls hP hS hl
  exact lv_iinc hx hb hd hl hj hv hn hf (fun ls hl => (h H locs ls hP hS hl))
theorem f_iadd (C0 : Cx g x cc nL ret own fr lc) {u v : Int32} (hd : decode cc pc = .ok (.iadd, 1)) (h : FW g x nL d dl (pc + 1) lo (.int (u + v) :: st)) : FW g x nL d dl pc lo (.int v :: .int u :: st) := by
  obtain ⟨⟨p, e, R, s, m⟩, ⟨args, below, meth, c⟩, ⟨A, nc, ns, Z⟩⟩ := x
  obtain ⟨l, dC, dI, ad, cA, sa, sv, vf⟩ := g
  obtain ⟨hx, hb, hr, hml, hown, hts, hlk, hK, hD0, hA, hE, hfr, hlc, hnc, hns⟩ := C0
  intro H locs ls hP hS hl
  exact lv_iadd hx hb hd (h H locs ls hP hS hl)
theorem f_isub (C0 : Cx g x cc nL ret own fr lc) {u v : Int32} (hd : decode cc pc = .ok (.isub, 1)) (h : FW g x nL d dl (pc + 1) lo (.int (u - v) :: st)) : FW g x nL d dl pc lo (.int v :: .int u :: st) := by
  obtain ⟨⟨p, e, R, s, m⟩, ⟨args, below, meth, c⟩, ⟨A, nc, ns, Z⟩⟩ := x
  obtain ⟨l, dC, dI, ad, cA, sa, sv, vf⟩ := g
  obtain ⟨hx, hb, hr, hml, hown, hts, hlk, hK, hD0, hA, hE, hfr, hlc, hnc, hns⟩ := C0
  intro H locs ls hP hS hl
  exact lv_isub hx hb hd (h H locs ls hP hS hl)
theorem f_imul (C0 : Cx g x cc nL ret own fr lc) {u v : Int32} (hd : decode cc pc = .ok (.imul, 1)) (h : FW g x nL d dl (pc + 1) lo (.int (u * v) :: st)) : FW g x nL d dl pc lo (.int v :: .int u :: st) := by
  obtain ⟨⟨p, e, R, s, m⟩, ⟨args, below, meth, c⟩, ⟨A, nc, ns, Z⟩⟩ := x
  obtain ⟨l, dC, dI, ad, cA, sa, sv, vf⟩ := g
  obtain ⟨hx, hb, hr, hml, hown, hts, hlk, hK, hD0, hA, hE, hfr, hlc, hnc, hns⟩ := C0
  intro H locs ls hP hS hl
  exact lv_imul hx hb hd (h H locs ls hP hS hl)
theorem f_iand (C0 : Cx g x cc nL ret own fr lc) {u v : Int32} (hd : decode cc pc = .ok (.iand, 1)) (h : FW g x nL d dl (pc + 1) lo (.int (u &&& v) :: st)) : FW g x nL d dl pc lo (.int v :: .int u :: st) := by
  obtain ⟨⟨p, e, R, s, m⟩, ⟨args, below, meth, c⟩, ⟨A, nc, ns, Z⟩⟩ := x
  obtain ⟨l, dC, dI, ad, cA, sa, sv, vf⟩ := g
  obtain ⟨hx, hb, hr, hml, hown, hts, hlk, hK, hD0, hA, hE, hfr, hlc, hnc, hns⟩ := C0
  intro H locs ls hP hS hl
  exact lv_iand hx hb hd (h H locs ls hP hS hl)
theorem f_ior (C0 : Cx g x cc nL ret own fr lc) {u v : Int32} (hd : decode cc pc = .ok (.ior, 1)) (h : FW g x nL d dl (pc + 1) lo (.int (u ||| v) :: st)) : FW g x nL d dl pc lo (.int v :: .int u :: st) := by
  obtain ⟨⟨p, e, R, s, m⟩, ⟨args, below, meth, c⟩, ⟨A, nc, ns, Z⟩⟩ := x
  obtain ⟨l, dC, dI, ad, cA, sa, sv, vf⟩ := g
  obtain ⟨hx, hb, hr, hml, hown, hts, hlk, hK, hD0, hA, hE, hfr, hlc, hnc, hns⟩ := C0
  intro H locs ls hP hS hl
  exact lv_ior hx hb hd (h H locs ls hP hS hl)
theorem f_ixor (C0 : Cx g x cc nL ret own fr lc) {u v : Int32} (hd : decode cc pc = .ok (.ixor, 1)) (h : FW g x nL d dl (pc + 1) lo (.int (u ^^^ v) :: st)) : FW g x nL d dl pc lo (.int v :: .int u :: st) := by
  obtain ⟨⟨p, e, R, s, m⟩, ⟨args, below, meth, c⟩, ⟨A, nc, ns, Z⟩⟩ := x
  obtain ⟨l, dC, dI, ad, cA, sa, sv, vf⟩ := g
  obtain ⟨hx, hb, hr, hml, hown, hts, hlk, hK, hD0, hA, hE, hfr, hlc, hnc, hns⟩ := C0
  intro H locs ls hP hS hl
  exact lv_ixor hx hb hd (h H locs ls hP hS hl)
theorem f_ishl (C0 : Cx g x cc nL ret own fr lc) {u v : Int32} (hd : decode cc pc = .ok (.ishl, 1)) (h : FW g x nL d dl (pc + 1) lo (.int (u <<< (v &&& 31)) :: st)) : FW g x nL d dl pc lo (.int v :: .int u :: st) := by
  obtain ⟨⟨p, e, R, s, m⟩, ⟨args, below, meth, c⟩, ⟨A, nc, ns, Z⟩⟩ := x
  obtain ⟨l, dC, dI, ad, cA, sa, sv, vf⟩ := g
  obtain ⟨hx, hb, hr, hml, hown, hts, hlk, hK, hD0, hA, hE, hfr, hlc, hnc, hns⟩ := C0
  intro H locs ls hP hS hl
  exact lv_ishl hx hb hd (h H locs ls hP hS hl)
theorem f_ishr (C0 : Cx g x cc nL ret own fr lc) {u v : Int32} (hd : decode cc pc = .ok (.ishr, 1)) (h : FW g x nL d dl (pc + 1) lo (.int (u >>> (v &&& 31)) :: st)) : FW g x nL d dl pc lo (.int v :: .int u :: st) := by
  obtain ⟨⟨p, e, R, s, m⟩, ⟨args, below, meth, c⟩, ⟨A, nc, ns, Z⟩⟩ := x
  obtain ⟨l, dC, dI, ad, cA, sa, sv, vf⟩ := g
  obtain ⟨hx, hb, hr, hml, hown, hts, hlk, hK, hD0, hA, hE, hfr, hlc, hnc, hns⟩ := C0
  intro H locs ls hP hS hl
  exact lv_ishr hx hb hd (h H locs ls hP hS hl)
theorem f_idiv (C0 : Cx g x cc nL ret own fr lc) {u v : Int32} (hd : decode cc pc = .ok (.idiv, 1)) (hne : ¬ v = 0) (h : FW g x nL d dl (pc + 1) lo (.int (u / v) :: st)) : FW g x nL d dl pc lo (.int v :: .int u :: st) := by
  obtain ⟨⟨p, e, R, s, m⟩, ⟨args, below, meth, c⟩, ⟨A, nc, ns, Z⟩⟩ := x
  obtain ⟨l, dC, dI, ad, cA, sa, sv, vf⟩ := g
  obtain ⟨hx, hb, hr, hml, hown, hts, hlk, hK, hD0, hA, hE, hfr, hlc, hnc, hns⟩ := C0
  intro H locs ls hP hS hl
  exact lv_idiv hx hb hd hne (h H locs ls hP hS hl)
theorem f_irem (C0 : Cx g x cc nL ret own fr lc) {u v : Int32} (hd : decode cc pc = .ok (.irem, 1)) (hne : ¬ v = 0) (h : FW g x nL d dl (pc + 1) lo (.int (irem u v) :: st)) : FW g x nL d dl pc lo (.int v :: .int u :: st) := by
  obtain ⟨⟨p, e, R, s, m⟩, ⟨args, below, meth, c⟩, ⟨A, nc, ns, Z⟩⟩ := x
  obtain ⟨l, dC, dI, ad, cA, sa, sv, vf⟩ := g
  obtain ⟨hx, hb, hr, hml, hown, hts, hlk, hK, hD0, hA, hE, hfr, hlc, hnc, hns⟩ := C0
  intro H locs ls hP hS hl
  exact lv_irem hx hb hd hne (h H locs ls hP hS hl)
theorem f_ladd (C0 : Cx g x cc nL ret own fr lc) {u v : Int64} (hd : decode cc pc = .ok (.ladd, 1)) (h : FW g x nL d dl (pc + 1) lo (.long (u + v) :: st)) : FW g x nL d dl pc lo (.long v :: .long u :: st) := by
  obtain ⟨⟨p, e, R, s, m⟩, ⟨args, below, meth, c⟩, ⟨A, nc, ns, Z⟩⟩ := x
  obtain ⟨l, dC, dI, ad, cA, sa, sv, vf⟩ := g
  obtain ⟨hx, hb, hr, hml, hown, hts, hlk, hK, hD0, hA, hE, hfr, hlc, hnc, hns⟩ := C0
  intro H locs ls hP hS hl
  exact lv_ladd hx hb hd (h H locs ls hP hS hl)
theorem f_lsub (C0 : Cx g x cc nL ret own fr lc) {u v : Int64} (hd : decode cc pc = .ok (.lsub, 1)) (h : FW g x nL d dl (pc + 1) lo (.long (u - v) :: st)) : FW g x nL d dl pc lo (.long v :: .long u :: st) := by
  obtain ⟨⟨p, e, R, s, m⟩, ⟨args, below, meth, c⟩, ⟨A, nc, ns, Z⟩⟩ := x
  obtain ⟨l, dC, dI, ad, cA, sa, sv, vf⟩ := g
  obtain ⟨hx, hb, hr, hml, hown, hts, hlk, hK, hD0, hA, hE, hfr, hlc, hnc, hns⟩ := C0
  intro H locs ls hP hS hl
  exact lv_lsub hx hb hd (h H locs ls hP hS hl)
theorem f_lmul (C0 : Cx g x cc nL ret own fr lc) {u v : Int64} (hd : decode cc pc = .ok (.lmul, 1)) (h : FW g x nL d dl (pc + 1) lo (.long (u * v) :: st)) : FW g x nL d dl pc lo (.long v :: .long u :: st) := by
  obtain ⟨⟨p, e, R, s, m⟩, ⟨args, below, meth, c⟩, ⟨A, nc, ns, Z⟩⟩ := x
  obtain ⟨l, dC, dI, ad, cA, sa, sv, vf⟩ := g
  obtain ⟨hx, hb, hr, hml, hown, hts, hlk, hK, hD0, hA, hE, hfr, hlc, hnc, hns⟩ := C0
  intro H locs ls hP hS hl
  exact lv_lmul hx hb hd (h H locs ls hP hS hl)
theorem f_land (C0 : Cx g x cc nL ret own fr lc) {u v : Int64} (hd : decode cc pc = .ok (.land, 1)) (h : FW g x nL d dl (pc + 1) lo (.long (u &&& v) :: st)) : FW g x nL d dl pc lo (.long v :: .long u :: st) := by
  obtain ⟨⟨p, e, R, s, m⟩, ⟨args, below, meth, c⟩, ⟨A, nc, ns, Z⟩⟩ := x
  obtain ⟨l, dC, dI, ad, cA, sa, sv, vf⟩ := g
  obtain ⟨hx, hb, hr, hml, hown, hts, hlk, hK, hD0, hA, hE, hfr, hlc, hnc, hns⟩ := C0
  intro H locs ls hP hS hl
  exact lv_land hx hb hd (h H locs ls hP hS hl)
theorem f_lor (C0 : Cx g x cc nL ret own fr lc) {u v : Int64} (hd : decode cc pc = .ok (.lor, 1)) (h : FW g x nL d dl (pc + 1) lo (.long (u ||| v) :: st)) : FW g x nL d dl pc lo (.long v :: .long u :: st) := by
  obtain ⟨⟨p, e, R, s, m⟩, ⟨args, below, meth, c⟩, ⟨A, nc, ns, Z⟩⟩ := x
  obtain ⟨l, dC, dI, ad, cA, sa, sv, vf⟩ := g
  obtain ⟨hx, hb, hr, hml, hown, hts, hlk, hK, hD0, hA, hE, hfr, hlc, hnc, hns⟩ := C0
  intro H locs ls hP hS hl
  exact lv_lor hx hb hd (h H locs ls hP hS hl)
theorem f_lxor (C0 : Cx g x cc nL ret own fr lc) {u v : Int64} (hd : decode cc pc = .ok (.lxor, 1)) (h : FW g x nL d dl (pc + 1) lo (.long (u ^^^ v) :: st)) : FW g x nL d dl pc lo (.long v :: .long u :: st) := by
  obtain ⟨⟨p, e, R, s, m⟩, ⟨args, below, meth, c⟩, ⟨A, nc, ns, Z⟩⟩ := x
  obtain ⟨l, dC, dI, ad, cA, sa, sv, vf⟩ := g
  obtain ⟨hx, hb, hr, hml, hown, hts, hlk, hK, hD0, hA, hE, hfr, hlc, hnc, hns⟩ := C0
  intro H locs ls hP hS hl
  exact lv_lxor hx hb hd (h H locs ls hP hS hl)
theorem f_ldiv (C0 : Cx g x cc nL ret own fr lc) {u v : Int64} (hd : decode cc pc = .ok (.ldiv, 1)) (hne : ¬ v = 0) (h : FW g x nL d dl (pc + 1) lo (.long (u / v) :: st)) : FW g x nL d dl pc lo (.long v :: .long u :: st) := by
  obtain ⟨⟨p, e, R, s, m⟩, ⟨args, below, meth, c⟩, ⟨A, nc, ns, Z⟩⟩ := x
  obtain ⟨l, dC, dI, ad, cA, sa, sv, vf⟩ := g
  obtain ⟨hx, hb, hr, hml, hown, hts, hlk, hK, hD0, hA, hE, hfr, hlc, hnc, hns⟩ := C0
  intro H locs ls hP hS hl
  exact lv_ldiv hx hb hd hne (h H locs ls hP hS hl)
theorem f_lrem (C0 : Cx g x cc nL ret own fr lc) {u v : Int64} (hd : decode cc pc = .ok (.lrem, 1)) (hne : ¬ v = 0) (h : FW g x nL d dl (pc + 1) lo (.long (lrem u v) :: st)) : FW g x nL d dl pc lo (.long v :: .long u :: st) := by
  obtain ⟨⟨p, e, R, s, m⟩, ⟨args, below, meth, c⟩, ⟨A, nc, ns, Z⟩⟩ := x
  obtain ⟨l, dC, dI, ad, cA, sa, sv, vf⟩ := g
  obtain ⟨hx, hb, hr, hml, hown, hts, hlk, hK, hD0, hA, hE, hfr, hlc, hnc, hns⟩ := C0
  intro H locs ls hP hS hl
  exact lv_lrem hx hb hd hne (h H locs ls hP hS hl)
theorem f_ineg (C0 : Cx g x cc nL ret own fr lc) {u : Int32} (hd : decode cc pc = .ok (.ineg, 1)) (h : FW g x nL d dl (pc + 1) lo (.int (-u) :: st)) : FW g x nL d dl pc lo (.int u :: st) := by
  obtain ⟨⟨p, e, R, s, m⟩, ⟨args, below, meth, c⟩, ⟨A, nc, ns, Z⟩⟩ := x
  obtain ⟨l, dC, dI, ad, cA, sa, sv, vf⟩ := g
  obtain ⟨hx, hb, hr, hml, hown, hts, hlk, hK, hD0, hA, hE, hfr, hlc, hnc, hns⟩ := C0
  intro H locs ls hP hS hl
  exact lv_ineg hx hb hd (h H locs ls hP hS hl)
theorem f_lneg (C0 : Cx g x cc nL ret own fr lc) {u : Int64} (hd : decode cc pc = .ok (.lneg, 1)) (h : FW g x nL d dl (pc + 1) lo (.long (-u) :: st)) : FW g x nL d dl pc lo (.long u :: st) := by
  obtain ⟨⟨p, e, R, s, m⟩, ⟨args, below, meth, c⟩, ⟨A, nc, ns, Z⟩⟩ := x
  obtain ⟨l, dC, dI, ad, cA, sa, sv, vf⟩ := g
  obtain ⟨hx, hb, hr, hml, hown, hts, hlk, hK, hD0, hA, hE, hfr, hlc, hnc, hns⟩ := C0
  intro H locs ls hP hS hl
  exact lv_lneg hx hb hd (h H locs ls hP hS hl)
theorem f_iushr (C0 : Cx g x cc nL ret own fr lc) {u v : Int32} (hd : decode cc pc = .ok (.iushr, 1)) (h : FW g x nL d dl (pc + 1) lo (.int (ushr u v) :: st)) : FW g x nL d dl pc lo (.int v :: .int u :: st) := by
  obtain ⟨⟨p, e, R, s, m⟩, ⟨args, below, meth, c⟩, ⟨A, nc, ns, Z⟩⟩ := x
  obtain ⟨l, dC, dI, ad, cA, sa, sv, vf⟩ := g
  obtain ⟨hx, hb, hr, hml, hown, hts, hlk, hK, hD0, hA, hE, hfr, hlc, hnc, hns⟩ := C0
  intro H locs ls hP hS hl
  exact lv_iushr hx hb hd rfl (h H locs ls hP hS hl)
theorem f_lushr (C0 : Cx g x cc nL ret own fr lc) {u : Int64} {v : Int32} (hd : decode cc pc = .ok (.lushr, 1)) (h : FW g x nL d dl (pc + 1) lo (.long (lushr u v) :: st)) : FW g x nL d dl pc lo (.int v :: .long u :: st) := by
  obtain ⟨⟨p, e, R, s, m⟩, ⟨args, below, meth, c⟩, ⟨A, nc, ns, Z⟩⟩ := x
  obtain ⟨l, dC, dI, ad, cA, sa, sv, vf⟩ := g
  obtain ⟨hx, hb, hr, hml, hown, hts, hlk, hK, hD0, hA, hE, hfr, hlc, hnc, hns⟩ := C0
  intro H locs ls hP hS hl
  exact lv_lushr hx hb hd rfl (h H locs ls hP hS hl)
theorem f_lshl (C0 : Cx g x cc nL ret own fr lc) {u : Int64} {v : Int32} (hd : decode cc pc = .ok (.lshl, 1)) (h : FW g x nL d dl (pc + 1) lo (.long (lshl u v) :: st)) : FW g x nL d dl pc lo (.int v :: .long u :: st) := by
  obtain ⟨⟨p, e, R, s, m⟩, ⟨args, below, meth, c⟩, ⟨A, nc, ns, Z⟩⟩ := x
  obtain ⟨l, dC, dI, ad, cA, sa, sv, vf⟩ := g
  obtain ⟨hx, hb, hr, hml, hown, hts, hlk, hK, hD0, hA, hE, hfr, hlc, hnc, hns⟩ := C0
  intro H locs ls hP hS hl
  exact lv_lshl hx hb hd rfl (h H locs ls hP hS hl)
theorem f_lshr (C0 : Cx g x cc nL ret own fr lc) {u : Int64} {v : Int32} (hd : decode cc pc = .ok (.lshr, 1)) (h : FW g x nL d dl (pc + 1) lo (.long (lshr u v) :: st)) : FW g x nL d dl pc lo (.int v :: .long u :: st) := by
  obtain ⟨⟨p, e, R, s, m⟩, ⟨args, below, meth, c⟩, ⟨A, nc, ns, Z⟩⟩ := x
  obtain ⟨l, dC, dI, ad, cA, sa, sv, vf⟩ := g
  obtain ⟨hx, hb, hr, hml, hown, hts, hlk, hK, hD0, hA, hE, hfr, hlc, hnc, hns⟩ := C0
  intro H locs ls hP hS hl
  exact lv_lshr hx hb hd rfl (h H locs ls hP hS hl)
theorem f_i2l (C0 : Cx g x cc nL ret own fr lc) {u : Int32} (hd : decode cc pc = .ok (.i2l, 1)) (h : FW g x nL d dl (pc + 1) lo (.long u.toInt64 :: st)) : FW g x nL d dl pc lo (.int u :: st) := by
  obtain ⟨⟨p, e, R, s, m⟩, ⟨args, below, meth, c⟩, ⟨A, nc, ns, Z⟩⟩ := x
  obtain ⟨l, dC, dI, ad, cA, sa, sv, vf⟩ := g
  obtain ⟨hx, hb, hr, hml, hown, hts, hlk, hK, hD0, hA, hE, hfr, hlc, hnc, hns⟩ := C0
  intro H locs ls hP hS hl
  exact lv_i2l hx hb hd rfl (h H locs ls hP hS hl)
theorem f_l2i (C0 : Cx g x cc nL ret own fr lc) {u : Int64} (hd : decode cc pc = .ok (.l2i, 1)) (h : FW g x nL d dl (pc + 1) lo (.int u.toInt32 :: st)) : FW g x nL d dl pc lo (.long u :: st) := by
  obtain ⟨⟨p, e, R, s, m⟩, ⟨args, below, meth, c⟩, ⟨A, nc, ns, Z⟩⟩ := x
  obtain ⟨l, dC, dI, ad, cA, sa, sv, vf⟩ := g
  obtain ⟨hx, hb, hr, hml, hown, hts, hlk, hK, hD0, hA, hE, hfr, hlc, hnc, hns⟩ := C0
  intro H locs ls hP hS hl
  exact lv_l2i hx hb hd rfl (h H locs ls hP hS hl)
theorem f_i2c (C0 : Cx g x cc nL ret own fr lc) {u : Int32} (hd : decode cc pc = .ok (.i2c, 1)) (h : FW g x nL d dl (pc + 1) lo (.int (u.toUInt32 % 65536).toInt32 :: st)) : FW g x nL d dl pc lo (.int u :: st) := by
  obtain ⟨⟨p, e, R, s, m⟩, ⟨args, below, meth, c⟩, ⟨A, nc, ns, Z⟩⟩ := x
  obtain ⟨l, dC, dI, ad, cA, sa, sv, vf⟩ := g
  obtain ⟨hx, hb, hr, hml, hown, hts, hlk, hK, hD0, hA, hE, hfr, hlc, hnc, hns⟩ := C0
  intro H locs ls hP hS hl
  exact lv_i2c hx hb hd rfl (h H locs ls hP hS hl)
theorem f_lcmp (C0 : Cx g x cc nL ret own fr lc) {u v : Int64} (hd : decode cc pc = .ok (.lcmp, 1)) (h : FW g x nL d dl (pc + 1) lo (.int (lg_cmp u v) :: st)) : FW g x nL d dl pc lo (.long v :: .long u :: st) := by
  obtain ⟨⟨p, e, R, s, m⟩, ⟨args, below, meth, c⟩, ⟨A, nc, ns, Z⟩⟩ := x
  obtain ⟨l, dC, dI, ad, cA, sa, sv, vf⟩ := g
  obtain ⟨hx, hb, hr, hml, hown, hts, hlk, hK, hD0, hA, hE, hfr, hlc, hnc, hns⟩ := C0
  intro H locs ls hP hS hl
  exact W.lcmp hx hb hd (h H locs ls hP hS hl)
theorem f_dup (C0 : Cx g x cc nL ret own fr lc) {a : Value} (hd : decode cc pc = .ok (.dup, 1)) (ha : a.category = 1) (h : FW g x nL d dl (pc + 1) lo (a :: a :: st)) : FW g x nL d dl pc lo (a :: st) := by
  obtain ⟨⟨p, e, R, s, m⟩, ⟨args, below, meth, c⟩, ⟨A, nc, ns, Z⟩⟩ := x
  obtain ⟨l, dC, dI, ad, cA, sa, sv, vf⟩ := g
  obtain ⟨hx, hb, hr, hml, hown, hts, hlk, hK, hD0, hA, hE, hfr, hlc, hnc, hns⟩ := C0
  intro H locs ls hP hS hl
  exact lv_dup hx hb hd ha (h H locs ls hP hS hl)
theorem f_pop (C0 : Cx g x cc nL ret own fr lc) {a : Value} (hd : decode cc pc = .ok (.pop, 1)) (ha : a.category = 1) (h : FW g x nL d dl (pc + 1) lo st) : FW g x nL d dl pc lo (a :: st) := by
  obtain ⟨⟨p, e, R, s, m⟩, ⟨args, below, meth, c⟩, ⟨A, nc, ns, Z⟩⟩ := x
  obtain ⟨l, dC, dI, ad, cA, sa, sv, vf⟩ := g
  obtain ⟨hx, hb, hr, hml, hown, hts, hlk, hK, hD0, hA, hE, hfr, hlc, hnc, hns⟩ := C0
  intro H locs ls hP hS hl
  exact lv_pop hx hb hd ha (h H locs ls hP hS hl)
theorem f_dup_x1 (C0 : Cx g x cc nL ret own fr lc) {a b : Value} (hd : decode cc pc = .ok (.dup_x1, 1)) (ha : a.category = 1) (hb2 : b.category = 1) (h : FW g x nL d dl (pc + 1) lo (a :: b :: a :: st)) : FW g x nL d dl pc lo (a :: b :: st) := by
  obtain ⟨⟨p, e, R, s, m⟩, ⟨args, below, meth, c⟩, ⟨A, nc, ns, Z⟩⟩ := x
  obtain ⟨l, dC, dI, ad, cA, sa, sv, vf⟩ := g
  obtain ⟨hx, hb, hr, hml, hown, hts, hlk, hK, hD0, hA, hE, hfr, hlc, hnc, hns⟩ := C0
  intro H locs ls hP hS hl
  exact lv_dup_x1 hx hb hd ha hb2 (h H locs ls hP hS hl)
theorem f_dup_x2 (C0 : Cx g x cc nL ret own fr lc) {a b b3 : Value} (hd : decode cc pc = .ok (.dup_x2, 1)) (ha : a.category = 1) (hb2 : b.category = 1) (hb3 : b3.category = 1) (h : FW g x nL d dl (pc + 1) lo (a :: b :: b3 :: a :: st)) : FW g x nL d dl pc lo (a :: b :: b3 :: st) := by
  obtain ⟨⟨p, e, R, s, m⟩, ⟨args, below, meth, c⟩, ⟨A, nc, ns, Z⟩⟩ := x
  obtain ⟨l, dC, dI, ad, cA, sa, sv, vf⟩ := g
  obtain ⟨hx, hb, hr, hml, hown, hts, hlk, hK, hD0, hA, hE, hfr, hlc, hnc, hns⟩ := C0
  intro H locs ls hP hS hl
  exact lv_dup_x2 hx hb hd ha hb2 hb3 (h H locs ls hP hS hl)
theorem f_dup2 (C0 : Cx g x cc nL ret own fr lc) {a b : Value} (hd : decode cc pc = .ok (.dup2, 1)) (ha : a.category = 1) (hb2 : b.category = 1) (h : FW g x nL d dl (pc + 1) lo (a :: b :: a :: b :: st)) : FW g x nL d dl pc lo (a :: b :: st) := by
  obtain ⟨⟨p, e, R, s, m⟩, ⟨args, below, meth, c⟩, ⟨A, nc, ns, Z⟩⟩ := x
  obtain ⟨l, dC, dI, ad, cA, sa, sv, vf⟩ := g
  obtain ⟨hx, hb, hr, hml, hown, hts, hlk, hK, hD0, hA, hE, hfr, hlc, hnc, hns⟩ := C0
  intro H locs ls hP hS hl
  exact lv_dup2_11 hx hb hd ha hb2 (h H locs ls hP hS hl)
theorem f_if_eq (C0 : Cx g x cc nL ret own fr lc) {u : Int32} {off : Int} {tgt : Nat} (hd : decode cc pc = .ok (.ifCond .eq off, 3)) (ht : (pc : Int) + off = (tgt : Int)) (kt : u = 0 → FW g x nL d dl tgt lo st) (kf : ¬ u = 0 → FW g x nL d dl (pc + 3) lo st) : FW g x nL d dl pc lo (.int u :: st) := by
  obtain ⟨⟨p, e, R, s, m⟩, ⟨args, below, meth, c⟩, ⟨A, nc, ns, Z⟩⟩ := x
  obtain ⟨l, dC, dI, ad, cA, sa, sv, vf⟩ := g
  obtain ⟨hx, hb, hr, hml, hown, hts, hlk, hK, hD0, hA, hE, hfr, hlc, hnc, hns⟩ := C0
  intro H locs ls hP hS hl
  exact lv_if_eq hx hb hd ht (fun q => kt q H locs ls hP hS hl) (fun q => kf q H locs ls hP hS hl)
theorem f_icmp_eq (C0 : Cx g x cc nL ret own fr lc) {u v : Int32} {off : Int} {tgt : Nat} (hd : decode cc pc = .ok (.if_icmp .eq off, 3)) (ht : (pc : Int) + off = (tgt : Int)) (kt : u = v → FW g x nL d dl tgt lo st) (kf : ¬ u = v → FW g x nL d dl (pc + 3) lo st) : FW g x nL d dl pc lo (.int v :: .int u :: st) := by
  obtain ⟨⟨p, e, R, s, m⟩, ⟨args, below, meth, c⟩, ⟨A, nc, ns, Z⟩⟩ := x
  obtain ⟨l, dC, dI, ad, cA, sa, sv, vf⟩ := g
  obtain ⟨hx, hb, hr, hml, hown, hts, hlk, hK, hD0, hA, hE, hfr, hlc, hnc, hns⟩ := C0
  intro H locs ls hP hS hl
  exact lv_icmp_eq hx hb hd ht (fun q => kt q H locs ls hP hS hl) (fun q => kf q H locs ls hP hS hl)
theorem f_if_ne (C0 : Cx g x cc nL ret own fr lc) {u : Int32} {off : Int} {tgt : Nat} (hd : decode cc pc = .ok (.ifCond .ne off, 3)) (ht : (pc : Int) + off = (tgt : Int)) (kt : ¬ u = 0 → FW g x nL d dl tgt lo st) (kf : u = 0 → FW g x nL d dl (pc + 3) lo st) : FW g x nL d dl pc lo (.int u :: st) := by
  obtain ⟨⟨p, e, R, s, m⟩, ⟨args, below, meth, c⟩, ⟨A, nc, ns, Z⟩⟩ := x
  obtain ⟨l, dC, dI, ad, cA, sa, sv, vf⟩ := g
  obtain ⟨hx, hb, hr, hml, hown, hts, hlk, hK, hD0, hA, hE, hfr, hlc, hnc, hns⟩ := C0
  intro H locs ls hP hS hl
  exact lv_if_ne hx hb hd ht (fun q => kt q H locs ls hP hS hl) (fun q => kf q H locs ls hP hS hl)
theorem f_icmp_ne (C0 : Cx g x cc nL ret own fr lc) {u v : Int32} {off : Int} {tgt : Nat} (hd : decode cc pc = .ok (.if_icmp .ne off, 3)) (ht : (pc : Int) + off = (tgt : Int)) (kt : ¬ u = v → FW g x nL d dl tgt lo st) (kf : u = v → FW g x nL d dl (pc + 3) lo st) : FW g x nL d dl pc lo (.int v :: .int u :: st) := by
  obtain ⟨⟨p, e, R, s, m⟩, ⟨args, below, meth, c⟩, ⟨A, nc, ns, Z⟩⟩ := x
  obtain ⟨l, dC, dI, ad, cA, sa, sv, vf⟩ := g
  obtain ⟨hx, hb, hr, hml, hown, hts, hlk, hK, hD0, hA, hE, hfr, hlc, hnc, hns⟩ := C0
  intro H locs ls hP hS hl
  exact lv_icmp_ne hx hb hd ht (fun q => kt q H locs ls hP hS hl) (fun q => kf q H locs ls hP hS hl)
theorem f_if_lt (C0 : Cx g x cc nL ret own fr lc) {u : Int32} {off : Int} {tgt : Nat} (hd : decode cc pc = .ok (.ifCond .lt off, 3)) (ht : (pc : Int) + off = (tgt : Int)) (kt : u < 0 → FW g x nL d dl tgt lo st) (kf : ¬ u < 0 → FW g x nL d dl (pc + 3) lo st) : FW g x nL d dl pc lo (.int u :: st) := by
  obtain ⟨⟨p, e, R, s, m⟩, ⟨args, below, meth, c⟩, ⟨A, nc, ns, Z⟩⟩ := x
  obtain ⟨l, dC, dI, ad, cA, sa, sv, vf⟩ := g
  obtain ⟨hx, hb, hr, hml, hown, hts, hlk, hK, hD0, hA, hE, hfr, hlc, hnc, hns⟩ := C0
  intro H locs ls hP hS hl
  exact lv_if_lt hx hb hd ht (fun q => kt q H locs ls hP hS hl) (fun q => kf q H locs ls hP hS hl)
theorem f_icmp_lt (C0 : Cx g x cc nL ret own fr lc) {u v : Int32} {off : Int} {tgt : Nat} (hd : decode cc pc = .ok (.if_icmp .lt off, 3)) (ht : (pc : Int) + off = (tgt : Int)) (kt : u < v → FW g x nL d dl tgt lo st) (kf : ¬ u < v → FW g x nL d dl (pc + 3) lo st) : FW g x nL d dl pc lo (.int v :: .int u :: st) := by
  obtain ⟨⟨p, e, R, s, m⟩, ⟨args, below, meth, c⟩, ⟨A, nc, ns, Z⟩⟩ := x
  obtain ⟨l, dC, dI, ad, cA, sa, sv, vf⟩ := g
  obtain ⟨hx, hb, hr, hml, hown, hts, hlk, hK, hD0, hA, hE, hfr, hlc, hnc, hns⟩ := C0
  intro H locs ls hP hS hl
  exact lv_icmp_lt hx hb hd ht (fun q => kt q H locs ls hP hS hl) (fun q => kf q H locs ls hP hS hl)
theorem f_if_ge (C0 : Cx g x cc nL ret own fr lc) {u : Int32} {off : Int} {tgt : Nat} (hd : decode cc pc = .ok (.ifCond .ge off, 3)) (ht : (pc : Int) + off = (tgt : Int)) (kt : 0 ≤ u → FW g x nL d dl tgt lo st) (kf : ¬ 0 ≤ u → FW g x nL d dl (pc + 3) lo st) : FW g x nL d dl pc lo (.int u :: st) := by
  obtain ⟨⟨p, e, R, s, m⟩, ⟨args, below, meth, c⟩, ⟨A, nc, ns, Z⟩⟩ := x
  obtain ⟨l, dC, dI, ad, cA, sa, sv, vf⟩ := g
  obtain ⟨hx, hb, hr, hml, hown, hts, hlk, hK, hD0, hA, hE, hfr, hlc, hnc, hns⟩ := C0
  intro H locs ls hP hS hl
  exact lv_if_ge hx hb hd ht (fun q => kt q H locs ls hP hS hl) (fun q => kf q H locs ls hP hS hl)
theorem f_icmp_ge (C0 : Cx g x cc nL ret own fr lc) {u v : Int32} {off : Int} {tgt : Nat} (hd : decode cc pc = .ok (.if_icmp .ge off, 3)) (ht : (pc : Int) + off = (tgt : Int)) (kt : v ≤ u → FW g x nL d dl tgt lo st) (kf : ¬ v ≤ u → FW g x nL d dl (pc + 3) lo st) : FW g x nL d dl pc lo (.int v :: .int u :: st) := by
  obtain ⟨⟨p, e, R, s, m⟩, ⟨args, below, meth, c⟩, ⟨A, nc, ns, Z⟩⟩ := x
  obtain ⟨l, dC, dI, ad, cA, sa, sv, vf⟩ := g
  obtain ⟨hx, hb, hr, hml, hown, hts, hlk, hK, hD0, hA, hE, hfr, hlc, hnc, hns⟩ := C0
  intro H locs ls hP hS hl
  exact lv_icmp_ge hx hb hd ht (fun q => kt q H locs ls hP hS hl) (fun q => kf q H locs ls hP hS hl)
theorem f_if_gt (C0 : Cx g x cc nL ret own fr lc) {u : Int32} {off : Int} {tgt : Nat} (hd : decode cc pc = .ok (.ifCond .gt off, 3)) (ht : (pc : Int) + off = (tgt : Int)) (kt : 0 < u → FW g x nL d dl tgt lo st) (kf : ¬ 0 < u → FW g x nL d dl (pc + 3) lo st) : FW g x nL d dl pc lo (.int u :: st) := by
  obtain ⟨⟨p, e, R, s, m⟩, ⟨args, below, meth, c⟩, ⟨A, nc, ns, Z⟩⟩ := x
  obtain ⟨l, dC, dI, ad, cA, sa, sv, vf⟩ := g
  obtain ⟨hx, hb, hr, hml, hown, hts, hlk, hK, hD0, hA, hE, hfr, hlc, hnc, hns⟩ := C0
  intro H locs ls hP hS hl
  exact lv_if_gt hx hb hd ht (fun q => kt q H locs ls hP hS hl) (fun q => kf q H locs ls hP hS hl)
theorem f_icmp_gt (C0 : Cx g x cc nL ret own fr lc) {u v : Int32} {off : Int} {tgt : Nat} (hd : decode cc pc = .ok (.if_icmp .gt off, 3)) (ht : (pc : Int) + off = (tgt : Int)) (kt : v < u → FW g x nL d dl tgt lo st) (kf : ¬ v < u → FW g x nL d dl (pc + 3) lo st) : FW g x nL d dl pc lo (.int v :: .int u :: st) := by
  obtain ⟨⟨p, e, R, s, m⟩, ⟨args, below, meth, c⟩, ⟨A, nc, ns, Z⟩⟩ := x
  obtain ⟨l, dC, dI, ad, cA, sa, sv, vf⟩ := g
  obtain ⟨hx, hb, hr, hml, hown, hts, hlk, hK, hD0, hA, hE, hfr, hlc, hnc, hns⟩ := C0
  intro H locs ls hP hS hl
  exact lv_icmp_gt hx hb hd ht (fun q => kt q H locs ls hP hS hl) (fun q => kf q H locs ls hP hS hl)
theorem f_if_le (C0 : Cx g x cc nL ret own fr lc) {u : Int32} {off : Int} {tgt : Nat} (hd : decode cc pc = .ok (.ifCond .le off, 3)) (ht : (pc : Int) + off = (tgt : Int)) (kt : u ≤ 0 → FW g x nL d dl tgt lo st) (kf : ¬ u ≤ 0 → FW g x nL d dl (pc + 3) lo st) : FW g x nL d dl pc lo (.int u :: st) := by
  obtain ⟨⟨p, e, R, s, m⟩, ⟨args, below, meth, c⟩, ⟨A, nc, ns, Z⟩⟩ := x
  obtain ⟨l, dC, dI, ad, cA, sa, sv, vf⟩ := g
  obtain ⟨hx, hb, hr, hml, hown, hts, hlk, hK, hD0, hA, hE, hfr, hlc, hnc, hns⟩ := C0
  intro H locs ls hP hS hl
  exact lv_if_le hx hb hd ht (fun q => kt q H locs ls hP hS hl) (fun q => kf q H locs ls hP hS hl)
theorem f_icmp_le (C0 : Cx g x cc nL ret own fr lc) {u v : Int32} {off : Int} {tgt : Nat} (hd : decode cc pc = .ok (.if_icmp .le off, 3)) (ht : (pc : Int) + off = (tgt : Int)) (kt : u ≤ v → FW g x nL d dl tgt lo st) (kf : ¬ u ≤ v → FW g x nL d dl (pc + 3) lo st) : FW g x nL d dl pc lo (.int v :: .int u :: st) := by
  obtain ⟨⟨p, e, R, s, m⟩, ⟨args, below, meth, c⟩, ⟨A, nc, ns, Z⟩⟩ := x
  obtain ⟨l, dC, dI, ad, cA, sa, sv, vf⟩ := g
  obtain ⟨hx, hb, hr, hml, hown, hts, hlk, hK, hD0, hA, hE, hfr, hlc, hnc, hns⟩ := C0
  intro H locs ls hP hS hl
  exact lv_icmp_le hx hb hd ht (fun q => kt q H locs ls hP hS hl) (fun q => kf q H locs ls hP hS hl)
theorem f_goto (C0 : Cx g x cc nL ret own fr lc) {off : Int} {tgt : Nat} (hd : decode cc pc = .ok (.goto off, 3)) (ht : (pc : Int) + off = (tgt : Int)) (h : FW g x nL d dl tgt lo st) : FW g x nL d dl pc lo st := by
  obtain ⟨⟨p, e, R, s, m⟩, ⟨args, below, meth, c⟩, ⟨A, nc, ns, Z⟩⟩ := x
  obtain ⟨l, dC, dI, ad, cA, sa, sv, vf⟩ := g
  obtain ⟨hx, hb, hr, hml, hown, hts, hlk, hK, hD0, hA, hE, hfr, hlc, hnc, hns⟩ := C0
  intro H locs ls hP hS hl
  exact lv_goto hx hb hd ht (h H locs ls hP hS hl)
theorem f_tableOut (C0 : Cx g x cc nL ret own fr lc) {dflt lw hi : Int} {offs : Array Int} {len : Nat} {u : Int32} {tgt : Nat} (hd : decode cc pc = .ok (.tableswitch dflt lw hi offs, len)) (hu : u.toInt < lw ∨ hi < u.toInt) (ht : (pc : Int) + dflt = (tgt : Int)) (h : FW g x nL d dl tgt lo st) : FW g x nL d dl pc lo (.int u :: st) := by
  obtain ⟨⟨p, e, R, s, m⟩, ⟨args, below, meth, c⟩, ⟨A, nc, ns, Z⟩⟩ := x
  obtain ⟨l, dC, dI, ad, cA, sa, sv, vf⟩ := g
  obtain ⟨hx, hb, hr, hml, hown, hts, hlk, hK, hD0, hA, hE, hfr, hlc, hnc, hns⟩ := C0
  intro H locs ls hP hS hl
  exact lv_tableOut hx hb hd hu ht (h H locs ls hP hS hl)
theorem f_tableIn (C0 : Cx g x cc nL ret own fr lc) {dflt lw hi : Int} {offs : Array Int} {len : Nat} {u : Int32} {off : Int} {tgt : Nat} (hd : decode cc pc = .ok (.tableswitch dflt lw hi offs, len)) (h1 : ¬ u.toInt < lw) (h2 : ¬ hi < u.toInt) (ho : offs[(u.toInt - lw).toNat]? = some off) (ht : (pc : Int) + off = (tgt : Int)) (h : FW g x nL d dl tgt lo st) : FW g x nL d dl pc lo (.int u :: st) := by
  obtain ⟨⟨p, e, R, s, m⟩, ⟨args, below, meth, c⟩, ⟨A, nc, ns, Z⟩⟩ := x
  obtain ⟨l, dC, dI, ad, cA, sa, sv, vf⟩ := g
  obtain ⟨hx, hb, hr, hml, hown, hts, hlk, hK, hD0, hA, hE, hfr, hlc, hnc, hns⟩ := C0
  intro H locs ls hP hS hl
  exact lv_tableIn hx hb hd h1 h2 ho ht (h H locs ls hP hS hl)
theorem f_lookup (C0 : Cx g x cc nL ret own fr lc) {dflt : Int} {ps : Array (Int × Int)} {len : Nat} {u : Int32} {off : Int} {tgt : Nat} (hd : decode cc pc = .ok (.lookupswitch dflt ps, len)) (hp : (ps.toList.zip (ps.toList.drop 1)).all (fun (a, next) => a.1 < next.1) = true) (ho : Op.lookupswitch.offset ps.toList dflt u.toInt = off) (ht : (pc : Int) + off = (tgt : Int)) (h : FW g x nL d dl tgt lo st) : FW g x nL d dl pc lo (.int u :: st) := by
  obtain ⟨⟨p, e, R, s, m⟩, ⟨args, below, meth, c⟩, ⟨A, nc, ns, Z⟩⟩ := x
  obtain ⟨l, dC, dI, ad, cA, sa, sv, vf⟩ := g
  obtain ⟨hx, hb, hr, hml, hown, hts, hlk, hK, hD0, hA, hE, hfr, hlc, hnc, hns⟩ := C0
  intro H locs ls hP hS hl
  exact lv_lookup hx hb hd hp ho ht (h H locs ls hP hS hl)
theorem f_aload_n (C0 : Cx g x cc nL ret own fr lc) {k : Fin 4} {i : Nat} {v : Value} (hd : decode cc pc = .ok (.aload_n k, 1)) (hi : (k : Nat) = i) (j : Nat) (hj : lo[j]? = some (i, v)) (hv : ∃ q, v = .ref q) (h : FW g x nL d dl (pc + 1) lo (v :: st)) : FW g x nL d dl pc lo st := by
  obtain ⟨⟨p, e, R, s, m⟩, ⟨args, below, meth, c⟩, ⟨A, nc, ns, Z⟩⟩ := x
  obtain ⟨l, dC, dI, ad, cA, sa, sv, vf⟩ := g
  obtain ⟨hx, hb, hr, hml, hown, hts, hlk, hK, hD0, hA, hE, hfr, hlc, hnc, hns⟩ := C0
  intro H locs ls hP hS hl
  exact by obtain ⟨q, rfl⟩ := hv; exact lv_aload_n hx hb hd hi (lv_at hl j hj) (h H locs ls hP hS hl)
theorem f_aload (C0 : Cx g x cc nL ret own fr lc) {i : Nat} {v : Value} (hd : decode cc pc = .ok (.aload i, 2)) (j : Nat) (hj : lo[j]? = some (i, v)) (hv : ∃ q, v = .ref q) (h : FW g x nL d dl (pc + 2) lo (v :: st)) : FW g x nL d dl pc lo st := by
  obtain ⟨⟨p, e, R, s, m⟩, ⟨args, below, meth, c⟩, ⟨A, nc, ns, Z⟩⟩ := x
  obtain ⟨l, dC, dI, ad, cA, sa, sv, vf⟩ := g
  obtain ⟨hx, hb, hr, hml, hown, hts, hlk, hK, hD0, hA, hE, hfr, hlc, hnc, hns⟩ := C0
  intro H locs ls hP hS hl
  exact by obtain ⟨q, rfl⟩ := hv; exact lv_aload hx hb hd (lv_at hl j hj) (h H locs ls hP hS hl)
theorem f_astore_n (C0 : Cx g x cc nL ret own fr lc) {lo' : List (Nat × Value)} {k : Fin 4} {i : Nat} {v : Value} (hd : decode cc pc = .ok (.astore_n k, 1)) (hi : (k : Nat) = i) (hn : i < nL) (hf : (i, v) :: lo.filter (fun q => !(q.1 == i) && !(q.1 + 1 == i && q.2.category == 2)) = lo') (hv : ∃ q, v = .ref q) (h : FW g x nL d dl (pc + 1) lo' st) : FW g x nL d dl pc lo (v :: st) := by
  obtain ⟨⟨p, e, R, s, m⟩, ⟨args, below, meth, c⟩, ⟨A, nc, ns, Z⟩⟩ := x
  obtain ⟨l, dC, dI, ad, cA, sa, sv, vf⟩ := g
  obtain ⟨hx, hb, hr, hml, hown, hts, hlk, hK, hD0, hA, hE, hfr, hlc, hnc, hns⟩ := C0
  intro H locs ls hP hS hl
  exact by obtain ⟨q, rfl⟩ := hv; exact lv_astore_n hx hb hd hi hl hn hf (fun ls hl => (h H locs ls hP hS hl))
theorem f_astore (C0 : Cx g x cc nL ret own fr lc) {lo' : List (Nat × Value)} {i : Nat} {v : Value} (hd : decode cc pc = .ok (.astore i, 2)) (hn : i < nL) (hf : (i, v) :: lo.filter (fun q => !(q.1 == i) && !(q.1 + 1 == i && q.2.category == 2)) = lo') (hv : ∃ q, v = .ref q) (h : FW g x nL d dl (pc + 2) lo' st) : FW g x nL d dl pc lo (v :: st) := by
  obtain ⟨⟨p, e, R, s, m⟩, ⟨args, below, meth, c⟩, ⟨A, nc, ns, Z⟩⟩ := x
  obtain ⟨l, dC, dI, ad, cA, sa, sv, vf⟩ := g
  obtain ⟨hx, hb, hr, hml, hown, hts, hlk, hK, hD0, hA, hE, hfr, hlc, hnc, hns⟩ := C0
  intro H locs ls hP hS hl
  exact by obtain ⟨q, rfl⟩ := hv; exact lv_astore hx hb hd hl hn hf (fun ls hl => (h H locs ls hP hS hl))
theorem f_pop2 (C0 : Cx g x cc nL ret own fr lc) {a : Value} (hd : decode cc pc = .ok (.pop2, 1)) (ha : a.category = 2) (h : FW g x nL d dl (pc + 1) lo st) : FW g x nL d dl pc lo (a :: st) := by
  obtain ⟨⟨p, e, R, s, m⟩, ⟨args, below, meth, c⟩, ⟨A, nc, ns, Z⟩⟩ := x
  obtain ⟨l, dC, dI, ad, cA, sa, sv, vf⟩ := g
  obtain ⟨hx, hb, hr, hml, hown, hts, hlk, hK, hD0, hA, hE, hfr, hlc, hnc, hns⟩ := C0
  intro H locs ls hP hS hl
  exact lv_pop2_2 hx hb hd ha (h H locs ls hP hS hl)
theorem f_topi {u : Int32} (h : ∀ v : Int32, v = u → FW g x nL d dl pc lo (.int v :: st)) : FW g x nL d dl pc lo (.int u :: st) := h _ rfl
theorem f_topl {u : Int64} (h : ∀ v : Int64, v = u → FW g x nL d dl pc lo (.long v :: st)) : FW g x nL d dl pc lo (.long u :: st) := h _ rfl
theorem f_sub {lo' : List (Nat × Value)} (ks : List Nat) (hk : lv_pick lo ks = lo') (h : FW g x nL d dl pc lo' st) : FW g x nL d dl pc lo st := by
  obtain ⟨⟨p, e, R, s, m⟩, ⟨args, below, meth, c⟩, ⟨A, nc, ns, Z⟩⟩ := x
  obtain ⟨l, dC, dI, ad, cA, sa, sv, vf⟩ := g
  intro H locs ls hP hS hl
  exact h H locs ls hP hS (lv_sub hl ks hk)
theorem f_iald (C0 : Cx g x cc nL ret own fr lc) {i n : Nat} {v : Int32} (hi : KL i 11 n) (hin : vp_in v n) (hd : decode cc pc = .ok (.iaload, 1)) (h : FW g x nL d dl (pc + 1) lo (.int (d i v.toNatClampNeg) :: st)) : FW g x nL d dl pc lo (.int v :: rf g i :: st) := by
  obtain ⟨⟨p, e, R, s, m⟩, ⟨args, below, meth, c⟩, ⟨A, nc, ns, Z⟩⟩ := x
  obtain ⟨l, dC, dI, ad, cA, sa, sv, vf⟩ := g
  obtain ⟨hx, hb, hr, hml, hown, hts, hlk, hK, hD0, hA, hE, hfr, hlc, hnc, hns⟩ := C0
  intro H locs ls hP hS hl
  exact va_iald hx hb hK hP i i (at_11 hi.1 hi.2.1) (ty_11 hi.1 hi.2.1) (by rw [hi.2.2]; exact hin) hd (h H locs ls hP hS hl)
theorem f_zald (C0 : Cx g x cc nL ret own fr lc) {i n : Nat} {v : Int32} (hi : KL i 13 n) (hin : vp_in v n) (hd : decode cc pc = .ok (.baload, 1)) (h : FW g x nL d dl (pc + 1) lo (.int (d i v.toNatClampNeg) :: st)) : FW g x nL d dl pc lo (.int v :: rf g i :: st) := by
  obtain ⟨⟨p, e, R, s, m⟩, ⟨args, below, meth, c⟩, ⟨A, nc, ns, Z⟩⟩ := x
  obtain ⟨l, dC, dI, ad, cA, sa, sv, vf⟩ := g
  obtain ⟨hx, hb, hr, hml, hown, hts, hlk, hK, hD0, hA, hE, hfr, hlc, hnc, hns⟩ := C0
  intro H locs ls hP hS hl
  exact va_zald hx hb hK hP i i (at_13 hi.1 hi.2.1) (ty_13 hi.1 hi.2.1) (by rw [hi.2.2]; exact hin) hd (h H locs ls hP hS hl)
theorem f_lald (C0 : Cx g x cc nL ret own fr lc) {i n : Nat} {v : Int32} (hi : KL i 12 n) (hin : vp_in v n) (hd : decode cc pc = .ok (.laload, 1)) (h : FW g x nL d dl (pc + 1) lo (.long (dl i v.toNatClampNeg) :: st)) : FW g x nL d dl pc lo (.int v :: rf g i :: st) := by
  obtain ⟨⟨p, e, R, s, m⟩, ⟨args, below, meth, c⟩, ⟨A, nc, ns, Z⟩⟩ := x
  obtain ⟨l, dC, dI, ad, cA, sa, sv, vf⟩ := g
  obtain ⟨hx, hb, hr, hml, hown, hts, hlk, hK, hD0, hA, hE, hfr, hlc, hnc, hns⟩ := C0
  intro H locs ls hP hS hl
  exact va_lald hx hb hK hP i i (at_12 hi.1 hi.2.1) (ty_12 hi.1 hi.2.1) (by rw [hi.2.2]; exact hin) hd (h H locs ls hP hS hl)
theorem f_iast (C0 : Cx g x cc nL ret own fr lc) {i n : Nat} {v : Int32} {u : Int32} (hi : KL i 11 n) (hin : vp_in v n) (hd : decode cc pc = .ok (.iastore, 1)) (h : ∀ e : DD, e = u2 d i v.toNatClampNeg u → FW g x nL e dl (pc + 1) lo st) : FW g x nL d dl pc lo (.int u :: .int v :: rf g i :: st) := by
  obtain ⟨⟨p, e, R, s, m⟩, ⟨args, below, meth, c⟩, ⟨A, nc, ns, Z⟩⟩ := x
  obtain ⟨l, dC, dI, ad, cA, sa, sv, vf⟩ := g
  obtain ⟨hx, hb, hr, hml, hown, hts, hlk, hK, hD0, hA, hE, hfr, hlc, hnc, hns⟩ := C0
  intro H locs ls hP hS hl
  refine va_iast hx hb hK hP (D_any hD0) hS i i (at_11 hi.1 hi.2.1) (ty_11 hi.1 hi.2.1) (by rw [hi.2.2]; exact hin) hd (fun H locs hP hD hS => ?_)
  rw [put_11 _ _ hi.1 hi.2.1] at hP
  exact h _ rfl H locs ls hP hS hl
theorem f_zast (C0 : Cx g x cc nL ret own fr lc) {i n : Nat} {v : Int32} {u : Int32} (hi : KL i 13 n) (hin : vp_in v n) (hd : decode cc pc = .ok (.bastore, 1)) (h : ∀ e : DD, e = u2 d i v.toNatClampNeg (vp_nar .boolean u) → FW g x nL e dl (pc + 1) lo st) : FW g x nL d dl pc lo (.int u :: .int v :: rf g i :: st) := by
  obtain ⟨⟨p, e, R, s, m⟩, ⟨args, below, meth, c⟩, ⟨A, nc, ns, Z⟩⟩ := x
  obtain ⟨l, dC, dI, ad, cA, sa, sv, vf⟩ := g
  obtain ⟨hx, hb, hr, hml, hown, hts, hlk, hK, hD0, hA, hE, hfr, hlc, hnc, hns⟩ := C0
  intro H locs ls hP hS hl
  refine va_zast hx hb hK hP (D_any hD0) hS i i (at_13 hi.1 hi.2.1) (ty_13 hi.1 hi.2.1) (by rw [hi.2.2]; exact hin) hd (fun H locs hP hD hS => ?_)
  rw [put_13 _ _ hi.1 hi.2.1] at hP
  exact h _ rfl H locs ls hP hS hl
theorem f_last (C0 : Cx g x cc nL ret own fr lc) {i n : Nat} {v : Int32} {u : Int64} (hi : KL i 12 n) (hin : vp_in v n) (hd : decode cc pc = .ok (.lastore, 1)) (h : ∀ e : LL, e = l2 dl i v.toNatClampNeg u → FW g x nL d e (pc + 1) lo st) : FW g x nL d dl pc lo (.long u :: .int v :: rf g i :: st) := by
  obtain ⟨⟨p, e, R, s, m⟩, ⟨args, below, meth, c⟩, ⟨A, nc, ns, Z⟩⟩ := x
  obtain ⟨l, dC, dI, ad, cA, sa, sv, vf⟩ := g
  obtain ⟨hx, hb, hr, hml, hown, hts, hlk, hK, hD0, hA, hE, hfr, hlc, hnc, hns⟩ := C0
  intro H locs ls hP hS hl
  refine va_last hx hb hK hP (D_any hD0) hS i i (at_12 hi.1 hi.2.1) (ty_12 hi.1 hi.2.1) (by rw [hi.2.2]; exact hin) hd (fun H locs hP hD hS => ?_)
  rw [put_12 _ _ hi.1 hi.2.1] at hP
  exact h _ rfl H locs ls hP hS hl
theorem clamp_in {v : Int32} {n : Nat} (h : vp_in v n) : v.toNatClampNeg < n := Nat.lt_of_not_le (fun q => h (Or.inr q))
theorem f_aald14 (C0 : Cx g x cc nL ret own fr lc) {i : Nat} {v : Int32} (hi : KL i 14 6) (hin : vp_in v 6) (hd : decode cc pc = .ok (.aaload, 1)) (h : ∀ k : Nat, k = v.toNatClampNeg → k < 6 → FW g x nL d dl (pc + 1) lo (rf g (37 + 3 * k) :: st)) : FW g x nL d dl pc lo (.int v :: rf g i :: st) := by
  obtain ⟨⟨p, e, R, s, m⟩, ⟨args, below, meth, c⟩, ⟨A, nc, ns, Z⟩⟩ := x
  obtain ⟨l, dC, dI, ad, cA, sa, sv, vf⟩ := g
  obtain ⟨hx, hb, hr, hml, hown, hts, hlk, hK, hD0, hA, hE, hfr, hlc, hnc, hns⟩ := C0
  intro H locs ls hP hS hl
  refine va_aldq hx hb hK hP i i (at_14 hi.1 hi.2.1) (ty_14 hi.1 hi.2.1) (by rw [hi.2.2]; exact hin) hd ?_
  have h1 := clamp_in hin
  simp only [h1, if_true]
  exact h _ rfl h1 H locs ls hP hS hl
theorem f_aald15 (C0 : Cx g x cc nL ret own fr lc) {i : Nat} {v : Int32} (hi : KL i 15 6) (hin : vp_in v 6) (hd : decode cc pc = .ok (.aaload, 1)) (h : ∀ k : Nat, k = v.toNatClampNeg → k < 6 → FW g x nL d dl (pc + 1) lo (rf g (55 + 6 * k) :: st)) : FW g x nL d dl pc lo (.int v :: rf g i :: st) := by
  obtain ⟨⟨p, e, R, s, m⟩, ⟨args, below, meth, c⟩, ⟨A, nc, ns, Z⟩⟩ := x
  obtain ⟨l, dC, dI, ad, cA, sa, sv, vf⟩ := g
  obtain ⟨hx, hb, hr, hml, hown, hts, hlk, hK, hD0, hA, hE, hfr, hlc, hnc, hns⟩ := C0
  intro H locs ls hP hS hl
  refine va_aldq hx hb hK hP i i (at_15 hi.1 hi.2.1) (ty_15 hi.1 hi.2.1) (by rw [hi.2.2]; exact hin) hd ?_
  have h1 := clamp_in hin
  simp only [h1, if_true]
  exact h _ rfl h1 H locs ls hP hS hl
theorem f_aald16 (C0 : Cx g x cc nL ret own fr lc) {i : Nat} {v : Int32} (hi : KL i 16 24) (hin : vp_in v 24) (hd : decode cc pc = .ok (.aaload, 1)) (h : ∀ k : Nat, k = v.toNatClampNeg → k < 24 → FW g x nL d dl (pc + 1) lo (rf g (91 + 5 * k) :: st)) : FW g x nL d dl pc lo (.int v :: rf g i :: st) := by
  obtain ⟨⟨p, e, R, s, m⟩, ⟨args, below, meth, c⟩, ⟨A, nc, ns, Z⟩⟩ := x
  obtain ⟨l, dC, dI, ad, cA, sa, sv, vf⟩ := g
  obtain ⟨hx, hb, hr, hml, hown, hts, hlk, hK, hD0, hA, hE, hfr, hlc, hnc, hns⟩ := C0
  intro H locs ls hP hS hl
  refine va_aldq hx hb hK hP i i (at_16 hi.1 hi.2.1) (ty_16 hi.1 hi.2.1) (by rw [hi.2.2]; exact hin) hd ?_
  have h1 := clamp_in hin
  simp only [h1, if_true]
  exact h _ rfl h1 H locs ls hP hS hl
theorem f_points (C0 : Cx g x cc nL ret own fr lc) (hd : decode cc pc = .ok (.getstatic 45, 3)) (ho : own = RX3) (h : FW g x nL d dl (pc + 3) lo (rs g 19 :: st)) : FW g x nL d dl pc lo st := by
  obtain ⟨⟨p, e, R, s, m⟩, ⟨args, below, meth, c⟩, ⟨A, nc, ns, Z⟩⟩ := x
  obtain ⟨l, dC, dI, ad, cA, sa, sv, vf⟩ := g
  obtain ⟨hx, hb, hr, hml, hown, hts, hlk, hK, hD0, hA, hE, hfr, hlc, hnc, hns⟩ := C0
  intro H locs ls hP hS hl
  exact va_getsN hx hb hE.2.2.2.2.2.1 hS hown (va_Nw.use rfl (by rw [ho]; exact hE.2.2.1.2.2.2)) (fun _ h9 => h9) hd (h H locs ls hP hS hl)
theorem f_plen (C0 : Cx g x cc nL ret own fr lc) (hd : decode cc pc = .ok (.arraylength, 1)) (h : FW g x nL d dl (pc + 1) lo (.int 6 :: st)) : FW g x nL d dl pc lo (rs g 19 :: st) := by
  obtain ⟨⟨p, e, R, s, m⟩, ⟨args, below, meth, c⟩, ⟨A, nc, ns, Z⟩⟩ := x
  obtain ⟨l, dC, dI, ad, cA, sa, sv, vf⟩ := g
  obtain ⟨hx, hb, hr, hml, hown, hts, hlk, hK, hD0, hA, hE, hfr, hlc, hnc, hns⟩ := C0
  intro H locs ls hP hS hl
  exact va_tlen (v := 6) hx hb hE.2.2.2.2.2.2.1 hS (by decide) hd (h H locs ls hP hS hl)
theorem f_pald (C0 : Cx g x cc nL ret own fr lc) {v : Int32} (hin : vp_in v 6) (hd : decode cc pc = .ok (.iaload, 1)) (h : FW g x nL d dl (pc + 1) lo (.int (([10, 8, 6, 5, 4, 3] : List Int32).getD v.toNatClampNeg 0) :: st)) : FW g x nL d dl pc lo (.int v :: rs g 19 :: st) := by
  obtain ⟨⟨p, e, R, s, m⟩, ⟨args, below, meth, c⟩, ⟨A, nc, ns, Z⟩⟩ := x
  obtain ⟨l, dC, dI, ad, cA, sa, sv, vf⟩ := g
  obtain ⟨hx, hb, hr, hml, hown, hts, hlk, hK, hD0, hA, hE, hfr, hlc, hnc, hns⟩ := C0
  intro H locs ls hP hS hl
  exact va_ti hx hb hE.2.2.2.2.2.2.1 hS hin rfl hd (h H locs ls hP hS hl)
theorem f_scoder (C0 : Cx g x cc nL ret own fr lc) {w index : Nat} (hw : w < 19) (hk : Cond.fieldLink own index "java/lang/String" "coder" "B" ∈ GW) (hd : decode cc pc = .ok (.getfield index, 3)) (h : FW g x nL d dl (pc + 3) lo (.int 0 :: st)) : FW g x nL d dl pc lo (rs g w :: st) := by
  obtain ⟨⟨p, e, R, s, m⟩, ⟨args, below, meth, c⟩, ⟨A, nc, ns, Z⟩⟩ := x
  obtain ⟨l, dC, dI, ad, cA, sa, sv, vf⟩ := g
  obtain ⟨hx, hb, hr, hml, hown, hts, hlk, hK, hD0, hA, hE, hfr, hlc, hnc, hns⟩ := C0
  intro H locs ls hP hS hl
  exact vk_getf hx hb (hE.1 w hw).2.1 hS hown (hts _ hk) (fun _ h9 => h9) hd (h H locs ls hP hS hl)
theorem f_svalue (C0 : Cx g x cc nL ret own fr lc) {w index : Nat} (hw : w < 19) (hk : Cond.fieldLink own index "java/lang/String" "value" "[B" ∈ GW) (hd : decode cc pc = .ok (.getfield index, 3)) (h : FW g x nL d dl (pc + 3) lo (rv g w :: st)) : FW g x nL d dl pc lo (rs g w :: st) := by
  obtain ⟨⟨p, e, R, s, m⟩, ⟨args, below, meth, c⟩, ⟨A, nc, ns, Z⟩⟩ := x
  obtain ⟨l, dC, dI, ad, cA, sa, sv, vf⟩ := g
  obtain ⟨hx, hb, hr, hml, hown, hts, hlk, hK, hD0, hA, hE, hfr, hlc, hnc, hns⟩ := C0
  intro H locs ls hP hS hl
  exact vk_getf hx hb (hE.1 w hw).2.2.1 hS hown (hts _ hk) (fun _ h9 => h9) hd (h H locs ls hP hS hl)
theorem f_slen (C0 : Cx g x cc nL ret own fr lc) {w : Nat} (hw : w < 19) (hd : decode cc pc = .ok (.arraylength, 1)) (h : FW g x nL d dl (pc + 1) lo (.int (Int32.ofNat (sbs w).length) :: st)) : FW g x nL d dl pc lo (rv g w :: st) := by
  obtain ⟨⟨p, e, R, s, m⟩, ⟨args, below, meth, c⟩, ⟨A, nc, ns, Z⟩⟩ := x
  obtain ⟨l, dC, dI, ad, cA, sa, sv, vf⟩ := g
  obtain ⟨hx, hb, hr, hml, hown, hts, hlk, hK, hD0, hA, hE, hfr, hlc, hnc, hns⟩ := C0
  intro H locs ls hP hS hl
  exact va_tlen hx hb (hE.1 w hw).2.2.2 hS rfl hd (h H locs ls hP hS hl)
theorem f_sald (C0 : Cx g x cc nL ret own fr lc) {w : Nat} {v : Int32} (hw : w < 19) (hin : vp_in v (sbs w).length) (hd : decode cc pc = .ok (.baload, 1)) (h : FW g x nL d dl (pc + 1) lo (.int ((sbs w).getD v.toNatClampNeg 0) :: st)) : FW g x nL d dl pc lo (.int v :: rv g w :: st) := by
  obtain ⟨⟨p, e, R, s, m⟩, ⟨args, below, meth, c⟩, ⟨A, nc, ns, Z⟩⟩ := x
  obtain ⟨l, dC, dI, ad, cA, sa, sv, vf⟩ := g
  obtain ⟨hx, hb, hr, hml, hown, hts, hlk, hK, hD0, hA, hE, hfr, hlc, hnc, hns⟩ := C0
  intro H locs ls hP hS hl
  exact va_tb hx hb (hE.1 w hw).2.2.2 hS hin rfl hd (h H locs ls hP hS hl)
theorem f_compact (C0 : Cx g x cc nL ret own fr lc) {index : Nat} (hk : Cond.fieldLink own index "java/lang/String" "COMPACT_STRINGS" "Z" ∈ GW) (hd : decode cc pc = .ok (.getstatic index, 3)) (h : FW g x nL d dl (pc + 3) lo (.int 1 :: st)) : FW g x nL d dl pc lo st := by
  obtain ⟨⟨p, e, R, s, m⟩, ⟨args, below, meth, c⟩, ⟨A, nc, ns, Z⟩⟩ := x
  obtain ⟨l, dC, dI, ad, cA, sa, sv, vf⟩ := g
  obtain ⟨hx, hb, hr, hml, hown, hts, hlk, hK, hD0, hA, hE, hfr, hlc, hnc, hns⟩ := C0
  intro H locs ls hP hS hl
  exact va_gets hx hb hE.2.2.2.1 hS hown (hts _ hk) (fun _ h9 => h9) hd (h H locs ls hP hS hl)
theorem f_form (C0 : Cx g x cc nL ret own fr lc) {index : Nat} (hk : Cond.fieldLink own index "jdk/internal/util/Preconditions" "SIOOBE_FORMATTER" "Ljava/util/function/BiFunction;" ∈ GW) (hd : decode cc pc = .ok (.getstatic index, 3)) (h : FW g x nL d dl (pc + 3) lo (rz g :: st)) : FW g x nL d dl pc lo st := by
  obtain ⟨⟨p, e, R, s, m⟩, ⟨args, below, meth, c⟩, ⟨A, nc, ns, Z⟩⟩ := x
  obtain ⟨l, dC, dI, ad, cA, sa, sv, vf⟩ := g
  obtain ⟨hx, hb, hr, hml, hown, hts, hlk, hK, hD0, hA, hE, hfr, hlc, hnc, hns⟩ := C0
  intro H locs ls hP hS hl
  exact va_gets hx hb hE.2.2.2.2.1 hS hown (hts _ hk) (fun _ h9 => h9) hd (h H locs ls hP hS hl)
theorem f_iret (C0 : Cx g x cc nL (some .int) own fr lc) {Q : Int32 → DD → LL → Prop} {v : Int32} (hZ : Zi g x Q) (hq : Q v d dl) (hd : decode cc pc = .ok (.ireturn, 1)) : FW g x nL d dl pc lo [.int v] := by
  obtain ⟨⟨p, e, R, s, m⟩, ⟨args, below, meth, c⟩, ⟨A, nc, ns, Z⟩⟩ := x
  obtain ⟨l, dC, dI, ad, cA, sa, sv, vf⟩ := g
  obtain ⟨hx, hb, hr, hml, hown, hts, hlk, hK, hD0, hA, hE, hfr, hlc, hnc, hns⟩ := C0
  obtain ⟨rfl, rfl⟩ := hZ
  intro H locs ls hP hS hl
  exact W.iret (v := v) hx hb hr (fun t ht hW => ⟨⟨v, (d, dl), rfl, hq, by subst ht; exact hP⟩, hS.F ht⟩) hS.2.2 hd hlk
theorem f_lret (C0 : Cx g x cc nL (some .long) own fr lc) {Q : Int64 → DD → LL → Prop} {v : Int64} (hZ : Zl g x Q) (hq : Q v d dl) (hd : decode cc pc = .ok (.lreturn, 1)) : FW g x nL d dl pc lo [.long v] := by
  obtain ⟨⟨p, e, R, s, m⟩, ⟨args, below, meth, c⟩, ⟨A, nc, ns, Z⟩⟩ := x
  obtain ⟨l, dC, dI, ad, cA, sa, sv, vf⟩ := g
  obtain ⟨hx, hb, hr, hml, hown, hts, hlk, hK, hD0, hA, hE, hfr, hlc, hnc, hns⟩ := C0
  obtain ⟨rfl, rfl⟩ := hZ
  intro H locs ls hP hS hl
  exact W.lret (v := v) hx hb hr (fun t ht hW => ⟨⟨v, (d, dl), rfl, hq, by subst ht; exact hP⟩, hS.F ht⟩) hS.2.2 hd hlk
theorem f_zret {ty : FieldType} (C0 : Cx g x cc nL (some ty) own fr lc) {Q : Int32 → DD → LL → Prop} {v : Int32} (hZ : Zi g x Q) (hn : narrow ty (.int v) = .int v) (hq : Q v d dl) (hd : decode cc pc = .ok (.ireturn, 1)) : FW g x nL d dl pc lo [.int v] := by
  obtain ⟨⟨p, e, R, s, m⟩, ⟨args, below, meth, c⟩, ⟨A, nc, ns, Z⟩⟩ := x
  obtain ⟨l, dC, dI, ad, cA, sa, sv, vf⟩ := g
  obtain ⟨hx, hb, hr, hml, hown, hts, hlk, hK, hD0, hA, hE, hfr, hlc, hnc, hns⟩ := C0
  obtain ⟨rfl, rfl⟩ := hZ
  intro H locs ls hP hS hl
  exact W.zret (v := v) hx hb hr hn (fun t ht hW => ⟨⟨v, (d, dl), rfl, hq, by subst ht; exact hP⟩, hS.F ht⟩) hS.2.2 hd hlk
theorem f_vret (C0 : Cx g x cc nL none own fr lc) {Q : DD → LL → Prop} (hZ : Zv g x Q) (hq : Q d dl) (hd : decode cc pc = .ok (.return_, 1)) : FW g x nL d dl pc lo [] := by
  obtain ⟨⟨p, e, R, s, m⟩, ⟨args, below, meth, c⟩, ⟨A, nc, ns, Z⟩⟩ := x
  obtain ⟨l, dC, dI, ad, cA, sa, sv, vf⟩ := g
  obtain ⟨hx, hb, hr, hml, hown, hts, hlk, hK, hD0, hA, hE, hfr, hlc, hnc, hns⟩ := C0
  obtain ⟨rfl, rfl⟩ := hZ
  intro H locs ls hP hS hl
  exact W.vret hx hb hr (fun t ht hW => ⟨⟨(d, dl), rfl, hq, by subst ht; exact hP⟩, hS.F ht⟩) hS.2.2 hd hlk
theorem f_aret {nm : String} (C0 : Cx g x cc nL (some (.object nm)) own fr lc) {Q : Nat → DD → LL → Prop} {w : Nat} (hZ : Zr g x Q) (hq : Q w d dl) (hd : decode cc pc = .ok (.areturn, 1)) : FW g x nL d dl pc lo [rs g w] := by
  obtain ⟨⟨p, e, R, s, m⟩, ⟨args, below, meth, c⟩, ⟨A, nc, ns, Z⟩⟩ := x
  obtain ⟨l, dC, dI, ad, cA, sa, sv, vf⟩ := g
  obtain ⟨hx, hb, hr, hml, hown, hts, hlk, hK, hD0, hA, hE, hfr, hlc, hnc, hns⟩ := C0
  obtain ⟨rfl, rfl⟩ := hZ
  intro H locs ls hP hS hl
  exact W.aret (v := .ref (sa w)) hx hb hr (Or.inl ⟨_, rfl⟩) (Or.inr ⟨_, rfl⟩) (fun t ht hW => ⟨⟨(w, d, dl), sa w, rfl, hq, rfl, by subst ht; exact hP⟩, hS.F ht⟩) hS.2.2 hd hlk
end FROWS
