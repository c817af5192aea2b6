section FMORE
variable {g : Ex} {x : Fx} {cc : ByteArray} {nL fr lc pc : Nat} {ret : Option FieldType} {own : String} {d : DD} {dl : LL} {lo : List (Nat × Value)} {st : List Value}
theorem f_tableAt (C0 : Cx g x cc nL ret own fr lc) {dflt lw hi : Int} {offs : Array Int} {len : Nat} {u w : Int32} {off : Int} {tgt : Nat} (hd : decode cc pc = .ok (.tableswitch dflt lw hi offs, len)) (hu : u = w) (h1 : ¬ w.toInt < lw) (h2 : ¬ hi < w.toInt) (ho : offs[(w.toInt - lw).toNat]? = some off) (ht : (pc : Int) + off = (tgt : Int)) (h : FW g x nL d dl tgt lo st) : FW g x nL d dl pc lo (.int u :: st) := by
  subst hu
  exact f_tableIn C0 hd h1 h2 ho ht h
theorem f_lookAt (C0 : Cx g x cc nL ret own fr lc) {dflt : Int} {ps : Array (Int × Int)} {len : Nat} {u w : Int32} {off : Int} {tgt : Nat} (hd : decode cc pc = .ok (.lookupswitch dflt ps, len)) (hu : u = w) (hp : (ps.toList.zip (ps.toList.drop 1)).all (fun (a, next) => a.1 < next.1) = true) (ho : Op.lookupswitch.offset ps.toList dflt w.toInt = off) (ht : (pc : Int) + off = (tgt : Int)) (h : FW g x nL d dl tgt lo st) : FW g x nL d dl pc lo (.int u :: st) := by
  subst hu
  exact f_lookup C0 hd hp ho ht h
theorem f_lookOut (C0 : Cx g x cc nL ret own fr lc) {dflt : Int} {ps : Array (Int × Int)} {len : Nat} {u : Int32} {tgt : Nat} (hd : decode cc pc = .ok (.lookupswitch dflt ps, len)) (hp : (ps.toList.zip (ps.toList.drop 1)).all (fun (a, next) => a.1 < next.1) = true) (ho : Op.lookupswitch.offset ps.toList dflt u.toInt = dflt) (ht : (pc : Int) + dflt = (tgt : Int)) (h : FW g x nL d dl tgt lo st) : FW g x nL d dl pc lo (.int u :: st) := f_lookup C0 hd hp ho ht h
theorem lk_2 {u a b : Int32} {p q e : Int} (h1 : ¬ u = a) (h2 : ¬ u = b) : Op.lookupswitch.offset [(a.toInt, p), (b.toInt, q)] e u.toInt = e := by
  have g1 : ¬ a.toInt = u.toInt := fun h => h1 (Int32.toInt_inj.mp h.symm)
  have g2 : ¬ b.toInt = u.toInt := fun h => h2 (Int32.toInt_inj.mp h.symm)
  rw [Op.lookupswitch.offset_cons, if_neg g1, Op.lookupswitch.offset_cons, if_neg g2, Op.lookupswitch.offset_nil]
theorem rz_cat (C0 : Cx g x cc nL ret own fr lc) : (rz g).category = 1 := by
  obtain ⟨⟨p, e, R, s, m⟩, ⟨args, below, meth, c⟩, ⟨A, nc, ns, Z⟩⟩ := x
  obtain ⟨l, dC, dI, ad, cA, sa, sv, vf⟩ := g
  obtain ⟨hx, hb, hr, hml, hown, hts, hlk, hK, hD0, hA, hE, hfr, hlc, hnc, hns⟩ := C0
  exact hE.2.2.2.2.2.2.2
end FMORE
theorem sw_1 (x : Int32) : (x.toInt < 0 ∨ 1 < x.toInt) ∨ x = 0 ∨ x = 1 := by
  have key : ∀ m : Int32, x.toInt = m.toInt → x = m := fun m h => Int32.toInt_inj.mp h
  rcases (show (x.toInt < 0 ∨ 1 < x.toInt) ∨ x.toInt = 0 ∨ x.toInt = 1 by omega) with h | h | h
  · exact Or.inl h
  · exact Or.inr (Or.inl (key 0 h))
  · exact Or.inr (Or.inr ((key 1 h)))
theorem sw_2 (x : Int32) : (x.toInt < 0 ∨ 2 < x.toInt) ∨ x = 0 ∨ x = 1 ∨ x = 2 := by
  have key : ∀ m : Int32, x.toInt = m.toInt → x = m := fun m h => Int32.toInt_inj.mp h
  rcases (show (x.toInt < 0 ∨ 2 < x.toInt) ∨ x.toInt = 0 ∨ x.toInt = 1 ∨ x.toInt = 2 by omega) with h | h | h | h
  · exact Or.inl h
  · exact Or.inr (Or.inl (key 0 h))
  · exact Or.inr (Or.inr (Or.inl (key 1 h)))
  · exact Or.inr (Or.inr (Or.inr ((key 2 h))))
theorem sw_3 (x : Int32) : (x.toInt < 0 ∨ 3 < x.toInt) ∨ x = 0 ∨ x = 1 ∨ x = 2 ∨ x = 3 := by
  have key : ∀ m : Int32, x.toInt = m.toInt → x = m := fun m h => Int32.toInt_inj.mp h
  rcases (show (x.toInt < 0 ∨ 3 < x.toInt) ∨ x.toInt = 0 ∨ x.toInt = 1 ∨ x.toInt = 2 ∨ x.toInt = 3 by omega) with h | h | h | h | h
  · exact Or.inl h
  · exact Or.inr (Or.inl (key 0 h))
  · exact Or.inr (Or.inr (Or.inl (key 1 h)))
  · exact Or.inr (Or.inr (Or.inr (Or.inl (key 2 h))))
  · exact Or.inr (Or.inr (Or.inr (Or.inr ((key 3 h)))))
theorem sw_4 (x : Int32) : (x.toInt < 0 ∨ 4 < x.toInt) ∨ x = 0 ∨ x = 1 ∨ x = 2 ∨ x = 3 ∨ x = 4 := by
  have key : ∀ m : Int32, x.toInt = m.toInt → x = m := fun m h => Int32.toInt_inj.mp h
  rcases (show (x.toInt < 0 ∨ 4 < x.toInt) ∨ x.toInt = 0 ∨ x.toInt = 1 ∨ x.toInt = 2 ∨ x.toInt = 3 ∨ x.toInt = 4 by omega) with h | h | h | h | h | h
  · exact Or.inl h
  · exact Or.inr (Or.inl (key 0 h))
  · exact Or.inr (Or.inr (Or.inl (key 1 h)))
  · exact Or.inr (Or.inr (Or.inr (Or.inl (key 2 h))))
  · exact Or.inr (Or.inr (Or.inr (Or.inr (Or.inl (key 3 h)))))
  · exact Or.inr (Or.inr (Or.inr (Or.inr (Or.inr ((key 4 h))))))
theorem sw_7 (x : Int32) : (x.toInt < 0 ∨ 7 < x.toInt) ∨ x = 0 ∨ x = 1 ∨ x = 2 ∨ x = 3 ∨ x = 4 ∨ x = 5 ∨ x = 6 ∨ x = 7 := by
  have key : ∀ m : Int32, x.toInt = m.toInt → x = m := fun m h => Int32.toInt_inj.mp h
  rcases (show (x.toInt < 0 ∨ 7 < x.toInt) ∨ x.toInt = 0 ∨ x.toInt = 1 ∨ x.toInt = 2 ∨ x.toInt = 3 ∨ x.toInt = 4 ∨ x.toInt = 5 ∨ x.toInt = 6 ∨ x.toInt = 7 by omega) with h | h | h | h | h | h | h | h | h
  · exact Or.inl h
  · exact Or.inr (Or.inl (key 0 h))
  · exact Or.inr (Or.inr (Or.inl (key 1 h)))
  · exact Or.inr (Or.inr (Or.inr (Or.inl (key 2 h))))
  · exact Or.inr (Or.inr (Or.inr (Or.inr (Or.inl (key 3 h)))))
  · exact Or.inr (Or.inr (Or.inr (Or.inr (Or.inr (Or.inl (key 4 h))))))
  · exact Or.inr (Or.inr (Or.inr (Or.inr (Or.inr (Or.inr (Or.inl (key 5 h)))))))
  · exact Or.inr (Or.inr (Or.inr (Or.inr (Or.inr (Or.inr (Or.inr (Or.inl (key 6 h))))))))
  · exact Or.inr (Or.inr (Or.inr (Or.inr (Or.inr (Or.inr (Or.inr (Or.inr ((key 7 h)))))))))
theorem sw_8 (x : Int32) : (x.toInt < 0 ∨ 8 < x.toInt) ∨ x = 0 ∨ x = 1 ∨ x = 2 ∨ x = 3 ∨ x = 4 ∨ x = 5 ∨ x = 6 ∨ x = 7 ∨ x = 8 := by
  have key : ∀ m : Int32, x.toInt = m.toInt → x = m := fun m h => Int32.toInt_inj.mp h
  rcases (show (x.toInt < 0 ∨ 8 < x.toInt) ∨ x.toInt = 0 ∨ x.toInt = 1 ∨ x.toInt = 2 ∨ x.toInt = 3 ∨ x.toInt = 4 ∨ x.toInt = 5 ∨ x.toInt = 6 ∨ x.toInt = 7 ∨ x.toInt = 8 by omega) with h | h | h | h | h | h | h | h | h | h
  · exact Or.inl h
  · exact Or.inr (Or.inl (key 0 h))
  · exact Or.inr (Or.inr (Or.inl (key 1 h)))
  · exact Or.inr (Or.inr (Or.inr (Or.inl (key 2 h))))
  · exact Or.inr (Or.inr (Or.inr (Or.inr (Or.inl (key 3 h)))))
  · exact Or.inr (Or.inr (Or.inr (Or.inr (Or.inr (Or.inl (key 4 h))))))
  · exact Or.inr (Or.inr (Or.inr (Or.inr (Or.inr (Or.inr (Or.inl (key 5 h)))))))
  · exact Or.inr (Or.inr (Or.inr (Or.inr (Or.inr (Or.inr (Or.inr (Or.inl (key 6 h))))))))
  · exact Or.inr (Or.inr (Or.inr (Or.inr (Or.inr (Or.inr (Or.inr (Or.inr (Or.inl (key 7 h)))))))))
  · exact Or.inr (Or.inr (Or.inr (Or.inr (Or.inr (Or.inr (Or.inr (Or.inr (Or.inr ((key 8 h))))))))))
theorem sw_27 (x : Int32) : (x.toInt < 0 ∨ 27 < x.toInt) ∨ x = 0 ∨ x = 1 ∨ x = 2 ∨ x = 3 ∨ x = 4 ∨ x = 5 ∨ x = 6 ∨ x = 7 ∨ x = 8 ∨ x = 9 ∨ x = 10 ∨ x = 11 ∨ x = 12 ∨ x = 13 ∨ x = 14 ∨ x = 15 ∨ x = 16 ∨ x = 17 ∨ x = 18 ∨ x = 19 ∨ x = 20 ∨ x = 21 ∨ x = 22 ∨ x = 23 ∨ x = 24 ∨ x = 25 ∨ x = 26 ∨ x = 27 := by
  have key : ∀ m : Int32, x.toInt = m.toInt → x = m := fun m h => Int32.toInt_inj.mp h
  rcases (show (x.toInt < 0 ∨ 27 < x.toInt) ∨ x.toInt = 0 ∨ x.toInt = 1 ∨ x.toInt = 2 ∨ x.toInt = 3 ∨ x.toInt = 4 ∨ x.toInt = 5 ∨ x.toInt = 6 ∨ x.toInt = 7 ∨ x.toInt = 8 ∨ x.toInt = 9 ∨ x.toInt = 10 ∨ x.toInt = 11 ∨ x.toInt = 12 ∨ x.toInt = 13 ∨ x.toInt = 14 ∨ x.toInt = 15 ∨ x.toInt = 16 ∨ x.toInt = 17 ∨ x.toInt = 18 ∨ x.toInt = 19 ∨ x.toInt = 20 ∨ x.toInt = 21 ∨ x.toInt = 22 ∨ x.toInt = 23 ∨ x.toInt = 24 ∨ x.toInt = 25 ∨ x.toInt = 26 ∨ x.toInt = 27 by omega) with h | h | h | h | h | h | h | h | h | h | h | h | h | h | h | h | h | h | h | h | h | h | h | h | h | h | h | h | h
  · exact Or.inl h
  · exact Or.inr (Or.inl (key 0 h))
  · exact Or.inr (Or.inr (Or.inl (key 1 h)))
  · exact Or.inr (Or.inr (Or.inr (Or.inl (key 2 h))))
  · exact Or.inr (Or.inr (Or.inr (Or.inr (Or.inl (key 3 h)))))
  · exact Or.inr (Or.inr (Or.inr (Or.inr (Or.inr (Or.inl (key 4 h))))))
  · exact Or.inr (Or.inr (Or.inr (Or.inr (Or.inr (Or.inr (Or.inl (key 5 h)))))))
  · exact Or.inr (Or.inr (Or.inr (Or.inr (Or.inr (Or.inr (Or.inr (Or.inl (key 6 h))))))))
  · exact Or.inr (Or.inr (Or.inr (Or.inr (Or.inr (Or.inr (Or.inr (Or.inr (Or.inl (key 7 h)))))))))
  · exact Or.inr (Or.inr (Or.inr (Or.inr (Or.inr (Or.inr (Or.inr (Or.inr (Or.inr (Or.inl (key 8 h))))))))))
  · exact Or.inr (Or.inr (Or.inr (Or.inr (Or.inr (Or.inr (Or.inr (Or.inr (Or.inr (Or.inr (Or.inl (key 9 h)))))))))))
  · exact Or.inr (Or.inr (Or.inr (Or.inr (Or.inr (Or.inr (Or.inr (Or.inr (Or.inr (Or.inr (Or.inr (Or.inl (key 10 h))))))))))))
  · exact Or.inr (Or.inr (Or.inr (Or.inr (Or.inr (Or.inr (Or.inr (Or.inr (Or.inr (Or.inr (Or.inr (Or.inr (Or.inl (key 11 h)))))))))))))
  · exact Or.inr (Or.inr (Or.inr (Or.inr (Or.inr (Or.inr (Or.inr (Or.inr (Or.inr (Or.inr (Or.inr (Or.inr (Or.inr (Or.inl (key 12 h))))))))))))))
  · exact Or.inr (Or.inr (Or.inr (Or.inr (Or.inr (Or.inr (Or.inr (Or.inr (Or.inr (Or.inr (Or.inr (Or.inr (Or.inr (Or.inr (Or.inl (key 13 h)))))))))))))))
  · exact Or.inr (Or.inr (Or.inr (Or.inr (Or.inr (Or.inr (Or.inr (Or.inr (Or.inr (Or.inr (Or.inr (Or.inr (Or.inr (Or.inr (Or.inr (Or.inl (key 14 h))))))))))))))))
  · exact Or.inr (Or.inr (Or.inr (Or.inr (Or.inr (Or.inr (Or.inr (Or.inr (Or.inr (Or.inr (Or.inr (Or.inr (Or.inr (Or.inr (Or.inr (Or.inr (Or.inl (key 15 h)))))))))))))))))
  · exact Or.inr (Or.inr (Or.inr (Or.inr (Or.inr (Or.inr (Or.inr (Or.inr (Or.inr (Or.inr (Or.inr (Or.inr (Or.inr (Or.inr (Or.inr (Or.inr (Or.inr (Or.inl (key 16 h))))))))))))))))))
  · exact Or.inr (Or.inr (Or.inr (Or.inr (Or.inr (Or.inr (Or.inr (Or.inr (Or.inr (Or.inr (Or.inr (Or.inr (Or.inr (Or.inr (Or.inr (Or.inr (Or.inr (Or.inr (Or.inl (key 17 h)))))))))))))))))))
  · exact Or.inr (Or.inr (Or.inr (Or.inr (Or.inr (Or.inr (Or.inr (Or.inr (Or.inr (Or.inr (Or.inr (Or.inr (Or.inr (Or.inr (Or.inr (Or.inr (Or.inr (Or.inr (Or.inr (Or.inl (key 18 h))))))))))))))))))))
  · exact Or.inr (Or.inr (Or.inr (Or.inr (Or.inr (Or.inr (Or.inr (Or.inr (Or.inr (Or.inr (Or.inr (Or.inr (Or.inr (Or.inr (Or.inr (Or.inr (Or.inr (Or.inr (Or.inr (Or.inr (Or.inl (key 19 h)))))))))))))))))))))
  · exact Or.inr (Or.inr (Or.inr (Or.inr (Or.inr (Or.inr (Or.inr (Or.inr (Or.inr (Or.inr (Or.inr (Or.inr (Or.inr (Or.inr (Or.inr (Or.inr (Or.inr (Or.inr (Or.inr (Or.inr (Or.inr (Or.inl (key 20 h))))))))))))))))))))))
  · exact Or.inr (Or.inr (Or.inr (Or.inr (Or.inr (Or.inr (Or.inr (Or.inr (Or.inr (Or.inr (Or.inr (Or.inr (Or.inr (Or.inr (Or.inr (Or.inr (Or.inr (Or.inr (Or.inr (Or.inr (Or.inr (Or.inr (Or.inl (key 21 h)))))))))))))))))))))))
  · exact Or.inr (Or.inr (Or.inr (Or.inr (Or.inr (Or.inr (Or.inr (Or.inr (Or.inr (Or.inr (Or.inr (Or.inr (Or.inr (Or.inr (Or.inr (Or.inr (Or.inr (Or.inr (Or.inr (Or.inr (Or.inr (Or.inr (Or.inr (Or.inl (key 22 h))))))))))))))))))))))))
  · exact Or.inr (Or.inr (Or.inr (Or.inr (Or.inr (Or.inr (Or.inr (Or.inr (Or.inr (Or.inr (Or.inr (Or.inr (Or.inr (Or.inr (Or.inr (Or.inr (Or.inr (Or.inr (Or.inr (Or.inr (Or.inr (Or.inr (Or.inr (Or.inr (Or.inl (key 23 h)))))))))))))))))))))))))
  · exact Or.inr (Or.inr (Or.inr (Or.inr (Or.inr (Or.inr (Or.inr (Or.inr (Or.inr (Or.inr (Or.inr (Or.inr (Or.inr (Or.inr (Or.inr (Or.inr (Or.inr (Or.inr (Or.inr (Or.inr (Or.inr (Or.inr (Or.inr (Or.inr (Or.inr (Or.inl (key 24 h))))))))))))))))))))))))))
  · exact Or.inr (Or.inr (Or.inr (Or.inr (Or.inr (Or.inr (Or.inr (Or.inr (Or.inr (Or.inr (Or.inr (Or.inr (Or.inr (Or.inr (Or.inr (Or.inr (Or.inr (Or.inr (Or.inr (Or.inr (Or.inr (Or.inr (Or.inr (Or.inr (Or.inr (Or.inr (Or.inl (key 25 h)))))))))))))))))))))))))))
  · exact Or.inr (Or.inr (Or.inr (Or.inr (Or.inr (Or.inr (Or.inr (Or.inr (Or.inr (Or.inr (Or.inr (Or.inr (Or.inr (Or.inr (Or.inr (Or.inr (Or.inr (Or.inr (Or.inr (Or.inr (Or.inr (Or.inr (Or.inr (Or.inr (Or.inr (Or.inr (Or.inr (Or.inl (key 26 h))))))))))))))))))))))))))))
  · exact Or.inr (Or.inr (Or.inr (Or.inr (Or.inr (Or.inr (Or.inr (Or.inr (Or.inr (Or.inr (Or.inr (Or.inr (Or.inr (Or.inr (Or.inr (Or.inr (Or.inr (Or.inr (Or.inr (Or.inr (Or.inr (Or.inr (Or.inr (Or.inr (Or.inr (Or.inr (Or.inr (Or.inr ((key 27 h)))))))))))))))))))))))))))))
