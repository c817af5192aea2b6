theorem seat_step {d d1 d2 : DD} {dl l1 lw : LL} {r1 r2 x1 : Int32} (h : R0 d dl) (s1 : StW d dl d1 l1) (q1 : SeatQ9 d dl d1 x1 r1) (s2 : StZ d1 l1 d2 lw) (q2 : Rok d1 → Sym d1 → SeatQ10 d1 d2 x1 r2) : R0 d2 lw ∧ r1 = r2 := by
  have c4 : d 0 2 = d 211 1 := h.c4
  have m2 := iv_0_2 h.i
  have e1 : d1 211 1 = d 0 2 := by rw [s1.2.1 211 1 rfl, ← c4]
  have e218 : d1 218 = d 218 := funext (fun l => s1.2.1 218 l rfl)
  have e219 : d1 219 = d 219 := funext (fun l => s1.2.1 219 l rfl)
  have e220 : d1 220 = d 220 := funext (fun l => s1.2.1 220 l rfl)
  have e222 : d1 222 = d 222 := funext (fun l => s1.2.1 222 l rfl)
  have e217 : d1 217 = d 217 := funext (fun l => s1.2.1 217 l rfl)
  have e212 : d1 212 = d 2 := funext (fun l => (s1.2.1 212 l rfl).trans (h.c15 l).1.symm)
  have e213 : d1 213 = d 3 := funext (fun l => (s1.2.1 213 l rfl).trans (h.c15 l).2.1.symm)
  have e214 : d1 214 = d 4 := funext (fun l => (s1.2.1 214 l rfl).trans (h.c15 l).2.2.1.symm)
  have e223 : d1 223 = d 223 := funext (fun l => s1.2.1 223 l rfl)
  have e224 : d1 224 = d 224 := funext (fun l => s1.2.1 224 l rfl)
  have k02 : d2 0 2 = d 0 2 := (s2.2.1 0 2 rfl).trans (s1.2.1 0 2 rfl)
  have k218 : ∀ l, d2 218 l = d 218 l := fun l => by rw [s2.2.1 218 l rfl, e218]
  have rok : Rok d1 := by
    intro k hk
    rw [e1] at hk
    rw [e218, ← (h.c16 k (by omega) hk).1]
    exact (iv_37_0 h.i (show k < 6 by omega)).1
  have sy : Sym d1 := by
    intro a b ha hb
    unfold lB
    rw [e217, h.c20 a b ha hb]
  have q2 := q2 rok sy
  rcases q1 with ⟨o1, a1, a2⟩ | ⟨k, S, nn, hx, hk, hS, hnn, f1, f2, hT⟩
  · rcases q2 with ⟨o2, b1, b2⟩ | ⟨k, S, nn, hx, hk, _⟩
    · subst a2; subst b2
      exact ⟨h.u_seat s1 s2 h.c18 h.c19, by rw [a1, b1]⟩
    · rw [e1] at hk
      exact absurd ⟨by omega, by omega⟩ o1
  rcases q2 with ⟨o2, _⟩ | ⟨k', S', nn', hx', hk', hS', hnn', fT, hP⟩
  · rw [e1] at o2
    exact absurd ⟨by omega, by omega⟩ o2
  have hkk : k' = k := by omega
  subst hkk
  have hk6 : k' < 6 := by omega
  have c16 := h.c16 k' hk6 hk
  have hSS : S' = S := by
    rw [e218, ← c16.1] at hS'
    omega
  subst hSS
  have c7 := h.c7 k' hk6
  have hnE : nn' = nn := by
    rw [e220, ← c7] at hnn'
    omega
  subst hnE
  have mR := iv_37_0 h.i hk6
  have hmem : ∀ j, memA d k' j = memB d1 k' j := by
    intro j
    unfold memA memB
    by_cases hj : j < 8
    · rw [if_pos hj, if_pos hj, e222, h.c17 k' j hk6 hj]
    · rw [if_neg hj, if_neg hj]
  have m40 : ∀ j, memA d k' j < 40 := by
    intro j
    unfold memA
    by_cases hj : j < 8
    · rw [if_pos hj]
      have a := iv_38 h.i hk6 j
      have : (d (38 + 3 * k') j).toNatClampNeg = (d (38 + 3 * k') j).toInt.toNat := rfl
      omega
    · rw [if_neg hj]; omega
  have hPP : PA9 d dl k' = PB d1 k' := by
    unfold PA9 PB
    refine PX_k (by rw [e218, c16.1]) (by rw [e219, c16.2]) hmem ?_ ?_ ?_ (fun i j => ?_)
    · unfold wB; rw [e212]
    · unfold sB; rw [e213]
    · rw [e214]
    · unfold lB
      rw [e217]
      have c := h.c6 _ _ (m40 i) (m40 j)
      have n := iv_217 h.i (40 * memA d k' i + memA d k' j)
      by_cases w : bt (dl 7 (memA d k' i)) (memA d k' j) = true
      · rw [w, c.mp w]
        rfl
      · have w2 : bt (dl 7 (memA d k' i)) (memA d k' j) = false := by
          cases hb : bt (dl 7 (memA d k' i)) (memA d k' j)
          · rfl
          · exact absurd hb w
        have h1 : ¬ (d 217 (40 * memA d k' i + memA d k' j)).toInt = 1 := fun q => w (c.mpr ((i_eq rfl (rfl : (1 : Int32).toInt = 1)).mpr q))
        have h0 : (d 217 (40 * memA d k' i + memA d k' j)).toInt = 0 := by omega
        have h0 : d 217 (40 * memA d k' i + memA d k' j) = 0 := (i_eq h0 (rfl : (0 : Int32).toInt = 0)).mpr rfl
        rw [w2, h0]
        rfl
  unfold SeatP10 at hP
  rw [← hPP] at hP
  generalize FSof (PA9 d dl k') S' nn' = T at *
  have g37 : ∀ i, i < 6 → d2 (37 + 3 * i) 6 = d1 (37 + 3 * i) 6 := fun i hi => s2.2.1 (37 + 3 * i) 6 (by rw [rg_37 hi]; rfl)
  have g39 : ∀ i l, i < 6 → d2 (39 + 3 * i) l = d1 (39 + 3 * i) l := fun i l hi => s2.2.1 (39 + 3 * i) l (by rw [rg_39 hi]; rfl)
  have o37 : ∀ i, i < 6 → i ≠ k' → d1 (37 + 3 * i) = d (37 + 3 * i) := fun i hi hne => f1 _ (by omega) (by omega) (by omega)
  have o39 : ∀ i, i < 6 → i ≠ k' → d1 (39 + 3 * i) = d (39 + 3 * i) := fun i hi hne => f1 _ (by omega) (by omega) (by omega)
  have un : ∀ (f : Nat → Int32) (v : Int32) (i : Nat), i ≠ k' → upd f k' v i = f i := fun f v i hi => by simp [upd, hi]
  have ue : ∀ (f : Nat → Int32) (v : Int32), upd f k' v k' = v := fun f v => by simp [upd]
  rcases hT with ⟨t1, t2, t3, t4⟩ | ⟨t1, t2, t3, t4⟩
  · rcases hP with ⟨p1, p2, p3, p4⟩ | ⟨p1, _⟩
    rotate_left
    · exact absurd (t1.symm.trans p1) (by decide)
    refine ⟨h.u_seat s1 s2 (fun i hi => ?_) (fun i hi q => ?_), by rw [t2, p2]⟩
    · rw [g37 i hi, p3]
      by_cases he : i = k'
      · rw [he, ue]; exact t3
      · rw [un _ _ _ he, o37 i hi he, e224]; exact h.c18 i hi
    · rw [p3] at q
      by_cases he : i = k'
      · rw [he, ue] at q; exact absurd rfl q
      · rw [un _ _ _ he, e224] at q
        have c := h.c19 i hi q
        rw [k02]
        refine ⟨c.1, fun j hj => ?_⟩
        rw [k218] at hj
        rw [g39 i j hi, o39 i hi he, p4, e223]
        exact c.2 j hj
  · rcases hP with ⟨p1, _⟩ | ⟨p1, p2, p3, p4, p5⟩
    · exact absurd (p1.symm.trans t1) (by decide)
    refine ⟨h.u_seat s1 s2 (fun i hi => ?_) (fun i hi q => ?_), Int32.toInt_inj.mp (by rw [t2, p2])⟩
    · rw [g37 i hi, p3]
      by_cases he : i = k'
      · rw [he, ue]; exact t3
      · rw [un _ _ _ he, o37 i hi he, e224]; exact h.c18 i hi
    · rw [k02]
      by_cases he : i = k'
      · subst he
        refine ⟨hk, fun j hj => ?_⟩
        rw [k218, ← c16.1] at hj
        have hjS : j < S' := by omega
        rw [g39 i j hi, (t4 j hjS).2]
        have hb := p4 j hjS
        rw [← hmem] at hb
        unfold memA at hb
        rw [if_pos (t4 j hjS).1] at hb
        have a := iv_38 h.i hi (T.2.2 j)
        have b : (d (38 + 3 * i) (T.2.2 j)).toNatClampNeg = (d (38 + 3 * i) (T.2.2 j)).toInt.toNat := rfl
        exact Int32.toInt_inj.mp (by omega)
      · rw [p3, un _ _ _ he, e224] at q
        have c := h.c19 i hi q
        refine ⟨c.1, fun j hj => ?_⟩
        rw [k218] at hj
        have h218 : 2 * (d 218 i).toInt ≤ 8 := by have := iv_218 h.i i; omega
        rw [g39 i j hi, o39 i hi he, p5 _ (by omega), e223]
        exact c.2 j hj
