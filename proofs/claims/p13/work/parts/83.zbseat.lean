theorem seatW {d dz : DD} {dl : LL} {x1 r : Int32} (hI : Inv d) (iz : Inv dz) (q : SeatQ9 d dl dz x1 r) : StW d dl dz dl := by
  refine ⟨iz, fun i j h => ?_, fun _ _ _ => rfl⟩
  rcases q with ⟨_, _, e⟩ | ⟨k, S, nn, hx, hk, hS, hnn, f1, f2, _⟩
  · rw [e]
  · have m := iv_0_2 hI
    have hk6 : k < 6 := by omega
    by_cases h37 : i = 37 + 3 * k
    · subst h37
      refine f2 j (fun hj => ?_)
      subst hj
      rw [rg_37 hk6] at h
      exact absurd h (by decide)
    by_cases h39 : i = 39 + 3 * k
    · subst h39
      rw [rg_39 hk6] at h
      exact absurd (show false = true from h) (by decide)
    by_cases hm : i < 10 ∨ 23 < i
    · rw [f1 i hm h37 h39]
    · exfalso
      have hc : i = 10 ∨ i = 11 ∨ i = 12 ∨ i = 13 ∨ i = 14 ∨ i = 15 ∨ i = 16 ∨ i = 17 ∨ i = 18 ∨ i = 19 ∨ i = 20 ∨ i = 21 ∨ i = 22 ∨ i = 23 := by omega
      rcases hc with rfl | rfl | rfl | rfl | rfl | rfl | rfl | rfl | rfl | rfl | rfl | rfl | rfl | rfl <;> exact absurd (show false = true from h) (by decide)
theorem seatZ {d dz : DD} {dl : LL} {x1 r : Int32} (iz : Inv dz) (q : SeatQ10 d dz x1 r) : StZ d dl dz dl := by
  refine ⟨iz, fun i j h => ?_, fun _ _ _ => rfl⟩
  rcases q with ⟨_, _, e⟩ | ⟨k, S, nn, hx, hk, hS, hnn, fT, _⟩
  · rw [e]
  · by_cases h1 : i = 223
    · subst h1; exact absurd (show false = true from h) (by decide)
    by_cases h2 : i = 224
    · subst h2; exact absurd (show false = true from h) (by decide)
    by_cases h3 : i = 244
    · subst h3; exact absurd (show false = true from h) (by decide)
    by_cases h4 : i = 245
    · subst h4; exact absurd (show false = true from h) (by decide)
    by_cases h5 : i = 247
    · subst h5; exact absurd (show false = true from h) (by decide)
    rw [fT.2 i h1 h2 h3 h4 h5]
theorem sp_X9_seatS {n : Nat} (hn : 1000000000 ≤ n) {x1 : Int32} {d : DD} {dl : LL} (hI : Inv d) {Q : Int32 → DD → LL → Prop} (hQ : ∀ (r : Int32) (d2 : DD) (l2 : LL), StW d dl d2 l2 ∧ SeatQ9 d dl d2 x1 r → Q r d2 l2) : F_X9_seat n x1 d dl Q := sp_X9_seatF hn hI (fun r dz iz q => hQ r dz dl ⟨seatW hI iz q, q⟩)
theorem sp_X10_seatS {n : Nat} (hn : 1000000000 ≤ n) {x1 : Int32} {d : DD} {dl : LL} (hI : Inv d) (hR : Rok d) (hsym : Sym d) {Q : Int32 → DD → LL → Prop} (hQ : ∀ (r : Int32) (d2 : DD) (l2 : LL), StZ d dl d2 l2 ∧ SeatQ10 d d2 x1 r → Q r d2 l2) : F_X10_seat n x1 d dl Q := fn_X10_seatQ hn hI hR hsym (fun r dz iz q => hQ r dz dl ⟨seatZ iz q, q⟩)
theorem seat_pre {d d1 : DD} {dl l1 : LL} (h : R0 d dl) (s1 : StW d dl d1 l1) : Rok d1 ∧ Sym d1 := by
  have c4 : d 0 2 = d 211 1 := h.c4
  have m2 := iv_0_2 h.i
  have e1 : d1 211 1 = d 0 2 := by rw [s1.2.1 211 1 rfl, ← c4]
  have e218 : d1 218 = d 218 := funext (fun l => s1.2.1 218 l rfl)
  have e217 : d1 217 = d 217 := funext (fun l => s1.2.1 217 l rfl)
  refine ⟨fun k hk => ?_, fun a b ha hb => ?_⟩
  · rw [e1] at hk
    rw [e218, ← (h.c16 k (by omega) hk).1]
    exact (iv_37_0 h.i (show k < 6 by omega)).1
  · unfold lB
    rw [e217, h.c20 a b ha hb]
