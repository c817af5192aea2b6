theorem B10_k {d d2 : DD} {m : Int32} {q : Nat} (e232 : d2 232 = d 232) (e5 : d2 211 5 = d 211 5) (e239 : d2 239 = d 239) (e234 : d2 234 = d 234) (e220 : d2 220 = d 220) (e222 : d2 222 = d 222) : B10 d2 m q ↔ B10 d m q := by
  unfold B10 hc3 HC Com Mem
  rw [e232, e5, e239, e234, e220, e222]
theorem rmt_eq {d : DD} {dl : LL} (h : R0 d dl) {q : Nat} (hq : (q : Int) < (d 0 13).toInt) {c : Int32} (c0 : 0 ≤ c.toInt) (c1 : c.toInt ≤ 5) {k : Nat} (hk : k < 4) : (¬ d (92 + 5 * q) k = -1 ∧ MtB dl (d (92 + 5 * q) k) c) ↔ (¬ d 234 (4 * q + k) = -1 ∧ HC d c (d 234 (4 * q + k))) := by
  have m := iv_0_13 h.i
  have hq24 : q < 24 := by omega
  have mv := iv_92 h.i hq24 k
  rw [← (h.c12 q hq24 hq).2.2 k hk]
  by_cases g : d (92 + 5 * q) k = -1
  · exact ⟨fun w => absurd g w.1, fun w => absurd g w.1⟩
  · have gi := m1 g
    have e := mt_hc h.i h.c8 (a := d (92 + 5 * q) k) (c := c) (by omega) (by omega) c0 c1
    exact ⟨fun w => ⟨w.1, e.mp w.2⟩, fun w => ⟨w.1, e.mpr w.2⟩⟩
theorem b9_b10 {d : DD} {dl : LL} (h : R0 d dl) {m : Int32} {q : Nat} (hq : (q : Int) < (d 0 13).toInt) : B9 d dl m q ↔ B10 d m q := by
  have m3 := iv_0_13 h.i
  have hq24 : q < 24 := by omega
  have c2 : d 0 9 = d 211 5 := h.c2
  unfold B9 B10
  rw [(h.c12 q hq24 hq).1, gp_c, c2]
  refine and_congr_right (fun _ => ⟨fun ⟨l, hl, a, k, hk, b⟩ => ⟨l, hl, k, hk, ?_⟩, fun ⟨l, hl, k, hk, a, b⟩ => ⟨l, hl, ?_, k, hk, ?_⟩⟩)
  · have ml := rowb_iv h.i (Or.inl rfl) (c := 28) l
    have ai := m1 a
    have e := (rmt_eq h hq (c := d 28 l) (by omega) (by omega) hk).mp b
    rw [h.c9 l hl] at a e
    exact ⟨a, e.1, e.2⟩
  · rw [h.c9 l hl]; exact a
  · have ml := iv_239 h.i l
    have ai := m1 a
    rw [h.c9 l hl]
    exact (rmt_eq h hq (c := d 239 l) (by omega) (by omega) hk).mpr b
theorem race_step {d d1 d2 : DD} {dl l1 lw : LL} {r1 r2 x1 x2 : Int32} (h : R0 d dl) (p1 : StQ d dl d1 l1) (q1 : RaceP9 d dl d1 x1 x2 r1) (p2 : StR d1 l1 d2 lw) (q2 : RaceP10 d1 d2 x1 x2 r2) : R0 d2 lw ∧ r1 = r2 := by
  have m := iv_0_13 h.i
  have e3 : d1 211 3 = d 0 13 := by rw [p1.2.1 211 3 rfl]; exact h.c11.symm
  have e6 : (d1 211 6).toInt = cnt d := by rw [p1.2.1 211 6 rfl]; exact h.c10
  have e239 : d1 239 = d 239 := funext (fun l => p1.2.1 239 l rfl)
  have e232 : d1 232 = d 232 := funext (fun l => p1.2.1 232 l rfl)
  have e233 : d1 233 = d 233 := funext (fun l => p1.2.1 233 l rfl)
  have e234 : d1 234 = d 234 := funext (fun l => p1.2.1 234 l rfl)
  have e220 : d1 220 = d 220 := funext (fun l => p1.2.1 220 l rfl)
  have e222 : d1 222 = d 222 := funext (fun l => p1.2.1 222 l rfl)
  have hb : ∀ q : Nat, (q : Int) < (d 0 13).toInt → (B9 d dl x1 q ↔ B10 d1 x1 q) := fun q hq => (b9_b10 h hq).trans (B10_k e232 (p1.2.1 211 5 rfl) e239 e234 e220 e222).symm
  have hR : (d 0 13).toNatClampNeg = (d 0 13).toInt.toNat := rfl
  unfold RaceP10 at q2
  rw [e3, e6] at q2
  rcases q1 with ⟨o1, a1, a2⟩ | ⟨o1, g1, a1, a2⟩ | ⟨o1, g1, f1, a1, a2⟩ | ⟨o1, g1, f1, q, hq, bq, nq, a1, a2⟩ | ⟨o1, g1, f1, nq, a1, a2⟩
  · rcases q2 with ⟨o2, b1, b2⟩ | ⟨o2, _⟩ | ⟨o2, _⟩ | ⟨o2, _⟩ | ⟨o2, _⟩
    · subst a2; subst b2
      exact ⟨h.u_race p1 p2 h.c9 h.c10 h.c11 h.c12, by rw [a1, b1]⟩
    all_goals exact absurd o2 o1
  · rcases q2 with ⟨o2, _⟩ | ⟨o2, g2, b1, b2⟩ | ⟨o2, g2, _⟩ | ⟨o2, g2, _⟩ | ⟨o2, g2, _⟩
    · exact absurd o1 o2
    · subst a2; subst b2
      exact ⟨h.u_race p1 p2 h.c9 h.c10 h.c11 h.c12, by rw [a1, b1]⟩
    all_goals exact absurd g2 g1
  · rcases q2 with ⟨o2, _⟩ | ⟨o2, g2, _⟩ | ⟨o2, g2, f2, b1, b2⟩ | ⟨o2, g2, f2, _⟩ | ⟨o2, g2, f2, _⟩
    · exact absurd o1 o2
    · exact absurd g1 g2
    · subst a2; subst b2
      exact ⟨h.u_race p1 p2 h.c9 h.c10 h.c11 h.c12, by rw [a1, b1]⟩
    all_goals exact absurd f2 f1
  · rcases q2 with ⟨o2, _⟩ | ⟨o2, g2, _⟩ | ⟨o2, g2, f2, _⟩ | ⟨o2, g2, f2, q9, hq2, bq2, nq2, b1, b2⟩ | ⟨o2, g2, f2, nq2, _⟩
    · exact absurd o1 o2
    · exact absurd g1 g2
    · exact absurd f1 f2
    · subst b2
      have hqq : q = q9 := by
        rcases Nat.lt_trichotomy q q9 with w | w | w
        · exact absurd ((hb q hq).mp bq) (nq2 q w)
        · exact w
        · exact absurd ((hb q9 hq2).mpr bq2) (nq q9 w)
      refine ⟨h.u_race p1 p2 (h.c9.k (fun l => a2 28 l (by omega) (by omega)) (fun l => a2 239 l (by omega) (by omega))) (h.c10.k (fun l => a2 28 l (by omega) (by omega)) (a2 211 6 (by omega) (by omega))) (h.c11.k (a2 0 13 (by omega) (by omega)) (a2 211 3 (by omega) (by omega))) (fun r hr w => ?_), ?_⟩
      · rw [a2 0 13 (by omega) (by omega)] at w
        have c := h.c12 r hr w
        rw [a2 (91 + 5 * r) 0 (by omega) (by omega), a2 (91 + 5 * r) 1 (by omega) (by omega), a2 232 r (by omega) (by omega), a2 233 r (by omega) (by omega)]
        exact ⟨c.1, c.2.1, fun l hl => by rw [a2 (92 + 5 * r) l (by omega) (by omega), a2 234 _ (by omega) (by omega)]; exact c.2.2 l hl⟩
      · exact Int32.toInt_inj.mp (by rw [a1, b1, hqq])
    · exact absurd ((hb q hq).mp bq) (nq2 q hq)
  · rcases q2 with ⟨o2, _⟩ | ⟨o2, g2, _⟩ | ⟨o2, g2, f2, _⟩ | ⟨o2, g2, f2, q9, hq2, bq2, nq2, b1, b2⟩ | ⟨o2, g2, f2, nq2, b1, b2⟩
    · exact absurd o1 o2
    · exact absurd g1 g2
    · exact absurd f1 f2
    · exact absurd ((hb q9 hq2).mpr bq2) (nq q9 hq2)
    obtain ⟨s1, s2, s3, s4, s5, s6⟩ := a2
    obtain ⟨t1, t2, t3, t4, t5, t6, t7, t8⟩ := b2
    generalize hRR : (d 0 13).toNatClampNeg = R at *
    have hR24 : R < 24 := by omega
    have k28 : ∀ l, d2 28 l = d1 28 l := fun l => p2.2.1 28 l rfl
    have k13 : d2 0 13 = d1 0 13 := p2.2.1 0 13 rfl
    refine ⟨h.u_race p1 p2 (fun l hl => by rw [k28, s4 l hl, t6 l hl]) ?_ ?_ (fun r hr w => ?_), Int32.toInt_inj.mp (by rw [a1, b1])⟩
    · show (d2 211 6).toInt = cnt d2
      rw [cnt_k k28, t8]
      unfold cnt
      rw [s4 0 (by omega), s4 1 (by omega), s4 2 (by omega), s4 3 (by omega)]
      decide
    · show d2 0 13 = d2 211 3
      rw [e3] at t7
      rw [k13]
      exact Int32.toInt_inj.mp (by omega)
    · rw [k13] at w
      rw [p2.2.1 (91 + 5 * r) 0 (by rw [rg_91 hr]; rfl), p2.2.1 (91 + 5 * r) 1 (by rw [rg_91 hr]; rfl)]
      have k92 : ∀ l, d2 (92 + 5 * r) l = d1 (92 + 5 * r) l := fun l => p2.2.1 (92 + 5 * r) l (by rw [rg_92 hr]; rfl)
      by_cases hrR : r = R
      · subst hrR
        exact ⟨by rw [s1, t1], by rw [s2, t2], fun l hl => by rw [k92, s3 l hl, t4 l hl, e239]; exact h.c9 l hl⟩
      · have c := h.c12 r hr (by omega)
        rw [s6 (91 + 5 * r) 0 (by omega) (by omega) (by omega) (Or.inl (by omega)), s6 (91 + 5 * r) 1 (by omega) (by omega) (by omega) (Or.inl (by omega)), (t3 r hrR).1, (t3 r hrR).2, e232, e233]
        exact ⟨c.1, c.2.1, fun l hl => by rw [k92, s6 (92 + 5 * r) l (by omega) (by omega) (by omega) (Or.inl (by omega)), t5 _ (by omega), e234]; exact c.2.2 l hl⟩
