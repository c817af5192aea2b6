def TK (U : State) (c : ClassId) (ty : FieldType) : Prop := ArrOfT U c ty ∧ va_RA U c ty
theorem P_mem {D : va_G} {cl : List vw_C} {ws ws2 : va_W} {H : Heap} (h : va_P D cl ws H) (hm : ∀ q ∈ ws2, q ∈ ws) : va_P D cl ws2 H := by
  intro k q hk
  obtain ⟨j, hj⟩ := List.mem_iff_getElem?.mp (hm q (List.mem_of_getElem? hk))
  exact h j q hj
theorem D_nodup {A : Nat → Prop} {ws : va_W} (h : va_D A ws) : (ws.map Prod.fst).Nodup := by
  rw [List.nodup_iff_pairwise_ne, List.pairwise_iff_getElem]
  intro i j hi hj hij he
  rw [List.length_map] at hi hj
  rw [List.getElem_map, List.getElem_map] at he
  have := h.1 i j ws[i] ws[j] (List.getElem?_eq_getElem hi) (List.getElem?_eq_getElem hj) he
  omega
theorem nodup_D {A : Nat → Prop} {ws : va_W} (h : (ws.map Prod.fst).Nodup) (hA : ∀ q ∈ ws, A q.1) : va_D A ws := by
  refine ⟨fun i j p q hi hj e => ?_, fun k q hk => hA q (List.mem_of_getElem? hk)⟩
  rw [List.nodup_iff_pairwise_ne, List.pairwise_iff_getElem] at h
  obtain ⟨hi1, hi2⟩ := List.getElem?_eq_some_iff.mp hi
  obtain ⟨hj1, hj2⟩ := List.getElem?_eq_some_iff.mp hj
  rcases Nat.lt_trichotomy i j with hl | hl | hl
  · exact absurd (by rw [List.getElem_map, List.getElem_map, hi2, hj2]; exact e) (h i j (by rw [List.length_map]; exact hi1) (by rw [List.length_map]; exact hj1) hl)
  · exact hl
  · exact absurd (by rw [List.getElem_map, List.getElem_map, hi2, hj2]; exact e.symm) (h j i (by rw [List.length_map]; exact hj1) (by rw [List.length_map]; exact hi1) hl)
theorem D_perm {A : Nat → Prop} {ws ws2 : va_W} (h : va_D A ws) (hp : ws2.Perm ws) : va_D A ws2 := by
  refine nodup_D ((hp.map Prod.fst).nodup_iff.mpr (D_nodup h)) (fun q hq => ?_)
  obtain ⟨j, hj⟩ := List.mem_iff_getElem?.mp (hp.mem_iff.mp hq)
  exact h.2 j q hj
theorem P_perm {D : va_G} {cl : List vw_C} {ws ws2 : va_W} {H : Heap} (h : va_P D cl ws H) (hp : ws2.Perm ws) : va_P D cl ws2 H := P_mem h (fun q hq => hp.mem_iff.mp hq)
theorem K_tk {D : va_G} {cl : List vw_C} {tys : List (ClassId × FieldType)} {U : State} (h : va_K D cl tys U) (k : Nat) {c : ClassId} {ty : FieldType} (hk : tys[k]? = some (c, ty)) : TK U c ty := h.2 k (c, ty) hk
theorem K_of {D : va_G} {cl : List vw_C} {tys tys2 : List (ClassId × FieldType)} {U : State} (h : va_K D cl tys U) (h2 : ∀ q ∈ tys2, TK U q.1 q.2) : va_K D cl tys2 U := ⟨h.1, fun k q hk => h2 q (List.mem_of_getElem? hk)⟩
def fam_crew : Nat → (Nat → Nat) → (Nat → ClassId) → va_W
  | 0, _, _ => []
  | k + 1, a, ca => fam_crew k a ca ++ [(a (37 + 3 * k), .inr (1, [.int 2, .int 0, .int 4, .int 0, .ref (a (38 + 3 * k)), .long 0, .int 0, .ref (a (39 + 3 * k))])), (a (38 + 3 * k), .inl (ca (38 + 3 * k), 8, .inl (fun _ => 0))), (a (39 + 3 * k), .inl (ca (39 + 3 * k), 8, .inl (fun _ => 0)))]
theorem fam_crew_eq : ∀ (k : Nat) (a a2 : Nat → Nat) (ca ca2 : Nat → ClassId), (∀ i, 37 ≤ i → i < 37 + 3 * k → a i = a2 i ∧ ca i = ca2 i) → fam_crew k a ca = fam_crew k a2 ca2 := by
  intro k
  induction k with
  | zero => intros; rfl
  | succ k ih =>
    intro a a2 ca ca2 h
    rw [fam_crew, fam_crew, ih a a2 ca ca2 (fun i h1 h2 => h i h1 (by omega))]
    rw [(h (37 + 3 * k) (by omega) (by omega)).1, (h (38 + 3 * k) (by omega) (by omega)).1, (h (39 + 3 * k) (by omega) (by omega)).1, (h (38 + 3 * k) (by omega) (by omega)).2, (h (39 + 3 * k) (by omega) (by omega)).2]
def row_crew (a : Nat → Nat) (k : Nat) : Nat → Option Nat := fun j => if j < k then some (a (37 + 3 * j)) else none
set_option maxHeartbeats 4000000 in
set_option maxRecDepth 100000 in
theorem lp_crew {p : Program} {l : Launch} {e : Env} {R : Room} {s : State} {m : MethodId} {args : Array Value} {below : List Frame} {meth : Method} {c : Code} {Q : State → Prop} {dC : Nat → ClassId} {dI : Nat → Nat → Nat} {A : Nat → Prop} {h0 aBa aCo aCr aCu aFi aRa aRo aRu aSe aTa aTl aWa : Nat} {caCr : ClassId} {PL : va_W} (hx : p.tables.exec = Jvm.exec) (hb : c.code = cX9_init) (hml : c.maxLocals = 2) (hown : s.vm.findClass RX9 = some m.cls) (hts : ∀ w ∈ GW, w.before args s = true) (hA : ∀ q : Nat, s.heap.size ≤ q → A q) (hNX9_11 : va_Nw (.methodLinkNest RX9 11 yX4_init RX9) s) (hNX9_30 : va_Nw (.methodLinkNest RX9 30 yX8_init RX9) s) (hNX9_37 : va_Nw (.methodLinkNest RX9 37 yX6_init RX9) s) (hNX9_44 : va_Nw (.methodLinkNest RX9 44 yX7_init RX9) s) (hNX9_82 : va_Nw (.methodLinkNest RX9 82 yX0_init RX9) s) (hNX9_89 : va_Nw (.methodLinkNest RX9 89 yX2_init RX9) s) (hNX9_94 : va_Nw (.methodLinkNest RX9 94 yX1_init RX9) s) (hNX9_95 : va_Nw (.methodLinkNest RX9 95 yX5_init RX9) s) (hNX9_96 : va_Nw (.methodLinkNest RX9 96 yX3_init RX9) s) (hAOX1 : va_AO RX1 s) (hAOX5 : va_AO RX5 s) (hAOX3 : va_AO RX3 s) (hfr : 2 ≤ R.frames) (hlo : 32 ≤ R.locals) (hK : va_K (dC, dI) vwCl [(caCr, .object RX1)] s) :
    ∀ (r k : Nat) (a : Nat → Nat) (ca : Nat → ClassId) (nc ns : Nat) (H : Heap) (locs : List Loc) (ls : Array Slot), k + r = 6 → nc + 3 * r ≤ R.cells → ns + 24 * r ≤ R.slots → (∀ i, 37 ≤ i → i < 37 + 3 * k → 11 ≤ kd i → TK s (ca i) (ety i)) → va_P (dC, dI) vwCl ([(h0, .inr (9, [.ref aRo, .ref aCr, .int 0, .ref aBa, .ref aSe, .ref aTa, .ref aRu, .int 0, .ref aTl, .int 10, .ref aWa, .ref aCu, .ref aRa, .int 0, .ref aCo, .ref aFi])), (aCr, .inl (caCr, 6, .inr (.inr (.inr (.inr (row_crew a k))))))] ++ (fam_crew k a ca ++ PL)) H → va_D A ([(h0, .inr (9, [.ref aRo, .ref aCr, .int 0, .ref aBa, .ref aSe, .ref aTa, .ref aRu, .int 0, .ref aTl, .int 10, .ref aWa, .ref aCu, .ref aRa, .int 0, .ref aCo, .ref aFi])), (aCr, .inl (caCr, 6, .inr (.inr (.inr (.inr (row_crew a k))))))] ++ (fam_crew k a ca ++ PL)) → va_S A s.heap H locs → lv_has ls 2 [(1, .int (nI k)), (0, .ref h0)] →
    (∀ (a2 : Nat → Nat) (ca2 : Nat → ClassId) (H : Heap) (locs : List Loc) (ls : Array Slot), (∀ i, i < 37 + 3 * k → a2 i = a i ∧ ca2 i = ca i) → (∀ i, 37 ≤ i → i < 55 → 11 ≤ kd i → TK s (ca2 i) (ety i)) → va_P (dC, dI) vwCl ([(h0, .inr (9, [.ref aRo, .ref aCr, .int 0, .ref aBa, .ref aSe, .ref aTa, .ref aRu, .int 0, .ref aTl, .int 10, .ref aWa, .ref aCu, .ref aRa, .int 0, .ref aCo, .ref aFi])), (aCr, .inl (caCr, 6, .inr (.inr (.inr (.inr (row_crew a2 6))))))] ++ (fam_crew 6 a2 ca2 ++ PL)) H → va_D A ([(h0, .inr (9, [.ref aRo, .ref aCr, .int 0, .ref aBa, .ref aSe, .ref aTa, .ref aRu, .int 0, .ref aTl, .int 10, .ref aWa, .ref aCu, .ref aRa, .int 0, .ref aCo, .ref aFi])), (aCr, .inl (caCr, 6, .inr (.inr (.inr (.inr (row_crew a2 6))))))] ++ (fam_crew 6 a2 ca2 ++ PL)) → va_S A s.heap H locs → lv_has ls 2 [(1, .int 6), (0, .ref h0)] → W p l e R s m args below meth c H locs (nc + 3 * r) (ns + 24 * r) Q (F0 m 158 ls [])) →
    W p l e R s m args below meth c H locs nc ns Q (F0 m 158 ls []) := by
  intro r
  induction r with
  | zero =>
    intro k a ca nc ns H locs ls hk _ _ hT hP hD hS hl kk
    obtain rfl : k = 6 := by omega
    exact kk a ca H locs ls (fun _ _ => ⟨rfl, rfl⟩) hT hP hD hS hl
  | succ r ih =>
    intro k a ca nc ns H locs ls hk hc hs hT hP hD hS hl kk
    have hkn : (nI k).toInt = (k : Int) := nI_toInt (by omega)
    have hkc : (nI k).toNatClampNeg = k := nI_clamp (by omega)
    refine it_crew hx hb hml hown hts hA hNX9_11 hNX9_30 hNX9_37 hNX9_44 hNX9_82 hNX9_89 hNX9_94 hNX9_95 hNX9_96 hAOX1 hAOX5 hAOX3 (by rw [hkn]; omega) (by rw [hkn]; omega) (by omega) (by omega) hfr hlo hK hP hD hS hl (fun q2 q3 q4 c5 c6 H locs ls hK2 hP hD hS hl => ?_)
    rw [hkc] at hP hD
    obtain ⟨a2, ha2⟩ : ∃ a2 : Nat → Nat, a2 = fun i => if i = 37 + 3 * k then q2 else if i = 38 + 3 * k then q3 else if i = 39 + 3 * k then q4 else a i := ⟨_, rfl⟩
    obtain ⟨ca2, hca2⟩ : ∃ ca2 : Nat → ClassId, ca2 = fun i => if i = 38 + 3 * k then c5 else if i = 39 + 3 * k then c6 else ca i := ⟨_, rfl⟩
    have hag : ∀ i, i < 37 + 3 * k → a2 i = a i ∧ ca2 i = ca i := by
      intro i hi
      rw [ha2, hca2]
      refine ⟨?_, ?_⟩
      · show (if i = 37 + 3 * k then q2 else if i = 38 + 3 * k then q3 else if i = 39 + 3 * k then q4 else a i) = a i
        rw [if_neg (by omega), if_neg (by omega), if_neg (by omega)]
      · show (if i = 38 + 3 * k then c5 else if i = 39 + 3 * k then c6 else ca i) = ca i
        rw [if_neg (by omega), if_neg (by omega)]
    have e_0 : a2 (37 + 3 * k) = q2 := by
      rw [ha2]
      show (if (37 + 3 * k) = 37 + 3 * k then q2 else if (37 + 3 * k) = 38 + 3 * k then q3 else if (37 + 3 * k) = 39 + 3 * k then q4 else a (37 + 3 * k)) = _
      rw [if_pos rfl]
    have e_1 : a2 (38 + 3 * k) = q3 := by
      rw [ha2]
      show (if (38 + 3 * k) = 37 + 3 * k then q2 else if (38 + 3 * k) = 38 + 3 * k then q3 else if (38 + 3 * k) = 39 + 3 * k then q4 else a (38 + 3 * k)) = _
      rw [if_neg (by omega), if_pos rfl]
    have e_2 : a2 (39 + 3 * k) = q4 := by
      rw [ha2]
      show (if (39 + 3 * k) = 37 + 3 * k then q2 else if (39 + 3 * k) = 38 + 3 * k then q3 else if (39 + 3 * k) = 39 + 3 * k then q4 else a (39 + 3 * k)) = _
      rw [if_neg (by omega), if_neg (by omega), if_pos rfl]
    have g_1 : ca2 (38 + 3 * k) = c5 := by
      rw [hca2]
      show (if (38 + 3 * k) = 38 + 3 * k then c5 else if (38 + 3 * k) = 39 + 3 * k then c6 else ca (38 + 3 * k)) = _
      rw [if_pos rfl]
    have g_2 : ca2 (39 + 3 * k) = c6 := by
      rw [hca2]
      show (if (39 + 3 * k) = 38 + 3 * k then c5 else if (39 + 3 * k) = 39 + 3 * k then c6 else ca (39 + 3 * k)) = _
      rw [if_neg (by omega), if_pos rfl]
    have hrow : va_up (row_crew a k) k (some q2) = row_crew a2 (k + 1) := by
      funext j
      by_cases hj : j = k
      · subst hj
        rw [va_up_self, row_crew, if_pos (by omega), e_0]
      · rw [va_up_ne _ _ hj, row_crew, row_crew]
        by_cases hjk : j < k
        · rw [if_pos hjk, if_pos (by omega), (hag (37 + 3 * j) (by omega)).1]
        · rw [if_neg hjk, if_neg (by omega)]
    have hfam : fam_crew k a ca = fam_crew k a2 ca2 := fam_crew_eq k a a2 ca ca2 (fun i _ h2 => ⟨(hag i h2).1.symm, (hag i h2).2.symm⟩)
    have hperm : (([(h0, .inr (9, [.ref aRo, .ref aCr, .int 0, .ref aBa, .ref aSe, .ref aTa, .ref aRu, .int 0, .ref aTl, .int 10, .ref aWa, .ref aCu, .ref aRa, .int 0, .ref aCo, .ref aFi])), (aCr, .inl (caCr, 6, .inr (.inr (.inr (.inr (row_crew a2 (k + 1)))))))] ++ (fam_crew (k + 1) a2 ca2 ++ PL)) : va_W).Perm ([(h0, .inr (9, [.ref aRo, .ref aCr, .int 0, .ref aBa, .ref aSe, .ref aTa, .ref aRu, .int 0, .ref aTl, .int 10, .ref aWa, .ref aCu, .ref aRa, .int 0, .ref aCo, .ref aFi])), (aCr, .inl (caCr, 6, .inr (.inr (.inr (.inr (va_up (row_crew a k) k (some q2))))))), (q2, .inr (1, [.int 2, .int 0, .int 4, .int 0, .ref q3, .long 0, .int 0, .ref q4])), (q3, .inl (c5, 8, .inl (fun _ => 0))), (q4, .inl (c6, 8, .inl (fun _ => 0)))] ++ (fam_crew k a ca ++ PL)) := by
      rw [hrow, hfam, fam_crew, e_0, e_1, e_2, g_1, g_2]
      refine List.Perm.cons _ (List.Perm.cons _ ?_)
      rw [List.append_assoc]
      exact List.perm_append_comm_assoc (fam_crew k a2 ca2) [(q2, .inr (1, [.int 2, .int 0, .int 4, .int 0, .ref q3, .long 0, .int 0, .ref q4])), (q3, .inl (c5, 8, .inl (fun _ => 0))), (q4, .inl (c6, 8, .inl (fun _ => 0)))] PL
    refine ih (k + 1) a2 ca2 (nc + 3) (ns + 24) H locs ls (by omega) (by omega) (by omega) ?_ (P_perm hP hperm) (D_perm hD hperm) hS (by rw [nI_succ]; exact hl) (fun a3 ca3 H locs ls h1 h2 h3 h4 h5 h6 => ?_)
    · intro i h1 h2 h3
      by_cases hi : i < 37 + 3 * k
      · rw [(hag i hi).2]
        exact hT i h1 hi h3
      · rcases (show i = 37 + 3 * k ∨ i = 38 + 3 * k ∨ i = 39 + 3 * k by omega) with rfl | rfl | rfl
        · exact absurd h3 (by rw [(kd_crew_0 k (by omega)).1]; decide)
        · rw [g_1]
          have := K_tk hK2 1 rfl
          rw [show ety (38 + 3 * k) = .int by rw [ety, (kd_crew_1 k (by omega)).1]; rfl]
          exact this
        · rw [g_2]
          have := K_tk hK2 2 rfl
          rw [show ety (39 + 3 * k) = .int by rw [ety, (kd_crew_2 k (by omega)).1]; rfl]
          exact this
    · have := kk a3 ca3 H locs ls (fun i hi => ⟨(h1 i (by omega)).1.trans (hag i hi).1, (h1 i (by omega)).2.trans (hag i hi).2⟩) h2 h3 h4 h5 h6
      rw [show nc + 3 * (r + 1) = nc + 3 + 3 * r by omega, show ns + 24 * (r + 1) = ns + 24 + 24 * r by omega] at this
      exact this
def fam_rule : Nat → (Nat → Nat) → (Nat → ClassId) → va_W
  | 0, _, _ => []
  | k + 1, a, ca => fam_rule k a ca ++ [(a (55 + 6 * k), .inr (5, [.int 0, .ref (a (56 + 6 * k)), .ref (a (57 + 6 * k)), .ref (a (58 + 6 * k)), .ref (a (59 + 6 * k)), .ref (a (60 + 6 * k))])), (a (56 + 6 * k), .inl (ca (56 + 6 * k), 8, .inl (fun _ => 0))), (a (57 + 6 * k), .inl (ca (57 + 6 * k), 8, .inl (fun _ => 0))), (a (58 + 6 * k), .inl (ca (58 + 6 * k), 8, .inl (fun _ => 0))), (a (59 + 6 * k), .inl (ca (59 + 6 * k), 8, .inl (fun _ => 0))), (a (60 + 6 * k), .inl (ca (60 + 6 * k), 8, .inl (fun _ => 0)))]
theorem fam_rule_eq : ∀ (k : Nat) (a a2 : Nat → Nat) (ca ca2 : Nat → ClassId), (∀ i, 55 ≤ i → i < 55 + 6 * k → a i = a2 i ∧ ca i = ca2 i) → fam_rule k a ca = fam_rule k a2 ca2 := by
  intro k
  induction k with
  | zero => intros; rfl
  | succ k ih =>
    intro a a2 ca ca2 h
    rw [fam_rule, fam_rule, ih a a2 ca ca2 (fun i h1 h2 => h i h1 (by omega))]
    rw [(h (55 + 6 * k) (by omega) (by omega)).1, (h (56 + 6 * k) (by omega) (by omega)).1, (h (57 + 6 * k) (by omega) (by omega)).1, (h (58 + 6 * k) (by omega) (by omega)).1, (h (59 + 6 * k) (by omega) (by omega)).1, (h (60 + 6 * k) (by omega) (by omega)).1, (h (56 + 6 * k) (by omega) (by omega)).2, (h (57 + 6 * k) (by omega) (by omega)).2, (h (58 + 6 * k) (by omega) (by omega)).2, (h (59 + 6 * k) (by omega) (by omega)).2, (h (60 + 6 * k) (by omega) (by omega)).2]
def row_rule (a : Nat → Nat) (k : Nat) : Nat → Option Nat := fun j => if j < k then some (a (55 + 6 * j)) else none
set_option maxHeartbeats 4000000 in
set_option maxRecDepth 100000 in
theorem lp_rule {p : Program} {l : Launch} {e : Env} {R : Room} {s : State} {m : MethodId} {args : Array Value} {below : List Frame} {meth : Method} {c : Code} {Q : State → Prop} {dC : Nat → ClassId} {dI : Nat → Nat → Nat} {A : Nat → Prop} {h0 aBa aCo aCr aCu aFi aRa aRo aRu aSe aTa aTl aWa : Nat} {caRu : ClassId} {PL : va_W} (hx : p.tables.exec = Jvm.exec) (hb : c.code = cX9_init) (hml : c.maxLocals = 2) (hown : s.vm.findClass RX9 = some m.cls) (hts : ∀ w ∈ GW, w.before args s = true) (hA : ∀ q : Nat, s.heap.size ≤ q → A q) (hNX9_11 : va_Nw (.methodLinkNest RX9 11 yX4_init RX9) s) (hNX9_30 : va_Nw (.methodLinkNest RX9 30 yX8_init RX9) s) (hNX9_37 : va_Nw (.methodLinkNest RX9 37 yX6_init RX9) s) (hNX9_44 : va_Nw (.methodLinkNest RX9 44 yX7_init RX9) s) (hNX9_82 : va_Nw (.methodLinkNest RX9 82 yX0_init RX9) s) (hNX9_89 : va_Nw (.methodLinkNest RX9 89 yX2_init RX9) s) (hNX9_94 : va_Nw (.methodLinkNest RX9 94 yX1_init RX9) s) (hNX9_95 : va_Nw (.methodLinkNest RX9 95 yX5_init RX9) s) (hNX9_96 : va_Nw (.methodLinkNest RX9 96 yX3_init RX9) s) (hAOX1 : va_AO RX1 s) (hAOX5 : va_AO RX5 s) (hAOX3 : va_AO RX3 s) (hfr : 2 ≤ R.frames) (hlo : 32 ≤ R.locals) (hK : va_K (dC, dI) vwCl [(caRu, .object RX5)] s) :
    ∀ (r k : Nat) (a : Nat → Nat) (ca : Nat → ClassId) (nc ns : Nat) (H : Heap) (locs : List Loc) (ls : Array Slot), k + r = 6 → nc + 6 * r ≤ R.cells → ns + 46 * r ≤ R.slots → (∀ i, 55 ≤ i → i < 55 + 6 * k → 11 ≤ kd i → TK s (ca i) (ety i)) → va_P (dC, dI) vwCl ([(h0, .inr (9, [.ref aRo, .ref aCr, .int 0, .ref aBa, .ref aSe, .ref aTa, .ref aRu, .int 0, .ref aTl, .int 10, .ref aWa, .ref aCu, .ref aRa, .int 0, .ref aCo, .ref aFi])), (aRu, .inl (caRu, 6, .inr (.inr (.inr (.inr (row_rule a k))))))] ++ (fam_rule k a ca ++ PL)) H → va_D A ([(h0, .inr (9, [.ref aRo, .ref aCr, .int 0, .ref aBa, .ref aSe, .ref aTa, .ref aRu, .int 0, .ref aTl, .int 10, .ref aWa, .ref aCu, .ref aRa, .int 0, .ref aCo, .ref aFi])), (aRu, .inl (caRu, 6, .inr (.inr (.inr (.inr (row_rule a k))))))] ++ (fam_rule k a ca ++ PL)) → va_S A s.heap H locs → lv_has ls 2 [(1, .int (nI k)), (0, .ref h0)] →
    (∀ (a2 : Nat → Nat) (ca2 : Nat → ClassId) (H : Heap) (locs : List Loc) (ls : Array Slot), (∀ i, i < 55 + 6 * k → a2 i = a i ∧ ca2 i = ca i) → (∀ i, 55 ≤ i → i < 91 → 11 ≤ kd i → TK s (ca2 i) (ety i)) → va_P (dC, dI) vwCl ([(h0, .inr (9, [.ref aRo, .ref aCr, .int 0, .ref aBa, .ref aSe, .ref aTa, .ref aRu, .int 0, .ref aTl, .int 10, .ref aWa, .ref aCu, .ref aRa, .int 0, .ref aCo, .ref aFi])), (aRu, .inl (caRu, 6, .inr (.inr (.inr (.inr (row_rule a2 6))))))] ++ (fam_rule 6 a2 ca2 ++ PL)) H → va_D A ([(h0, .inr (9, [.ref aRo, .ref aCr, .int 0, .ref aBa, .ref aSe, .ref aTa, .ref aRu, .int 0, .ref aTl, .int 10, .ref aWa, .ref aCu, .ref aRa, .int 0, .ref aCo, .ref aFi])), (aRu, .inl (caRu, 6, .inr (.inr (.inr (.inr (row_rule a2 6))))))] ++ (fam_rule 6 a2 ca2 ++ PL)) → va_S A s.heap H locs → lv_has ls 2 [(1, .int 6), (0, .ref h0)] → W p l e R s m args below meth c H locs (nc + 6 * r) (ns + 46 * r) Q (F0 m 185 ls [])) →
    W p l e R s m args below meth c H locs nc ns Q (F0 m 185 ls []) := by
  intro r
  induction r with
  | zero =>
    intro k a ca nc ns H locs ls hk _ _ hT hP hD hS hl kk
    obtain rfl : k = 6 := by omega
    exact kk a ca H locs ls (fun _ _ => ⟨rfl, rfl⟩) hT hP hD hS hl
  | succ r ih =>
    intro k a ca nc ns H locs ls hk hc hs hT hP hD hS hl kk
    have hkn : (nI k).toInt = (k : Int) := nI_toInt (by omega)
    have hkc : (nI k).toNatClampNeg = k := nI_clamp (by omega)
    refine it_rule hx hb hml hown hts hA hNX9_11 hNX9_30 hNX9_37 hNX9_44 hNX9_82 hNX9_89 hNX9_94 hNX9_95 hNX9_96 hAOX1 hAOX5 hAOX3 (by rw [hkn]; omega) (by rw [hkn]; omega) (by omega) (by omega) hfr hlo hK hP hD hS hl (fun q2 q3 q4 q5 q6 q7 c8 c9 c10 c11 c12 H locs ls hK2 hP hD hS hl => ?_)
    rw [hkc] at hP hD
    obtain ⟨a2, ha2⟩ : ∃ a2 : Nat → Nat, a2 = fun i => if i = 55 + 6 * k then q2 else if i = 56 + 6 * k then q3 else if i = 57 + 6 * k then q4 else if i = 58 + 6 * k then q5 else if i = 59 + 6 * k then q6 else if i = 60 + 6 * k then q7 else a i := ⟨_, rfl⟩
    obtain ⟨ca2, hca2⟩ : ∃ ca2 : Nat → ClassId, ca2 = fun i => if i = 56 + 6 * k then c8 else if i = 57 + 6 * k then c9 else if i = 58 + 6 * k then c10 else if i = 59 + 6 * k then c11 else if i = 60 + 6 * k then c12 else ca i := ⟨_, rfl⟩
    have hag : ∀ i, i < 55 + 6 * k → a2 i = a i ∧ ca2 i = ca i := by
      intro i hi
      rw [ha2, hca2]
      refine ⟨?_, ?_⟩
      · show (if i = 55 + 6 * k then q2 else if i = 56 + 6 * k then q3 else if i = 57 + 6 * k then q4 else if i = 58 + 6 * k then q5 else if i = 59 + 6 * k then q6 else if i = 60 + 6 * k then q7 else a i) = a i
        rw [if_neg (by omega), if_neg (by omega), if_neg (by omega), if_neg (by omega), if_neg (by omega), if_neg (by omega)]
      · show (if i = 56 + 6 * k then c8 else if i = 57 + 6 * k then c9 else if i = 58 + 6 * k then c10 else if i = 59 + 6 * k then c11 else if i = 60 + 6 * k then c12 else ca i) = ca i
        rw [if_neg (by omega), if_neg (by omega), if_neg (by omega), if_neg (by omega), if_neg (by omega)]
    have e_0 : a2 (55 + 6 * k) = q2 := by
      rw [ha2]
      show (if (55 + 6 * k) = 55 + 6 * k then q2 else if (55 + 6 * k) = 56 + 6 * k then q3 else if (55 + 6 * k) = 57 + 6 * k then q4 else if (55 + 6 * k) = 58 + 6 * k then q5 else if (55 + 6 * k) = 59 + 6 * k then q6 else if (55 + 6 * k) = 60 + 6 * k then q7 else a (55 + 6 * k)) = _
      rw [if_pos rfl]
    have e_1 : a2 (56 + 6 * k) = q3 := by
      rw [ha2]
      show (if (56 + 6 * k) = 55 + 6 * k then q2 else if (56 + 6 * k) = 56 + 6 * k then q3 else if (56 + 6 * k) = 57 + 6 * k then q4 else if (56 + 6 * k) = 58 + 6 * k then q5 else if (56 + 6 * k) = 59 + 6 * k then q6 else if (56 + 6 * k) = 60 + 6 * k then q7 else a (56 + 6 * k)) = _
      rw [if_neg (by omega), if_pos rfl]
    have e_2 : a2 (57 + 6 * k) = q4 := by
      rw [ha2]
      show (if (57 + 6 * k) = 55 + 6 * k then q2 else if (57 + 6 * k) = 56 + 6 * k then q3 else if (57 + 6 * k) = 57 + 6 * k then q4 else if (57 + 6 * k) = 58 + 6 * k then q5 else if (57 + 6 * k) = 59 + 6 * k then q6 else if (57 + 6 * k) = 60 + 6 * k then q7 else a (57 + 6 * k)) = _
      rw [if_neg (by omega), if_neg (by omega), if_pos rfl]
    have e_3 : a2 (58 + 6 * k) = q5 := by
      rw [ha2]
      show (if (58 + 6 * k) = 55 + 6 * k then q2 else if (58 + 6 * k) = 56 + 6 * k then q3 else if (58 + 6 * k) = 57 + 6 * k then q4 else if (58 + 6 * k) = 58 + 6 * k then q5 else if (58 + 6 * k) = 59 + 6 * k then q6 else if (58 + 6 * k) = 60 + 6 * k then q7 else a (58 + 6 * k)) = _
      rw [if_neg (by omega), if_neg (by omega), if_neg (by omega), if_pos rfl]
    have e_4 : a2 (59 + 6 * k) = q6 := by
      rw [ha2]
      show (if (59 + 6 * k) = 55 + 6 * k then q2 else if (59 + 6 * k) = 56 + 6 * k then q3 else if (59 + 6 * k) = 57 + 6 * k then q4 else if (59 + 6 * k) = 58 + 6 * k then q5 else if (59 + 6 * k) = 59 + 6 * k then q6 else if (59 + 6 * k) = 60 + 6 * k then q7 else a (59 + 6 * k)) = _
      rw [if_neg (by omega), if_neg (by omega), if_neg (by omega), if_neg (by omega), if_pos rfl]
    have e_5 : a2 (60 + 6 * k) = q7 := by
      rw [ha2]
      show (if (60 + 6 * k) = 55 + 6 * k then q2 else if (60 + 6 * k) = 56 + 6 * k then q3 else if (60 + 6 * k) = 57 + 6 * k then q4 else if (60 + 6 * k) = 58 + 6 * k then q5 else if (60 + 6 * k) = 59 + 6 * k then q6 else if (60 + 6 * k) = 60 + 6 * k then q7 else a (60 + 6 * k)) = _
      rw [if_neg (by omega), if_neg (by omega), if_neg (by omega), if_neg (by omega), if_neg (by omega), if_pos rfl]
    have g_1 : ca2 (56 + 6 * k) = c8 := by
      rw [hca2]
      show (if (56 + 6 * k) = 56 + 6 * k then c8 else if (56 + 6 * k) = 57 + 6 * k then c9 else if (56 + 6 * k) = 58 + 6 * k then c10 else if (56 + 6 * k) = 59 + 6 * k then c11 else if (56 + 6 * k) = 60 + 6 * k then c12 else ca (56 + 6 * k)) = _
      rw [if_pos rfl]
    have g_2 : ca2 (57 + 6 * k) = c9 := by
      rw [hca2]
      show (if (57 + 6 * k) = 56 + 6 * k then c8 else if (57 + 6 * k) = 57 + 6 * k then c9 else if (57 + 6 * k) = 58 + 6 * k then c10 else if (57 + 6 * k) = 59 + 6 * k then c11 else if (57 + 6 * k) = 60 + 6 * k then c12 else ca (57 + 6 * k)) = _
      rw [if_neg (by omega), if_pos rfl]
    have g_3 : ca2 (58 + 6 * k) = c10 := by
      rw [hca2]
      show (if (58 + 6 * k) = 56 + 6 * k then c8 else if (58 + 6 * k) = 57 + 6 * k then c9 else if (58 + 6 * k) = 58 + 6 * k then c10 else if (58 + 6 * k) = 59 + 6 * k then c11 else if (58 + 6 * k) = 60 + 6 * k then c12 else ca (58 + 6 * k)) = _
      rw [if_neg (by omega), if_neg (by omega), if_pos rfl]
    have g_4 : ca2 (59 + 6 * k) = c11 := by
      rw [hca2]
      show (if (59 + 6 * k) = 56 + 6 * k then c8 else if (59 + 6 * k) = 57 + 6 * k then c9 else if (59 + 6 * k) = 58 + 6 * k then c10 else if (59 + 6 * k) = 59 + 6 * k then c11 else if (59 + 6 * k) = 60 + 6 * k then c12 else ca (59 + 6 * k)) = _
      rw [if_neg (by omega), if_neg (by omega), if_neg (by omega), if_pos rfl]
    have g_5 : ca2 (60 + 6 * k) = c12 := by
      rw [hca2]
      show (if (60 + 6 * k) = 56 + 6 * k then c8 else if (60 + 6 * k) = 57 + 6 * k then c9 else if (60 + 6 * k) = 58 + 6 * k then c10 else if (60 + 6 * k) = 59 + 6 * k then c11 else if (60 + 6 * k) = 60 + 6 * k then c12 else ca (60 + 6 * k)) = _
      rw [if_neg (by omega), if_neg (by omega), if_neg (by omega), if_neg (by omega), if_pos rfl]
    have hrow : va_up (row_rule a k) k (some q2) = row_rule a2 (k + 1) := by
      funext j
      by_cases hj : j = k
      · subst hj
        rw [va_up_self, row_rule, if_pos (by omega), e_0]
      · rw [va_up_ne _ _ hj, row_rule, row_rule]
        by_cases hjk : j < k
        · rw [if_pos hjk, if_pos (by omega), (hag (55 + 6 * j) (by omega)).1]
        · rw [if_neg hjk, if_neg (by omega)]
    have hfam : fam_rule k a ca = fam_rule k a2 ca2 := fam_rule_eq k a a2 ca ca2 (fun i _ h2 => ⟨(hag i h2).1.symm, (hag i h2).2.symm⟩)
    have hperm : (([(h0, .inr (9, [.ref aRo, .ref aCr, .int 0, .ref aBa, .ref aSe, .ref aTa, .ref aRu, .int 0, .ref aTl, .int 10, .ref aWa, .ref aCu, .ref aRa, .int 0, .ref aCo, .ref aFi])), (aRu, .inl (caRu, 6, .inr (.inr (.inr (.inr (row_rule a2 (k + 1)))))))] ++ (fam_rule (k + 1) a2 ca2 ++ PL)) : va_W).Perm ([(h0, .inr (9, [.ref aRo, .ref aCr, .int 0, .ref aBa, .ref aSe, .ref aTa, .ref aRu, .int 0, .ref aTl, .int 10, .ref aWa, .ref aCu, .ref aRa, .int 0, .ref aCo, .ref aFi])), (aRu, .inl (caRu, 6, .inr (.inr (.inr (.inr (va_up (row_rule a k) k (some q2))))))), (q2, .inr (5, [.int 0, .ref q3, .ref q4, .ref q5, .ref q6, .ref q7])), (q3, .inl (c8, 8, .inl (fun _ => 0))), (q4, .inl (c9, 8, .inl (fun _ => 0))), (q5, .inl (c10, 8, .inl (fun _ => 0))), (q6, .inl (c11, 8, .inl (fun _ => 0))), (q7, .inl (c12, 8, .inl (fun _ => 0)))] ++ (fam_rule k a ca ++ PL)) := by
      rw [hrow, hfam, fam_rule, e_0, e_1, e_2, e_3, e_4, e_5, g_1, g_2, g_3, g_4, g_5]
      refine List.Perm.cons _ (List.Perm.cons _ ?_)
      rw [List.append_assoc]
      exact List.perm_append_comm_assoc (fam_rule k a2 ca2) [(q2, .inr (5, [.int 0, .ref q3, .ref q4, .ref q5, .ref q6, .ref q7])), (q3, .inl (c8, 8, .inl (fun _ => 0))), (q4, .inl (c9, 8, .inl (fun _ => 0))), (q5, .inl (c10, 8, .inl (fun _ => 0))), (q6, .inl (c11, 8, .inl (fun _ => 0))), (q7, .inl (c12, 8, .inl (fun _ => 0)))] PL
    refine ih (k + 1) a2 ca2 (nc + 6) (ns + 46) H locs ls (by omega) (by omega) (by omega) ?_ (P_perm hP hperm) (D_perm hD hperm) hS (by rw [nI_succ]; exact hl) (fun a3 ca3 H locs ls h1 h2 h3 h4 h5 h6 => ?_)
    · intro i h1 h2 h3
      by_cases hi : i < 55 + 6 * k
      · rw [(hag i hi).2]
        exact hT i h1 hi h3
      · rcases (show i = 55 + 6 * k ∨ i = 56 + 6 * k ∨ i = 57 + 6 * k ∨ i = 58 + 6 * k ∨ i = 59 + 6 * k ∨ i = 60 + 6 * k by omega) with rfl | rfl | rfl | rfl | rfl | rfl
        · exact absurd h3 (by rw [(kd_rule_0 k (by omega)).1]; decide)
        · rw [g_1]
          have := K_tk hK2 1 rfl
          rw [show ety (56 + 6 * k) = .boolean by rw [ety, (kd_rule_1 k (by omega)).1]; rfl]
          exact this
        · rw [g_2]
          have := K_tk hK2 2 rfl
          rw [show ety (57 + 6 * k) = .int by rw [ety, (kd_rule_2 k (by omega)).1]; rfl]
          exact this
        · rw [g_3]
          have := K_tk hK2 3 rfl
          rw [show ety (58 + 6 * k) = .int by rw [ety, (kd_rule_3 k (by omega)).1]; rfl]
          exact this
        · rw [g_4]
          have := K_tk hK2 4 rfl
          rw [show ety (59 + 6 * k) = .int by rw [ety, (kd_rule_4 k (by omega)).1]; rfl]
          exact this
        · rw [g_5]
          have := K_tk hK2 5 rfl
          rw [show ety (60 + 6 * k) = .boolean by rw [ety, (kd_rule_5 k (by omega)).1]; rfl]
          exact this
    · have := kk a3 ca3 H locs ls (fun i hi => ⟨(h1 i (by omega)).1.trans (hag i hi).1, (h1 i (by omega)).2.trans (hag i hi).2⟩) h2 h3 h4 h5 h6
      rw [show nc + 6 * (r + 1) = nc + 6 + 6 * r by omega, show ns + 46 * (r + 1) = ns + 46 + 46 * r by omega] at this
      exact this
def fam_race : Nat → (Nat → Nat) → (Nat → ClassId) → va_W
  | 0, _, _ => []
  | k + 1, a, ca => fam_race k a ca ++ [(a (91 + 5 * k), .inr (3, [.int 0, .int 0, .int 0, .ref (a (92 + 5 * k)), .ref (a (93 + 5 * k)), .ref (a (94 + 5 * k)), .ref (a (95 + 5 * k))])), (a (92 + 5 * k), .inl (ca (92 + 5 * k), 4, .inl (fun _ => 0))), (a (93 + 5 * k), .inl (ca (93 + 5 * k), 4, .inl (fun _ => 0))), (a (94 + 5 * k), .inl (ca (94 + 5 * k), 4, .inl (fun _ => 0))), (a (95 + 5 * k), .inl (ca (95 + 5 * k), 4, .inl (fun _ => 0)))]
theorem fam_race_eq : ∀ (k : Nat) (a a2 : Nat → Nat) (ca ca2 : Nat → ClassId), (∀ i, 91 ≤ i → i < 91 + 5 * k → a i = a2 i ∧ ca i = ca2 i) → fam_race k a ca = fam_race k a2 ca2 := by
  intro k
  induction k with
  | zero => intros; rfl
  | succ k ih =>
    intro a a2 ca ca2 h
    rw [fam_race, fam_race, ih a a2 ca ca2 (fun i h1 h2 => h i h1 (by omega))]
    rw [(h (91 + 5 * k) (by omega) (by omega)).1, (h (92 + 5 * k) (by omega) (by omega)).1, (h (93 + 5 * k) (by omega) (by omega)).1, (h (94 + 5 * k) (by omega) (by omega)).1, (h (95 + 5 * k) (by omega) (by omega)).1, (h (92 + 5 * k) (by omega) (by omega)).2, (h (93 + 5 * k) (by omega) (by omega)).2, (h (94 + 5 * k) (by omega) (by omega)).2, (h (95 + 5 * k) (by omega) (by omega)).2]
def row_race (a : Nat → Nat) (k : Nat) : Nat → Option Nat := fun j => if j < k then some (a (91 + 5 * j)) else none
set_option maxHeartbeats 4000000 in
set_option maxRecDepth 100000 in
theorem lp_race {p : Program} {l : Launch} {e : Env} {R : Room} {s : State} {m : MethodId} {args : Array Value} {below : List Frame} {meth : Method} {c : Code} {Q : State → Prop} {dC : Nat → ClassId} {dI : Nat → Nat → Nat} {A : Nat → Prop} {h0 aBa aCo aCr aCu aFi aRa aRo aRu aSe aTa aTl aWa : Nat} {caRa : ClassId} {PL : va_W} (hx : p.tables.exec = Jvm.exec) (hb : c.code = cX9_init) (hml : c.maxLocals = 2) (hown : s.vm.findClass RX9 = some m.cls) (hts : ∀ w ∈ GW, w.before args s = true) (hA : ∀ q : Nat, s.heap.size ≤ q → A q) (hNX9_11 : va_Nw (.methodLinkNest RX9 11 yX4_init RX9) s) (hNX9_30 : va_Nw (.methodLinkNest RX9 30 yX8_init RX9) s) (hNX9_37 : va_Nw (.methodLinkNest RX9 37 yX6_init RX9) s) (hNX9_44 : va_Nw (.methodLinkNest RX9 44 yX7_init RX9) s) (hNX9_82 : va_Nw (.methodLinkNest RX9 82 yX0_init RX9) s) (hNX9_89 : va_Nw (.methodLinkNest RX9 89 yX2_init RX9) s) (hNX9_94 : va_Nw (.methodLinkNest RX9 94 yX1_init RX9) s) (hNX9_95 : va_Nw (.methodLinkNest RX9 95 yX5_init RX9) s) (hNX9_96 : va_Nw (.methodLinkNest RX9 96 yX3_init RX9) s) (hAOX1 : va_AO RX1 s) (hAOX5 : va_AO RX5 s) (hAOX3 : va_AO RX3 s) (hfr : 2 ≤ R.frames) (hlo : 32 ≤ R.locals) (hK : va_K (dC, dI) vwCl [(caRa, .object RX3)] s) :
    ∀ (r k : Nat) (a : Nat → Nat) (ca : Nat → ClassId) (nc ns : Nat) (H : Heap) (locs : List Loc) (ls : Array Slot), k + r = 24 → nc + 5 * r ≤ R.cells → ns + 23 * r ≤ R.slots → (∀ i, 91 ≤ i → i < 91 + 5 * k → 11 ≤ kd i → TK s (ca i) (ety i)) → va_P (dC, dI) vwCl ([(h0, .inr (9, [.ref aRo, .ref aCr, .int 0, .ref aBa, .ref aSe, .ref aTa, .ref aRu, .int 0, .ref aTl, .int 10, .ref aWa, .ref aCu, .ref aRa, .int 0, .ref aCo, .ref aFi])), (aRa, .inl (caRa, 24, .inr (.inr (.inr (.inr (row_race a k))))))] ++ (fam_race k a ca ++ PL)) H → va_D A ([(h0, .inr (9, [.ref aRo, .ref aCr, .int 0, .ref aBa, .ref aSe, .ref aTa, .ref aRu, .int 0, .ref aTl, .int 10, .ref aWa, .ref aCu, .ref aRa, .int 0, .ref aCo, .ref aFi])), (aRa, .inl (caRa, 24, .inr (.inr (.inr (.inr (row_race a k))))))] ++ (fam_race k a ca ++ PL)) → va_S A s.heap H locs → lv_has ls 2 [(1, .int (nI k)), (0, .ref h0)] →
    (∀ (a2 : Nat → Nat) (ca2 : Nat → ClassId) (H : Heap) (locs : List Loc) (ls : Array Slot), (∀ i, i < 91 + 5 * k → a2 i = a i ∧ ca2 i = ca i) → (∀ i, 91 ≤ i → i < 211 → 11 ≤ kd i → TK s (ca2 i) (ety i)) → va_P (dC, dI) vwCl ([(h0, .inr (9, [.ref aRo, .ref aCr, .int 0, .ref aBa, .ref aSe, .ref aTa, .ref aRu, .int 0, .ref aTl, .int 10, .ref aWa, .ref aCu, .ref aRa, .int 0, .ref aCo, .ref aFi])), (aRa, .inl (caRa, 24, .inr (.inr (.inr (.inr (row_race a2 24))))))] ++ (fam_race 24 a2 ca2 ++ PL)) H → va_D A ([(h0, .inr (9, [.ref aRo, .ref aCr, .int 0, .ref aBa, .ref aSe, .ref aTa, .ref aRu, .int 0, .ref aTl, .int 10, .ref aWa, .ref aCu, .ref aRa, .int 0, .ref aCo, .ref aFi])), (aRa, .inl (caRa, 24, .inr (.inr (.inr (.inr (row_race a2 24))))))] ++ (fam_race 24 a2 ca2 ++ PL)) → va_S A s.heap H locs → lv_has ls 2 [(1, .int 24), (0, .ref h0)] → W p l e R s m args below meth c H locs (nc + 5 * r) (ns + 23 * r) Q (F0 m 212 ls [])) →
    W p l e R s m args below meth c H locs nc ns Q (F0 m 212 ls []) := by
  intro r
  induction r with
  | zero =>
    intro k a ca nc ns H locs ls hk _ _ hT hP hD hS hl kk
    obtain rfl : k = 24 := by omega
    exact kk a ca H locs ls (fun _ _ => ⟨rfl, rfl⟩) hT hP hD hS hl
  | succ r ih =>
    intro k a ca nc ns H locs ls hk hc hs hT hP hD hS hl kk
    have hkn : (nI k).toInt = (k : Int) := nI_toInt (by omega)
    have hkc : (nI k).toNatClampNeg = k := nI_clamp (by omega)
    refine it_race hx hb hml hown hts hA hNX9_11 hNX9_30 hNX9_37 hNX9_44 hNX9_82 hNX9_89 hNX9_94 hNX9_95 hNX9_96 hAOX1 hAOX5 hAOX3 (by rw [hkn]; omega) (by rw [hkn]; omega) (by omega) (by omega) hfr hlo hK hP hD hS hl (fun q2 q3 q4 q5 q6 c7 c8 c9 c10 H locs ls hK2 hP hD hS hl => ?_)
    rw [hkc] at hP hD
    obtain ⟨a2, ha2⟩ : ∃ a2 : Nat → Nat, a2 = fun i => if i = 91 + 5 * k then q2 else if i = 92 + 5 * k then q3 else if i = 93 + 5 * k then q4 else if i = 94 + 5 * k then q5 else if i = 95 + 5 * k then q6 else a i := ⟨_, rfl⟩
    obtain ⟨ca2, hca2⟩ : ∃ ca2 : Nat → ClassId, ca2 = fun i => if i = 92 + 5 * k then c7 else if i = 93 + 5 * k then c8 else if i = 94 + 5 * k then c9 else if i = 95 + 5 * k then c10 else ca i := ⟨_, rfl⟩
    have hag : ∀ i, i < 91 + 5 * k → a2 i = a i ∧ ca2 i = ca i := by
      intro i hi
      rw [ha2, hca2]
      refine ⟨?_, ?_⟩
      · show (if i = 91 + 5 * k then q2 else if i = 92 + 5 * k then q3 else if i = 93 + 5 * k then q4 else if i = 94 + 5 * k then q5 else if i = 95 + 5 * k then q6 else a i) = a i
        rw [if_neg (by omega), if_neg (by omega), if_neg (by omega), if_neg (by omega), if_neg (by omega)]
      · show (if i = 92 + 5 * k then c7 else if i = 93 + 5 * k then c8 else if i = 94 + 5 * k then c9 else if i = 95 + 5 * k then c10 else ca i) = ca i
        rw [if_neg (by omega), if_neg (by omega), if_neg (by omega), if_neg (by omega)]
    have e_0 : a2 (91 + 5 * k) = q2 := by
      rw [ha2]
      show (if (91 + 5 * k) = 91 + 5 * k then q2 else if (91 + 5 * k) = 92 + 5 * k then q3 else if (91 + 5 * k) = 93 + 5 * k then q4 else if (91 + 5 * k) = 94 + 5 * k then q5 else if (91 + 5 * k) = 95 + 5 * k then q6 else a (91 + 5 * k)) = _
      rw [if_pos rfl]
    have e_1 : a2 (92 + 5 * k) = q3 := by
      rw [ha2]
      show (if (92 + 5 * k) = 91 + 5 * k then q2 else if (92 + 5 * k) = 92 + 5 * k then q3 else if (92 + 5 * k) = 93 + 5 * k then q4 else if (92 + 5 * k) = 94 + 5 * k then q5 else if (92 + 5 * k) = 95 + 5 * k then q6 else a (92 + 5 * k)) = _
      rw [if_neg (by omega), if_pos rfl]
    have e_2 : a2 (93 + 5 * k) = q4 := by
      rw [ha2]
      show (if (93 + 5 * k) = 91 + 5 * k then q2 else if (93 + 5 * k) = 92 + 5 * k then q3 else if (93 + 5 * k) = 93 + 5 * k then q4 else if (93 + 5 * k) = 94 + 5 * k then q5 else if (93 + 5 * k) = 95 + 5 * k then q6 else a (93 + 5 * k)) = _
      rw [if_neg (by omega), if_neg (by omega), if_pos rfl]
    have e_3 : a2 (94 + 5 * k) = q5 := by
      rw [ha2]
      show (if (94 + 5 * k) = 91 + 5 * k then q2 else if (94 + 5 * k) = 92 + 5 * k then q3 else if (94 + 5 * k) = 93 + 5 * k then q4 else if (94 + 5 * k) = 94 + 5 * k then q5 else if (94 + 5 * k) = 95 + 5 * k then q6 else a (94 + 5 * k)) = _
      rw [if_neg (by omega), if_neg (by omega), if_neg (by omega), if_pos rfl]
    have e_4 : a2 (95 + 5 * k) = q6 := by
      rw [ha2]
      show (if (95 + 5 * k) = 91 + 5 * k then q2 else if (95 + 5 * k) = 92 + 5 * k then q3 else if (95 + 5 * k) = 93 + 5 * k then q4 else if (95 + 5 * k) = 94 + 5 * k then q5 else if (95 + 5 * k) = 95 + 5 * k then q6 else a (95 + 5 * k)) = _
      rw [if_neg (by omega), if_neg (by omega), if_neg (by omega), if_neg (by omega), if_pos rfl]
    have g_1 : ca2 (92 + 5 * k) = c7 := by
      rw [hca2]
      show (if (92 + 5 * k) = 92 + 5 * k then c7 else if (92 + 5 * k) = 93 + 5 * k then c8 else if (92 + 5 * k) = 94 + 5 * k then c9 else if (92 + 5 * k) = 95 + 5 * k then c10 else ca (92 + 5 * k)) = _
      rw [if_pos rfl]
    have g_2 : ca2 (93 + 5 * k) = c8 := by
      rw [hca2]
      show (if (93 + 5 * k) = 92 + 5 * k then c7 else if (93 + 5 * k) = 93 + 5 * k then c8 else if (93 + 5 * k) = 94 + 5 * k then c9 else if (93 + 5 * k) = 95 + 5 * k then c10 else ca (93 + 5 * k)) = _
      rw [if_neg (by omega), if_pos rfl]
    have g_3 : ca2 (94 + 5 * k) = c9 := by
      rw [hca2]
      show (if (94 + 5 * k) = 92 + 5 * k then c7 else if (94 + 5 * k) = 93 + 5 * k then c8 else if (94 + 5 * k) = 94 + 5 * k then c9 else if (94 + 5 * k) = 95 + 5 * k then c10 else ca (94 + 5 * k)) = _
      rw [if_neg (by omega), if_neg (by omega), if_pos rfl]
    have g_4 : ca2 (95 + 5 * k) = c10 := by
      rw [hca2]
      show (if (95 + 5 * k) = 92 + 5 * k then c7 else if (95 + 5 * k) = 93 + 5 * k then c8 else if (95 + 5 * k) = 94 + 5 * k then c9 else if (95 + 5 * k) = 95 + 5 * k then c10 else ca (95 + 5 * k)) = _
      rw [if_neg (by omega), if_neg (by omega), if_neg (by omega), if_pos rfl]
    have hrow : va_up (row_race a k) k (some q2) = row_race a2 (k + 1) := by
      funext j
      by_cases hj : j = k
      · subst hj
        rw [va_up_self, row_race, if_pos (by omega), e_0]
      · rw [va_up_ne _ _ hj, row_race, row_race]
        by_cases hjk : j < k
        · rw [if_pos hjk, if_pos (by omega), (hag (91 + 5 * j) (by omega)).1]
        · rw [if_neg hjk, if_neg (by omega)]
    have hfam : fam_race k a ca = fam_race k a2 ca2 := fam_race_eq k a a2 ca ca2 (fun i _ h2 => ⟨(hag i h2).1.symm, (hag i h2).2.symm⟩)
    have hperm : (([(h0, .inr (9, [.ref aRo, .ref aCr, .int 0, .ref aBa, .ref aSe, .ref aTa, .ref aRu, .int 0, .ref aTl, .int 10, .ref aWa, .ref aCu, .ref aRa, .int 0, .ref aCo, .ref aFi])), (aRa, .inl (caRa, 24, .inr (.inr (.inr (.inr (row_race a2 (k + 1)))))))] ++ (fam_race (k + 1) a2 ca2 ++ PL)) : va_W).Perm ([(h0, .inr (9, [.ref aRo, .ref aCr, .int 0, .ref aBa, .ref aSe, .ref aTa, .ref aRu, .int 0, .ref aTl, .int 10, .ref aWa, .ref aCu, .ref aRa, .int 0, .ref aCo, .ref aFi])), (aRa, .inl (caRa, 24, .inr (.inr (.inr (.inr (va_up (row_race a k) k (some q2))))))), (q2, .inr (3, [.int 0, .int 0, .int 0, .ref q3, .ref q4, .ref q5, .ref q6])), (q3, .inl (c7, 4, .inl (fun _ => 0))), (q4, .inl (c8, 4, .inl (fun _ => 0))), (q5, .inl (c9, 4, .inl (fun _ => 0))), (q6, .inl (c10, 4, .inl (fun _ => 0)))] ++ (fam_race k a ca ++ PL)) := by
      rw [hrow, hfam, fam_race, e_0, e_1, e_2, e_3, e_4, g_1, g_2, g_3, g_4]
      refine List.Perm.cons _ (List.Perm.cons _ ?_)
      rw [List.append_assoc]
      exact List.perm_append_comm_assoc (fam_race k a2 ca2) [(q2, .inr (3, [.int 0, .int 0, .int 0, .ref q3, .ref q4, .ref q5, .ref q6])), (q3, .inl (c7, 4, .inl (fun _ => 0))), (q4, .inl (c8, 4, .inl (fun _ => 0))), (q5, .inl (c9, 4, .inl (fun _ => 0))), (q6, .inl (c10, 4, .inl (fun _ => 0)))] PL
    refine ih (k + 1) a2 ca2 (nc + 5) (ns + 23) H locs ls (by omega) (by omega) (by omega) ?_ (P_perm hP hperm) (D_perm hD hperm) hS (by rw [nI_succ]; exact hl) (fun a3 ca3 H locs ls h1 h2 h3 h4 h5 h6 => ?_)
    · intro i h1 h2 h3
      by_cases hi : i < 91 + 5 * k
      · rw [(hag i hi).2]
        exact hT i h1 hi h3
      · rcases (show i = 91 + 5 * k ∨ i = 92 + 5 * k ∨ i = 93 + 5 * k ∨ i = 94 + 5 * k ∨ i = 95 + 5 * k by omega) with rfl | rfl | rfl | rfl | rfl
        · exact absurd h3 (by rw [(kd_race_0 k (by omega)).1]; decide)
        · rw [g_1]
          have := K_tk hK2 1 rfl
          rw [show ety (92 + 5 * k) = .int by rw [ety, (kd_race_1 k (by omega)).1]; rfl]
          exact this
        · rw [g_2]
          have := K_tk hK2 2 rfl
          rw [show ety (93 + 5 * k) = .int by rw [ety, (kd_race_2 k (by omega)).1]; rfl]
          exact this
        · rw [g_3]
          have := K_tk hK2 3 rfl
          rw [show ety (94 + 5 * k) = .int by rw [ety, (kd_race_3 k (by omega)).1]; rfl]
          exact this
        · rw [g_4]
          have := K_tk hK2 4 rfl
          rw [show ety (95 + 5 * k) = .boolean by rw [ety, (kd_race_4 k (by omega)).1]; rfl]
          exact this
    · have := kk a3 ca3 H locs ls (fun i hi => ⟨(h1 i (by omega)).1.trans (hag i hi).1, (h1 i (by omega)).2.trans (hag i hi).2⟩) h2 h3 h4 h5 h6
      rw [show nc + 5 * (r + 1) = nc + 5 + 5 * r by omega, show ns + 23 * (r + 1) = ns + 23 + 23 * r by omega] at this
      exact this
