section HELP
variable {p : Program} {l : Launch} {e : Env} {R : Room} {s : State} {m : MethodId} {args : Array Value} {below : List Frame} {meth : Method} {c : Code} {H : Heap} {locs : List Loc} {cells slots : Nat} {Q : State → Prop}
variable {pc : Nat} {ls : Array Slot} {rest : List Value}
theorem ti_eq {x y : Int32} (h : x = y) (k : W p l e R s m args below meth c H locs cells slots Q (F0 m pc ls (.int y :: rest))) : W p l e R s m args below meth c H locs cells slots Q (F0 m pc ls (.int x :: rest)) := by
  subst h; exact k
theorem tj_eq {x y : Int64} (h : x = y) (k : W p l e R s m args below meth c H locs cells slots Q (F0 m pc ls (.long y :: rest))) : W p l e R s m args below meth c H locs cells slots Q (F0 m pc ls (.long x :: rest)) := by
  subst h; exact k
theorem tv_eq {x y : Value} (h : x = y) (k : W p l e R s m args below meth c H locs cells slots Q (F0 m pc ls (y :: rest))) : W p l e R s m args below meth c H locs cells slots Q (F0 m pc ls (x :: rest)) := by
  subst h; exact k
end HELP
theorem not_in_nil {sz q : Nat} (h : q < sz) : ¬ va_A ([] : va_W) sz q := fun hh => hh.elim (fun ⟨_, _, h1⟩ => by simp at h1) (fun h1 => absurd h (Nat.not_lt.mpr h1))
theorem P_ro {D : va_G} {cl : List vw_C} {ws : va_W} {H H1 : Heap} (h : va_P D cl ws H) (hk : ∀ q : Nat, q < H.size → ¬ va_A ([] : va_W) H.size q → H1[q]? = H[q]?) : va_P D cl ws H1 :=
  h.kept (fun k q hq => hk q.1 (h k q hq).lt (not_in_nil (h k q hq).lt))
theorem P_nil {D : va_G} {cl : List vw_C} {H : Heap} : va_P D cl ([] : va_W) H := fun k q h => by simp at h
theorem D_nil {A : Nat → Prop} : va_D A ([] : va_W) := ⟨fun i j p q h => by simp at h, fun k q h => by simp at h⟩
theorem ro_free {A0 : Nat → Prop} {H0 H : Heap} {locs : List Loc} (hS : va_S A0 H0 H locs) (hA : ∀ q, H0.size ≤ q → A0 q) : ∀ q, va_A ([] : va_W) H.size q → A0 q :=
  fun q h => h.elim (fun ⟨_, _, h1⟩ => by simp at h1) (fun h1 => hA q (Nat.le_trans hS.1 h1))
theorem sw8 (x : Int32) : (x.toInt < 0 ∨ 8 < x.toInt) ∨ x = 0 ∨ x = 1 ∨ x = 2 ∨ x = 3 ∨ x = 4 ∨ x = 5 ∨ x = 6 ∨ x = 7 ∨ x = 8 := by
  rcases (show (x.toInt < 0 ∨ 8 < x.toInt) ∨ x.toInt = 0 ∨ x.toInt = 1 ∨ x.toInt = 2 ∨ x.toInt = 3 ∨ x.toInt = 4 ∨ x.toInt = 5 ∨ x.toInt = 6 ∨ x.toInt = 7 ∨ x.toInt = 8 by omega) with h | h | h | h | h | h | h | h | h | h
  · exact Or.inl h
  · have h1 : x = 0 := Int32.toInt_inj.mp h
    simp [h1]
  · have h1 : x = 1 := Int32.toInt_inj.mp h
    simp [h1]
  · have h1 : x = 2 := Int32.toInt_inj.mp h
    simp [h1]
  · have h1 : x = 3 := Int32.toInt_inj.mp h
    simp [h1]
  · have h1 : x = 4 := Int32.toInt_inj.mp h
    simp [h1]
  · have h1 : x = 5 := Int32.toInt_inj.mp h
    simp [h1]
  · have h1 : x = 6 := Int32.toInt_inj.mp h
    simp [h1]
  · have h1 : x = 7 := Int32.toInt_inj.mp h
    simp [h1]
  · have h1 : x = 8 := Int32.toInt_inj.mp h
    simp [h1]
def f_paddler (a b c d e : Int32) : Int32 := if (30 ≤ a.toInt ∧ a.toInt ≤ 150) ∧ (1 ≤ b.toInt ∧ b.toInt ≤ 99) ∧ (0 ≤ c.toInt ∧ c.toInt ≤ 2) ∧ (0 ≤ d.toInt ∧ d.toInt ≤ 1) ∧ (10 ≤ e.toInt ∧ e.toInt ≤ 90) then 0 else (-2)
def f_crew (a b : Int32) : Int32 := if (2 ≤ a.toInt ∧ a.toInt ≤ 4) ∧ (0 ≤ b.toInt ∧ b.toInt ≤ 150) then 0 else (-2)
def f_feed (n : Int32) : Int32 := if 1 ≤ n.toInt ∧ n.toInt ≤ 8 then n else (-2)
def f_rest (a : Int32) : Int32 := if 0 ≤ a.toInt ∧ a.toInt ≤ 99 then 10 else (-2)
def f_race (a b : Int32) : Int32 := if (0 ≤ a.toInt ∧ a.toInt ≤ 999) ∧ (0 ≤ b.toInt ∧ b.toInt ≤ 1) then (-3) else (-2)
def f_current (a b : Int32) : Int32 := if 0 ≤ a.toInt ∧ a.toInt ≤ 3 then (if -9 ≤ b.toInt ∧ b.toInt ≤ 9 then 0 else (-101)) else (-100)
def f_finalists (a b : Int32) : Int32 := if (0 ≤ a.toInt ∧ a.toInt ≤ 9) ∧ (0 ≤ b.toInt ∧ b.toInt ≤ 9) then 0 else (-2)
def f_count (x : Int32) : Int32 := if x.toInt = 6 then 10 else if 0 ≤ x.toInt ∧ x.toInt ≤ 8 then 0 else (-1)

theorem za_int (n : Nat) : ∀ cA : ClassId, vp_cell cA (n, .inl (fun _ => 0)) = arrV cA n (fun _ => defaultValue .int) := fun _ => rfl
theorem za_boolean (n : Nat) : ∀ cA : ClassId, vp_cell cA (n, .inl (fun _ => 0)) = arrV cA n (fun _ => defaultValue .boolean) := fun _ => rfl
theorem za_long (n : Nat) : ∀ cA : ClassId, vp_cell cA (n, .inr (.inl (fun _ => 0))) = arrV cA n (fun _ => defaultValue .long) := fun _ => rfl
