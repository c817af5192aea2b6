theorem fmt_len {a b : Int32} {v : Value} (hv : v.category = 1) : (lg_sl [.int a, .int b, v]).length ≤ 3 := by
  show (([.val (.int a)] ++ ([.val (.int b)] ++ ((if v.category = 2 then [.val v, .second] else [.val v]) ++ []))) : List Slot).length ≤ 3
  rw [hv]
  exact Nat.le_refl 3
