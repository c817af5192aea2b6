/-- the bytes of a text, as cells of its row -/
def sb (l : List Int32) : Nat → Value := fun j => .int (l.getD j 0)
