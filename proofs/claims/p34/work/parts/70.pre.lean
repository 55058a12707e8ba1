/-! the reference's reading of the text -/
abbrev eatQ (cd : Nat → Int32) (ln pos : Nat) (v : Int32) : Prop := pos < ln ∧ cd pos = v
