def inR (v lo hi : Int32) : Prop := ¬ v < lo ∧ ¬ v > hi
def inI (v n : Int32) : Prop := ¬ v < 0 ∧ v < n
