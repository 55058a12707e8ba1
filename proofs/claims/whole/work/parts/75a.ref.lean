set_option maxRecDepth 100000 in
theorem c_X10_eatY (l : Launch) (D : va_G) (ty : Nat → ClassId) (b : Nat → Nat) (rf ac : Int32) (ln pos : Nat) (cd : Nat → Int32) (v9 : Int32) (hl6 : ln ≤ 60) (hp6 : pos < 2000) (hq : eatQ cd ln pos v9) : CTi l yX10_eat wsX10_eat ({ frames := 0, cells := 0, slots := 0, locals := 0 }) D ty [.ref (b 0), .int v9] [[ob (b 0) 9 [.int rf, .ref (b 1), .int (nI ln), .int (nI pos), .ref (b 2), .ref (b 3), .ref (b 4), .ref (b 5), .int ac, .ref (b 6), .ref (b 7), .ref (b 8), .ref (b 9), .ref (b 10), .ref (b 11)]], [ia ty (b 1) 60 cd]] (fun (RET : Int32) (_ : Unit) => RET = 1) (fun (_ : Unit) => [[ob (b 0) 9 [.int rf, .ref (b 1), .int (nI ln), .int (nI (pos + 1)), .ref (b 2), .ref (b 3), .ref (b 4), .ref (b 5), .int ac, .ref (b 6), .ref (b 7), .ref (b 8), .ref (b 9), .ref (b 10), .ref (b 11)]], [ia ty (b 1) 60 cd]]) := by
  have h := c_X10_eat l D ty b rf ac ln pos cd v9 hl6 hp6
  simp only [if_pos hq] at h
  exact h
