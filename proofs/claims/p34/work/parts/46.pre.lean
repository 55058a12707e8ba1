def alarmS (cd : Nat → Int32) (ln pos na np nr : Nat) (r t : Nat → Int32) : Bool × PS :=
  if na < 4 then
    match numV cd ln [10, 1] 23 0 (pos + 1) with
    | none => (false, numP cd ln [10, 1] 23 0 (pos + 1), na, np, nr, r, t)
    | some hh =>
      match numV cd ln [10, 1] 59 0 (numP cd ln [10, 1] 23 0 (pos + 1)) with
      | none => (false, numP cd ln [10, 1] 59 0 (numP cd ln [10, 1] 23 0 (pos + 1)), na, np, nr, r, t)
      | some mm => (true, numP cd ln [10, 1] 59 0 (numP cd ln [10, 1] 23 0 (pos + 1)), na + 1, np, nr, upd (upd r (27 + 3 * na) (nI (hh * 60 + mm))) (28 + 3 * na) 0, t)
  else (false, pos, na, np, nr, r, t)
def pinS (cd : Nat → Int32) (ln pos na np nr : Nat) (r t : Nat → Int32) : Bool × PS :=
  if np < 3 then
    if isDig cd ln (pos + 1) ∧ digN cd (pos + 1) < 3 ∧ bz (r (24 + digN cd (pos + 1))) = 0 then (true, pos + 1 + 1, na, np + 1, nr, upd r (24 + digN cd (pos + 1)) 1, t)
    else (false, pos + 1, na, np, nr, r, t)
  else (false, pos, na, np, nr, r, t)
def regS (cd : Nat → Int32) (ln pos na np nr : Nat) (r t : Nat → Int32) : Bool × PS :=
  if nr < 8 then
    if isDig cd ln (pos + 1) ∧ digN cd (pos + 1) < 8 ∧ t (digN cd (pos + 1)) = 0 then
      match numV cd ln [100, 10, 1] 255 0 (pos + 1 + 1) with
      | none => (false, numP cd ln [100, 10, 1] 255 0 (pos + 1 + 1), na, np, nr, r, t)
      | some v => (true, numP cd ln [100, 10, 1] 255 0 (pos + 1 + 1), na, np, nr + 1, upd r (16 + digN cd (pos + 1)) (nI v), upd t (digN cd (pos + 1)) 1)
    else (false, pos + 1, na, np, nr, r, t)
  else (false, pos, na, np, nr, r, t)
def partS (cd : Nat → Int32) (ln pos na np nr : Nat) (r t : Nat → Int32) : Bool × PS :=
  if hereV cd ln pos = 97 then alarmS cd ln pos na np nr r t else if hereV cd ln pos = 112 then pinS cd ln pos na np nr r t else if hereV cd ln pos = 114 then regS cd ln pos na np nr r t else (false, pos, na, np, nr, r, t)
def headS (cd : Nat → Int32) (ln : Nat) (r : Nat → Int32) : Bool × Nat × (Nat → Int32) :=
  if hereV cd ln 0 = 75 then
    if hereV cd ln 1 = 43 ∨ hereV cd ln 1 = 45 then
      match numV cd ln [100, 10, 1] 500 0 2 with
      | none => (false, numP cd ln [100, 10, 1] 500 0 2, r)
      | some e =>
        match numV cd ln [1000, 100, 10, 1] 9999 0 (numP cd ln [100, 10, 1] 500 0 2) with
        | none => (false, numP cd ln [1000, 100, 10, 1] 9999 0 (numP cd ln [100, 10, 1] 500 0 2), r)
        | some c => (true, numP cd ln [1000, 100, 10, 1] 9999 0 (numP cd ln [100, 10, 1] 500 0 2), upd (upd r 3 (if hereV cd ln 1 = 45 then -nI e else nI e)) 7 (nI c))
    else (false, 1, r)
  else (false, 0, r)
theorem upd_gen (r : Nat → Int32) (v : Int32) {i k : Nat} (h : k ≠ i) : r k = upd r i v k := by unfold upd; rw [if_neg h]
theorem upd_24 (r : Nat → Int32) {i : Nat} (k : Nat) : upd (fun k => bz (r (24 + k))) i 1 k = bz (upd r (24 + i) 1 (24 + k)) := by
  unfold upd
  by_cases h : k = i
  · subst h; rw [if_pos rfl, if_pos rfl]; rfl
  · rw [if_neg h, if_neg (by omega)]
def rdLoop (cd : Nat → Int32) (ln : Nat) : Nat → Nat → Nat → Nat → Nat → (Nat → Int32) → (Nat → Int32) → Bool × PS
  | 0, pos, na, np, nr, r, t => (true, pos, na, np, nr, r, t)
  | n + 1, pos, na, np, nr, r, t =>
    if pos < ln then
      if (partS cd ln pos na np nr r t).1 = true then rdLoop cd ln n (partS cd ln pos na np nr r t).2.1 (partS cd ln pos na np nr r t).2.2.1 (partS cd ln pos na np nr r t).2.2.2.1 (partS cd ln pos na np nr r t).2.2.2.2.1 (partS cd ln pos na np nr r t).2.2.2.2.2.1 (partS cd ln pos na np nr r t).2.2.2.2.2.2
      else (false, (partS cd ln pos na np nr r t).2)
    else (true, pos, na, np, nr, r, t)
def rdAll (cd : Nat → Int32) (ln : Nat) : Bool × PS :=
  if (headS cd ln p0).1 = true then rdLoop cd ln 60 (headS cd ln p0).2.1 0 0 0 (headS cd ln p0).2.2 (fun _ => 0)
  else (false, (headS cd ln p0).2.1, 0, 0, 0, (headS cd ln p0).2.2, fun _ => 0)
theorem partS_pos {cd : Nat → Int32} {ln pos na np nr : Nat} {r t : Nat → Int32} : pos ≤ (partS cd ln pos na np nr r t).2.1 ∧ (partS cd ln pos na np nr r t).2.1 ≤ pos + 5 ∧ ((partS cd ln pos na np nr r t).1 = true → pos + 1 ≤ (partS cd ln pos na np nr r t).2.1) := by
  unfold partS
  split
  · unfold alarmS
    have h1 := numP_in (cd := cd) (ln := ln) (us := [10, 1]) (hi := 23) (acc := 0) (pos := pos + 1)
    have h2 := numP_in (cd := cd) (ln := ln) (us := [10, 1]) (hi := 59) (acc := 0) (pos := numP cd ln [10, 1] 23 0 (pos + 1))
    simp only [List.length_cons, List.length_nil] at h1 h2
    split
    · split
      · exact ⟨by show _ ≤ numP _ _ _ _ _ _; omega, by show numP _ _ _ _ _ _ ≤ _; omega, fun q => by cases q⟩
      · split
        · exact ⟨by show _ ≤ numP _ _ _ _ _ _; omega, by show numP _ _ _ _ _ _ ≤ _; omega, fun q => by cases q⟩
        · exact ⟨by show _ ≤ numP _ _ _ _ _ _; omega, by show numP _ _ _ _ _ _ ≤ _; omega, fun _ => by show _ ≤ numP _ _ _ _ _ _; omega⟩
    · exact ⟨Nat.le_refl _, Nat.le_add_right _ _, fun q => by cases q⟩
  · split
    · unfold pinS
      split
      · split
        · exact ⟨by show _ ≤ pos + 1 + 1; omega, by show pos + 1 + 1 ≤ _; omega, fun _ => by show _ ≤ pos + 1 + 1; omega⟩
        · exact ⟨by show _ ≤ pos + 1; omega, by show pos + 1 ≤ _; omega, fun q => by cases q⟩
      · exact ⟨Nat.le_refl _, Nat.le_add_right _ _, fun q => by cases q⟩
    · split
      · unfold regS
        have h1 := numP_in (cd := cd) (ln := ln) (us := [100, 10, 1]) (hi := 255) (acc := 0) (pos := pos + 1 + 1)
        simp only [List.length_cons, List.length_nil] at h1
        split
        · split
          · split
            · exact ⟨by show _ ≤ numP _ _ _ _ _ _; omega, by show numP _ _ _ _ _ _ ≤ _; omega, fun q => by cases q⟩
            · exact ⟨by show _ ≤ numP _ _ _ _ _ _; omega, by show numP _ _ _ _ _ _ ≤ _; omega, fun _ => by show _ ≤ numP _ _ _ _ _ _; omega⟩
          · exact ⟨by show _ ≤ pos + 1; omega, by show pos + 1 ≤ _; omega, fun q => by cases q⟩
        · exact ⟨Nat.le_refl _, Nat.le_add_right _ _, fun q => by cases q⟩
      · exact ⟨Nat.le_refl _, Nat.le_add_right _ _, fun q => by cases q⟩
theorem headS_pos {cd : Nat → Int32} {ln : Nat} {r : Nat → Int32} : (headS cd ln r).2.1 ≤ 9 := by
  unfold headS
  have h1 := numP_in (cd := cd) (ln := ln) (us := [100, 10, 1]) (hi := 500) (acc := 0) (pos := 2)
  have h2 := numP_in (cd := cd) (ln := ln) (us := [1000, 100, 10, 1]) (hi := 9999) (acc := 0) (pos := numP cd ln [100, 10, 1] 500 0 2)
  simp only [List.length_cons, List.length_nil] at h1 h2
  split
  · split
    · split
      · show numP _ _ _ _ _ _ ≤ _; omega
      · split
        · show numP _ _ _ _ _ _ ≤ _; omega
        · show numP _ _ _ _ _ _ ≤ _; omega
    · exact (by decide : (1 : Nat) ≤ 9)
  · exact Nat.zero_le _
