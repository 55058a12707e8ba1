/-! the reference's reading: masks of what was told, an alarm's number, a digit that was not told yet -/
def bitN (m v : Nat) : Nat := m / 2 ^ v % 2
def pcB (m : Nat) : Nat := bitN m 0 + bitN m 1 + bitN m 2 + bitN m 3 + bitN m 4 + bitN m 5 + bitN m 6 + bitN m 7
theorem mk_shr : ∀ m : Fin 256, ∀ v : Fin 8, (nI m.val >>> (nI v.val &&& 31)) &&& 1 = nI (bitN m.val v.val) := by decide +kernel
theorem mk_shl : ∀ v : Fin 8, (1 : Int32) <<< (nI v.val &&& 31) = nI (2 ^ v.val) := by decide +kernel
theorem mk_or : ∀ m : Fin 256, ∀ v : Fin 8, bitN m.val v.val = 0 → nI m.val ||| nI (2 ^ v.val) = nI (m.val + 2 ^ v.val) ∧ m.val + 2 ^ v.val < 256 ∧ pcB (m.val + 2 ^ v.val) = pcB m.val + 1 := by decide +kernel
theorem mk_bit : ∀ m : Fin 256, ∀ v w : Fin 8, bitN m.val v.val = 0 → bitN (m.val + 2 ^ v.val) w.val = if w.val = v.val then 1 else bitN m.val w.val := by decide +kernel
theorem mk_or3 : ∀ m : Fin 8, ∀ v : Fin 3, bitN m.val v.val = 0 → m.val + 2 ^ v.val < 8 := by decide +kernel
theorem mk_full3 : ∀ m : Fin 8, pcB m.val < 3 ↔ m.val ≠ 7 := by decide +kernel
theorem mk_full8 : ∀ m : Fin 256, pcB m.val < 8 ↔ m.val ≠ 255 := by decide +kernel
theorem bitN_or (m v : Nat) : bitN m v = 0 ∨ bitN m v = 1 := by unfold bitN; omega
theorem bitN_z {m v : Nat} (h : ¬ bitN m v = 1) : bitN m v = 0 := (bitN_or m v).resolve_right h
def alarmV (cd : Nat → Int32) (ln pos : Nat) : Option Nat :=
  match numV cd ln [10, 1] 23 0 pos with
  | none => none
  | some hh => match numV cd ln [10, 1] 59 0 (numP cd ln [10, 1] 23 0 pos) with
    | none => none
    | some mm => some (60 * hh + mm)
def alarmP (cd : Nat → Int32) (ln pos : Nat) : Nat :=
  match numV cd ln [10, 1] 23 0 pos with
  | none => numP cd ln [10, 1] 23 0 pos
  | some _ => numP cd ln [10, 1] 59 0 (numP cd ln [10, 1] 23 0 pos)
def someB (o : Option Nat) : Int32 := match o with | none => 0 | some _ => 1
theorem someB_nar (o : Option Nat) : narrow .boolean (.int (someB o)) = .int (someB o) := by
  cases o with
  | none => exact (rfl : narrow .boolean (.int 0) = .int 0)
  | some n => exact (rfl : narrow .boolean (.int 1) = .int 1)
def freshV (cd : Nat → Int32) (ln hi mk pos : Nat) : Option Nat := if isDig cd ln pos ∧ digN cd pos ≤ hi ∧ bitN mk (digN cd pos) = 0 then some (digN cd pos) else none
def freshP (cd : Nat → Int32) (ln hi mk pos : Nat) : Nat := if isDig cd ln pos ∧ digN cd pos ≤ hi ∧ bitN mk (digN cd pos) = 0 then pos + 1 else pos
theorem num1_some {cd : Nat → Int32} {ln hi pos n : Nat} (h : numV cd ln [1] hi 0 pos = some n) : isDig cd ln pos ∧ n = digN cd pos ∧ n ≤ hi ∧ numP cd ln [1] hi 0 pos = pos + 1 := by
  by_cases hc : isDig cd ln pos ∧ 0 + digN cd pos * 1 ≤ hi
  · have h1 := (numV_y (us := []) hc).1.symm.trans h
    have h2 : some (0 + digN cd pos * 1) = some n := h1
    have h3 := Option.some.inj h2
    exact ⟨hc.1, by omega, by have := hc.2; omega, (numV_y (us := []) hc).2⟩
  · exact absurd ((numV_n (us := []) hc).1.symm.trans h) (by simp)
theorem num1_none {cd : Nat → Int32} {ln hi pos : Nat} (h : numV cd ln [1] hi 0 pos = none) : ¬ (isDig cd ln pos ∧ digN cd pos ≤ hi) ∧ numP cd ln [1] hi 0 pos = pos := by
  by_cases hc : isDig cd ln pos ∧ 0 + digN cd pos * 1 ≤ hi
  · exact absurd ((numV_y (us := []) hc).1.symm.trans h) (by simp [numV])
  · exact ⟨fun q => hc ⟨q.1, by have := q.2; omega⟩, (numV_n (us := []) hc).2⟩
theorem fresh_y {cd : Nat → Int32} {ln hi mk pos : Nat} (h : isDig cd ln pos ∧ digN cd pos ≤ hi ∧ bitN mk (digN cd pos) = 0) : freshV cd ln hi mk pos = some (digN cd pos) ∧ freshP cd ln hi mk pos = pos + 1 := ⟨if_pos h, if_pos h⟩
theorem fresh_n {cd : Nat → Int32} {ln hi mk pos : Nat} (h : ¬ (isDig cd ln pos ∧ digN cd pos ≤ hi ∧ bitN mk (digN cd pos) = 0)) : freshV cd ln hi mk pos = none ∧ freshP cd ln hi mk pos = pos := ⟨if_neg h, if_neg h⟩
theorem here_eat {cd : Nat → Int32} {ln pos : Nat} {v : Int32} (hv : ¬ v = -99999999) : hereV cd ln pos = v ↔ eatQ cd ln pos v := by
  unfold hereV
  constructor
  · intro h
    by_cases hp : pos < ln
    · rw [if_pos hp] at h; exact ⟨hp, h⟩
    · rw [if_neg hp] at h; exact absurd h.symm hv
  · intro h; rw [if_pos h.1]; exact h.2
theorem alarmP_in {cd : Nat → Int32} {ln pos : Nat} : pos ≤ alarmP cd ln pos ∧ alarmP cd ln pos ≤ pos + 4 ∧ (pos ≤ ln → alarmP cd ln pos ≤ ln) := by
  have h1 := numP_in (cd := cd) (ln := ln) (us := [10, 1]) (hi := 23) (acc := 0) (pos := pos)
  have h2 := numP_in (cd := cd) (ln := ln) (us := [10, 1]) (hi := 59) (acc := 0) (pos := numP cd ln [10, 1] 23 0 pos)
  simp only [List.length_cons, List.length_nil] at h1 h2
  unfold alarmP
  split
  · exact ⟨h1.1, by omega, h1.2.2⟩
  · exact ⟨by omega, by omega, fun q => h2.2.2 (h1.2.2 q)⟩
theorem alarmS_V {cd : Nat → Int32} {ln pos na np nr : Nat} {r t : Nat → Int32} (h : na < 4) : alarmS cd ln pos na np nr r t = match alarmV cd ln (pos + 1) with
    | none => (false, alarmP cd ln (pos + 1), na, np, nr, r, t)
    | some v => (true, alarmP cd ln (pos + 1), na + 1, np, nr, upd (upd r (27 + 3 * na) (nI v)) (28 + 3 * na) 0, t) := by
  unfold alarmS alarmV alarmP
  rw [if_pos h]
  cases h1 : numV cd ln [10, 1] 23 0 (pos + 1) with
  | none => rfl
  | some hh =>
    simp only []
    cases h2 : numV cd ln [10, 1] 59 0 (numP cd ln [10, 1] 23 0 (pos + 1)) with
    | none => rfl
    | some mm =>
      simp only []
      rw [Nat.mul_comm 60 hh]
theorem rd_out {cd : Nat → Int32} {ln pos na np nr : Nat} {r t : Nat → Int32} (k : Nat) (h : ¬ pos < ln) : rdLoop cd ln k pos na np nr r t = (true, pos, na, np, nr, r, t) := by
  cases k with
  | zero => rfl
  | succ k => exact if_neg h
/-- a part that is read well, by the text of its loop -/
theorem rd_go {cd : Nat → Int32} {ln k pos na np nr : Nat} {r t : Nat → Int32} {Q : Bool × PS} {pos' na' np' nr' : Nat} {r' t' : Nat → Int32} (h : Q = rdLoop cd ln k pos na np nr r t) (hk : ln ≤ pos + k) (hp : pos < ln) (hS : partS cd ln pos na np nr r t = (true, pos', na', np', nr', r', t')) (hp' : pos < pos') : ∃ k', Q = rdLoop cd ln k' pos' na' np' nr' r' t' ∧ ln ≤ pos' + k' := by
  obtain ⟨j, rfl⟩ : ∃ j, k = j + 1 := ⟨k - 1, by omega⟩
  refine ⟨j, ?_, by omega⟩
  have e : rdLoop cd ln (j + 1) pos na np nr r t = if pos < ln then
      if (partS cd ln pos na np nr r t).1 = true then rdLoop cd ln j (partS cd ln pos na np nr r t).2.1 (partS cd ln pos na np nr r t).2.2.1 (partS cd ln pos na np nr r t).2.2.2.1 (partS cd ln pos na np nr r t).2.2.2.2.1 (partS cd ln pos na np nr r t).2.2.2.2.2.1 (partS cd ln pos na np nr r t).2.2.2.2.2.2
      else (false, (partS cd ln pos na np nr r t).2)
    else (true, pos, na, np, nr, r, t) := rfl
  rw [h, e, if_pos hp, hS, if_pos rfl]
theorem rd_fail {cd : Nat → Int32} {ln k pos na np nr : Nat} {r t : Nat → Int32} {Q : Bool × PS} {S' : PS} (h : Q = rdLoop cd ln k pos na np nr r t) (hk : ln ≤ pos + k) (hp : pos < ln) (hS : partS cd ln pos na np nr r t = (false, S')) : Q = (false, S') := by
  obtain ⟨j, rfl⟩ : ∃ j, k = j + 1 := ⟨k - 1, by omega⟩
  have e : rdLoop cd ln (j + 1) pos na np nr r t = if pos < ln then
      if (partS cd ln pos na np nr r t).1 = true then rdLoop cd ln j (partS cd ln pos na np nr r t).2.1 (partS cd ln pos na np nr r t).2.2.1 (partS cd ln pos na np nr r t).2.2.2.1 (partS cd ln pos na np nr r t).2.2.2.2.1 (partS cd ln pos na np nr r t).2.2.2.2.2.1 (partS cd ln pos na np nr r t).2.2.2.2.2.2
      else (false, (partS cd ln pos na np nr r t).2)
    else (true, pos, na, np, nr, r, t) := rfl
  rw [h, e, if_pos hp, hS, if_neg Bool.false_ne_true]
/-- the masks against the page and the registers told -/
def mkI (mp mr : Nat) (r t : Nat → Int32) : Prop := mp < 8 ∧ mr < 256 ∧ (∀ v, v < 3 → r (24 + v) = nI (bitN mp v)) ∧ (∀ v, v < 8 → t v = nI (bitN mr v)) ∧ (∀ i, i < 4 → r (28 + 3 * i) = 0)
theorem bz_bit (m v : Nat) : bz (nI (bitN m v)) = nI (bitN m v) := by rcases bitN_or m v with h | h <;> rw [h] <;> rfl
theorem nbit0 (m v : Nat) : nI (bitN m v) = 0 ↔ bitN m v = 0 := by rcases bitN_or m v with h | h <;> rw [h] <;> decide
theorem mkI_0 {r : Nat → Int32} (h1 : ∀ v, v < 3 → r (24 + v) = 0) (h2 : ∀ i, i < 4 → r (28 + 3 * i) = 0) : mkI 0 0 r (fun _ => 0) :=
  ⟨by decide, by decide, fun v hv => by rw [h1 v hv, show bitN 0 v = 0 by unfold bitN; simp]; rfl, fun v hv => by rw [show bitN 0 v = 0 by unfold bitN; simp]; rfl, h2⟩
theorem mkI_al {mp mr na : Nat} {r t : Nat → Int32} {v : Int32} (h : mkI mp mr r t) (ha : na < 4) : mkI mp mr (upd (upd r (27 + 3 * na) v) (28 + 3 * na) 0) t ∧ (∀ k, k < 57 → upd r (27 + 3 * na) v k = upd (upd r (27 + 3 * na) v) (28 + 3 * na) 0 k) := by
  obtain ⟨h1, h2, h3, h4, h5⟩ := h
  refine ⟨⟨h1, h2, fun w hw => ?_, h4, fun i hi => ?_⟩, fun k hk => ?_⟩
  · rw [← upd_gen _ _ (by omega), ← upd_gen _ _ (by omega)]; exact h3 w hw
  · unfold upd
    split
    · rfl
    · rw [if_neg (by omega)]; exact h5 i hi
  · by_cases e : k = 28 + 3 * na
    · subst e; rw [← upd_gen _ _ (by omega)]; rw [h5 na ha]; exact (if_pos rfl).symm
    · rw [← upd_gen _ (0 : Int32) e]
theorem mkI_pin {mp mr v : Nat} {r t : Nat → Int32} (h : mkI mp mr r t) (hv : v < 3) (hb : bitN mp v = 0) : nI mp ||| nI (2 ^ v) = nI (mp + 2 ^ v) ∧ pcB (mp + 2 ^ v) = pcB mp + 1 ∧ mkI (mp + 2 ^ v) mr (upd r (24 + v) 1) t := by
  obtain ⟨h1, h2, h3, h4, h5⟩ := h
  have a := mk_or ⟨mp, by omega⟩ ⟨v, by omega⟩ hb
  have b := mk_or3 ⟨mp, h1⟩ ⟨v, hv⟩ hb
  refine ⟨a.1, a.2.2, b, h2, fun w hw => ?_, h4, fun i hi => ?_⟩
  · have c : bitN (mp + 2 ^ v) w = if w = v then 1 else bitN mp w := mk_bit ⟨mp, by omega⟩ ⟨v, by omega⟩ ⟨w, by omega⟩ hb
    rw [c]
    by_cases e : w = v
    · subst e; rw [if_pos rfl]; exact if_pos rfl
    · rw [if_neg e, ← upd_gen _ _ (by omega)]; exact h3 w hw
  · rw [← upd_gen _ _ (by omega)]; exact h5 i hi
theorem mkI_reg {mp mr v : Nat} {r t : Nat → Int32} {z : Int32} (h : mkI mp mr r t) (hv : v < 8) (hb : bitN mr v = 0) : nI mr ||| nI (2 ^ v) = nI (mr + 2 ^ v) ∧ pcB (mr + 2 ^ v) = pcB mr + 1 ∧ mkI mp (mr + 2 ^ v) (upd r (16 + v) z) (upd t v 1) := by
  obtain ⟨h1, h2, h3, h4, h5⟩ := h
  have a := mk_or ⟨mr, h2⟩ ⟨v, hv⟩ hb
  refine ⟨a.1, a.2.2, h1, a.2.1, fun w hw => ?_, fun w hw => ?_, fun i hi => ?_⟩
  · rw [← upd_gen _ _ (by omega)]; exact h3 w hw
  · have c : bitN (mr + 2 ^ v) w = if w = v then 1 else bitN mr w := mk_bit ⟨mr, h2⟩ ⟨v, hv⟩ ⟨w, hw⟩ hb
    rw [c]
    by_cases e : w = v
    · subst e; rw [if_pos rfl]; exact if_pos rfl
    · rw [if_neg e, ← upd_gen _ _ e]; exact h4 w hw
  · rw [← upd_gen _ _ (by omega)]; exact h5 i hi
theorem fresh_some {cd : Nat → Int32} {ln hi mk pos v : Nat} (h : freshV cd ln hi mk pos = some v) : isDig cd ln pos ∧ v = digN cd pos ∧ v ≤ hi ∧ bitN mk v = 0 ∧ freshP cd ln hi mk pos = pos + 1 := by
  by_cases hc : isDig cd ln pos ∧ digN cd pos ≤ hi ∧ bitN mk (digN cd pos) = 0
  · have h2 : digN cd pos = v := Option.some.inj ((fresh_y hc).1.symm.trans h)
    subst h2
    exact ⟨hc.1, rfl, hc.2.1, hc.2.2, (fresh_y hc).2⟩
  · exact absurd ((fresh_n hc).1.symm.trans h) (by simp)
theorem fresh_none {cd : Nat → Int32} {ln hi mk pos : Nat} (h : freshV cd ln hi mk pos = none) : ¬ (isDig cd ln pos ∧ digN cd pos ≤ hi ∧ bitN mk (digN cd pos) = 0) ∧ freshP cd ln hi mk pos = pos := by
  by_cases hc : isDig cd ln pos ∧ digN cd pos ≤ hi ∧ bitN mk (digN cd pos) = 0
  · exact absurd ((fresh_y hc).1.symm.trans h) (by simp)
  · exact ⟨hc, (fresh_n hc).2⟩
section PT
variable {cd : Nat → Int32} {ln pos na mp mr : Nat} {r t : Nat → Int32}
theorem here_ne {v w : Int32} (h : eatQ cd ln pos v) (hvw : ¬ v = w) : ¬ hereV cd ln pos = w := fun q => hvw (by
  unfold hereV at q; rw [if_pos h.1] at q; exact h.2.symm.trans q)
theorem part_a {np nr : Nat} (h : eatQ cd ln pos 97) : partS cd ln pos na np nr r t = alarmS cd ln pos na np nr r t := if_pos ((here_eat (by decide)).mpr h)
theorem part_p {np nr : Nat} (h : eatQ cd ln pos 112) : partS cd ln pos na np nr r t = pinS cd ln pos na np nr r t := (if_neg (here_ne h (by decide))).trans (if_pos ((here_eat (by decide)).mpr h))
theorem part_r {np nr : Nat} (h : eatQ cd ln pos 114) : partS cd ln pos na np nr r t = regS cd ln pos na np nr r t := (if_neg (here_ne h (by decide))).trans ((if_neg (here_ne h (by decide))).trans (if_pos ((here_eat (by decide)).mpr h)))
theorem part_a_n {np nr : Nat} (ha : na < 4) (h : eatQ cd ln pos 97) (hv : alarmV cd ln (pos + 1) = none) : partS cd ln pos na np nr r t = (false, alarmP cd ln (pos + 1), na, np, nr, r, t) := by rw [part_a h, alarmS_V ha, hv]
theorem part_a_y {np nr v : Nat} (ha : na < 4) (h : eatQ cd ln pos 97) (hv : alarmV cd ln (pos + 1) = some v) : partS cd ln pos na np nr r t = (true, alarmP cd ln (pos + 1), na + 1, np, nr, upd (upd r (27 + 3 * na) (nI v)) (28 + 3 * na) 0, t) := by rw [part_a h, alarmS_V ha, hv]
theorem part_p_n {nr : Nat} (hI : mkI mp mr r t) (hm : mp ≠ 7) (h : eatQ cd ln pos 112) (hv : freshV cd ln 2 mp (pos + 1) = none) : partS cd ln pos na (pcB mp) nr r t = (false, freshP cd ln 2 mp (pos + 1), na, pcB mp, nr, r, t) := by
  obtain ⟨hn, hp⟩ := fresh_none hv
  rw [part_p h, hp]
  refine (if_pos ((mk_full3 ⟨mp, hI.1⟩).mpr hm)).trans (if_neg fun q => hn ⟨q.1, by have := q.2.1; omega, ?_⟩)
  have q3 := q.2.2
  rw [hI.2.2.1 _ q.2.1, bz_bit] at q3
  exact (nbit0 _ _).mp q3
theorem part_p_y {nr v : Nat} (hI : mkI mp mr r t) (hm : mp ≠ 7) (h : eatQ cd ln pos 112) (hv : freshV cd ln 2 mp (pos + 1) = some v) : partS cd ln pos na (pcB mp) nr r t = (true, freshP cd ln 2 mp (pos + 1), na, pcB mp + 1, nr, upd r (24 + v) 1, t) := by
  obtain ⟨h1, rfl, h2, h3, hp⟩ := fresh_some hv
  rw [part_p h, hp]
  refine (if_pos ((mk_full3 ⟨mp, hI.1⟩).mpr hm)).trans (if_pos ⟨h1, by omega, ?_⟩)
  rw [hI.2.2.1 _ (by omega), bz_bit]
  exact (nbit0 _ _).mpr h3
theorem part_r_n {np : Nat} (hI : mkI mp mr r t) (hm : mr ≠ 255) (h : eatQ cd ln pos 114) (hv : freshV cd ln 7 mr (pos + 1) = none) : partS cd ln pos na np (pcB mr) r t = (false, freshP cd ln 7 mr (pos + 1), na, np, pcB mr, r, t) := by
  obtain ⟨hn, hp⟩ := fresh_none hv
  rw [part_r h, hp]
  refine (if_pos ((mk_full8 ⟨mr, hI.2.1⟩).mpr hm)).trans (if_neg fun q => hn ⟨q.1, by have := q.2.1; omega, ?_⟩)
  have q3 := q.2.2
  rw [hI.2.2.2.1 _ q.2.1] at q3
  exact (nbit0 _ _).mp q3
theorem reg_y {np v : Nat} (hI : mkI mp mr r t) (hm : mr ≠ 255) (h : eatQ cd ln pos 114) (hv : freshV cd ln 7 mr (pos + 1) = some v) : freshP cd ln 7 mr (pos + 1) = pos + 1 + 1 ∧ v < 8 ∧ bitN mr v = 0 ∧ pos + 1 < ln ∧ partS cd ln pos na np (pcB mr) r t = (match numV cd ln [100, 10, 1] 255 0 (pos + 1 + 1) with
      | none => (false, numP cd ln [100, 10, 1] 255 0 (pos + 1 + 1), na, np, pcB mr, r, t)
      | some z => (true, numP cd ln [100, 10, 1] 255 0 (pos + 1 + 1), na, np, pcB mr + 1, upd r (16 + v) (nI z), upd t v 1)) := by
  obtain ⟨h1, rfl, h2, h3, hp⟩ := fresh_some hv
  refine ⟨hp, by omega, h3, h1.1, ?_⟩
  rw [part_r h]
  refine (if_pos ((mk_full8 ⟨mr, hI.2.1⟩).mpr hm)).trans (if_pos ⟨h1, by omega, ?_⟩)
  rw [hI.2.2.2.1 _ (by omega)]
  exact (nbit0 _ _).mpr h3
theorem part_no {r t : Nat → Int32} (hI : mkI mp mr r t) (ha : na < 4 → ¬ eatQ cd ln pos 97) (hp : mp ≠ 7 → ¬ eatQ cd ln pos 112) (hr : mr ≠ 255 → ¬ eatQ cd ln pos 114) : partS cd ln pos na (pcB mp) (pcB mr) r t = (false, pos, na, pcB mp, pcB mr, r, t) := by
  unfold partS
  by_cases h1 : hereV cd ln pos = 97
  · rw [if_pos h1]
    exact if_neg fun q => ha q ((here_eat (by decide)).mp h1)
  · rw [if_neg h1]
    by_cases h2 : hereV cd ln pos = 112
    · rw [if_pos h2]
      exact if_neg fun q => hp ((mk_full3 ⟨mp, hI.1⟩).mp q) ((here_eat (by decide)).mp h2)
    · rw [if_neg h2]
      by_cases h3 : hereV cd ln pos = 114
      · rw [if_pos h3]
        exact if_neg fun q => hr ((mk_full8 ⟨mr, hI.2.1⟩).mp q) ((here_eat (by decide)).mp h3)
      · rw [if_neg h3]
theorem head_K (h : ¬ eatQ cd ln 0 75) : headS cd ln r = (false, 0, r) := if_neg fun q => h ((here_eat (by decide)).mp q)
theorem head_S (h : eatQ cd ln 0 75) (h1 : ¬ eatQ cd ln 1 45) (h2 : ¬ eatQ cd ln 1 43) : headS cd ln r = (false, 1, r) := (if_pos ((here_eat (by decide)).mpr h)).trans (if_neg fun q => q.elim (fun z => h2 ((here_eat (by decide)).mp z)) (fun z => h1 ((here_eat (by decide)).mp z)))
theorem head_N (h : eatQ cd ln 0 75) (h1 : eatQ cd ln 1 45 ∨ eatQ cd ln 1 43) : headS cd ln r = (match numV cd ln [100, 10, 1] 500 0 2 with
      | none => (false, numP cd ln [100, 10, 1] 500 0 2, r)
      | some e =>
        match numV cd ln [1000, 100, 10, 1] 9999 0 (numP cd ln [100, 10, 1] 500 0 2) with
        | none => (false, numP cd ln [1000, 100, 10, 1] 9999 0 (numP cd ln [100, 10, 1] 500 0 2), r)
        | some c => (true, numP cd ln [1000, 100, 10, 1] 9999 0 (numP cd ln [100, 10, 1] 500 0 2), upd (upd r 3 (if hereV cd ln 1 = 45 then -nI e else nI e)) 7 (nI c))) :=
  (if_pos ((here_eat (by decide)).mpr h)).trans (if_pos (h1.elim (fun z => Or.inr ((here_eat (by decide)).mpr z)) (fun z => Or.inl ((here_eat (by decide)).mpr z))))
theorem rd_headF {p : Nat} {r' : Nat → Int32} (h : headS cd ln p0 = (false, p, r')) : (rdAll cd ln).1 = false ∧ (rdAll cd ln).2.1 = p := by
  unfold rdAll
  rw [h]
  exact ⟨rfl, rfl⟩
theorem rd_headT {p : Nat} {r' : Nat → Int32} (h : headS cd ln p0 = (true, p, r')) : rdAll cd ln = rdLoop cd ln 60 p 0 0 0 r' (fun _ => 0) := by
  unfold rdAll
  rw [h]
  rfl
theorem rd_F {Q : Bool × PS} {p : Nat} {x : Nat × Nat × Nat × (Nat → Int32) × (Nat → Int32)} (h : Q = (false, p, x)) : Q.1 = false ∧ Q.2.1 = p := by rw [h]; exact ⟨rfl, rfl⟩
theorem mkI_head {e c : Int32} : mkI 0 0 (upd (upd p0 3 e) 7 c) (fun _ => 0) := mkI_0 (fun v hv => by
  rw [← upd_gen _ _ (by omega), ← upd_gen _ _ (by omega)]
  unfold p0
  rw [if_neg (by omega), if_neg (by omega), if_neg (by omega), if_neg (by omega)]) (fun i hi => by
  rw [← upd_gen _ _ (by omega), ← upd_gen _ _ (by omega)]
  unfold p0
  rw [if_neg (by omega), if_neg (by omega), if_neg (by omega), if_neg (by omega)])
end PT
theorem freshP_in {cd : Nat → Int32} {ln hi mk pos : Nat} : pos ≤ freshP cd ln hi mk pos ∧ freshP cd ln hi mk pos ≤ pos + 1 := by
  unfold freshP
  split
  · exact ⟨Nat.le_add_right _ _, Nat.le_refl _⟩
  · exact ⟨Nat.le_refl _, Nat.le_add_right _ _⟩
theorem reg_n2 {cd : Nat → Int32} {ln pos na mp mr np v : Nat} {r t : Nat → Int32} (hI : mkI mp mr r t) (hm : mr ≠ 255) (h : eatQ cd ln pos 114) (hv : freshV cd ln 7 mr (pos + 1) = some v) (hq : numV cd ln [100, 10, 1] 255 0 (freshP cd ln 7 mr (pos + 1)) = none) : partS cd ln pos na np (pcB mr) r t = (false, numP cd ln [100, 10, 1] 255 0 (freshP cd ln 7 mr (pos + 1)), na, np, pcB mr, r, t) := by
  have hR := reg_y (na := na) (np := np) hI hm h hv
  rw [hR.1] at hq ⊢
  rw [hR.2.2.2.2, hq]
theorem reg_y2 {cd : Nat → Int32} {ln pos na mp mr np v z : Nat} {r t : Nat → Int32} (hI : mkI mp mr r t) (hm : mr ≠ 255) (h : eatQ cd ln pos 114) (hv : freshV cd ln 7 mr (pos + 1) = some v) (hq : numV cd ln [100, 10, 1] 255 0 (freshP cd ln 7 mr (pos + 1)) = some z) : partS cd ln pos na np (pcB mr) r t = (true, numP cd ln [100, 10, 1] 255 0 (freshP cd ln 7 mr (pos + 1)), na, np, pcB mr + 1, upd r (16 + v) (nI z), upd t v 1) := by
  have hR := reg_y (na := na) (np := np) hI hm h hv
  rw [hR.1] at hq ⊢
  rw [hR.2.2.2.2, hq]
