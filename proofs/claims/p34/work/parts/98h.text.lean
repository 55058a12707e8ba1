/-! the text that is told: what is read of it so far -/
theorem dg_of {cd : Nat → Int32} {ln pos d : Nat} (h : cd pos = nI (48 + d)) (hd : d ≤ 9) (hp : pos < ln) : isDig cd ln pos ∧ digN cd pos = d := by
  have e48 : (48 : Int32).toInt = 48 := by decide +kernel
  have e57 : (57 : Int32).toInt = 57 := by decide +kernel
  refine ⟨⟨hp, ?_, ?_⟩, ?_⟩
  · rw [h, fa_lt, nI_toInt (by omega), e48]; omega
  · rw [h, gt_iff_lt, fa_lt, nI_toInt (by omega), e57]; omega
  · unfold digN
    have e : nI (48 + d) - 48 = nI d := by
      rw [fa_eq, fb_subI (by rw [nI_toInt (by omega), e48]; omega) (by rw [nI_toInt (by omega), e48]; omega), nI_toInt (by omega), nI_toInt (by omega), e48]
      omega
    rw [h, e, nI_clamp (by omega)]
theorem dg_no {cd : Nat → Int32} {ln pos : Nat} (hp : ln ≤ pos) (c : Nat → Prop) : ¬ (isDig cd ln pos ∧ c pos) := fun q => absurd q.1.1 (by omega)
theorem num2 {cd : Nat → Int32} {ln pos hi a b : Nat} (h0 : cd pos = nI (48 + a)) (h1 : cd (pos + 1) = nI (48 + b)) (ha : a ≤ 9) (hb : b ≤ 9) (hl : pos + 2 ≤ ln) (hh : 10 * a + b ≤ hi) : numV cd ln [10, 1] hi 0 pos = some (10 * a + b) ∧ numP cd ln [10, 1] hi 0 pos = pos + 2 := by
  have d0 := dg_of (ln := ln) h0 ha (by omega)
  have d1 := dg_of (ln := ln) h1 hb (by omega)
  have s0 := numV_y (us := [1]) (hi := hi) (acc := 0) (u := 10) (cd := cd) (ln := ln) (pos := pos) ⟨d0.1, by rw [d0.2]; omega⟩
  have s1 := numV_y (us := []) (hi := hi) (acc := 0 + digN cd pos * 10) (u := 1) (cd := cd) (ln := ln) (pos := pos + 1) ⟨d1.1, by rw [d0.2, d1.2]; omega⟩
  rw [s0.1, s0.2, s1.1, s1.2]
  constructor
  · show some (0 + digN cd pos * 10 + digN cd (pos + 1) * 1) = _
    rw [d0.2, d1.2]
    exact congrArg some (by omega)
  · rfl
theorem num3 {cd : Nat → Int32} {ln pos hi a b c : Nat} (h0 : cd pos = nI (48 + a)) (h1 : cd (pos + 1) = nI (48 + b)) (h2 : cd (pos + 2) = nI (48 + c)) (ha : a ≤ 9) (hb : b ≤ 9) (hc : c ≤ 9) (hl : pos + 3 ≤ ln) (hh : 100 * a + 10 * b + c ≤ hi) : numV cd ln [100, 10, 1] hi 0 pos = some (100 * a + 10 * b + c) ∧ numP cd ln [100, 10, 1] hi 0 pos = pos + 3 := by
  have d0 := dg_of (ln := ln) h0 ha (by omega)
  have d1 := dg_of (ln := ln) h1 hb (by omega)
  have d2 := dg_of (ln := ln) h2 hc (by omega)
  have s0 := numV_y (us := [10, 1]) (hi := hi) (acc := 0) (u := 100) (cd := cd) (ln := ln) (pos := pos) ⟨d0.1, by rw [d0.2]; omega⟩
  have s1 := numV_y (us := [1]) (hi := hi) (acc := 0 + digN cd pos * 100) (u := 10) (cd := cd) (ln := ln) (pos := pos + 1) ⟨d1.1, by rw [d0.2, d1.2]; omega⟩
  have s2 := numV_y (us := []) (hi := hi) (acc := 0 + digN cd pos * 100 + digN cd (pos + 1) * 10) (u := 1) (cd := cd) (ln := ln) (pos := pos + 1 + 1) ⟨d2.1, by rw [d0.2, d1.2, show digN cd (pos + 1 + 1) = c from d2.2]; omega⟩
  rw [s0.1, s0.2, s1.1, s1.2, s2.1, s2.2]
  constructor
  · show some (0 + digN cd pos * 100 + digN cd (pos + 1) * 10 + digN cd (pos + 2) * 1) = _
    rw [d0.2, d1.2, d2.2]
    exact congrArg some (by omega)
  · rfl
theorem num4 {cd : Nat → Int32} {ln pos hi a b c d : Nat} (h0 : cd pos = nI (48 + a)) (h1 : cd (pos + 1) = nI (48 + b)) (h2 : cd (pos + 2) = nI (48 + c)) (h3 : cd (pos + 3) = nI (48 + d)) (ha : a ≤ 9) (hb : b ≤ 9) (hc : c ≤ 9) (hd : d ≤ 9) (hl : pos + 4 ≤ ln) (hh : 1000 * a + 100 * b + 10 * c + d ≤ hi) : numV cd ln [1000, 100, 10, 1] hi 0 pos = some (1000 * a + 100 * b + 10 * c + d) ∧ numP cd ln [1000, 100, 10, 1] hi 0 pos = pos + 4 := by
  have d0 := dg_of (ln := ln) h0 ha (by omega)
  have d1 := dg_of (ln := ln) h1 hb (by omega)
  have d2 := dg_of (ln := ln) h2 hc (by omega)
  have d3 := dg_of (ln := ln) h3 hd (by omega)
  have s0 := numV_y (us := [100, 10, 1]) (hi := hi) (acc := 0) (u := 1000) (cd := cd) (ln := ln) (pos := pos) ⟨d0.1, by rw [d0.2]; omega⟩
  have s1 := numV_y (us := [10, 1]) (hi := hi) (acc := 0 + digN cd pos * 1000) (u := 100) (cd := cd) (ln := ln) (pos := pos + 1) ⟨d1.1, by rw [d0.2, d1.2]; omega⟩
  have s2 := numV_y (us := [1]) (hi := hi) (acc := 0 + digN cd pos * 1000 + digN cd (pos + 1) * 100) (u := 10) (cd := cd) (ln := ln) (pos := pos + 1 + 1) ⟨d2.1, by rw [d0.2, d1.2, show digN cd (pos + 1 + 1) = c from d2.2]; omega⟩
  have s3 := numV_y (us := []) (hi := hi) (acc := 0 + digN cd pos * 1000 + digN cd (pos + 1) * 100 + digN cd (pos + 1 + 1) * 10) (u := 1) (cd := cd) (ln := ln) (pos := pos + 1 + 1 + 1) ⟨d3.1, by rw [d0.2, d1.2, show digN cd (pos + 1 + 1) = c from d2.2, show digN cd (pos + 1 + 1 + 1) = d from d3.2]; omega⟩
  rw [s0.1, s0.2, s1.1, s1.2, s2.1, s2.2, s3.1, s3.2]
  constructor
  · show some (0 + digN cd pos * 1000 + digN cd (pos + 1) * 100 + digN cd (pos + 2) * 10 + digN cd (pos + 3) * 1) = _
    rw [d0.2, d1.2, d2.2, d3.2]
    exact congrArg some (by omega)
  · rfl
def RdP (cd : Nat → Int32) (pos na np nr : Nat) (r t : Nat → Int32) : Prop := ∀ (cd' : Nat → Int32) (ln : Nat), (∀ j, j < pos → cd' j = cd j) → pos ≤ ln → ln ≤ 60 → ∃ k, rdAll cd' ln = rdLoop cd' ln k pos na np nr r t ∧ ln ≤ pos + k
section RDP
variable {cd : Nat → Int32} {pos na np nr : Nat} {r t : Nat → Int32}
theorem RdP_up (h : RdP cd pos na np nr r t) {i : Nat} {v : Int32} (hi : pos ≤ i) : RdP (upd cd i v) pos na np nr r t := fun cd' ln hc => h cd' ln fun j hj => (hc j hj).trans (upd_gen cd v (by omega)).symm
theorem here_at {ln : Nat} {v : Int32} (h : cd pos = v) (hp : pos < ln) : hereV cd ln pos = v := (if_pos hp).trans h
theorem head_y {ln e c a1 a2 a3 b1 b2 b3 b4 : Nat} {sg : Int32} {r0 : Nat → Int32} (h0 : cd 0 = 75) (h1 : cd 1 = sg) (hs : sg = 43 ∨ sg = 45) (h2 : cd 2 = nI (48 + a1)) (h3 : cd 3 = nI (48 + a2)) (h4 : cd 4 = nI (48 + a3)) (h5 : cd 5 = nI (48 + b1)) (h6 : cd 6 = nI (48 + b2)) (h7 : cd 7 = nI (48 + b3)) (h8 : cd 8 = nI (48 + b4))
    (ha : a1 ≤ 9 ∧ a2 ≤ 9 ∧ a3 ≤ 9) (hb : b1 ≤ 9 ∧ b2 ≤ 9 ∧ b3 ≤ 9 ∧ b4 ≤ 9) (he : 100 * a1 + 10 * a2 + a3 = e) (hc : 1000 * b1 + 100 * b2 + 10 * b3 + b4 = c) (he5 : e ≤ 500) (hc9 : c ≤ 9999) (hl : 9 ≤ ln) : headS cd ln r0 = (true, 9, upd (upd r0 3 (if sg = 45 then -nI e else nI e)) 7 (nI c)) := by
  have n3 := num3 (cd := cd) (ln := ln) (pos := 2) (hi := 500) h2 h3 h4 ha.1 ha.2.1 ha.2.2 (by omega) (by omega)
  have n4 := num4 (cd := cd) (ln := ln) (pos := 5) (hi := 9999) h5 h6 h7 h8 hb.1 hb.2.1 hb.2.2.1 hb.2.2.2 (by omega) (by omega)
  unfold headS
  rw [if_pos (here_at h0 (by omega)), if_pos (show hereV cd ln 1 = 43 ∨ hereV cd ln 1 = 45 by rw [here_at h1 (by omega)]; exact hs), n3.1, n3.2]
  show (match numV cd ln [1000, 100, 10, 1] 9999 0 (2 + 3) with | none => _ | some c => _) = _
  rw [n4.1]
  show (true, numP cd ln [1000, 100, 10, 1] 9999 0 (2 + 3), _) = _
  rw [n4.2, here_at h1 (by omega), he, hc]
theorem RdP_head {e c a1 a2 a3 b1 b2 b3 b4 : Nat} {sg : Int32} (h0 : cd 0 = 75) (h1 : cd 1 = sg) (hs : sg = 43 ∨ sg = 45) (h2 : cd 2 = nI (48 + a1)) (h3 : cd 3 = nI (48 + a2)) (h4 : cd 4 = nI (48 + a3)) (h5 : cd 5 = nI (48 + b1)) (h6 : cd 6 = nI (48 + b2)) (h7 : cd 7 = nI (48 + b3)) (h8 : cd 8 = nI (48 + b4))
    (ha : a1 ≤ 9 ∧ a2 ≤ 9 ∧ a3 ≤ 9) (hb : b1 ≤ 9 ∧ b2 ≤ 9 ∧ b3 ≤ 9 ∧ b4 ≤ 9) (he : 100 * a1 + 10 * a2 + a3 = e) (hc : 1000 * b1 + 100 * b2 + 10 * b3 + b4 = c) (he5 : e ≤ 500) (hc9 : c ≤ 9999) : RdP cd 9 0 0 0 (upd (upd p0 3 (if sg = 45 then -nI e else nI e)) 7 (nI c)) (fun _ => 0) := by
  intro cd' ln hj hl h60
  have q : ∀ j, j < 9 → cd' j = cd j := hj
  exact ⟨60, rd_headT (head_y ((q 0 (by omega)).trans h0) ((q 1 (by omega)).trans h1) hs ((q 2 (by omega)).trans h2) ((q 3 (by omega)).trans h3) ((q 4 (by omega)).trans h4) ((q 5 (by omega)).trans h5) ((q 6 (by omega)).trans h6) ((q 7 (by omega)).trans h7) ((q 8 (by omega)).trans h8) ha hb he hc he5 hc9 hl), by omega⟩
/-- a text that ends here is read -/
theorem RdP_end (h : RdP cd pos na np nr r t) (hp : pos ≤ 60) : rdAll cd pos = (true, pos, na, np, nr, r, t) := by
  obtain ⟨k, e, -⟩ := h cd pos (fun _ _ => rfl) (Nat.le_refl _) hp
  exact e.trans (rd_out k (by omega))
theorem RdP_none (h : RdP cd pos na np nr r t) (hp : pos ≤ 60) : (if (rdAll cd pos).1 = true then (-99999999 : Int32) else nI (rdAll cd pos).2.1) = -99999999 := by
  rw [RdP_end h hp]
  exact if_pos rfl
theorem al_y {ln a b c d : Nat} (h0 : cd pos = 97) (h1 : cd (pos + 1) = nI (48 + a)) (h2 : cd (pos + 2) = nI (48 + b)) (h3 : cd (pos + 3) = nI (48 + c)) (h4 : cd (pos + 4) = nI (48 + d)) (ha : a ≤ 9 ∧ b ≤ 9 ∧ c ≤ 9 ∧ d ≤ 9) (hh : 10 * a + b ≤ 23) (hm : 10 * c + d ≤ 59) (hna : na < 4) (hl : pos + 5 ≤ ln) : partS cd ln pos na np nr r t = (true, pos + 5, na + 1, np, nr, upd (upd r (27 + 3 * na) (nI ((10 * a + b) * 60 + (10 * c + d)))) (28 + 3 * na) 0, t) := by
  have n2 := num2 (cd := cd) (ln := ln) (pos := pos + 1) (hi := 23) h1 h2 ha.1 ha.2.1 (by omega) hh
  have n3 := num2 (cd := cd) (ln := ln) (pos := pos + 3) (hi := 59) h3 h4 ha.2.2.1 ha.2.2.2 (by omega) hm
  unfold partS
  rw [if_pos (here_at h0 (by omega))]
  unfold alarmS
  rw [if_pos hna, n2.1, n2.2]
  show (match numV cd ln [10, 1] 59 0 (pos + 1 + 2) with | none => _ | some mm => _) = _
  rw [show pos + 1 + 2 = pos + 3 by omega, n3.1]
  show (true, numP cd ln [10, 1] 59 0 (pos + 3), _) = _
  rw [n3.2]
theorem RdP_al (h : RdP cd pos na np nr r t) {a b c d : Nat} (h0 : cd pos = 97) (h1 : cd (pos + 1) = nI (48 + a)) (h2 : cd (pos + 2) = nI (48 + b)) (h3 : cd (pos + 3) = nI (48 + c)) (h4 : cd (pos + 4) = nI (48 + d)) (ha : a ≤ 9 ∧ b ≤ 9 ∧ c ≤ 9 ∧ d ≤ 9) (hh : 10 * a + b ≤ 23) (hm : 10 * c + d ≤ 59) (hna : na < 4) : RdP cd (pos + 5) (na + 1) np nr (upd (upd r (27 + 3 * na) (nI ((10 * a + b) * 60 + (10 * c + d)))) (28 + 3 * na) 0) t := by
  intro cd' ln hj hl h60
  obtain ⟨k, e, hk⟩ := h cd' ln (fun j q => hj j (by omega)) (by omega) h60
  exact rd_go e hk (by omega) (al_y ((hj _ (by omega)).trans h0) ((hj _ (by omega)).trans h1) ((hj _ (by omega)).trans h2) ((hj _ (by omega)).trans h3) ((hj _ (by omega)).trans h4) ha hh hm hna hl) (by omega)
theorem pin_y {ln d : Nat} (h0 : cd pos = 112) (h1 : cd (pos + 1) = nI (48 + d)) (hd : d < 3) (hnp : np < 3) (hb : bz (r (24 + d)) = 0) (hl : pos + 2 ≤ ln) : partS cd ln pos na np nr r t = (true, pos + 2, na, np + 1, nr, upd r (24 + d) 1, t) := by
  have d1 := dg_of (ln := ln) h1 (by omega) (by omega)
  unfold partS
  rw [if_neg (by rw [here_at h0 (by omega)]; decide), if_pos (here_at h0 (by omega))]
  unfold pinS
  rw [if_pos hnp, if_pos ⟨d1.1, by rw [d1.2]; exact hd, by rw [d1.2]; exact hb⟩, d1.2]
theorem RdP_pin (h : RdP cd pos na np nr r t) {d : Nat} (h0 : cd pos = 112) (h1 : cd (pos + 1) = nI (48 + d)) (hd : d < 3) (hnp : np < 3) (hb : bz (r (24 + d)) = 0) : RdP cd (pos + 2) na (np + 1) nr (upd r (24 + d) 1) t := by
  intro cd' ln hj hl h60
  obtain ⟨k, e, hk⟩ := h cd' ln (fun j q => hj j (by omega)) (by omega) h60
  exact rd_go e hk (by omega) (pin_y ((hj _ (by omega)).trans h0) ((hj _ (by omega)).trans h1) hd hnp hb hl) (by omega)
theorem reg_yy {ln d a b c : Nat} (h0 : cd pos = 114) (h1 : cd (pos + 1) = nI (48 + d)) (h2 : cd (pos + 2) = nI (48 + a)) (h3 : cd (pos + 3) = nI (48 + b)) (h4 : cd (pos + 4) = nI (48 + c)) (hd : d < 8) (ha : a ≤ 9 ∧ b ≤ 9 ∧ c ≤ 9) (hv : 100 * a + 10 * b + c ≤ 255) (hnr : nr < 8) (ht : t d = 0) (hl : pos + 5 ≤ ln) : partS cd ln pos na np nr r t = (true, pos + 5, na, np, nr + 1, upd r (16 + d) (nI (100 * a + 10 * b + c)), upd t d 1) := by
  have d1 := dg_of (ln := ln) h1 (by omega) (by omega)
  have n3 := num3 (cd := cd) (ln := ln) (pos := pos + 2) (hi := 255) h2 h3 h4 ha.1 ha.2.1 ha.2.2 (by omega) hv
  unfold partS
  rw [if_neg (by rw [here_at h0 (by omega)]; decide), if_neg (by rw [here_at h0 (by omega)]; decide), if_pos (here_at h0 (by omega))]
  unfold regS
  rw [if_pos hnr, if_pos ⟨d1.1, by rw [d1.2]; exact hd, by rw [d1.2]; exact ht⟩, show pos + 1 + 1 = pos + 2 by omega, n3.1]
  show (true, numP cd ln [100, 10, 1] 255 0 (pos + 2), _) = _
  rw [n3.2, d1.2]
theorem RdP_reg (h : RdP cd pos na np nr r t) {d a b c : Nat} (h0 : cd pos = 114) (h1 : cd (pos + 1) = nI (48 + d)) (h2 : cd (pos + 2) = nI (48 + a)) (h3 : cd (pos + 3) = nI (48 + b)) (h4 : cd (pos + 4) = nI (48 + c)) (hd : d < 8) (ha : a ≤ 9 ∧ b ≤ 9 ∧ c ≤ 9) (hv : 100 * a + 10 * b + c ≤ 255) (hnr : nr < 8) (ht : t d = 0) : RdP cd (pos + 5) na np (nr + 1) (upd r (16 + d) (nI (100 * a + 10 * b + c))) (upd t d 1) := by
  intro cd' ln hj hl h60
  obtain ⟨k, e, hk⟩ := h cd' ln (fun j q => hj j (by omega)) (by omega) h60
  exact rd_go e hk (by omega) (reg_yy ((hj _ (by omega)).trans h0) ((hj _ (by omega)).trans h1) ((hj _ (by omega)).trans h2) ((hj _ (by omega)).trans h3) ((hj _ (by omega)).trans h4) hd ha hv hnr ht hl) (by omega)
/-- what is answered where the text breaks off -/
theorem RdP_fail (h : RdP cd pos na np nr r t) {ln p : Nat} {S : Nat × Nat × Nat × (Nat → Int32) × (Nat → Int32)} (hl : pos < ln) (h60 : ln ≤ 60) (hS : partS cd ln pos na np nr r t = (false, p, S)) : (rdAll cd ln).1 = false ∧ (rdAll cd ln).2.1 = p := by
  obtain ⟨k, e, hk⟩ := h cd ln (fun _ _ => rfl) (by omega) h60
  exact rd_F (rd_fail e hk hl hS)
theorem ans_F {ln p : Nat} (h : (rdAll cd ln).1 = false ∧ (rdAll cd ln).2.1 = p) : (if (rdAll cd ln).1 = true then (-99999999 : Int32) else nI (rdAll cd ln).2.1) = nI p := by
  rw [h.1, h.2]
  exact if_neg Bool.false_ne_true
theorem RdP_al3 (h : RdP cd pos na np nr r t) {a b : Nat} (h0 : cd pos = 97) (h1 : cd (pos + 1) = nI (48 + a)) (h2 : cd (pos + 2) = nI (48 + b)) (ha : a ≤ 9 ∧ b ≤ 9) (hh : 10 * a + b ≤ 23) (hna : na < 4) (h60 : pos + 3 ≤ 60) : (if (rdAll cd (pos + 3)).1 = true then (-99999999 : Int32) else nI (rdAll cd (pos + 3)).2.1) = nI (pos + 3) := by
  refine ans_F (RdP_fail h (by omega) h60 (S := (na, np, nr, r, t)) ?_)
  have n2 := num2 (cd := cd) (ln := pos + 3) (pos := pos + 1) (hi := 23) h1 h2 ha.1 ha.2 (by omega) hh
  have n0 := numV_n (us := [1]) (hi := 59) (acc := 0) (u := 10) (cd := cd) (ln := pos + 3) (pos := pos + 3) (fun q => absurd q.1.1 (by omega))
  unfold partS
  rw [if_pos (here_at h0 (by omega))]
  unfold alarmS
  rw [if_pos hna, n2.1, n2.2]
  show (match numV cd (pos + 3) [10, 1] 59 0 (pos + 1 + 2) with | none => _ | some mm => _) = _
  rw [show pos + 1 + 2 = pos + 3 by omega, n0.1]
  show (false, numP cd (pos + 3) [10, 1] 59 0 (pos + 3), _) = _
  rw [n0.2]
theorem RdP_reg2 (h : RdP cd pos na np nr r t) {d : Nat} (h0 : cd pos = 114) (h1 : cd (pos + 1) = nI (48 + d)) (hd : d < 8) (hnr : nr < 8) (ht : t d = 0) (h60 : pos + 2 ≤ 60) : (if (rdAll cd (pos + 2)).1 = true then (-99999999 : Int32) else nI (rdAll cd (pos + 2)).2.1) = nI (pos + 2) := by
  refine ans_F (RdP_fail h (by omega) h60 (S := (na, np, nr, r, t)) ?_)
  have d1 := dg_of (ln := pos + 2) h1 (by omega) (by omega)
  have n0 := numV_n (us := [10, 1]) (hi := 255) (acc := 0) (u := 100) (cd := cd) (ln := pos + 2) (pos := pos + 2) (fun q => absurd q.1.1 (by omega))
  unfold partS
  rw [if_neg (by rw [here_at h0 (by omega)]; decide), if_neg (by rw [here_at h0 (by omega)]; decide), if_pos (here_at h0 (by omega))]
  unfold regS
  rw [if_pos hnr, if_pos ⟨d1.1, by rw [d1.2]; exact hd, by rw [d1.2]; exact ht⟩, show pos + 1 + 1 = pos + 2 by omega, n0.1]
  show (false, numP cd (pos + 2) [100, 10, 1] 255 0 (pos + 2), _) = _
  rw [n0.2]
theorem RdP_pinN (h : RdP cd pos na np nr r t) {d : Nat} (h0 : cd pos = 112) (h1 : cd (pos + 1) = nI (48 + d)) (hd : d < 3) (hnp : np < 3) (hb : ¬ bz (r (24 + d)) = 0) (h60 : pos + 2 ≤ 60) : (rdAll cd (pos + 2)).1 = false ∧ (rdAll cd (pos + 2)).2.1 = pos + 1 := by
  refine RdP_fail h (by omega) h60 (S := (na, np, nr, r, t)) ?_
  have d1 := dg_of (ln := pos + 2) h1 (by omega) (by omega)
  unfold partS
  rw [if_neg (by rw [here_at h0 (by omega)]; decide), if_pos (here_at h0 (by omega))]
  unfold pinS
  rw [if_pos hnp, if_neg (fun q => hb (by have := q.2.2; rw [d1.2] at this; exact this))]
theorem rd_K1 (h0 : cd 0 = 75) : (if (rdAll cd 1).1 = true then (-99999999 : Int32) else nI (rdAll cd 1).2.1) = 1 := by
  refine ans_F (p := 1) (rd_headF (r' := p0) ?_)
  unfold headS
  rw [if_pos (here_at h0 (by omega)), if_neg (by
    unfold hereV
    rw [if_neg (by omega)]
    decide)]
theorem rd_K5 {a1 a2 a3 : Nat} {sg : Int32} (h0 : cd 0 = 75) (h1 : cd 1 = sg) (hs : sg = 43 ∨ sg = 45) (h2 : cd 2 = nI (48 + a1)) (h3 : cd 3 = nI (48 + a2)) (h4 : cd 4 = nI (48 + a3)) (ha : a1 ≤ 9 ∧ a2 ≤ 9 ∧ a3 ≤ 9) (he5 : 100 * a1 + 10 * a2 + a3 ≤ 500) : (if (rdAll cd 5).1 = true then (-99999999 : Int32) else nI (rdAll cd 5).2.1) = 5 := by
  refine ans_F (p := 5) (rd_headF (r' := p0) ?_)
  have n3 := num3 (cd := cd) (ln := 5) (pos := 2) (hi := 500) h2 h3 h4 ha.1 ha.2.1 ha.2.2 (by omega) he5
  have n0 := numV_n (us := [100, 10, 1]) (hi := 9999) (acc := 0) (u := 1000) (cd := cd) (ln := 5) (pos := 5) (fun q => absurd q.1.1 (by omega))
  unfold headS
  rw [if_pos (here_at h0 (by omega)), if_pos (show hereV cd 5 1 = 43 ∨ hereV cd 5 1 = 45 by rw [here_at h1 (by omega)]; exact hs), n3.1, n3.2]
  show (match numV cd 5 [1000, 100, 10, 1] 9999 0 5 with | none => (false, numP cd 5 [1000, 100, 10, 1] 9999 0 5, p0) | some c => (true, numP cd 5 [1000, 100, 10, 1] 9999 0 5, upd (upd p0 3 (if hereV cd 5 1 = 45 then -nI (100 * a1 + 10 * a2 + a3) else nI (100 * a1 + 10 * a2 + a3))) 7 (nI c))) = (false, 5, p0)
  rw [n0.2, n0.1]
theorem rd_X (h0 : cd 0 = 120) : (if (rdAll cd 1).1 = true then (-99999999 : Int32) else nI (rdAll cd 1).2.1) = 0 := by
  refine ans_F (p := 0) (rd_headF (r' := p0) ?_)
  unfold headS
  rw [if_neg (by rw [here_at h0 (by omega)]; decide)]
end RDP
