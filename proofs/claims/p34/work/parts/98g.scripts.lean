/-! scripts: what the clock says of itself -/
theorem i2l_N {n : Nat} (h : n < 2 ^ 31) : Int32.toInt64 (nI n) = lN n := by
  rw [fa_eq64, Int32.toInt_toInt64, nI_toInt h, lN_toInt (by omega)]
theorem sc1_n {G : Nat} {r : Nat → Int32} (h : cmdOk G r = 0) : scV 0 [G] r = 0 := if_pos h
theorem sc1_Y {G : Nat} {r : Nat → Int32} (h : cmdOk G r = 1) : scV 0 [G] r = -99999999 := if_neg (by rw [h]; decide)
theorem zc_2 {r : Nat → Int32} : scV 0 [2000970000 / 100000 % 100000, 2000970000 % 100000] r = -99999999 := by
  have h1 := cm2y (gg := 2000970000 / 100000 % 100000) (F := 9) (r := r) (by omega) (by omega) (by omega)
  have e : scV 0 [2000970000 / 100000 % 100000, 2000970000 % 100000] r = scV 1 [2000970000 % 100000] (cmdR (2000970000 / 100000 % 100000) r) := if_neg (by rw [h1.1]; decide)
  rw [e, h1.2.1]
  have h2 := cm7y (gg := 2000970000 % 100000) (F := 0) (r := plevel (nI 9) r) (by omega) (by omega) (lv_main (k := 3) (by omega) r)
  exact if_neg (by rw [h2.1]; decide)
theorem reg_n {B M : Int} {P : CPg} (hG : SG B M P) {k : Nat} (hk : k < 8) : ∃ v, v ≤ 255 ∧ P.1 (16 + k) = nI v := by
  have h := hG.2.1.2.2.2.2.1 (16 + k) (by omega) (by omega)
  have hn : ¬ P.1 (16 + k) < 0 := by rw [fa_lt, t_0]; omega
  obtain ⟨v, hv2, hv⟩ := nI_of hn
  rw [hv, nI_toInt hv2] at h
  exact ⟨v, by omega, hv⟩
theorem dom_n (r : Nat → Int32) : ∃ d, d < 4 ∧ pdom r = nI d := by
  rcases domv_or (r 6) (r 7) with q | q | q | q
  · exact ⟨0, by omega, q⟩
  · exact ⟨1, by omega, q⟩
  · exact ⟨2, by omega, q⟩
  · exact ⟨3, by omega, q⟩
theorem nI_inj {a b : Nat} (ha : a < 2 ^ 31) (hb : b < 2 ^ 31) (h : nI a = nI b) : a = b := (nI_eq ha hb).mp h
theorem zc_dom {r : Nat → Int32} {d : Nat} (hd : d < 4) (h : pdom r = nI d) : scV 0 [(70000 + d) % 100000] r = -99999999 := sc1_Y (cm7y (gg := (70000 + d) % 100000) (F := d) (by omega) (by omega) h).1
theorem zc_dom4 {r : Nat → Int32} {d : Nat} (hd : d < 4) (h : pdom r = nI d) : scV 0 [70004 % 100000] r = 0 := sc1_n (cm7n (gg := 70004 % 100000) (F := 4) (by omega) (by omega) (fun q => by
  have := nI_inj (by omega) (by omega) (h.symm.trans q)
  omega)).1
theorem zc_reg {r : Nat → Int32} {k v : Nat} (hk : k < 8) (hv : v ≤ 255) (h : r (16 + k) = nI v) : scV 0 [(80000 + 1000 * k + v) % 100000] r = -99999999 := sc1_Y (cm8y (gg := (80000 + 1000 * k + v) % 100000) (A := k) (T := v) (by omega) (by omega) (by omega) ⟨hk, h⟩).1
theorem zc_regn {r : Nat → Int32} {k v : Nat} (hk : k < 8) (hv : v ≤ 255) (h : r (16 + k) = nI v) : scV 0 [(80000 + 1000 * k + (v + 1) % 256) % 100000] r = 0 := sc1_n (cm8n (gg := (80000 + 1000 * k + (v + 1) % 256) % 100000) (A := k) (T := (v + 1) % 256) (by omega) (by omega) (by omega) (fun q => by
  have := nI_inj (by omega) (by omega) (h.symm.trans q.2)
  omega)).1
theorem zc_p0 {r : Nat → Int32} : scV 0 [10000 % 100000] r = 0 := sc1_n (cm1n (gg := 10000 % 100000) (F := 0) (by omega) (by omega) (by omega)).1
theorem zc_p1 {r : Nat → Int32} : scV 0 [11440 % 100000] r = -99999999 := sc1_Y (cm1y (gg := 11440 % 100000) (F := 1440) (by omega) (by omega) (by omega)).1
theorem zc_p2 {r : Nat → Int32} : scV 0 [11441 % 100000] r = 0 := sc1_n (cm1n (gg := 11441 % 100000) (F := 1441) (by omega) (by omega) (by omega)).1
theorem zc_l {r : Nat → Int32} : scV 0 [20010 % 100000] r = 0 := sc1_n (cm2n (gg := 20010 % 100000) (F := 10) (by omega) (by omega) (by omega)).1
theorem zc_c0 {r : Nat → Int32} (h : pdom r = 0) : scV 0 [31500 % 100000] r = -99999999 := sc1_Y (cm3y (gg := 31500 % 100000) (A := 1) (T := 500) (by omega) (by omega) (by omega) ⟨by omega, by omega, h⟩).1
theorem zc_c1 {r : Nat → Int32} (h : ¬ pdom r = 0) : scV 0 [31500 % 100000] r = 0 := sc1_n (cm3n (gg := 31500 % 100000) (A := 1) (T := 500) (by omega) (by omega) (by omega) (fun q => h q.2.2)).1
theorem zc_c2 {r : Nat → Int32} : scV 0 [30501 % 100000] r = 0 := sc1_n (cm3n (gg := 30501 % 100000) (A := 0) (T := 501) (by omega) (by omega) (by omega) (by omega)).1
theorem zc_c3 {r : Nat → Int32} : scV 0 [32000 % 100000] r = 0 := sc1_n (cm3n (gg := 32000 % 100000) (A := 2) (T := 0) (by omega) (by omega) (by omega) (by omega)).1
theorem zc_w0 {r : Nat → Int32} {k : Nat} (hk : k < 8) (h : pdom r = 0) : scV 0 [(40255 + 1000 * k) % 100000] r = -99999999 := sc1_Y (cm4y (gg := (40255 + 1000 * k) % 100000) (A := k) (T := 255) (by omega) (by omega) (by omega) ⟨hk, by omega, h⟩).1
theorem zc_w1 {r : Nat → Int32} {k : Nat} (hk : k < 8) (h : ¬ pdom r = 0) : scV 0 [(40255 + 1000 * k) % 100000] r = 0 := sc1_n (cm4n (gg := (40255 + 1000 * k) % 100000) (A := k) (T := 255) (by omega) (by omega) (by omega) (fun q => h q.2.2)).1
theorem zc_w2 {r : Nat → Int32} : scV 0 [40256 % 100000] r = 0 := sc1_n (cm4n (gg := 40256 % 100000) (A := 0) (T := 256) (by omega) (by omega) (by omega) (by omega)).1
theorem zc_w3 {r : Nat → Int32} : scV 0 [48000 % 100000] r = 0 := sc1_n (cm4n (gg := 48000 % 100000) (A := 8) (T := 0) (by omega) (by omega) (by omega) (by omega)).1
theorem zc_t0 {r : Nat → Int32} : scV 0 [50002 % 100000] r = -99999999 := sc1_Y (cm5y (gg := 50002 % 100000) (F := 2) (by omega) (by omega) (by omega)).1
theorem zc_t1 {r : Nat → Int32} : scV 0 [50003 % 100000] r = 0 := sc1_n (cm5n (gg := 50003 % 100000) (F := 3) (by omega) (by omega) (by omega)).1
theorem zc_a0 {r : Nat → Int32} : scV 0 [63000 % 100000] r = -99999999 := sc1_Y (cm6y (gg := 63000 % 100000) (A := 3) (T := 0) (by omega) (by omega) (by omega) (by omega)).1
theorem zc_a1 {r : Nat → Int32} : scV 0 [64000 % 100000] r = 0 := sc1_n (cm6n (gg := 64000 % 100000) (A := 4) (T := 0) (by omega) (by omega) (by omega) (by omega)).1
theorem zc_a2 {r : Nat → Int32} : scV 0 [60001 % 100000] r = 0 := sc1_n (cm6n (gg := 60001 % 100000) (A := 0) (T := 1) (by omega) (by omega) (by omega) (by omega)).1
theorem zc_r8 {r : Nat → Int32} : scV 0 [88000 % 100000] r = 0 := sc1_n (cm8n (gg := 88000 % 100000) (A := 8) (T := 0) (by omega) (by omega) (by omega) (fun q => absurd q.1 (by omega))).1
theorem zc_o2 {r : Nat → Int32} : scV 0 [92000 % 100000] r = 0 := sc1_n (cm9n (gg := 92000 % 100000) (A := 2) (T := 0) (by omega) (by omega) (by omega) (fun q => absurd q.1 (by omega))).1
theorem zc_0 {r : Nat → Int32} : scV 0 [0 % 100000] r = 0 := sc1_n (cmd0 (gg := 0 % 100000) (by omega)).1
theorem zc_oy {r : Nat → Int32} {T : Nat} (hT : T ≤ 999) (h : poff r ≤ nI T) : scV 0 [(90000 + T) % 100000] r = -99999999 := sc1_Y (cm9y (gg := (90000 + T) % 100000) (A := 0) (T := T) (by omega) (by omega) (by omega) ⟨by omega, h⟩).1
theorem zc_on {r : Nat → Int32} {T : Nat} (hT : T ≤ 999) (h : ¬ poff r ≤ nI T) : scV 0 [(90000 + T) % 100000] r = 0 := sc1_n (cm9n (gg := (90000 + T) % 100000) (A := 0) (T := T) (by omega) (by omega) (by omega) (fun q => h q.2)).1
theorem zc_my {r : Nat → Int32} {T : Nat} (hT : T ≤ 999) (h : poff r ≤ -nI T) : scV 0 [(91000 + T) % 100000] r = -99999999 := sc1_Y (cm9y (gg := (91000 + T) % 100000) (A := 1) (T := T) (by omega) (by omega) (by omega) ⟨by omega, h⟩).1
theorem zc_mn {r : Nat → Int32} {T : Nat} (hT : T ≤ 999) (h : ¬ poff r ≤ -nI T) : scV 0 [(91000 + T) % 100000] r = 0 := sc1_n (cm9n (gg := (91000 + T) % 100000) (A := 1) (T := T) (by omega) (by omega) (by omega) (fun q => h q.2)).1
theorem le_of_nlt {a b : Int32} (h : ¬ a < b) : b ≤ a := fa_of_nlt h
theorem nle_of_lt {a b : Int32} (h : a < b) : ¬ b ≤ a := (fa_of_lt h).2.1
theorem t_999 : (999 : Int32).toInt = 999 := by decide +kernel
theorem off_n {x : Int32} (h : ¬ x < 0) (h2 : ¬ (999 : Int32) < x) : ∃ o, o ≤ 999 ∧ x = nI o := by
  obtain ⟨n, hn2, hn⟩ := nI_of h
  rw [fa_lt, t_999, hn, nI_toInt hn2] at h2
  exact ⟨n, by omega, hn⟩
theorem t_m1 : (-1 : Int32).toInt = -1 := by decide +kernel
theorem t_m998 : (-998 : Int32).toInt = -998 := by decide +kernel
theorem off_m {x : Int32} (h : ¬ (-1 : Int32) < x) (h2 : ¬ x < -998) : ∃ o, 1 ≤ o ∧ o ≤ 998 ∧ x = -nI o := by
  rw [fa_lt, t_m1] at h
  rw [fa_lt, t_m998] at h2
  refine ⟨(-x.toInt).toNat, by omega, by omega, ?_⟩
  rw [fa_eq, fb_negI (by rw [nI_toInt (by omega)]; omega), nI_toInt (by omega)]
  omega
theorem off_L {o : Nat} (h : o ≤ 998) : (91001 : Int64) - Int32.toInt64 (-nI o) = lN (91000 + (1 + o)) := by
  have e : (91001 : Int64).toInt = 91001 := by decide +kernel
  have en : (-nI o).toInt = -(o : Int) := by rw [fb_negI (by rw [nI_toInt (by omega)]; omega), nI_toInt (by omega)]
  rw [fa_eq64, fb_subL (by rw [e, Int32.toInt_toInt64, en]; omega) (by rw [e, Int32.toInt_toInt64, en]; omega), e, Int32.toInt_toInt64, en, lN_toInt (by omega)]
  omega
theorem off_m2 {r : Nat → Int32} {o : Nat} (h : o ≤ 998) (e : poff r = -nI o) : ¬ poff r ≤ -nI (1 + o) := by
  rw [e, fa_le, fb_negI (by rw [nI_toInt (by omega)]; omega), nI_toInt (by omega), fb_negI (by rw [nI_toInt (by omega)]; omega), nI_toInt (by omega)]
  omega
/-! the simulation's answer -/
theorem C9_minute {r : Nat → Int32} (h : C7 r) (h9 : (r 7).toInt ≤ 9999) : (pminute r 7).toInt ≤ 9999 := by
  have h0 : 0 ≤ (r 7).toInt := h
  rw [pminute_7]
  split
  · rw [fb_subI (by rw [t_1]; omega) (by rw [t_1]; omega), t_1]; omega
  · exact h9
theorem C9_mins : ∀ (n : Nat) {r : Nat → Int32}, C7 r → (r 7).toInt ≤ 9999 → C7 (minsR n r) ∧ (minsR n r 7).toInt ≤ 9999 := by
  intro n
  induction n with
  | zero => intro r h h9; exact ⟨h, h9⟩
  | succ n ih => intro r h h9; exact ih (C7_minute h) (C9_minute h h9)
theorem simQ_7 {q : Nat} {r : Nat → Int32} (hR : Rw r) : simQ q r 7 = r 7 := by
  unfold simQ
  split
  · exact settle_k _ _ (by omega)
  · split
    · unfold ptamper
      split
      · split
        · rfl
        · rw [ptamR_ne _ hR.1 (by omega) (by omega) (by omega), perase_ne r (by omega)]
      · rfl
    · rfl
theorem sim_79 {K : Int64 → Int64} {N : Int64 → Nat} : ∀ (n : Nat) {s : Int64} {r : Nat → Int32}, Pw r → C7 r → (r 7).toInt ≤ 9999 → Pw (simR K N n s r) ∧ C7 (simR K N n s r) ∧ (simR K N n s r 7).toInt ≤ 9999 := by
  intro n
  induction n with
  | zero => intro s r h1 h2 h3; exact ⟨h1, h2, h3⟩
  | succ n ih =>
    intro s r h1 h2 h3
    have e := simQ_7 (q := N (K s)) h1.1
    have hm := C9_mins (1 + N (K s) / 64 % 60) (r := simQ (N (K s)) r) (by unfold C7; rw [e]; exact h2) (by rw [e]; exact h3)
    exact ih (Pw_simS h1) hm.1 hm.2
theorem sim_nn {B M : Int} {P : CPg} (hG : SG B M P) (K : Int64 → Int64) (N : Int64 → Nat) (n : Nat) (s : Int64) : ¬ 100 * (simR K N n s P.1) 7 + 10 * pdom (simR K N n s P.1) + (simR K N n s P.1) 11 < 0 := by
  obtain ⟨h1, h2, h3⟩ := sim_79 (K := K) (N := N) n (s := s) (SG_Pw hG) (SG_C7 hG) hG.2.1.2.2.2.1
  generalize simR K N n s P.1 = q at h1 h2 h3
  have h4 : 0 ≤ (q 7).toInt := h2
  have h5 := Rw_I h1.1
  obtain ⟨d, hd, hdd⟩ := dom_n q
  have e100 : (100 : Int32).toInt = 100 := by decide +kernel
  have e10 : (10 : Int32).toInt = 10 := by decide +kernel
  have a1 : (100 * q 7).toInt = 100 * (q 7).toInt := by rw [fb_mulI (by rw [e100]; omega) (by rw [e100]; omega), e100]
  have a2 : (10 * pdom q).toInt = 10 * d := by rw [hdd, fb_mulI (by rw [e10, nI_toInt (by omega)]; omega) (by rw [e10, nI_toInt (by omega)]; omega), e10, nI_toInt (by omega)]
  have a3 : (100 * q 7 + 10 * pdom q).toInt = 100 * (q 7).toInt + 10 * d := by rw [fb_addI (by rw [a1, a2]; omega) (by rw [a1, a2]; omega), a1, a2]
  rw [fa_lt, t_0, fb_addI (by rw [a3]; omega) (by rw [a3]; omega), a3]
  omega
