theorem len_out {i L : Nat} (hi : i ≤ 512) (hL : L ≤ 2048) (h : ¬ nI (4 * i) > Int32.ofNat L - 4) : 4 * i + 4 ≤ L := by
  have e4 : (4 : Int32).toInt = 4 := by decide +kernel
  have eL : (Int32.ofNat L).toInt = L := nI_toInt (n := L) (by omega)
  have ei : (nI (4 * i)).toInt = ((4 * i : Nat) : Int) := nI_toInt (by omega)
  rw [gt_iff_lt, fa_lt, fb_subI (by omega) (by omega), eL, e4, ei] at h
  omega
set_option maxHeartbeats 4000000 in
set_option maxRecDepth 100000 in
theorem law_body {p : Program} {l : Launch} {e : Env} {s : State} {m : MethodId} {below : List Frame} {meth : Method} {c : Code} {sb L : Nat} {xs : Nat → Int32} {D : va_G} {ty : Nat → ClassId} (hret : meth.sig.returnType = ret) (ot bc tx hi sl cod told hs ss sf : Nat) (a d b : Nat → Nat) (bd : Nat → Nat → Nat) (i : Nat) (hi5 : i ≤ 512) (C : LC p l s m meth c sb L xs D ty (fun q : Nat => s.heap.size ≤ q)) (hnext : 4 * i + 4 ≤ L → LH p l e s m below meth c sb D ty (fun q : Nat => s.heap.size ≤ q) (lw_Z below #[Value.ref sb] s) ot bc tx hi sl cod told hs ss sf a d b bd (i + 1)) : LH p l e s m below meth c sb D ty (fun q : Nat => s.heap.size ≤ q) (lw_Z below #[Value.ref sb] s) ot bc tx hi sl cod told hs ss sf a d b bd i := by
  intro of ln cn cd p9 z1 z2 z3 t9 r x y g r2 x2 y2 g2 ad kf vr vx vy vg ur ux uy ug rf sp rd rt dd kk xt yt ds ks hI H locs hP hD hS ls hl
  have C9 := C
  obtain ⟨hx, hb, hml, hown, hts, hXs, hbl, hbA, hA, hK, hX, hst, hlocks, hL⟩ := C9
  refine lv_iload hx hb dL_law_23 (lv_at hl 0 rfl) ?_
  refine lv_aload_n hx hb dL_law_25 rfl (lv_at hl 1 rfl) ?_
  refine va_slen hx hb hXs hbl hbA hS dL_law_26 ?_
  refine lv_iconst (v := 4) hx hb dL_law_27 (by decide) ?_
  refine k_isub (v := Int32.ofNat L - 4) hx hb dL_law_28 rfl ?_
  refine lv_icmp_gt (tgt := 1892) hx hb dL_law_29 (by decide) (fun cg => ?_) (fun cg => ?_)
  · refine lv_iconst (v := 1) hx hb dL_law_1892 (by decide) ?_
    refine va_forget (fun q hq => hS.2.2 q hq) ?_
    refine W.widen (k := 601024) (n := 7293034) (by omega) (by omega) ?_
    exact lw_ret hx hb hret hlocks dL_law_1893
  · have h4 : 4 * i + 4 ≤ L := len_out hi5 hL cg
    have hn := hnext h4
    refine lv_aload_n hx hb dL_law_32 rfl (lv_at hl 1 rfl) ?_
    refine lv_iload hx hb dL_law_33 (lv_at hl 0 rfl) ?_
    refine lw_sld hx hb hXs hbl hbA hS (j := 4 * i) (by omega) hL dL_law_35 ?_
    refine lv_bipush (v := 31) hx hb dL_law_36 (by decide) ?_
    refine k_iand (v := ((xs (4 * i)) &&& 31)) hx hb dL_law_38 rfl ?_
    rcases Classical.em (((xs (4 * i)) &&& 31) = 0) with c_1 | c_1
    · refine lv_tableIn (tgt := 176) (off := 137) hx hb dL_law_39 (by first | (rw [c_1]; done) | (rw [c_1]; decide)) (by first | (rw [c_1]; done) | (rw [c_1]; decide)) (by first | (rw [c_1]; done) | (rw [c_1]; rfl)) (by decide) ?_
      exact law_0 ot bc tx hi sl cod told hs ss sf a d b bd i C h4 hn of ln cn cd p9 z1 z2 z3 t9 r x y g r2 x2 y2 g2 ad kf vr vx vy vg ur ux uy ug rf sp rd rt dd kk xt yt ds ks hI H locs hP hD hS ls hl
    rcases Classical.em (((xs (4 * i)) &&& 31) = 1) with c_2 | c_2
    · refine lv_tableIn (tgt := 232) (off := 193) hx hb dL_law_39 (by first | (rw [c_2]; done) | (rw [c_2]; decide)) (by first | (rw [c_2]; done) | (rw [c_2]; decide)) (by first | (rw [c_2]; done) | (rw [c_2]; rfl)) (by decide) ?_
      exact law_1 ot bc tx hi sl cod told hs ss sf a d b bd i C h4 hn of ln cn cd p9 z1 z2 z3 t9 r x y g r2 x2 y2 g2 ad kf vr vx vy vg ur ux uy ug rf sp rd rt dd kk xt yt ds ks hI H locs hP hD hS ls hl
    rcases Classical.em (((xs (4 * i)) &&& 31) = 2) with c_3 | c_3
    · refine lv_tableIn (tgt := 245) (off := 206) hx hb dL_law_39 (by first | (rw [c_3]; done) | (rw [c_3]; decide)) (by first | (rw [c_3]; done) | (rw [c_3]; decide)) (by first | (rw [c_3]; done) | (rw [c_3]; rfl)) (by decide) ?_
      exact law_2 ot bc tx hi sl cod told hs ss sf a d b bd i C h4 hn of ln cn cd p9 z1 z2 z3 t9 r x y g r2 x2 y2 g2 ad kf vr vx vy vg ur ux uy ug rf sp rd rt dd kk xt yt ds ks hI H locs hP hD hS ls hl
    rcases Classical.em (((xs (4 * i)) &&& 31) = 3) with c_4 | c_4
    · refine lv_tableIn (tgt := 258) (off := 219) hx hb dL_law_39 (by first | (rw [c_4]; done) | (rw [c_4]; decide)) (by first | (rw [c_4]; done) | (rw [c_4]; decide)) (by first | (rw [c_4]; done) | (rw [c_4]; rfl)) (by decide) ?_
      exact law_3 ot bc tx hi sl cod told hs ss sf a d b bd i C h4 hn of ln cn cd p9 z1 z2 z3 t9 r x y g r2 x2 y2 g2 ad kf vr vx vy vg ur ux uy ug rf sp rd rt dd kk xt yt ds ks hI H locs hP hD hS ls hl
    rcases Classical.em (((xs (4 * i)) &&& 31) = 4) with c_5 | c_5
    · refine lv_tableIn (tgt := 302) (off := 263) hx hb dL_law_39 (by first | (rw [c_5]; done) | (rw [c_5]; decide)) (by first | (rw [c_5]; done) | (rw [c_5]; decide)) (by first | (rw [c_5]; done) | (rw [c_5]; rfl)) (by decide) ?_
      exact law_4 ot bc tx hi sl cod told hs ss sf a d b bd i C h4 hn of ln cn cd p9 z1 z2 z3 t9 r x y g r2 x2 y2 g2 ad kf vr vx vy vg ur ux uy ug rf sp rd rt dd kk xt yt ds ks hI H locs hP hD hS ls hl
    rcases Classical.em (((xs (4 * i)) &&& 31) = 5) with c_6 | c_6
    · refine lv_tableIn (tgt := 358) (off := 319) hx hb dL_law_39 (by first | (rw [c_6]; done) | (rw [c_6]; decide)) (by first | (rw [c_6]; done) | (rw [c_6]; decide)) (by first | (rw [c_6]; done) | (rw [c_6]; rfl)) (by decide) ?_
      exact law_5 ot bc tx hi sl cod told hs ss sf a d b bd i C h4 hn of ln cn cd p9 z1 z2 z3 t9 r x y g r2 x2 y2 g2 ad kf vr vx vy vg ur ux uy ug rf sp rd rt dd kk xt yt ds ks hI H locs hP hD hS ls hl
    rcases Classical.em (((xs (4 * i)) &&& 31) = 6) with c_7 | c_7
    · refine lv_tableIn (tgt := 413) (off := 374) hx hb dL_law_39 (by first | (rw [c_7]; done) | (rw [c_7]; decide)) (by first | (rw [c_7]; done) | (rw [c_7]; decide)) (by first | (rw [c_7]; done) | (rw [c_7]; rfl)) (by decide) ?_
      exact law_6 ot bc tx hi sl cod told hs ss sf a d b bd i C h4 hn of ln cn cd p9 z1 z2 z3 t9 r x y g r2 x2 y2 g2 ad kf vr vx vy vg ur ux uy ug rf sp rd rt dd kk xt yt ds ks hI H locs hP hD hS ls hl
    rcases Classical.em (((xs (4 * i)) &&& 31) = 7) with c_8 | c_8
    · refine lv_tableIn (tgt := 469) (off := 430) hx hb dL_law_39 (by first | (rw [c_8]; done) | (rw [c_8]; decide)) (by first | (rw [c_8]; done) | (rw [c_8]; decide)) (by first | (rw [c_8]; done) | (rw [c_8]; rfl)) (by decide) ?_
      exact law_7 ot bc tx hi sl cod told hs ss sf a d b bd i C h4 hn of ln cn cd p9 z1 z2 z3 t9 r x y g r2 x2 y2 g2 ad kf vr vx vy vg ur ux uy ug rf sp rd rt dd kk xt yt ds ks hI H locs hP hD hS ls hl
    rcases Classical.em (((xs (4 * i)) &&& 31) = 8) with c_9 | c_9
    · refine lv_tableIn (tgt := 532) (off := 493) hx hb dL_law_39 (by first | (rw [c_9]; done) | (rw [c_9]; decide)) (by first | (rw [c_9]; done) | (rw [c_9]; decide)) (by first | (rw [c_9]; done) | (rw [c_9]; rfl)) (by decide) ?_
      exact law_8 ot bc tx hi sl cod told hs ss sf a d b bd i C h4 hn of ln cn cd p9 z1 z2 z3 t9 r x y g r2 x2 y2 g2 ad kf vr vx vy vg ur ux uy ug rf sp rd rt dd kk xt yt ds ks hI H locs hP hD hS ls hl
    rcases Classical.em (((xs (4 * i)) &&& 31) = 9) with c_10 | c_10
    · refine lv_tableIn (tgt := 600) (off := 561) hx hb dL_law_39 (by first | (rw [c_10]; done) | (rw [c_10]; decide)) (by first | (rw [c_10]; done) | (rw [c_10]; decide)) (by first | (rw [c_10]; done) | (rw [c_10]; rfl)) (by decide) ?_
      exact law_9 ot bc tx hi sl cod told hs ss sf a d b bd i C h4 hn of ln cn cd p9 z1 z2 z3 t9 r x y g r2 x2 y2 g2 ad kf vr vx vy vg ur ux uy ug rf sp rd rt dd kk xt yt ds ks hI H locs hP hD hS ls hl
    rcases Classical.em (((xs (4 * i)) &&& 31) = 10) with c_11 | c_11
    · refine lv_tableIn (tgt := 668) (off := 629) hx hb dL_law_39 (by first | (rw [c_11]; done) | (rw [c_11]; decide)) (by first | (rw [c_11]; done) | (rw [c_11]; decide)) (by first | (rw [c_11]; done) | (rw [c_11]; rfl)) (by decide) ?_
      exact law_10 ot bc tx hi sl cod told hs ss sf a d b bd i C h4 hn of ln cn cd p9 z1 z2 z3 t9 r x y g r2 x2 y2 g2 ad kf vr vx vy vg ur ux uy ug rf sp rd rt dd kk xt yt ds ks hI H locs hP hD hS ls hl
    rcases Classical.em (((xs (4 * i)) &&& 31) = 11) with c_12 | c_12
    · refine lv_tableIn (tgt := 724) (off := 685) hx hb dL_law_39 (by first | (rw [c_12]; done) | (rw [c_12]; decide)) (by first | (rw [c_12]; done) | (rw [c_12]; decide)) (by first | (rw [c_12]; done) | (rw [c_12]; rfl)) (by decide) ?_
      exact law_11 ot bc tx hi sl cod told hs ss sf a d b bd i C h4 hn of ln cn cd p9 z1 z2 z3 t9 r x y g r2 x2 y2 g2 ad kf vr vx vy vg ur ux uy ug rf sp rd rt dd kk xt yt ds ks hI H locs hP hD hS ls hl
    rcases Classical.em (((xs (4 * i)) &&& 31) = 12) with c_13 | c_13
    · refine lv_tableIn (tgt := 780) (off := 741) hx hb dL_law_39 (by first | (rw [c_13]; done) | (rw [c_13]; decide)) (by first | (rw [c_13]; done) | (rw [c_13]; decide)) (by first | (rw [c_13]; done) | (rw [c_13]; rfl)) (by decide) ?_
      exact law_12 ot bc tx hi sl cod told hs ss sf a d b bd i C h4 hn of ln cn cd p9 z1 z2 z3 t9 r x y g r2 x2 y2 g2 ad kf vr vx vy vg ur ux uy ug rf sp rd rt dd kk xt yt ds ks hI H locs hP hD hS ls hl
    rcases Classical.em (((xs (4 * i)) &&& 31) = 13) with c_14 | c_14
    · refine lv_tableIn (tgt := 836) (off := 797) hx hb dL_law_39 (by first | (rw [c_14]; done) | (rw [c_14]; decide)) (by first | (rw [c_14]; done) | (rw [c_14]; decide)) (by first | (rw [c_14]; done) | (rw [c_14]; rfl)) (by decide) ?_
      exact law_13 ot bc tx hi sl cod told hs ss sf a d b bd i C h4 hn of ln cn cd p9 z1 z2 z3 t9 r x y g r2 x2 y2 g2 ad kf vr vx vy vg ur ux uy ug rf sp rd rt dd kk xt yt ds ks hI H locs hP hD hS ls hl
    rcases Classical.em (((xs (4 * i)) &&& 31) = 14) with c_15 | c_15
    · refine lv_tableIn (tgt := 892) (off := 853) hx hb dL_law_39 (by first | (rw [c_15]; done) | (rw [c_15]; decide)) (by first | (rw [c_15]; done) | (rw [c_15]; decide)) (by first | (rw [c_15]; done) | (rw [c_15]; rfl)) (by decide) ?_
      exact law_14 ot bc tx hi sl cod told hs ss sf a d b bd i C h4 hn of ln cn cd p9 z1 z2 z3 t9 r x y g r2 x2 y2 g2 ad kf vr vx vy vg ur ux uy ug rf sp rd rt dd kk xt yt ds ks hI H locs hP hD hS ls hl
    rcases Classical.em (((xs (4 * i)) &&& 31) = 15) with c_16 | c_16
    · refine lv_tableIn (tgt := 948) (off := 909) hx hb dL_law_39 (by first | (rw [c_16]; done) | (rw [c_16]; decide)) (by first | (rw [c_16]; done) | (rw [c_16]; decide)) (by first | (rw [c_16]; done) | (rw [c_16]; rfl)) (by decide) ?_
      exact law_15 ot bc tx hi sl cod told hs ss sf a d b bd i C h4 hn of ln cn cd p9 z1 z2 z3 t9 r x y g r2 x2 y2 g2 ad kf vr vx vy vg ur ux uy ug rf sp rd rt dd kk xt yt ds ks hI H locs hP hD hS ls hl
    rcases Classical.em (((xs (4 * i)) &&& 31) = 16) with c_17 | c_17
    · refine lv_tableIn (tgt := 1016) (off := 977) hx hb dL_law_39 (by first | (rw [c_17]; done) | (rw [c_17]; decide)) (by first | (rw [c_17]; done) | (rw [c_17]; decide)) (by first | (rw [c_17]; done) | (rw [c_17]; rfl)) (by decide) ?_
      exact law_16 ot bc tx hi sl cod told hs ss sf a d b bd i C h4 hn of ln cn cd p9 z1 z2 z3 t9 r x y g r2 x2 y2 g2 ad kf vr vx vy vg ur ux uy ug rf sp rd rt dd kk xt yt ds ks hI H locs hP hD hS ls hl
    rcases Classical.em (((xs (4 * i)) &&& 31) = 17) with c_18 | c_18
    · refine lv_tableIn (tgt := 1100) (off := 1061) hx hb dL_law_39 (by first | (rw [c_18]; done) | (rw [c_18]; decide)) (by first | (rw [c_18]; done) | (rw [c_18]; decide)) (by first | (rw [c_18]; done) | (rw [c_18]; rfl)) (by decide) ?_
      exact law_17 ot bc tx hi sl cod told hs ss sf a d b bd i C h4 hn of ln cn cd p9 z1 z2 z3 t9 r x y g r2 x2 y2 g2 ad kf vr vx vy vg ur ux uy ug rf sp rd rt dd kk xt yt ds ks hI H locs hP hD hS ls hl
    rcases Classical.em (((xs (4 * i)) &&& 31) = 18) with c_19 | c_19
    · refine lv_tableIn (tgt := 1156) (off := 1117) hx hb dL_law_39 (by first | (rw [c_19]; done) | (rw [c_19]; decide)) (by first | (rw [c_19]; done) | (rw [c_19]; decide)) (by first | (rw [c_19]; done) | (rw [c_19]; rfl)) (by decide) ?_
      exact law_18 ot bc tx hi sl cod told hs ss sf a d b bd i C h4 hn of ln cn cd p9 z1 z2 z3 t9 r x y g r2 x2 y2 g2 ad kf vr vx vy vg ur ux uy ug rf sp rd rt dd kk xt yt ds ks hI H locs hP hD hS ls hl
    rcases Classical.em (((xs (4 * i)) &&& 31) = 19) with c_20 | c_20
    · refine lv_tableIn (tgt := 1200) (off := 1161) hx hb dL_law_39 (by first | (rw [c_20]; done) | (rw [c_20]; decide)) (by first | (rw [c_20]; done) | (rw [c_20]; decide)) (by first | (rw [c_20]; done) | (rw [c_20]; rfl)) (by decide) ?_
      exact law_19 ot bc tx hi sl cod told hs ss sf a d b bd i C h4 hn of ln cn cd p9 z1 z2 z3 t9 r x y g r2 x2 y2 g2 ad kf vr vx vy vg ur ux uy ug rf sp rd rt dd kk xt yt ds ks hI H locs hP hD hS ls hl
    rcases Classical.em (((xs (4 * i)) &&& 31) = 20) with c_21 | c_21
    · refine lv_tableIn (tgt := 1268) (off := 1229) hx hb dL_law_39 (by first | (rw [c_21]; done) | (rw [c_21]; decide)) (by first | (rw [c_21]; done) | (rw [c_21]; decide)) (by first | (rw [c_21]; done) | (rw [c_21]; rfl)) (by decide) ?_
      exact law_20 ot bc tx hi sl cod told hs ss sf a d b bd i C h4 hn of ln cn cd p9 z1 z2 z3 t9 r x y g r2 x2 y2 g2 ad kf vr vx vy vg ur ux uy ug rf sp rd rt dd kk xt yt ds ks hI H locs hP hD hS ls hl
    rcases Classical.em (((xs (4 * i)) &&& 31) = 21) with c_22 | c_22
    · refine lv_tableIn (tgt := 1324) (off := 1285) hx hb dL_law_39 (by first | (rw [c_22]; done) | (rw [c_22]; decide)) (by first | (rw [c_22]; done) | (rw [c_22]; decide)) (by first | (rw [c_22]; done) | (rw [c_22]; rfl)) (by decide) ?_
      exact law_21 ot bc tx hi sl cod told hs ss sf a d b bd i C h4 hn of ln cn cd p9 z1 z2 z3 t9 r x y g r2 x2 y2 g2 ad kf vr vx vy vg ur ux uy ug rf sp rd rt dd kk xt yt ds ks hI H locs hP hD hS ls hl
    rcases Classical.em (((xs (4 * i)) &&& 31) = 22) with c_23 | c_23
    · refine lv_tableIn (tgt := 1368) (off := 1329) hx hb dL_law_39 (by first | (rw [c_23]; done) | (rw [c_23]; decide)) (by first | (rw [c_23]; done) | (rw [c_23]; decide)) (by first | (rw [c_23]; done) | (rw [c_23]; rfl)) (by decide) ?_
      exact law_22 ot bc tx hi sl cod told hs ss sf a d b bd i C h4 hn of ln cn cd p9 z1 z2 z3 t9 r x y g r2 x2 y2 g2 ad kf vr vx vy vg ur ux uy ug rf sp rd rt dd kk xt yt ds ks hI H locs hP hD hS ls hl
    rcases Classical.em (((xs (4 * i)) &&& 31) = 23) with c_24 | c_24
    · refine lv_tableIn (tgt := 1381) (off := 1342) hx hb dL_law_39 (by first | (rw [c_24]; done) | (rw [c_24]; decide)) (by first | (rw [c_24]; done) | (rw [c_24]; decide)) (by first | (rw [c_24]; done) | (rw [c_24]; rfl)) (by decide) ?_
      exact law_23 ot bc tx hi sl cod told hs ss sf a d b bd i C h4 hn of ln cn cd p9 z1 z2 z3 t9 r x y g r2 x2 y2 g2 ad kf vr vx vy vg ur ux uy ug rf sp rd rt dd kk xt yt ds ks hI H locs hP hD hS ls hl
    rcases Classical.em (((xs (4 * i)) &&& 31) = 24) with c_25 | c_25
    · refine lv_tableIn (tgt := 1449) (off := 1410) hx hb dL_law_39 (by first | (rw [c_25]; done) | (rw [c_25]; decide)) (by first | (rw [c_25]; done) | (rw [c_25]; decide)) (by first | (rw [c_25]; done) | (rw [c_25]; rfl)) (by decide) ?_
      exact law_24 ot bc tx hi sl cod told hs ss sf a d b bd i C h4 hn of ln cn cd p9 z1 z2 z3 t9 r x y g r2 x2 y2 g2 ad kf vr vx vy vg ur ux uy ug rf sp rd rt dd kk xt yt ds ks hI H locs hP hD hS ls hl
    rcases Classical.em (((xs (4 * i)) &&& 31) = 25) with c_26 | c_26
    · refine lv_tableIn (tgt := 1462) (off := 1423) hx hb dL_law_39 (by first | (rw [c_26]; done) | (rw [c_26]; decide)) (by first | (rw [c_26]; done) | (rw [c_26]; decide)) (by first | (rw [c_26]; done) | (rw [c_26]; rfl)) (by decide) ?_
      exact law_25 ot bc tx hi sl cod told hs ss sf a d b bd i C h4 hn of ln cn cd p9 z1 z2 z3 t9 r x y g r2 x2 y2 g2 ad kf vr vx vy vg ur ux uy ug rf sp rd rt dd kk xt yt ds ks hI H locs hP hD hS ls hl
    rcases Classical.em (((xs (4 * i)) &&& 31) = 26) with c_27 | c_27
    · refine lv_tableIn (tgt := 1518) (off := 1479) hx hb dL_law_39 (by first | (rw [c_27]; done) | (rw [c_27]; decide)) (by first | (rw [c_27]; done) | (rw [c_27]; decide)) (by first | (rw [c_27]; done) | (rw [c_27]; rfl)) (by decide) ?_
      exact law_26 ot bc tx hi sl cod told hs ss sf a d b bd i C h4 hn of ln cn cd p9 z1 z2 z3 t9 r x y g r2 x2 y2 g2 ad kf vr vx vy vg ur ux uy ug rf sp rd rt dd kk xt yt ds ks hI H locs hP hD hS ls hl
    rcases Classical.em (((xs (4 * i)) &&& 31) = 27) with c_28 | c_28
    · refine lv_tableIn (tgt := 1574) (off := 1535) hx hb dL_law_39 (by first | (rw [c_28]; done) | (rw [c_28]; decide)) (by first | (rw [c_28]; done) | (rw [c_28]; decide)) (by first | (rw [c_28]; done) | (rw [c_28]; rfl)) (by decide) ?_
      exact law_27 ot bc tx hi sl cod told hs ss sf a d b bd i C h4 hn of ln cn cd p9 z1 z2 z3 t9 r x y g r2 x2 y2 g2 ad kf vr vx vy vg ur ux uy ug rf sp rd rt dd kk xt yt ds ks hI H locs hP hD hS ls hl
    rcases Classical.em (((xs (4 * i)) &&& 31) = 28) with c_29 | c_29
    · refine lv_tableIn (tgt := 1674) (off := 1635) hx hb dL_law_39 (by first | (rw [c_29]; done) | (rw [c_29]; decide)) (by first | (rw [c_29]; done) | (rw [c_29]; decide)) (by first | (rw [c_29]; done) | (rw [c_29]; rfl)) (by decide) ?_
      exact law_28 ot bc tx hi sl cod told hs ss sf a d b bd i C h4 hn of ln cn cd p9 z1 z2 z3 t9 r x y g r2 x2 y2 g2 ad kf vr vx vy vg ur ux uy ug rf sp rd rt dd kk xt yt ds ks hI H locs hP hD hS ls hl
    rcases Classical.em (((xs (4 * i)) &&& 31) = 29) with c_30 | c_30
    · refine lv_tableIn (tgt := 1774) (off := 1735) hx hb dL_law_39 (by first | (rw [c_30]; done) | (rw [c_30]; decide)) (by first | (rw [c_30]; done) | (rw [c_30]; decide)) (by first | (rw [c_30]; done) | (rw [c_30]; rfl)) (by decide) ?_
      exact law_29 ot bc tx hi sl cod told hs ss sf a d b bd i C h4 hn of ln cn cd p9 z1 z2 z3 t9 r x y g r2 x2 y2 g2 ad kf vr vx vy vg ur ux uy ug rf sp rd rt dd kk xt yt ds ks hI H locs hP hD hS ls hl
    rcases Classical.em (((xs (4 * i)) &&& 31) = 30) with c_31 | c_31
    · refine lv_tableIn (tgt := 1830) (off := 1791) hx hb dL_law_39 (by first | (rw [c_31]; done) | (rw [c_31]; decide)) (by first | (rw [c_31]; done) | (rw [c_31]; decide)) (by first | (rw [c_31]; done) | (rw [c_31]; rfl)) (by decide) ?_
      exact law_30 ot bc tx hi sl cod told hs ss sf a d b bd i C h4 hn of ln cn cd p9 z1 z2 z3 t9 r x y g r2 x2 y2 g2 ad kf vr vx vy vg ur ux uy ug rf sp rd rt dd kk xt yt ds ks hI H locs hP hD hS ls hl
    refine lv_tableOut (tgt := 1886) hx hb dL_law_39 (by have h0 := lv_neT c_1 (show (0 : Int32).toInt = 0 from rfl); have h1 := lv_neT c_2 (show (1 : Int32).toInt = 1 from rfl); have h2 := lv_neT c_3 (show (2 : Int32).toInt = 2 from rfl); have h3 := lv_neT c_4 (show (3 : Int32).toInt = 3 from rfl); have h4 := lv_neT c_5 (show (4 : Int32).toInt = 4 from rfl); have h5 := lv_neT c_6 (show (5 : Int32).toInt = 5 from rfl); have h6 := lv_neT c_7 (show (6 : Int32).toInt = 6 from rfl); have h7 := lv_neT c_8 (show (7 : Int32).toInt = 7 from rfl); have h8 := lv_neT c_9 (show (8 : Int32).toInt = 8 from rfl); have h9 := lv_neT c_10 (show (9 : Int32).toInt = 9 from rfl); have h10 := lv_neT c_11 (show (10 : Int32).toInt = 10 from rfl); have h11 := lv_neT c_12 (show (11 : Int32).toInt = 11 from rfl); have h12 := lv_neT c_13 (show (12 : Int32).toInt = 12 from rfl); have h13 := lv_neT c_14 (show (13 : Int32).toInt = 13 from rfl); have h14 := lv_neT c_15 (show (14 : Int32).toInt = 14 from rfl); have h15 := lv_neT c_16 (show (15 : Int32).toInt = 15 from rfl); have h16 := lv_neT c_17 (show (16 : Int32).toInt = 16 from rfl); have h17 := lv_neT c_18 (show (17 : Int32).toInt = 17 from rfl); have h18 := lv_neT c_19 (show (18 : Int32).toInt = 18 from rfl); have h19 := lv_neT c_20 (show (19 : Int32).toInt = 19 from rfl); have h20 := lv_neT c_21 (show (20 : Int32).toInt = 20 from rfl); have h21 := lv_neT c_22 (show (21 : Int32).toInt = 21 from rfl); have h22 := lv_neT c_23 (show (22 : Int32).toInt = 22 from rfl); have h23 := lv_neT c_24 (show (23 : Int32).toInt = 23 from rfl); have h24 := lv_neT c_25 (show (24 : Int32).toInt = 24 from rfl); have h25 := lv_neT c_26 (show (25 : Int32).toInt = 25 from rfl); have h26 := lv_neT c_27 (show (26 : Int32).toInt = 26 from rfl); have h27 := lv_neT c_28 (show (27 : Int32).toInt = 27 from rfl); have h28 := lv_neT c_29 (show (28 : Int32).toInt = 28 from rfl); have h29 := lv_neT c_30 (show (29 : Int32).toInt = 29 from rfl); have h30 := lv_neT c_31 (show (30 : Int32).toInt = 30 from rfl); omega) (by decide) ?_
    refine lv_iinc (v := (nI (4 * i + 4))) (lv' := [(4, .int (nI (4 * i + 4))), (0, .ref sb), (1, .ref bc), (2, .ref (b 0)), (3, .ref ot)]) hx hb dL_law_1886 hl (k := 0) rfl (nI_add (4 * i) (4)) (by decide) rfl (fun ls hl => ?_)
    refine lv_goto (tgt := 23) hx hb dL_law_1889 (by decide) ?_
    refine W.widen (k := 292 + 3 * (i + 1)) (n := 2595 + 18 * (i + 1)) (by omega) (by omega) ?_
    exact hn of ln cn cd p9 z1 z2 z3 t9 r x y g r2 x2 y2 g2 ad kf vr vx vy vg ur ux uy ug rf sp rd rt dd kk xt yt ds ks (LI_same hI hI.1) H locs hP hD hS ls (lv_sub hl [0, 1, 2, 3, 4] rfl)
set_option maxHeartbeats 4000000 in
theorem law_loop {p : Program} {l : Launch} {e : Env} {s : State} {m : MethodId} {below : List Frame} {meth : Method} {c : Code} {sb L : Nat} {xs : Nat → Int32} {D : va_G} {ty : Nat → ClassId} (hret : meth.sig.returnType = ret) (ot bc tx hi sl cod told hs ss sf : Nat) (a d b : Nat → Nat) (bd : Nat → Nat → Nat) (C : LC p l s m meth c sb L xs D ty (fun q : Nat => s.heap.size ≤ q)) : ∀ (n i : Nat), i ≤ 512 → 512 ≤ n + i → LH p l e s m below meth c sb D ty (fun q : Nat => s.heap.size ≤ q) (lw_Z below #[Value.ref sb] s) ot bc tx hi sl cod told hs ss sf a d b bd i := by
  have hL : L ≤ 2048 := by
    obtain ⟨-, -, -, -, -, -, -, -, -, -, -, -, -, hL⟩ := C
    exact hL
  intro n
  induction n with
  | zero => intro i h1 h2; exact law_body hret ot bc tx hi sl cod told hs ss sf a d b bd i h1 C (fun h4 => absurd h4 (by omega))
  | succ n ih => intro i h1 h2; exact law_body hret ot bc tx hi sl cod told hs ss sf a d b bd i h1 C (fun h4 => ih (i + 1) (by omega) (by omega))
