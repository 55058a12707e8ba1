set_option maxHeartbeats 4000000 in
set_option maxRecDepth 100000 in
theorem c_X10_runScript1 (l : Launch) (D : va_G) (ty : Nat → ClassId) (b : Nat → Nat) (rf tn sp ac : Int32) (r : Nat → Int32) (x y : Int64) (rt : Nat → Int32) (xt yt : Int64) (wn : Nat) (hwn : wn < 2 ^ 63) (hb9 : wn < 100000) (hp : Pw r) : CTi l yX10_runScript wsX10_runScript ({ frames := 6, cells := 0, slots := 0, locals := 140 }) D ty [.ref (b 0), .int 1, .long (lN wn)] [[ob (b 0) 9 [.int rf, .ref (b 1), .int tn, .int sp, .ref (b 2), .ref (b 3), .ref (b 4), .ref (b 5), .int ac, .ref (b 6), .ref (b 7), .ref (b 8), .ref (b 9), .ref (b 10), .ref (b 11)]], [ia ty (b 3) 57 r], [ia ty (b 4) 57 rt], [la ty (b 8) 2 (tw x y)], [la ty (b 9) 2 (tw xt yt)]] (fun (RET : Int32) (_ : Unit) => RET = (scV 0 [wn % 100000] r)) (fun (_ : Unit) => [[ob (b 0) 9 [.int 0, .ref (b 1), .int tn, .int sp, .ref (b 2), .ref (b 3), .ref (b 4), .ref (b 5), .int ac, .ref (b 6), .ref (b 7), .ref (b 8), .ref (b 9), .ref (b 10), .ref (b 11)]], [ia ty (b 3) 57 r], [ia ty (b 4) 57 (scR [wn % 100000] r)], [la ty (b 8) 2 (tw x y)], [la ty (b 9) 2 (tw (scX [wn % 100000] r x) (scY [wn % 100000] r y))]]) := by
  refine CTi_of cX10_runScript 10 (some .int) (by decide) rfl (Nat.le_of_ble_eq_true rfl) ?_
  intro p e s m args below meth c A hx hb hr hml hown hlocks hin hts hA hX hK hP hD ls hl
  have hown : s.vm.findClass RX10 = some m.cls := hown
  have hS : va_S A s.heap s.heap [] := va_S.rf
  have hl : lv_has ls 10 [(0, .ref (b 0)), (1, .int 1), (2, .long (lN wn))] := hl
  refine lv_iload_n hx hb dX10_runScript_0 rfl (lv_at hl 1 rfl) ?_
  refine lv_iconst (v := 1) hx hb dX10_runScript_1 (by decide) ?_
  refine lv_icmp_ne (tgt := 11) hx hb dX10_runScript_2 (by decide) (fun c_1 => ?_) (fun c_1 => ?_)
  · first | exact absurd c_1 (by decide) | exact absurd (by decide) c_1
  · skip
    refine lv_ldc2 hx hb hown (hts (Cond.constantLong RX10 191 (100000)) (List.mem_of_getElem? (i := 1) rfl)) dX10_runScript_5 ?_
    refine lv_goto (tgt := 25) hx hb dX10_runScript_8 (by decide) ?_
    refine lv_lstore (lv' := [(4, .long 100000), (0, .ref (b 0)), (1, .int 1), (2, .long (lN wn))]) hx hb dX10_runScript_25 hl (by decide) rfl (fun ls hl => ?_)
    refine lv_aload_n hx hb dX10_runScript_27 rfl (lv_at hl 1 rfl) ?_
    refine lv_iload_n hx hb dX10_runScript_28 rfl (lv_at hl 2 rfl) ?_
    refine lv_i2l (v := 1) hx hb dX10_runScript_29 (by decide) ?_
    refine lv_lconst (v := 1) hx hb dX10_runScript_30 (by decide) ?_
    refine lv_ldc2 hx hb hown (hts (Cond.constantLong RX10 144 (3)) (List.mem_of_getElem? (i := 4) rfl)) dX10_runScript_31 ?_
    refine cSi (As := [.long 1, .long 1, .long 3]) (rest := [.ref (b 0)]) ⟨hx, hb, hml, hown, hts⟩ (c_X10_in l D ty 1 1 3) (va_cwS 3 hts gX10_runScript_X10_in rfl rfl rfl (by decide +kernel) ⟨Nat.le_of_ble_eq_true rfl, Nat.le_of_ble_eq_true rfl⟩) hK hX hP hD hS hA (pk (bs := [[ob (b 0) 9 [.int rf, .ref (b 1), .int tn, .int sp, .ref (b 2), .ref (b 3), .ref (b 4), .ref (b 5), .int ac, .ref (b 6), .ref (b 7), .ref (b 8), .ref (b 9), .ref (b 10), .ref (b 11)]], [ia ty (b 3) 57 r], [ia ty (b 4) 57 rt], [la ty (b 8) 2 (tw x y)], [la ty (b 9) 2 (tw xt yt)]]) (bsc := []) (bsr := [[ob (b 0) 9 [.int rf, .ref (b 1), .int tn, .int sp, .ref (b 2), .ref (b 3), .ref (b 4), .ref (b 5), .int ac, .ref (b 6), .ref (b 7), .ref (b 8), .ref (b 9), .ref (b 10), .ref (b 11)]], [ia ty (b 3) 57 r], [ia ty (b 4) 57 rt], [la ty (b 8) 2 (tw x y)], [la ty (b 9) 2 (tw xt yt)]]) [] [0, 1, 2, 3, 4] 5 rfl (by decide +kernel) rfl rfl) rfl hl.1 rfl (Nat.le_of_ble_eq_true rfl) dX10_runScript_34 ⟨Nat.le_of_ble_eq_true rfl, Nat.le_of_ble_eq_true rfl⟩ (fun r_3 u_2 h_4 H locs hP hD hS => ?_)
    have h_4 : r_3 = (inv 1 1 3) := h_4
    subst h_4
    have hP : va_P D vwCl (fl [[ob (b 0) 9 [.int rf, .ref (b 1), .int tn, .int sp, .ref (b 2), .ref (b 3), .ref (b 4), .ref (b 5), .int ac, .ref (b 6), .ref (b 7), .ref (b 8), .ref (b 9), .ref (b 10), .ref (b 11)]], [ia ty (b 3) 57 r], [ia ty (b 4) 57 rt], [la ty (b 8) 2 (tw x y)], [la ty (b 9) 2 (tw xt yt)]]) H := P_perm (po (bs := [[ob (b 0) 9 [.int rf, .ref (b 1), .int tn, .int sp, .ref (b 2), .ref (b 3), .ref (b 4), .ref (b 5), .int ac, .ref (b 6), .ref (b 7), .ref (b 8), .ref (b 9), .ref (b 10), .ref (b 11)]], [ia ty (b 3) 57 r], [ia ty (b 4) 57 rt], [la ty (b 8) 2 (tw x y)], [la ty (b 9) 2 (tw xt yt)]]) [0, 1, 2, 3, 4] 5 rfl (by decide +kernel) rfl) hP
    have hD : va_D A (fl [[ob (b 0) 9 [.int rf, .ref (b 1), .int tn, .int sp, .ref (b 2), .ref (b 3), .ref (b 4), .ref (b 5), .int ac, .ref (b 6), .ref (b 7), .ref (b 8), .ref (b 9), .ref (b 10), .ref (b 11)]], [ia ty (b 3) 57 r], [ia ty (b 4) 57 rt], [la ty (b 8) 2 (tw x y)], [la ty (b 9) 2 (tw xt yt)]]) := D_perm (po (bs := [[ob (b 0) 9 [.int rf, .ref (b 1), .int tn, .int sp, .ref (b 2), .ref (b 3), .ref (b 4), .ref (b 5), .int ac, .ref (b 6), .ref (b 7), .ref (b 8), .ref (b 9), .ref (b 10), .ref (b 11)]], [ia ty (b 3) 57 r], [ia ty (b 4) 57 rt], [la ty (b 8) 2 (tw x y)], [la ty (b 9) 2 (tw xt yt)]]) [0, 1, 2, 3, 4] 5 rfl (by decide +kernel) rfl) hD
    refine lv_if_eq (tgt := 56) hx hb dX10_runScript_37 (by decide) (fun c_5 => ?_) (fun c_5 => ?_)
    · first | exact absurd c_5 (by decide +kernel) | exact absurd (by decide +kernel) c_5
    · skip
      refine lv_lload_n hx hb dX10_runScript_40 rfl (lv_at hl 3 rfl) ?_
      refine lv_lconst (v := 0) hx hb dX10_runScript_41 (by decide) ?_
      refine lv_lload hx hb dX10_runScript_42 (lv_at hl 0 rfl) ?_
      refine lv_lconst (v := 1) hx hb dX10_runScript_44 (by decide) ?_
      refine lv_lsub hx hb dX10_runScript_45 ?_
      refine W.eq (g2 := F0 m 46 ls [.long 99999, .long 0, .long (lN wn), .ref (b 0)]) (by rw [show (100000 : Int64) - 1 = 99999 from by decide +kernel]) ?_
      refine cSi (As := [.long (lN wn), .long 0, .long 99999]) (rest := [.ref (b 0)]) ⟨hx, hb, hml, hown, hts⟩ (c_X10_in l D ty (lN wn) 0 99999) (va_cwS 3 hts gX10_runScript_X10_in rfl rfl rfl (by decide +kernel) ⟨Nat.le_of_ble_eq_true rfl, Nat.le_of_ble_eq_true rfl⟩) hK hX hP hD hS hA (pk (bs := [[ob (b 0) 9 [.int rf, .ref (b 1), .int tn, .int sp, .ref (b 2), .ref (b 3), .ref (b 4), .ref (b 5), .int ac, .ref (b 6), .ref (b 7), .ref (b 8), .ref (b 9), .ref (b 10), .ref (b 11)]], [ia ty (b 3) 57 r], [ia ty (b 4) 57 rt], [la ty (b 8) 2 (tw x y)], [la ty (b 9) 2 (tw xt yt)]]) (bsc := []) (bsr := [[ob (b 0) 9 [.int rf, .ref (b 1), .int tn, .int sp, .ref (b 2), .ref (b 3), .ref (b 4), .ref (b 5), .int ac, .ref (b 6), .ref (b 7), .ref (b 8), .ref (b 9), .ref (b 10), .ref (b 11)]], [ia ty (b 3) 57 r], [ia ty (b 4) 57 rt], [la ty (b 8) 2 (tw x y)], [la ty (b 9) 2 (tw xt yt)]]) [] [0, 1, 2, 3, 4] 5 rfl (by decide +kernel) rfl rfl) rfl hl.1 rfl (Nat.le_of_ble_eq_true rfl) dX10_runScript_46 ⟨Nat.le_of_ble_eq_true rfl, Nat.le_of_ble_eq_true rfl⟩ (fun r_7 u_6 h_8 H locs hP hD hS => ?_)
      have h_8 : r_7 = (inv (lN wn) 0 99999) := h_8
      subst h_8
      have hP : va_P D vwCl (fl [[ob (b 0) 9 [.int rf, .ref (b 1), .int tn, .int sp, .ref (b 2), .ref (b 3), .ref (b 4), .ref (b 5), .int ac, .ref (b 6), .ref (b 7), .ref (b 8), .ref (b 9), .ref (b 10), .ref (b 11)]], [ia ty (b 3) 57 r], [ia ty (b 4) 57 rt], [la ty (b 8) 2 (tw x y)], [la ty (b 9) 2 (tw xt yt)]]) H := P_perm (po (bs := [[ob (b 0) 9 [.int rf, .ref (b 1), .int tn, .int sp, .ref (b 2), .ref (b 3), .ref (b 4), .ref (b 5), .int ac, .ref (b 6), .ref (b 7), .ref (b 8), .ref (b 9), .ref (b 10), .ref (b 11)]], [ia ty (b 3) 57 r], [ia ty (b 4) 57 rt], [la ty (b 8) 2 (tw x y)], [la ty (b 9) 2 (tw xt yt)]]) [0, 1, 2, 3, 4] 5 rfl (by decide +kernel) rfl) hP
      have hD : va_D A (fl [[ob (b 0) 9 [.int rf, .ref (b 1), .int tn, .int sp, .ref (b 2), .ref (b 3), .ref (b 4), .ref (b 5), .int ac, .ref (b 6), .ref (b 7), .ref (b 8), .ref (b 9), .ref (b 10), .ref (b 11)]], [ia ty (b 3) 57 r], [ia ty (b 4) 57 rt], [la ty (b 8) 2 (tw x y)], [la ty (b 9) 2 (tw xt yt)]]) := D_perm (po (bs := [[ob (b 0) 9 [.int rf, .ref (b 1), .int tn, .int sp, .ref (b 2), .ref (b 3), .ref (b 4), .ref (b 5), .int ac, .ref (b 6), .ref (b 7), .ref (b 8), .ref (b 9), .ref (b 10), .ref (b 11)]], [ia ty (b 3) 57 r], [ia ty (b 4) 57 rt], [la ty (b 8) 2 (tw x y)], [la ty (b 9) 2 (tw xt yt)]]) [0, 1, 2, 3, 4] 5 rfl (by decide +kernel) rfl) hD
      refine lv_if_eq (tgt := 56) hx hb dX10_runScript_49 (by decide) (fun c_9 => ?_) (fun c_9 => ?_)
      · first | exact absurd c_9 (invL_y (hi := 99999) (n := 99999) hwn (by decide +kernel) (by omega)) | exact absurd (invL_y (hi := 99999) (n := 99999) hwn (by decide +kernel) (by omega)) c_9
      · skip
        refine lv_iconst (v := 0) hx hb dX10_runScript_52 (by decide) ?_
        refine lv_goto (tgt := 57) hx hb dX10_runScript_53 (by decide) ?_
        refine cVi (As := [.int 0]) (rest := []) ⟨hx, hb, hml, hown, hts⟩ (c_X10_refused0 l D ty b rf tn sp ac) (cwV 1 hts gX10_runScript_X10_refused rfl rfl rfl (by decide +kernel) ⟨Nat.le_of_ble_eq_true rfl, Nat.le_of_ble_eq_true rfl⟩) hK hX hP hD hS hA (pk (bs := [[ob (b 0) 9 [.int rf, .ref (b 1), .int tn, .int sp, .ref (b 2), .ref (b 3), .ref (b 4), .ref (b 5), .int ac, .ref (b 6), .ref (b 7), .ref (b 8), .ref (b 9), .ref (b 10), .ref (b 11)]], [ia ty (b 3) 57 r], [ia ty (b 4) 57 rt], [la ty (b 8) 2 (tw x y)], [la ty (b 9) 2 (tw xt yt)]]) (bsc := [[ob (b 0) 9 [.int rf, .ref (b 1), .int tn, .int sp, .ref (b 2), .ref (b 3), .ref (b 4), .ref (b 5), .int ac, .ref (b 6), .ref (b 7), .ref (b 8), .ref (b 9), .ref (b 10), .ref (b 11)]]]) (bsr := [[ia ty (b 3) 57 r], [ia ty (b 4) 57 rt], [la ty (b 8) 2 (tw x y)], [la ty (b 9) 2 (tw xt yt)]]) [0] [1, 2, 3, 4] 5 rfl (by decide +kernel) rfl rfl) (ci := 9) rfl 0 rfl rfl hl.1 rfl (Nat.le_of_ble_eq_true rfl) dX10_runScript_57 ⟨Nat.le_of_ble_eq_true rfl, Nat.le_of_ble_eq_true rfl⟩ (fun r_11 u_10 h_12 H locs hP hD hS => ?_)
        have h_12 : r_11 = 0 := h_12
        subst h_12
        have hP : va_P D vwCl (fl [[ob (b 0) 9 [.int 0, .ref (b 1), .int tn, .int sp, .ref (b 2), .ref (b 3), .ref (b 4), .ref (b 5), .int ac, .ref (b 6), .ref (b 7), .ref (b 8), .ref (b 9), .ref (b 10), .ref (b 11)]], [ia ty (b 3) 57 r], [ia ty (b 4) 57 rt], [la ty (b 8) 2 (tw x y)], [la ty (b 9) 2 (tw xt yt)]]) H := P_perm (po (bs := [[ob (b 0) 9 [.int 0, .ref (b 1), .int tn, .int sp, .ref (b 2), .ref (b 3), .ref (b 4), .ref (b 5), .int ac, .ref (b 6), .ref (b 7), .ref (b 8), .ref (b 9), .ref (b 10), .ref (b 11)]], [ia ty (b 3) 57 r], [ia ty (b 4) 57 rt], [la ty (b 8) 2 (tw x y)], [la ty (b 9) 2 (tw xt yt)]]) [0, 1, 2, 3, 4] 5 rfl (by decide +kernel) rfl) hP
        have hD : va_D A (fl [[ob (b 0) 9 [.int 0, .ref (b 1), .int tn, .int sp, .ref (b 2), .ref (b 3), .ref (b 4), .ref (b 5), .int ac, .ref (b 6), .ref (b 7), .ref (b 8), .ref (b 9), .ref (b 10), .ref (b 11)]], [ia ty (b 3) 57 r], [ia ty (b 4) 57 rt], [la ty (b 8) 2 (tw x y)], [la ty (b 9) 2 (tw xt yt)]]) := D_perm (po (bs := [[ob (b 0) 9 [.int 0, .ref (b 1), .int tn, .int sp, .ref (b 2), .ref (b 3), .ref (b 4), .ref (b 5), .int ac, .ref (b 6), .ref (b 7), .ref (b 8), .ref (b 9), .ref (b 10), .ref (b 11)]], [ia ty (b 3) 57 r], [ia ty (b 4) 57 rt], [la ty (b 8) 2 (tw x y)], [la ty (b 9) 2 (tw xt yt)]]) [0, 1, 2, 3, 4] 5 rfl (by decide +kernel) rfl) hD
        refine lv_if_eq (tgt := 65) hx hb dX10_runScript_60 (by decide) (fun c_13 => ?_) (fun c_13 => ?_)
        · skip
          refine lv_aload_n hx hb dX10_runScript_65 rfl (lv_at hl 1 rfl) ?_
          refine cVv (As := []) (rest := []) ⟨hx, hb, hml, hown, hts⟩ (c_X10_copyNow l D ty b 0 tn sp ac r rt x y xt yt) (cwV 0 hts gX10_runScript_X10_copyNow rfl rfl rfl (by decide +kernel) ⟨Nat.le_of_ble_eq_true rfl, Nat.le_of_ble_eq_true rfl⟩) hK hX hP hD hS hA (pk (bs := [[ob (b 0) 9 [.int 0, .ref (b 1), .int tn, .int sp, .ref (b 2), .ref (b 3), .ref (b 4), .ref (b 5), .int ac, .ref (b 6), .ref (b 7), .ref (b 8), .ref (b 9), .ref (b 10), .ref (b 11)]], [ia ty (b 3) 57 r], [ia ty (b 4) 57 rt], [la ty (b 8) 2 (tw x y)], [la ty (b 9) 2 (tw xt yt)]]) (bsc := [[ob (b 0) 9 [.int 0, .ref (b 1), .int tn, .int sp, .ref (b 2), .ref (b 3), .ref (b 4), .ref (b 5), .int ac, .ref (b 6), .ref (b 7), .ref (b 8), .ref (b 9), .ref (b 10), .ref (b 11)]], [ia ty (b 3) 57 r], [ia ty (b 4) 57 rt], [la ty (b 8) 2 (tw x y)], [la ty (b 9) 2 (tw xt yt)]]) (bsr := []) [0, 1, 2, 3, 4] [] 5 rfl (by decide +kernel) rfl rfl) (ci := 9) rfl 0 rfl rfl hl.1 rfl (Nat.le_of_ble_eq_true rfl) dX10_runScript_66 ⟨Nat.le_of_ble_eq_true rfl, Nat.le_of_ble_eq_true rfl⟩ (fun u_14 h_16 H locs hP hD hS => ?_)
          have hP : va_P D vwCl (fl [[ob (b 0) 9 [.int 0, .ref (b 1), .int tn, .int sp, .ref (b 2), .ref (b 3), .ref (b 4), .ref (b 5), .int ac, .ref (b 6), .ref (b 7), .ref (b 8), .ref (b 9), .ref (b 10), .ref (b 11)]], [ia ty (b 3) 57 r], [ia ty (b 4) 57 r], [la ty (b 8) 2 (tw x y)], [la ty (b 9) 2 (tw x y)]]) H := P_perm (po (bs := [[ob (b 0) 9 [.int 0, .ref (b 1), .int tn, .int sp, .ref (b 2), .ref (b 3), .ref (b 4), .ref (b 5), .int ac, .ref (b 6), .ref (b 7), .ref (b 8), .ref (b 9), .ref (b 10), .ref (b 11)]], [ia ty (b 3) 57 r], [ia ty (b 4) 57 r], [la ty (b 8) 2 (tw x y)], [la ty (b 9) 2 (tw x y)]]) [0, 1, 2, 3, 4] 5 rfl (by decide +kernel) rfl) hP
          have hD : va_D A (fl [[ob (b 0) 9 [.int 0, .ref (b 1), .int tn, .int sp, .ref (b 2), .ref (b 3), .ref (b 4), .ref (b 5), .int ac, .ref (b 6), .ref (b 7), .ref (b 8), .ref (b 9), .ref (b 10), .ref (b 11)]], [ia ty (b 3) 57 r], [ia ty (b 4) 57 r], [la ty (b 8) 2 (tw x y)], [la ty (b 9) 2 (tw x y)]]) := D_perm (po (bs := [[ob (b 0) 9 [.int 0, .ref (b 1), .int tn, .int sp, .ref (b 2), .ref (b 3), .ref (b 4), .ref (b 5), .int ac, .ref (b 6), .ref (b 7), .ref (b 8), .ref (b 9), .ref (b 10), .ref (b 11)]], [ia ty (b 3) 57 r], [ia ty (b 4) 57 r], [la ty (b 8) 2 (tw x y)], [la ty (b 9) 2 (tw x y)]]) [0, 1, 2, 3, 4] 5 rfl (by decide +kernel) rfl) hD
          refine lv_lload_n hx hb dX10_runScript_69 rfl (lv_at hl 3 rfl) ?_
          refine lv_lstore (lv' := [(6, .long (lN wn)), (4, .long 100000), (0, .ref (b 0)), (1, .int 1), (2, .long (lN wn))]) hx hb dX10_runScript_70 hl (by decide) rfl (fun ls hl => ?_)
          refine lv_iconst (v := 0) hx hb dX10_runScript_72 (by decide) ?_
          refine lv_istore (lv' := [(8, .int 0), (6, .long (lN wn)), (4, .long 100000), (0, .ref (b 0)), (1, .int 1), (2, .long (lN wn))]) hx hb dX10_runScript_73 hl (by decide) rfl (fun ls hl => ?_)
          refine lv_iload hx hb dX10_runScript_75 (lv_at hl 0 rfl) ?_
          refine lv_iload_n hx hb dX10_runScript_77 rfl (lv_at hl 4 rfl) ?_
          refine lv_icmp_ge (tgt := 132) hx hb dX10_runScript_78 (by decide) (fun c_17 => ?_) (fun c_17 => ?_)
          · exact absurd c_17 (by decide)
          · skip
            refine lv_lload hx hb dX10_runScript_81 (lv_at hl 2 rfl) ?_
            refine lv_ldc2 hx hb hown (hts (Cond.constantLong RX10 191 (100000)) (List.mem_of_getElem? (i := 1) rfl)) dX10_runScript_83 ?_
            refine lv_ldiv hx hb dX10_runScript_86 (by decide) ?_
            refine W.eq (g2 := F0 m 87 ls [.long 1]) (by rw [show (100000 : Int64) / 100000 = 1 from by decide +kernel]) ?_
            refine lv_lstore (lv' := [(4, .long 1), (8, .int 0), (6, .long (lN wn)), (0, .ref (b 0)), (1, .int 1), (2, .long (lN wn))]) hx hb dX10_runScript_87 hl (by decide) rfl (fun ls hl => ?_)
            refine lv_lload hx hb dX10_runScript_89 (lv_at hl 2 rfl) ?_
            refine lv_lload hx hb dX10_runScript_91 (lv_at hl 0 rfl) ?_
            refine lv_ldiv hx hb dX10_runScript_93 (by decide) ?_
            refine lv_l2i (v := (Int64.toInt32 ((lN wn) / 1))) hx hb dX10_runScript_94 rfl ?_
            obtain ⟨G0, hG0⟩ : ∃ z, z = wn % 100000 := ⟨_, rfl⟩
            have lG0 : G0 < 100000 := by omega
            refine W.eq (g2 := F0 m 95 ls [.int (nI G0)]) (by rw [show lN (wn) / 1 = lN ((wn) / 1) from pk_lDiv (by omega) (by decide) (by decide), lN_i, show (wn) / 1 = G0 by omega]) ?_
            refine lv_istore (lv' := [(9, .int (nI G0)), (4, .long 1), (8, .int 0), (6, .long (lN wn)), (0, .ref (b 0)), (1, .int 1), (2, .long (lN wn))]) hx hb dX10_runScript_95 hl (by decide) rfl (fun ls hl => ?_)
            refine lv_lload hx hb dX10_runScript_97 (lv_at hl 3 rfl) ?_
            refine lv_lload hx hb dX10_runScript_99 (lv_at hl 1 rfl) ?_
            refine lv_lrem hx hb dX10_runScript_101 (by decide) ?_
            refine W.eq (g2 := F0 m 102 ls [.long (lN (wn % 1))]) (by rw [show lN (wn) - lN (wn) / 1 * 1 = lN (wn % 1) from pk_lRem (by omega) (by decide) (by decide)]) ?_
            refine lv_lstore (lv' := [(6, .long (lN (wn % 1))), (9, .int (nI G0)), (4, .long 1), (8, .int 0), (0, .ref (b 0)), (1, .int 1), (2, .long (lN wn))]) hx hb dX10_runScript_102 hl (by decide) rfl (fun ls hl => ?_)
            refine lv_aload_n hx hb dX10_runScript_104 rfl (lv_at hl 4 rfl) ?_
            refine lv_iload hx hb dX10_runScript_105 (lv_at hl 1 rfl) ?_
            refine lv_sipush (v := 10000) hx hb dX10_runScript_107 (by decide) ?_
            refine k_idiv (v := (nI (G0 / 10000))) hx hb dX10_runScript_110 (by decide) (pk_div (a := G0) (d := 10000) (by omega) (by decide) (by decide)) ?_
            refine lv_iload hx hb dX10_runScript_111 (lv_at hl 1 rfl) ?_
            refine lv_sipush (v := 10000) hx hb dX10_runScript_113 (by decide) ?_
            refine k_irem (v := (nI (G0 % 10000))) hx hb dX10_runScript_116 (by decide) (pk_rem (a := G0) (d := 10000) (by omega) (by decide) (by decide)) ?_
            refine cVi (As := [.int (nI (G0 / 10000)), .int (nI (G0 % 10000))]) (rest := []) ⟨hx, hb, hml, hown, hts⟩ (c_X10_does l D ty b 0 tn sp ac G0 r x y (by omega) (hp)) (cwV 2 hts gX10_runScript_X10_does rfl rfl rfl (by decide +kernel) ⟨Nat.le_of_ble_eq_true rfl, Nat.le_of_ble_eq_true rfl⟩) hK hX hP hD hS hA (pk (bs := [[ob (b 0) 9 [.int 0, .ref (b 1), .int tn, .int sp, .ref (b 2), .ref (b 3), .ref (b 4), .ref (b 5), .int ac, .ref (b 6), .ref (b 7), .ref (b 8), .ref (b 9), .ref (b 10), .ref (b 11)]], [ia ty (b 3) 57 r], [ia ty (b 4) 57 r], [la ty (b 8) 2 (tw x y)], [la ty (b 9) 2 (tw x y)]]) (bsc := [[ob (b 0) 9 [.int 0, .ref (b 1), .int tn, .int sp, .ref (b 2), .ref (b 3), .ref (b 4), .ref (b 5), .int ac, .ref (b 6), .ref (b 7), .ref (b 8), .ref (b 9), .ref (b 10), .ref (b 11)]], [ia ty (b 4) 57 r], [la ty (b 9) 2 (tw x y)]]) (bsr := [[ia ty (b 3) 57 r], [la ty (b 8) 2 (tw x y)]]) [0, 2, 4] [1, 3] 5 rfl (by decide +kernel) rfl rfl) (ci := 9) rfl 0 rfl rfl hl.1 rfl (Nat.le_of_ble_eq_true rfl) dX10_runScript_117 ⟨Nat.le_of_ble_eq_true rfl, Nat.le_of_ble_eq_true rfl⟩ (fun r_19 u_18 h_20 H locs hP hD hS => ?_)
            have h_20 : r_19 = (cmdOk G0 r) := h_20
            subst h_20
            have hP : va_P D vwCl (fl [[ob (b 0) 9 [.int 0, .ref (b 1), .int tn, .int sp, .ref (b 2), .ref (b 3), .ref (b 4), .ref (b 5), .int ac, .ref (b 6), .ref (b 7), .ref (b 8), .ref (b 9), .ref (b 10), .ref (b 11)]], [ia ty (b 3) 57 r], [ia ty (b 4) 57 (cmdR G0 r)], [la ty (b 8) 2 (tw x y)], [la ty (b 9) 2 (tw (minsX (cmdN G0) r x) (minsY (cmdN G0) r y))]]) H := P_perm (po (bs := [[ob (b 0) 9 [.int 0, .ref (b 1), .int tn, .int sp, .ref (b 2), .ref (b 3), .ref (b 4), .ref (b 5), .int ac, .ref (b 6), .ref (b 7), .ref (b 8), .ref (b 9), .ref (b 10), .ref (b 11)]], [ia ty (b 4) 57 (cmdR G0 r)], [la ty (b 9) 2 (tw (minsX (cmdN G0) r x) (minsY (cmdN G0) r y))], [ia ty (b 3) 57 r], [la ty (b 8) 2 (tw x y)]]) [0, 3, 1, 4, 2] 5 rfl (by decide +kernel) rfl) hP
            have hD : va_D A (fl [[ob (b 0) 9 [.int 0, .ref (b 1), .int tn, .int sp, .ref (b 2), .ref (b 3), .ref (b 4), .ref (b 5), .int ac, .ref (b 6), .ref (b 7), .ref (b 8), .ref (b 9), .ref (b 10), .ref (b 11)]], [ia ty (b 3) 57 r], [ia ty (b 4) 57 (cmdR G0 r)], [la ty (b 8) 2 (tw x y)], [la ty (b 9) 2 (tw (minsX (cmdN G0) r x) (minsY (cmdN G0) r y))]]) := D_perm (po (bs := [[ob (b 0) 9 [.int 0, .ref (b 1), .int tn, .int sp, .ref (b 2), .ref (b 3), .ref (b 4), .ref (b 5), .int ac, .ref (b 6), .ref (b 7), .ref (b 8), .ref (b 9), .ref (b 10), .ref (b 11)]], [ia ty (b 4) 57 (cmdR G0 r)], [la ty (b 9) 2 (tw (minsX (cmdN G0) r x) (minsY (cmdN G0) r y))], [ia ty (b 3) 57 r], [la ty (b 8) 2 (tw x y)]]) [0, 3, 1, 4, 2] 5 rfl (by decide +kernel) rfl) hD
            refine lv_if_ne (tgt := 126) hx hb dX10_runScript_120 (by decide) (fun c_21 => ?_) (fun c_21 => ?_)
            · skip
              refine lv_iinc (v := 1) (lv' := [(8, .int 1), (6, .long (lN (wn % 1))), (9, .int (nI G0)), (4, .long 1), (0, .ref (b 0)), (1, .int 1), (2, .long (lN wn))]) hx hb dX10_runScript_126 hl (k := 3) rfl (by decide) (by decide) rfl (fun ls hl => ?_)
              refine lv_goto (tgt := 75) hx hb dX10_runScript_129 (by decide) ?_
              refine lv_iload hx hb dX10_runScript_75 (lv_at hl 0 rfl) ?_
              refine lv_iload_n hx hb dX10_runScript_77 rfl (lv_at hl 5 rfl) ?_
              refine lv_icmp_ge (tgt := 132) hx hb dX10_runScript_78 (by decide) (fun c_22 => ?_) (fun c_22 => ?_)
              · skip
                refine lv_ldc hx hb hown (hts (Cond.constant RX10 53 (-99999999)) (List.mem_of_getElem? (i := 5) rfl)) dX10_runScript_132 ?_
                have f1 : scR [G0] r = (cmdR G0 r) := (if_neg c_21)
                have f2 : scX [G0] r x = (minsX (cmdN G0) r x) := (if_neg c_21)
                have f3 : scY [G0] r y = (minsY (cmdN G0) r y) := (if_neg c_21)
                have f5 : scV 0 [G0] r = (-99999999) := (if_neg c_21)
                have hP : va_P D vwCl (fl [[ob (b 0) 9 [.int 0, .ref (b 1), .int tn, .int sp, .ref (b 2), .ref (b 3), .ref (b 4), .ref (b 5), .int ac, .ref (b 6), .ref (b 7), .ref (b 8), .ref (b 9), .ref (b 10), .ref (b 11)]], [ia ty (b 3) 57 r], [ia ty (b 4) 57 (scR [G0] r)], [la ty (b 8) 2 (tw x y)], [la ty (b 9) 2 (tw (scX [G0] r x) (scY [G0] r y))]]) H := by rw [f1, f2, f3]; exact hP
                have hPn := hP
                have hDn := hD
                have hSn := hS
                rw [hG0] at hPn f5
                have hP : va_P D vwCl (fl [[ob (b 0) 9 [.int 0, .ref (b 1), .int tn, .int sp, .ref (b 2), .ref (b 3), .ref (b 4), .ref (b 5), .int ac, .ref (b 6), .ref (b 7), .ref (b 8), .ref (b 9), .ref (b 10), .ref (b 11)]], [ia ty (b 3) 57 r], [ia ty (b 4) 57 (scR [wn % 100000] r)], [la ty (b 8) 2 (tw x y)], [la ty (b 9) 2 (tw (scX [wn % 100000] r x) (scY [wn % 100000] r y))]]) H := hPn
                have hD : va_D A (fl [[ob (b 0) 9 [.int 0, .ref (b 1), .int tn, .int sp, .ref (b 2), .ref (b 3), .ref (b 4), .ref (b 5), .int ac, .ref (b 6), .ref (b 7), .ref (b 8), .ref (b 9), .ref (b 10), .ref (b 11)]], [ia ty (b 3) 57 r], [ia ty (b 4) 57 (scR [wn % 100000] r)], [la ty (b 8) 2 (tw x y)], [la ty (b 9) 2 (tw (scX [wn % 100000] r x) (scY [wn % 100000] r y))]]) := (D_same2 hD [(b 0), (b 3), (b 4), (b 8), (b 9)] rfl rfl)
                exact end_i (bs' := (fun (_ : Unit) => [[ob (b 0) 9 [.int 0, .ref (b 1), .int tn, .int sp, .ref (b 2), .ref (b 3), .ref (b 4), .ref (b 5), .int ac, .ref (b 6), .ref (b 7), .ref (b 8), .ref (b 9), .ref (b 10), .ref (b 11)]], [ia ty (b 3) 57 r], [ia ty (b 4) 57 (scR [wn % 100000] r)], [la ty (b 8) 2 (tw x y)], [la ty (b 9) 2 (tw (scX [wn % 100000] r x) (scY [wn % 100000] r y))]])) () hx hb hr hlocks hP hD hS f5.symm (Nat.le_of_ble_eq_true rfl) (Nat.le_of_ble_eq_true rfl) dX10_runScript_134
              · exact absurd (by decide) c_22
            · skip
              refine lv_iload hx hb dX10_runScript_123 (lv_at hl 3 rfl) ?_
              have f1 : scR [G0] r = (cmdR G0 r) := (if_pos c_21)
              have f2 : scX [G0] r x = (minsX (cmdN G0) r x) := (if_pos c_21)
              have f3 : scY [G0] r y = (minsY (cmdN G0) r y) := (if_pos c_21)
              have f5 : scV 0 [G0] r = 0 := (if_pos c_21)
              have hP : va_P D vwCl (fl [[ob (b 0) 9 [.int 0, .ref (b 1), .int tn, .int sp, .ref (b 2), .ref (b 3), .ref (b 4), .ref (b 5), .int ac, .ref (b 6), .ref (b 7), .ref (b 8), .ref (b 9), .ref (b 10), .ref (b 11)]], [ia ty (b 3) 57 r], [ia ty (b 4) 57 (scR [G0] r)], [la ty (b 8) 2 (tw x y)], [la ty (b 9) 2 (tw (scX [G0] r x) (scY [G0] r y))]]) H := by rw [f1, f2, f3]; exact hP
              have hPn := hP
              have hDn := hD
              have hSn := hS
              rw [hG0] at hPn f5
              have hP : va_P D vwCl (fl [[ob (b 0) 9 [.int 0, .ref (b 1), .int tn, .int sp, .ref (b 2), .ref (b 3), .ref (b 4), .ref (b 5), .int ac, .ref (b 6), .ref (b 7), .ref (b 8), .ref (b 9), .ref (b 10), .ref (b 11)]], [ia ty (b 3) 57 r], [ia ty (b 4) 57 (scR [wn % 100000] r)], [la ty (b 8) 2 (tw x y)], [la ty (b 9) 2 (tw (scX [wn % 100000] r x) (scY [wn % 100000] r y))]]) H := hPn
              have hD : va_D A (fl [[ob (b 0) 9 [.int 0, .ref (b 1), .int tn, .int sp, .ref (b 2), .ref (b 3), .ref (b 4), .ref (b 5), .int ac, .ref (b 6), .ref (b 7), .ref (b 8), .ref (b 9), .ref (b 10), .ref (b 11)]], [ia ty (b 3) 57 r], [ia ty (b 4) 57 (scR [wn % 100000] r)], [la ty (b 8) 2 (tw x y)], [la ty (b 9) 2 (tw (scX [wn % 100000] r x) (scY [wn % 100000] r y))]]) := (D_same2 hD [(b 0), (b 3), (b 4), (b 8), (b 9)] rfl rfl)
              exact end_i (bs' := (fun (_ : Unit) => [[ob (b 0) 9 [.int 0, .ref (b 1), .int tn, .int sp, .ref (b 2), .ref (b 3), .ref (b 4), .ref (b 5), .int ac, .ref (b 6), .ref (b 7), .ref (b 8), .ref (b 9), .ref (b 10), .ref (b 11)]], [ia ty (b 3) 57 r], [ia ty (b 4) 57 (scR [wn % 100000] r)], [la ty (b 8) 2 (tw x y)], [la ty (b 9) 2 (tw (scX [wn % 100000] r x) (scY [wn % 100000] r y))]])) () hx hb hr hlocks hP hD hS f5.symm (Nat.le_of_ble_eq_true rfl) (Nat.le_of_ble_eq_true rfl) dX10_runScript_125
        · exact absurd (by decide) c_13
set_option maxHeartbeats 4000000 in
set_option maxRecDepth 100000 in
theorem c_X10_runScript1n (l : Launch) (D : va_G) (ty : Nat → ClassId) (b : Nat → Nat) (rf tn sp ac : Int32) (wn : Nat) (hwn : wn < 2 ^ 63) (hb9 : ¬ wn < 100000) : CTi l yX10_runScript wsX10_runScript ({ frames := 1, cells := 0, slots := 0, locals := 25 }) D ty [.ref (b 0), .int 1, .long (lN wn)] [[ob (b 0) 9 [.int rf, .ref (b 1), .int tn, .int sp, .ref (b 2), .ref (b 3), .ref (b 4), .ref (b 5), .int ac, .ref (b 6), .ref (b 7), .ref (b 8), .ref (b 9), .ref (b 10), .ref (b 11)]]] (fun (RET : Int32) (_ : Unit) => RET = 0) (fun (_ : Unit) => [[ob (b 0) 9 [.int 1, .ref (b 1), .int tn, .int sp, .ref (b 2), .ref (b 3), .ref (b 4), .ref (b 5), .int ac, .ref (b 6), .ref (b 7), .ref (b 8), .ref (b 9), .ref (b 10), .ref (b 11)]]]) := by
  refine CTi_of cX10_runScript 10 (some .int) (by decide) rfl (Nat.le_of_ble_eq_true rfl) ?_
  intro p e s m args below meth c A hx hb hr hml hown hlocks hin hts hA hX hK hP hD ls hl
  have hown : s.vm.findClass RX10 = some m.cls := hown
  have hS : va_S A s.heap s.heap [] := va_S.rf
  have hl : lv_has ls 10 [(0, .ref (b 0)), (1, .int 1), (2, .long (lN wn))] := hl
  refine lv_iload_n hx hb dX10_runScript_0 rfl (lv_at hl 1 rfl) ?_
  refine lv_iconst (v := 1) hx hb dX10_runScript_1 (by decide) ?_
  refine lv_icmp_ne (tgt := 11) hx hb dX10_runScript_2 (by decide) (fun c_1 => ?_) (fun c_1 => ?_)
  · first | exact absurd c_1 (by decide) | exact absurd (by decide) c_1
  · skip
    refine lv_ldc2 hx hb hown (hts (Cond.constantLong RX10 191 (100000)) (List.mem_of_getElem? (i := 1) rfl)) dX10_runScript_5 ?_
    refine lv_goto (tgt := 25) hx hb dX10_runScript_8 (by decide) ?_
    refine lv_lstore (lv' := [(4, .long 100000), (0, .ref (b 0)), (1, .int 1), (2, .long (lN wn))]) hx hb dX10_runScript_25 hl (by decide) rfl (fun ls hl => ?_)
    refine lv_aload_n hx hb dX10_runScript_27 rfl (lv_at hl 1 rfl) ?_
    refine lv_iload_n hx hb dX10_runScript_28 rfl (lv_at hl 2 rfl) ?_
    refine lv_i2l (v := 1) hx hb dX10_runScript_29 (by decide) ?_
    refine lv_lconst (v := 1) hx hb dX10_runScript_30 (by decide) ?_
    refine lv_ldc2 hx hb hown (hts (Cond.constantLong RX10 144 (3)) (List.mem_of_getElem? (i := 4) rfl)) dX10_runScript_31 ?_
    refine cSi (As := [.long 1, .long 1, .long 3]) (rest := [.ref (b 0)]) ⟨hx, hb, hml, hown, hts⟩ (c_X10_in l D ty 1 1 3) (va_cwS 3 hts gX10_runScript_X10_in rfl rfl rfl (by decide +kernel) ⟨Nat.le_of_ble_eq_true rfl, Nat.le_of_ble_eq_true rfl⟩) hK hX hP hD hS hA (pk (bs := [[ob (b 0) 9 [.int rf, .ref (b 1), .int tn, .int sp, .ref (b 2), .ref (b 3), .ref (b 4), .ref (b 5), .int ac, .ref (b 6), .ref (b 7), .ref (b 8), .ref (b 9), .ref (b 10), .ref (b 11)]]]) (bsc := []) (bsr := [[ob (b 0) 9 [.int rf, .ref (b 1), .int tn, .int sp, .ref (b 2), .ref (b 3), .ref (b 4), .ref (b 5), .int ac, .ref (b 6), .ref (b 7), .ref (b 8), .ref (b 9), .ref (b 10), .ref (b 11)]]]) [] [0] 1 rfl (by decide +kernel) rfl rfl) rfl hl.1 rfl (Nat.le_of_ble_eq_true rfl) dX10_runScript_34 ⟨Nat.le_of_ble_eq_true rfl, Nat.le_of_ble_eq_true rfl⟩ (fun r_3 u_2 h_4 H locs hP hD hS => ?_)
    have h_4 : r_3 = (inv 1 1 3) := h_4
    subst h_4
    have hP : va_P D vwCl (fl [[ob (b 0) 9 [.int rf, .ref (b 1), .int tn, .int sp, .ref (b 2), .ref (b 3), .ref (b 4), .ref (b 5), .int ac, .ref (b 6), .ref (b 7), .ref (b 8), .ref (b 9), .ref (b 10), .ref (b 11)]]]) H := P_perm (po (bs := [[ob (b 0) 9 [.int rf, .ref (b 1), .int tn, .int sp, .ref (b 2), .ref (b 3), .ref (b 4), .ref (b 5), .int ac, .ref (b 6), .ref (b 7), .ref (b 8), .ref (b 9), .ref (b 10), .ref (b 11)]]]) [0] 1 rfl (by decide +kernel) rfl) hP
    have hD : va_D A (fl [[ob (b 0) 9 [.int rf, .ref (b 1), .int tn, .int sp, .ref (b 2), .ref (b 3), .ref (b 4), .ref (b 5), .int ac, .ref (b 6), .ref (b 7), .ref (b 8), .ref (b 9), .ref (b 10), .ref (b 11)]]]) := D_perm (po (bs := [[ob (b 0) 9 [.int rf, .ref (b 1), .int tn, .int sp, .ref (b 2), .ref (b 3), .ref (b 4), .ref (b 5), .int ac, .ref (b 6), .ref (b 7), .ref (b 8), .ref (b 9), .ref (b 10), .ref (b 11)]]]) [0] 1 rfl (by decide +kernel) rfl) hD
    refine lv_if_eq (tgt := 56) hx hb dX10_runScript_37 (by decide) (fun c_5 => ?_) (fun c_5 => ?_)
    · first | exact absurd c_5 (by decide +kernel) | exact absurd (by decide +kernel) c_5
    · skip
      refine lv_lload_n hx hb dX10_runScript_40 rfl (lv_at hl 3 rfl) ?_
      refine lv_lconst (v := 0) hx hb dX10_runScript_41 (by decide) ?_
      refine lv_lload hx hb dX10_runScript_42 (lv_at hl 0 rfl) ?_
      refine lv_lconst (v := 1) hx hb dX10_runScript_44 (by decide) ?_
      refine lv_lsub hx hb dX10_runScript_45 ?_
      refine W.eq (g2 := F0 m 46 ls [.long 99999, .long 0, .long (lN wn), .ref (b 0)]) (by rw [show (100000 : Int64) - 1 = 99999 from by decide +kernel]) ?_
      refine cSi (As := [.long (lN wn), .long 0, .long 99999]) (rest := [.ref (b 0)]) ⟨hx, hb, hml, hown, hts⟩ (c_X10_in l D ty (lN wn) 0 99999) (va_cwS 3 hts gX10_runScript_X10_in rfl rfl rfl (by decide +kernel) ⟨Nat.le_of_ble_eq_true rfl, Nat.le_of_ble_eq_true rfl⟩) hK hX hP hD hS hA (pk (bs := [[ob (b 0) 9 [.int rf, .ref (b 1), .int tn, .int sp, .ref (b 2), .ref (b 3), .ref (b 4), .ref (b 5), .int ac, .ref (b 6), .ref (b 7), .ref (b 8), .ref (b 9), .ref (b 10), .ref (b 11)]]]) (bsc := []) (bsr := [[ob (b 0) 9 [.int rf, .ref (b 1), .int tn, .int sp, .ref (b 2), .ref (b 3), .ref (b 4), .ref (b 5), .int ac, .ref (b 6), .ref (b 7), .ref (b 8), .ref (b 9), .ref (b 10), .ref (b 11)]]]) [] [0] 1 rfl (by decide +kernel) rfl rfl) rfl hl.1 rfl (Nat.le_of_ble_eq_true rfl) dX10_runScript_46 ⟨Nat.le_of_ble_eq_true rfl, Nat.le_of_ble_eq_true rfl⟩ (fun r_7 u_6 h_8 H locs hP hD hS => ?_)
      have h_8 : r_7 = (inv (lN wn) 0 99999) := h_8
      subst h_8
      have hP : va_P D vwCl (fl [[ob (b 0) 9 [.int rf, .ref (b 1), .int tn, .int sp, .ref (b 2), .ref (b 3), .ref (b 4), .ref (b 5), .int ac, .ref (b 6), .ref (b 7), .ref (b 8), .ref (b 9), .ref (b 10), .ref (b 11)]]]) H := P_perm (po (bs := [[ob (b 0) 9 [.int rf, .ref (b 1), .int tn, .int sp, .ref (b 2), .ref (b 3), .ref (b 4), .ref (b 5), .int ac, .ref (b 6), .ref (b 7), .ref (b 8), .ref (b 9), .ref (b 10), .ref (b 11)]]]) [0] 1 rfl (by decide +kernel) rfl) hP
      have hD : va_D A (fl [[ob (b 0) 9 [.int rf, .ref (b 1), .int tn, .int sp, .ref (b 2), .ref (b 3), .ref (b 4), .ref (b 5), .int ac, .ref (b 6), .ref (b 7), .ref (b 8), .ref (b 9), .ref (b 10), .ref (b 11)]]]) := D_perm (po (bs := [[ob (b 0) 9 [.int rf, .ref (b 1), .int tn, .int sp, .ref (b 2), .ref (b 3), .ref (b 4), .ref (b 5), .int ac, .ref (b 6), .ref (b 7), .ref (b 8), .ref (b 9), .ref (b 10), .ref (b 11)]]]) [0] 1 rfl (by decide +kernel) rfl) hD
      refine lv_if_eq (tgt := 56) hx hb dX10_runScript_49 (by decide) (fun c_9 => ?_) (fun c_9 => ?_)
      · skip
        refine lv_iconst (v := 1) hx hb dX10_runScript_56 (by decide) ?_
        refine cVi (As := [.int 1]) (rest := []) ⟨hx, hb, hml, hown, hts⟩ (c_X10_refused1 l D ty b rf tn sp ac 1 (by decide)) (cwV 1 hts gX10_runScript_X10_refused rfl rfl rfl (by decide +kernel) ⟨Nat.le_of_ble_eq_true rfl, Nat.le_of_ble_eq_true rfl⟩) hK hX hP hD hS hA (pk (bs := [[ob (b 0) 9 [.int rf, .ref (b 1), .int tn, .int sp, .ref (b 2), .ref (b 3), .ref (b 4), .ref (b 5), .int ac, .ref (b 6), .ref (b 7), .ref (b 8), .ref (b 9), .ref (b 10), .ref (b 11)]]]) (bsc := [[ob (b 0) 9 [.int rf, .ref (b 1), .int tn, .int sp, .ref (b 2), .ref (b 3), .ref (b 4), .ref (b 5), .int ac, .ref (b 6), .ref (b 7), .ref (b 8), .ref (b 9), .ref (b 10), .ref (b 11)]]]) (bsr := []) [0] [] 1 rfl (by decide +kernel) rfl rfl) (ci := 9) rfl 0 rfl rfl hl.1 rfl (Nat.le_of_ble_eq_true rfl) dX10_runScript_57 ⟨Nat.le_of_ble_eq_true rfl, Nat.le_of_ble_eq_true rfl⟩ (fun r_11 u_10 h_12 H locs hP hD hS => ?_)
        have h_12 : r_11 = 1 := h_12
        subst h_12
        have hP : va_P D vwCl (fl [[ob (b 0) 9 [.int 1, .ref (b 1), .int tn, .int sp, .ref (b 2), .ref (b 3), .ref (b 4), .ref (b 5), .int ac, .ref (b 6), .ref (b 7), .ref (b 8), .ref (b 9), .ref (b 10), .ref (b 11)]]]) H := P_perm (po (bs := [[ob (b 0) 9 [.int 1, .ref (b 1), .int tn, .int sp, .ref (b 2), .ref (b 3), .ref (b 4), .ref (b 5), .int ac, .ref (b 6), .ref (b 7), .ref (b 8), .ref (b 9), .ref (b 10), .ref (b 11)]]]) [0] 1 rfl (by decide +kernel) rfl) hP
        have hD : va_D A (fl [[ob (b 0) 9 [.int 1, .ref (b 1), .int tn, .int sp, .ref (b 2), .ref (b 3), .ref (b 4), .ref (b 5), .int ac, .ref (b 6), .ref (b 7), .ref (b 8), .ref (b 9), .ref (b 10), .ref (b 11)]]]) := D_perm (po (bs := [[ob (b 0) 9 [.int 1, .ref (b 1), .int tn, .int sp, .ref (b 2), .ref (b 3), .ref (b 4), .ref (b 5), .int ac, .ref (b 6), .ref (b 7), .ref (b 8), .ref (b 9), .ref (b 10), .ref (b 11)]]]) [0] 1 rfl (by decide +kernel) rfl) hD
        refine lv_if_eq (tgt := 65) hx hb dX10_runScript_60 (by decide) (fun c_13 => ?_) (fun c_13 => ?_)
        · exact absurd c_13 (by decide)
        · skip
          refine lv_iconst (v := 0) hx hb dX10_runScript_63 (by decide) ?_
          have hP : va_P D vwCl (fl [[ob (b 0) 9 [.int 1, .ref (b 1), .int tn, .int sp, .ref (b 2), .ref (b 3), .ref (b 4), .ref (b 5), .int ac, .ref (b 6), .ref (b 7), .ref (b 8), .ref (b 9), .ref (b 10), .ref (b 11)]]]) H := hP
          have hD : va_D A (fl [[ob (b 0) 9 [.int 1, .ref (b 1), .int tn, .int sp, .ref (b 2), .ref (b 3), .ref (b 4), .ref (b 5), .int ac, .ref (b 6), .ref (b 7), .ref (b 8), .ref (b 9), .ref (b 10), .ref (b 11)]]]) := hD
          exact end_i (bs' := (fun (_ : Unit) => [[ob (b 0) 9 [.int 1, .ref (b 1), .int tn, .int sp, .ref (b 2), .ref (b 3), .ref (b 4), .ref (b 5), .int ac, .ref (b 6), .ref (b 7), .ref (b 8), .ref (b 9), .ref (b 10), .ref (b 11)]]])) () hx hb hr hlocks hP hD hS (by first | rfl | decide | simp [c_1, c_5, c_9, c_13]) (Nat.le_of_ble_eq_true rfl) (Nat.le_of_ble_eq_true rfl) dX10_runScript_64
      · first | exact absurd c_9 (invL_n (hi := 99999) (n := 99999) hwn (by decide +kernel) (by omega)) | exact absurd (invL_n (hi := 99999) (n := 99999) hwn (by decide +kernel) (by omega)) c_9
set_option maxHeartbeats 4000000 in
set_option maxRecDepth 100000 in
theorem c_X10_runScript2 (l : Launch) (D : va_G) (ty : Nat → ClassId) (b : Nat → Nat) (rf tn sp ac : Int32) (r : Nat → Int32) (x y : Int64) (rt : Nat → Int32) (xt yt : Int64) (wn : Nat) (hwn : wn < 2 ^ 63) (hb9 : wn < 10000000000) (hp : Pw r) : CTi l yX10_runScript wsX10_runScript ({ frames := 6, cells := 0, slots := 0, locals := 140 }) D ty [.ref (b 0), .int 2, .long (lN wn)] [[ob (b 0) 9 [.int rf, .ref (b 1), .int tn, .int sp, .ref (b 2), .ref (b 3), .ref (b 4), .ref (b 5), .int ac, .ref (b 6), .ref (b 7), .ref (b 8), .ref (b 9), .ref (b 10), .ref (b 11)]], [ia ty (b 3) 57 r], [ia ty (b 4) 57 rt], [la ty (b 8) 2 (tw x y)], [la ty (b 9) 2 (tw xt yt)]] (fun (RET : Int32) (_ : Unit) => RET = (scV 0 [wn / 100000 % 100000, wn % 100000] r)) (fun (_ : Unit) => [[ob (b 0) 9 [.int 0, .ref (b 1), .int tn, .int sp, .ref (b 2), .ref (b 3), .ref (b 4), .ref (b 5), .int ac, .ref (b 6), .ref (b 7), .ref (b 8), .ref (b 9), .ref (b 10), .ref (b 11)]], [ia ty (b 3) 57 r], [ia ty (b 4) 57 (scR [wn / 100000 % 100000, wn % 100000] r)], [la ty (b 8) 2 (tw x y)], [la ty (b 9) 2 (tw (scX [wn / 100000 % 100000, wn % 100000] r x) (scY [wn / 100000 % 100000, wn % 100000] r y))]]) := by
  refine CTi_of cX10_runScript 10 (some .int) (by decide) rfl (Nat.le_of_ble_eq_true rfl) ?_
  intro p e s m args below meth c A hx hb hr hml hown hlocks hin hts hA hX hK hP hD ls hl
  have hown : s.vm.findClass RX10 = some m.cls := hown
  have hS : va_S A s.heap s.heap [] := va_S.rf
  have hl : lv_has ls 10 [(0, .ref (b 0)), (1, .int 2), (2, .long (lN wn))] := hl
  refine lv_iload_n hx hb dX10_runScript_0 rfl (lv_at hl 1 rfl) ?_
  refine lv_iconst (v := 1) hx hb dX10_runScript_1 (by decide) ?_
  refine lv_icmp_ne (tgt := 11) hx hb dX10_runScript_2 (by decide) (fun c_1 => ?_) (fun c_1 => ?_)
  · skip
    refine lv_iload_n hx hb dX10_runScript_11 rfl (lv_at hl 1 rfl) ?_
    refine lv_iconst (v := 2) hx hb dX10_runScript_12 (by decide) ?_
    refine lv_icmp_ne (tgt := 22) hx hb dX10_runScript_13 (by decide) (fun c_2 => ?_) (fun c_2 => ?_)
    · first | exact absurd c_2 (by decide) | exact absurd (by decide) c_2
    · skip
      refine lv_ldc2 hx hb hown (hts (Cond.constantLong RX10 193 (10000000000)) (List.mem_of_getElem? (i := 2) rfl)) dX10_runScript_16 ?_
      refine lv_goto (tgt := 25) hx hb dX10_runScript_19 (by decide) ?_
      refine lv_lstore (lv' := [(4, .long 10000000000), (0, .ref (b 0)), (1, .int 2), (2, .long (lN wn))]) hx hb dX10_runScript_25 hl (by decide) rfl (fun ls hl => ?_)
      refine lv_aload_n hx hb dX10_runScript_27 rfl (lv_at hl 1 rfl) ?_
      refine lv_iload_n hx hb dX10_runScript_28 rfl (lv_at hl 2 rfl) ?_
      refine lv_i2l (v := 2) hx hb dX10_runScript_29 (by decide) ?_
      refine lv_lconst (v := 1) hx hb dX10_runScript_30 (by decide) ?_
      refine lv_ldc2 hx hb hown (hts (Cond.constantLong RX10 144 (3)) (List.mem_of_getElem? (i := 4) rfl)) dX10_runScript_31 ?_
      refine cSi (As := [.long 2, .long 1, .long 3]) (rest := [.ref (b 0)]) ⟨hx, hb, hml, hown, hts⟩ (c_X10_in l D ty 2 1 3) (va_cwS 3 hts gX10_runScript_X10_in rfl rfl rfl (by decide +kernel) ⟨Nat.le_of_ble_eq_true rfl, Nat.le_of_ble_eq_true rfl⟩) hK hX hP hD hS hA (pk (bs := [[ob (b 0) 9 [.int rf, .ref (b 1), .int tn, .int sp, .ref (b 2), .ref (b 3), .ref (b 4), .ref (b 5), .int ac, .ref (b 6), .ref (b 7), .ref (b 8), .ref (b 9), .ref (b 10), .ref (b 11)]], [ia ty (b 3) 57 r], [ia ty (b 4) 57 rt], [la ty (b 8) 2 (tw x y)], [la ty (b 9) 2 (tw xt yt)]]) (bsc := []) (bsr := [[ob (b 0) 9 [.int rf, .ref (b 1), .int tn, .int sp, .ref (b 2), .ref (b 3), .ref (b 4), .ref (b 5), .int ac, .ref (b 6), .ref (b 7), .ref (b 8), .ref (b 9), .ref (b 10), .ref (b 11)]], [ia ty (b 3) 57 r], [ia ty (b 4) 57 rt], [la ty (b 8) 2 (tw x y)], [la ty (b 9) 2 (tw xt yt)]]) [] [0, 1, 2, 3, 4] 5 rfl (by decide +kernel) rfl rfl) rfl hl.1 rfl (Nat.le_of_ble_eq_true rfl) dX10_runScript_34 ⟨Nat.le_of_ble_eq_true rfl, Nat.le_of_ble_eq_true rfl⟩ (fun r_4 u_3 h_5 H locs hP hD hS => ?_)
      have h_5 : r_4 = (inv 2 1 3) := h_5
      subst h_5
      have hP : va_P D vwCl (fl [[ob (b 0) 9 [.int rf, .ref (b 1), .int tn, .int sp, .ref (b 2), .ref (b 3), .ref (b 4), .ref (b 5), .int ac, .ref (b 6), .ref (b 7), .ref (b 8), .ref (b 9), .ref (b 10), .ref (b 11)]], [ia ty (b 3) 57 r], [ia ty (b 4) 57 rt], [la ty (b 8) 2 (tw x y)], [la ty (b 9) 2 (tw xt yt)]]) H := P_perm (po (bs := [[ob (b 0) 9 [.int rf, .ref (b 1), .int tn, .int sp, .ref (b 2), .ref (b 3), .ref (b 4), .ref (b 5), .int ac, .ref (b 6), .ref (b 7), .ref (b 8), .ref (b 9), .ref (b 10), .ref (b 11)]], [ia ty (b 3) 57 r], [ia ty (b 4) 57 rt], [la ty (b 8) 2 (tw x y)], [la ty (b 9) 2 (tw xt yt)]]) [0, 1, 2, 3, 4] 5 rfl (by decide +kernel) rfl) hP
      have hD : va_D A (fl [[ob (b 0) 9 [.int rf, .ref (b 1), .int tn, .int sp, .ref (b 2), .ref (b 3), .ref (b 4), .ref (b 5), .int ac, .ref (b 6), .ref (b 7), .ref (b 8), .ref (b 9), .ref (b 10), .ref (b 11)]], [ia ty (b 3) 57 r], [ia ty (b 4) 57 rt], [la ty (b 8) 2 (tw x y)], [la ty (b 9) 2 (tw xt yt)]]) := D_perm (po (bs := [[ob (b 0) 9 [.int rf, .ref (b 1), .int tn, .int sp, .ref (b 2), .ref (b 3), .ref (b 4), .ref (b 5), .int ac, .ref (b 6), .ref (b 7), .ref (b 8), .ref (b 9), .ref (b 10), .ref (b 11)]], [ia ty (b 3) 57 r], [ia ty (b 4) 57 rt], [la ty (b 8) 2 (tw x y)], [la ty (b 9) 2 (tw xt yt)]]) [0, 1, 2, 3, 4] 5 rfl (by decide +kernel) rfl) hD
      refine lv_if_eq (tgt := 56) hx hb dX10_runScript_37 (by decide) (fun c_6 => ?_) (fun c_6 => ?_)
      · first | exact absurd c_6 (by decide +kernel) | exact absurd (by decide +kernel) c_6
      · skip
        refine lv_lload_n hx hb dX10_runScript_40 rfl (lv_at hl 3 rfl) ?_
        refine lv_lconst (v := 0) hx hb dX10_runScript_41 (by decide) ?_
        refine lv_lload hx hb dX10_runScript_42 (lv_at hl 0 rfl) ?_
        refine lv_lconst (v := 1) hx hb dX10_runScript_44 (by decide) ?_
        refine lv_lsub hx hb dX10_runScript_45 ?_
        refine W.eq (g2 := F0 m 46 ls [.long 9999999999, .long 0, .long (lN wn), .ref (b 0)]) (by rw [show (10000000000 : Int64) - 1 = 9999999999 from by decide +kernel]) ?_
        refine cSi (As := [.long (lN wn), .long 0, .long 9999999999]) (rest := [.ref (b 0)]) ⟨hx, hb, hml, hown, hts⟩ (c_X10_in l D ty (lN wn) 0 9999999999) (va_cwS 3 hts gX10_runScript_X10_in rfl rfl rfl (by decide +kernel) ⟨Nat.le_of_ble_eq_true rfl, Nat.le_of_ble_eq_true rfl⟩) hK hX hP hD hS hA (pk (bs := [[ob (b 0) 9 [.int rf, .ref (b 1), .int tn, .int sp, .ref (b 2), .ref (b 3), .ref (b 4), .ref (b 5), .int ac, .ref (b 6), .ref (b 7), .ref (b 8), .ref (b 9), .ref (b 10), .ref (b 11)]], [ia ty (b 3) 57 r], [ia ty (b 4) 57 rt], [la ty (b 8) 2 (tw x y)], [la ty (b 9) 2 (tw xt yt)]]) (bsc := []) (bsr := [[ob (b 0) 9 [.int rf, .ref (b 1), .int tn, .int sp, .ref (b 2), .ref (b 3), .ref (b 4), .ref (b 5), .int ac, .ref (b 6), .ref (b 7), .ref (b 8), .ref (b 9), .ref (b 10), .ref (b 11)]], [ia ty (b 3) 57 r], [ia ty (b 4) 57 rt], [la ty (b 8) 2 (tw x y)], [la ty (b 9) 2 (tw xt yt)]]) [] [0, 1, 2, 3, 4] 5 rfl (by decide +kernel) rfl rfl) rfl hl.1 rfl (Nat.le_of_ble_eq_true rfl) dX10_runScript_46 ⟨Nat.le_of_ble_eq_true rfl, Nat.le_of_ble_eq_true rfl⟩ (fun r_8 u_7 h_9 H locs hP hD hS => ?_)
        have h_9 : r_8 = (inv (lN wn) 0 9999999999) := h_9
        subst h_9
        have hP : va_P D vwCl (fl [[ob (b 0) 9 [.int rf, .ref (b 1), .int tn, .int sp, .ref (b 2), .ref (b 3), .ref (b 4), .ref (b 5), .int ac, .ref (b 6), .ref (b 7), .ref (b 8), .ref (b 9), .ref (b 10), .ref (b 11)]], [ia ty (b 3) 57 r], [ia ty (b 4) 57 rt], [la ty (b 8) 2 (tw x y)], [la ty (b 9) 2 (tw xt yt)]]) H := P_perm (po (bs := [[ob (b 0) 9 [.int rf, .ref (b 1), .int tn, .int sp, .ref (b 2), .ref (b 3), .ref (b 4), .ref (b 5), .int ac, .ref (b 6), .ref (b 7), .ref (b 8), .ref (b 9), .ref (b 10), .ref (b 11)]], [ia ty (b 3) 57 r], [ia ty (b 4) 57 rt], [la ty (b 8) 2 (tw x y)], [la ty (b 9) 2 (tw xt yt)]]) [0, 1, 2, 3, 4] 5 rfl (by decide +kernel) rfl) hP
        have hD : va_D A (fl [[ob (b 0) 9 [.int rf, .ref (b 1), .int tn, .int sp, .ref (b 2), .ref (b 3), .ref (b 4), .ref (b 5), .int ac, .ref (b 6), .ref (b 7), .ref (b 8), .ref (b 9), .ref (b 10), .ref (b 11)]], [ia ty (b 3) 57 r], [ia ty (b 4) 57 rt], [la ty (b 8) 2 (tw x y)], [la ty (b 9) 2 (tw xt yt)]]) := D_perm (po (bs := [[ob (b 0) 9 [.int rf, .ref (b 1), .int tn, .int sp, .ref (b 2), .ref (b 3), .ref (b 4), .ref (b 5), .int ac, .ref (b 6), .ref (b 7), .ref (b 8), .ref (b 9), .ref (b 10), .ref (b 11)]], [ia ty (b 3) 57 r], [ia ty (b 4) 57 rt], [la ty (b 8) 2 (tw x y)], [la ty (b 9) 2 (tw xt yt)]]) [0, 1, 2, 3, 4] 5 rfl (by decide +kernel) rfl) hD
        refine lv_if_eq (tgt := 56) hx hb dX10_runScript_49 (by decide) (fun c_10 => ?_) (fun c_10 => ?_)
        · first | exact absurd c_10 (invL_y (hi := 9999999999) (n := 9999999999) hwn (by decide +kernel) (by omega)) | exact absurd (invL_y (hi := 9999999999) (n := 9999999999) hwn (by decide +kernel) (by omega)) c_10
        · skip
          refine lv_iconst (v := 0) hx hb dX10_runScript_52 (by decide) ?_
          refine lv_goto (tgt := 57) hx hb dX10_runScript_53 (by decide) ?_
          refine cVi (As := [.int 0]) (rest := []) ⟨hx, hb, hml, hown, hts⟩ (c_X10_refused0 l D ty b rf tn sp ac) (cwV 1 hts gX10_runScript_X10_refused rfl rfl rfl (by decide +kernel) ⟨Nat.le_of_ble_eq_true rfl, Nat.le_of_ble_eq_true rfl⟩) hK hX hP hD hS hA (pk (bs := [[ob (b 0) 9 [.int rf, .ref (b 1), .int tn, .int sp, .ref (b 2), .ref (b 3), .ref (b 4), .ref (b 5), .int ac, .ref (b 6), .ref (b 7), .ref (b 8), .ref (b 9), .ref (b 10), .ref (b 11)]], [ia ty (b 3) 57 r], [ia ty (b 4) 57 rt], [la ty (b 8) 2 (tw x y)], [la ty (b 9) 2 (tw xt yt)]]) (bsc := [[ob (b 0) 9 [.int rf, .ref (b 1), .int tn, .int sp, .ref (b 2), .ref (b 3), .ref (b 4), .ref (b 5), .int ac, .ref (b 6), .ref (b 7), .ref (b 8), .ref (b 9), .ref (b 10), .ref (b 11)]]]) (bsr := [[ia ty (b 3) 57 r], [ia ty (b 4) 57 rt], [la ty (b 8) 2 (tw x y)], [la ty (b 9) 2 (tw xt yt)]]) [0] [1, 2, 3, 4] 5 rfl (by decide +kernel) rfl rfl) (ci := 9) rfl 0 rfl rfl hl.1 rfl (Nat.le_of_ble_eq_true rfl) dX10_runScript_57 ⟨Nat.le_of_ble_eq_true rfl, Nat.le_of_ble_eq_true rfl⟩ (fun r_12 u_11 h_13 H locs hP hD hS => ?_)
          have h_13 : r_12 = 0 := h_13
          subst h_13
          have hP : va_P D vwCl (fl [[ob (b 0) 9 [.int 0, .ref (b 1), .int tn, .int sp, .ref (b 2), .ref (b 3), .ref (b 4), .ref (b 5), .int ac, .ref (b 6), .ref (b 7), .ref (b 8), .ref (b 9), .ref (b 10), .ref (b 11)]], [ia ty (b 3) 57 r], [ia ty (b 4) 57 rt], [la ty (b 8) 2 (tw x y)], [la ty (b 9) 2 (tw xt yt)]]) H := P_perm (po (bs := [[ob (b 0) 9 [.int 0, .ref (b 1), .int tn, .int sp, .ref (b 2), .ref (b 3), .ref (b 4), .ref (b 5), .int ac, .ref (b 6), .ref (b 7), .ref (b 8), .ref (b 9), .ref (b 10), .ref (b 11)]], [ia ty (b 3) 57 r], [ia ty (b 4) 57 rt], [la ty (b 8) 2 (tw x y)], [la ty (b 9) 2 (tw xt yt)]]) [0, 1, 2, 3, 4] 5 rfl (by decide +kernel) rfl) hP
          have hD : va_D A (fl [[ob (b 0) 9 [.int 0, .ref (b 1), .int tn, .int sp, .ref (b 2), .ref (b 3), .ref (b 4), .ref (b 5), .int ac, .ref (b 6), .ref (b 7), .ref (b 8), .ref (b 9), .ref (b 10), .ref (b 11)]], [ia ty (b 3) 57 r], [ia ty (b 4) 57 rt], [la ty (b 8) 2 (tw x y)], [la ty (b 9) 2 (tw xt yt)]]) := D_perm (po (bs := [[ob (b 0) 9 [.int 0, .ref (b 1), .int tn, .int sp, .ref (b 2), .ref (b 3), .ref (b 4), .ref (b 5), .int ac, .ref (b 6), .ref (b 7), .ref (b 8), .ref (b 9), .ref (b 10), .ref (b 11)]], [ia ty (b 3) 57 r], [ia ty (b 4) 57 rt], [la ty (b 8) 2 (tw x y)], [la ty (b 9) 2 (tw xt yt)]]) [0, 1, 2, 3, 4] 5 rfl (by decide +kernel) rfl) hD
          refine lv_if_eq (tgt := 65) hx hb dX10_runScript_60 (by decide) (fun c_14 => ?_) (fun c_14 => ?_)
          · skip
            refine lv_aload_n hx hb dX10_runScript_65 rfl (lv_at hl 1 rfl) ?_
            refine cVv (As := []) (rest := []) ⟨hx, hb, hml, hown, hts⟩ (c_X10_copyNow l D ty b 0 tn sp ac r rt x y xt yt) (cwV 0 hts gX10_runScript_X10_copyNow rfl rfl rfl (by decide +kernel) ⟨Nat.le_of_ble_eq_true rfl, Nat.le_of_ble_eq_true rfl⟩) hK hX hP hD hS hA (pk (bs := [[ob (b 0) 9 [.int 0, .ref (b 1), .int tn, .int sp, .ref (b 2), .ref (b 3), .ref (b 4), .ref (b 5), .int ac, .ref (b 6), .ref (b 7), .ref (b 8), .ref (b 9), .ref (b 10), .ref (b 11)]], [ia ty (b 3) 57 r], [ia ty (b 4) 57 rt], [la ty (b 8) 2 (tw x y)], [la ty (b 9) 2 (tw xt yt)]]) (bsc := [[ob (b 0) 9 [.int 0, .ref (b 1), .int tn, .int sp, .ref (b 2), .ref (b 3), .ref (b 4), .ref (b 5), .int ac, .ref (b 6), .ref (b 7), .ref (b 8), .ref (b 9), .ref (b 10), .ref (b 11)]], [ia ty (b 3) 57 r], [ia ty (b 4) 57 rt], [la ty (b 8) 2 (tw x y)], [la ty (b 9) 2 (tw xt yt)]]) (bsr := []) [0, 1, 2, 3, 4] [] 5 rfl (by decide +kernel) rfl rfl) (ci := 9) rfl 0 rfl rfl hl.1 rfl (Nat.le_of_ble_eq_true rfl) dX10_runScript_66 ⟨Nat.le_of_ble_eq_true rfl, Nat.le_of_ble_eq_true rfl⟩ (fun u_15 h_17 H locs hP hD hS => ?_)
            have hP : va_P D vwCl (fl [[ob (b 0) 9 [.int 0, .ref (b 1), .int tn, .int sp, .ref (b 2), .ref (b 3), .ref (b 4), .ref (b 5), .int ac, .ref (b 6), .ref (b 7), .ref (b 8), .ref (b 9), .ref (b 10), .ref (b 11)]], [ia ty (b 3) 57 r], [ia ty (b 4) 57 r], [la ty (b 8) 2 (tw x y)], [la ty (b 9) 2 (tw x y)]]) H := P_perm (po (bs := [[ob (b 0) 9 [.int 0, .ref (b 1), .int tn, .int sp, .ref (b 2), .ref (b 3), .ref (b 4), .ref (b 5), .int ac, .ref (b 6), .ref (b 7), .ref (b 8), .ref (b 9), .ref (b 10), .ref (b 11)]], [ia ty (b 3) 57 r], [ia ty (b 4) 57 r], [la ty (b 8) 2 (tw x y)], [la ty (b 9) 2 (tw x y)]]) [0, 1, 2, 3, 4] 5 rfl (by decide +kernel) rfl) hP
            have hD : va_D A (fl [[ob (b 0) 9 [.int 0, .ref (b 1), .int tn, .int sp, .ref (b 2), .ref (b 3), .ref (b 4), .ref (b 5), .int ac, .ref (b 6), .ref (b 7), .ref (b 8), .ref (b 9), .ref (b 10), .ref (b 11)]], [ia ty (b 3) 57 r], [ia ty (b 4) 57 r], [la ty (b 8) 2 (tw x y)], [la ty (b 9) 2 (tw x y)]]) := D_perm (po (bs := [[ob (b 0) 9 [.int 0, .ref (b 1), .int tn, .int sp, .ref (b 2), .ref (b 3), .ref (b 4), .ref (b 5), .int ac, .ref (b 6), .ref (b 7), .ref (b 8), .ref (b 9), .ref (b 10), .ref (b 11)]], [ia ty (b 3) 57 r], [ia ty (b 4) 57 r], [la ty (b 8) 2 (tw x y)], [la ty (b 9) 2 (tw x y)]]) [0, 1, 2, 3, 4] 5 rfl (by decide +kernel) rfl) hD
            refine lv_lload_n hx hb dX10_runScript_69 rfl (lv_at hl 3 rfl) ?_
            refine lv_lstore (lv' := [(6, .long (lN wn)), (4, .long 10000000000), (0, .ref (b 0)), (1, .int 2), (2, .long (lN wn))]) hx hb dX10_runScript_70 hl (by decide) rfl (fun ls hl => ?_)
            refine lv_iconst (v := 0) hx hb dX10_runScript_72 (by decide) ?_
            refine lv_istore (lv' := [(8, .int 0), (6, .long (lN wn)), (4, .long 10000000000), (0, .ref (b 0)), (1, .int 2), (2, .long (lN wn))]) hx hb dX10_runScript_73 hl (by decide) rfl (fun ls hl => ?_)
            refine lv_iload hx hb dX10_runScript_75 (lv_at hl 0 rfl) ?_
            refine lv_iload_n hx hb dX10_runScript_77 rfl (lv_at hl 4 rfl) ?_
            refine lv_icmp_ge (tgt := 132) hx hb dX10_runScript_78 (by decide) (fun c_18 => ?_) (fun c_18 => ?_)
            · exact absurd c_18 (by decide)
            · skip
              refine lv_lload hx hb dX10_runScript_81 (lv_at hl 2 rfl) ?_
              refine lv_ldc2 hx hb hown (hts (Cond.constantLong RX10 191 (100000)) (List.mem_of_getElem? (i := 1) rfl)) dX10_runScript_83 ?_
              refine lv_ldiv hx hb dX10_runScript_86 (by decide) ?_
              refine W.eq (g2 := F0 m 87 ls [.long 100000]) (by rw [show (10000000000 : Int64) / 100000 = 100000 from by decide +kernel]) ?_
              refine lv_lstore (lv' := [(4, .long 100000), (8, .int 0), (6, .long (lN wn)), (0, .ref (b 0)), (1, .int 2), (2, .long (lN wn))]) hx hb dX10_runScript_87 hl (by decide) rfl (fun ls hl => ?_)
              refine lv_lload hx hb dX10_runScript_89 (lv_at hl 2 rfl) ?_
              refine lv_lload hx hb dX10_runScript_91 (lv_at hl 0 rfl) ?_
              refine lv_ldiv hx hb dX10_runScript_93 (by decide) ?_
              refine lv_l2i (v := (Int64.toInt32 ((lN wn) / 100000))) hx hb dX10_runScript_94 rfl ?_
              obtain ⟨G0, hG0⟩ : ∃ z, z = wn / 100000 % 100000 := ⟨_, rfl⟩
              have lG0 : G0 < 100000 := by omega
              refine W.eq (g2 := F0 m 95 ls [.int (nI G0)]) (by rw [show lN (wn) / 100000 = lN ((wn) / 100000) from pk_lDiv (by omega) (by decide) (by decide), lN_i, show (wn) / 100000 = G0 by omega]) ?_
              refine lv_istore (lv' := [(9, .int (nI G0)), (4, .long 100000), (8, .int 0), (6, .long (lN wn)), (0, .ref (b 0)), (1, .int 2), (2, .long (lN wn))]) hx hb dX10_runScript_95 hl (by decide) rfl (fun ls hl => ?_)
              refine lv_lload hx hb dX10_runScript_97 (lv_at hl 3 rfl) ?_
              refine lv_lload hx hb dX10_runScript_99 (lv_at hl 1 rfl) ?_
              refine lv_lrem hx hb dX10_runScript_101 (by decide) ?_
              refine W.eq (g2 := F0 m 102 ls [.long (lN (wn % 100000))]) (by rw [show lN (wn) - lN (wn) / 100000 * 100000 = lN (wn % 100000) from pk_lRem (by omega) (by decide) (by decide)]) ?_
              refine lv_lstore (lv' := [(6, .long (lN (wn % 100000))), (9, .int (nI G0)), (4, .long 100000), (8, .int 0), (0, .ref (b 0)), (1, .int 2), (2, .long (lN wn))]) hx hb dX10_runScript_102 hl (by decide) rfl (fun ls hl => ?_)
              refine lv_aload_n hx hb dX10_runScript_104 rfl (lv_at hl 4 rfl) ?_
              refine lv_iload hx hb dX10_runScript_105 (lv_at hl 1 rfl) ?_
              refine lv_sipush (v := 10000) hx hb dX10_runScript_107 (by decide) ?_
              refine k_idiv (v := (nI (G0 / 10000))) hx hb dX10_runScript_110 (by decide) (pk_div (a := G0) (d := 10000) (by omega) (by decide) (by decide)) ?_
              refine lv_iload hx hb dX10_runScript_111 (lv_at hl 1 rfl) ?_
              refine lv_sipush (v := 10000) hx hb dX10_runScript_113 (by decide) ?_
              refine k_irem (v := (nI (G0 % 10000))) hx hb dX10_runScript_116 (by decide) (pk_rem (a := G0) (d := 10000) (by omega) (by decide) (by decide)) ?_
              refine cVi (As := [.int (nI (G0 / 10000)), .int (nI (G0 % 10000))]) (rest := []) ⟨hx, hb, hml, hown, hts⟩ (c_X10_does l D ty b 0 tn sp ac G0 r x y (by omega) (hp)) (cwV 2 hts gX10_runScript_X10_does rfl rfl rfl (by decide +kernel) ⟨Nat.le_of_ble_eq_true rfl, Nat.le_of_ble_eq_true rfl⟩) hK hX hP hD hS hA (pk (bs := [[ob (b 0) 9 [.int 0, .ref (b 1), .int tn, .int sp, .ref (b 2), .ref (b 3), .ref (b 4), .ref (b 5), .int ac, .ref (b 6), .ref (b 7), .ref (b 8), .ref (b 9), .ref (b 10), .ref (b 11)]], [ia ty (b 3) 57 r], [ia ty (b 4) 57 r], [la ty (b 8) 2 (tw x y)], [la ty (b 9) 2 (tw x y)]]) (bsc := [[ob (b 0) 9 [.int 0, .ref (b 1), .int tn, .int sp, .ref (b 2), .ref (b 3), .ref (b 4), .ref (b 5), .int ac, .ref (b 6), .ref (b 7), .ref (b 8), .ref (b 9), .ref (b 10), .ref (b 11)]], [ia ty (b 4) 57 r], [la ty (b 9) 2 (tw x y)]]) (bsr := [[ia ty (b 3) 57 r], [la ty (b 8) 2 (tw x y)]]) [0, 2, 4] [1, 3] 5 rfl (by decide +kernel) rfl rfl) (ci := 9) rfl 0 rfl rfl hl.1 rfl (Nat.le_of_ble_eq_true rfl) dX10_runScript_117 ⟨Nat.le_of_ble_eq_true rfl, Nat.le_of_ble_eq_true rfl⟩ (fun r_20 u_19 h_21 H locs hP hD hS => ?_)
              have h_21 : r_20 = (cmdOk G0 r) := h_21
              subst h_21
              have hP : va_P D vwCl (fl [[ob (b 0) 9 [.int 0, .ref (b 1), .int tn, .int sp, .ref (b 2), .ref (b 3), .ref (b 4), .ref (b 5), .int ac, .ref (b 6), .ref (b 7), .ref (b 8), .ref (b 9), .ref (b 10), .ref (b 11)]], [ia ty (b 3) 57 r], [ia ty (b 4) 57 (cmdR G0 r)], [la ty (b 8) 2 (tw x y)], [la ty (b 9) 2 (tw (minsX (cmdN G0) r x) (minsY (cmdN G0) r y))]]) H := P_perm (po (bs := [[ob (b 0) 9 [.int 0, .ref (b 1), .int tn, .int sp, .ref (b 2), .ref (b 3), .ref (b 4), .ref (b 5), .int ac, .ref (b 6), .ref (b 7), .ref (b 8), .ref (b 9), .ref (b 10), .ref (b 11)]], [ia ty (b 4) 57 (cmdR G0 r)], [la ty (b 9) 2 (tw (minsX (cmdN G0) r x) (minsY (cmdN G0) r y))], [ia ty (b 3) 57 r], [la ty (b 8) 2 (tw x y)]]) [0, 3, 1, 4, 2] 5 rfl (by decide +kernel) rfl) hP
              have hD : va_D A (fl [[ob (b 0) 9 [.int 0, .ref (b 1), .int tn, .int sp, .ref (b 2), .ref (b 3), .ref (b 4), .ref (b 5), .int ac, .ref (b 6), .ref (b 7), .ref (b 8), .ref (b 9), .ref (b 10), .ref (b 11)]], [ia ty (b 3) 57 r], [ia ty (b 4) 57 (cmdR G0 r)], [la ty (b 8) 2 (tw x y)], [la ty (b 9) 2 (tw (minsX (cmdN G0) r x) (minsY (cmdN G0) r y))]]) := D_perm (po (bs := [[ob (b 0) 9 [.int 0, .ref (b 1), .int tn, .int sp, .ref (b 2), .ref (b 3), .ref (b 4), .ref (b 5), .int ac, .ref (b 6), .ref (b 7), .ref (b 8), .ref (b 9), .ref (b 10), .ref (b 11)]], [ia ty (b 4) 57 (cmdR G0 r)], [la ty (b 9) 2 (tw (minsX (cmdN G0) r x) (minsY (cmdN G0) r y))], [ia ty (b 3) 57 r], [la ty (b 8) 2 (tw x y)]]) [0, 3, 1, 4, 2] 5 rfl (by decide +kernel) rfl) hD
              refine lv_if_ne (tgt := 126) hx hb dX10_runScript_120 (by decide) (fun c_22 => ?_) (fun c_22 => ?_)
              · skip
                refine lv_iinc (v := 1) (lv' := [(8, .int 1), (6, .long (lN (wn % 100000))), (9, .int (nI G0)), (4, .long 100000), (0, .ref (b 0)), (1, .int 2), (2, .long (lN wn))]) hx hb dX10_runScript_126 hl (k := 3) rfl (by decide) (by decide) rfl (fun ls hl => ?_)
                refine lv_goto (tgt := 75) hx hb dX10_runScript_129 (by decide) ?_
                refine lv_iload hx hb dX10_runScript_75 (lv_at hl 0 rfl) ?_
                refine lv_iload_n hx hb dX10_runScript_77 rfl (lv_at hl 5 rfl) ?_
                refine lv_icmp_ge (tgt := 132) hx hb dX10_runScript_78 (by decide) (fun c_23 => ?_) (fun c_23 => ?_)
                · exact absurd c_23 (by decide)
                · skip
                  refine lv_lload hx hb dX10_runScript_81 (lv_at hl 3 rfl) ?_
                  refine lv_ldc2 hx hb hown (hts (Cond.constantLong RX10 191 (100000)) (List.mem_of_getElem? (i := 1) rfl)) dX10_runScript_83 ?_
                  refine lv_ldiv hx hb dX10_runScript_86 (by decide) ?_
                  refine W.eq (g2 := F0 m 87 ls [.long 1]) (by rw [show (100000 : Int64) / 100000 = 1 from by decide +kernel]) ?_
                  refine lv_lstore (lv' := [(4, .long 1), (8, .int 1), (6, .long (lN (wn % 100000))), (9, .int (nI G0)), (0, .ref (b 0)), (1, .int 2), (2, .long (lN wn))]) hx hb dX10_runScript_87 hl (by decide) rfl (fun ls hl => ?_)
                  refine lv_lload hx hb dX10_runScript_89 (lv_at hl 2 rfl) ?_
                  refine lv_lload hx hb dX10_runScript_91 (lv_at hl 0 rfl) ?_
                  refine lv_ldiv hx hb dX10_runScript_93 (by decide) ?_
                  refine lv_l2i (v := (Int64.toInt32 ((lN (wn % 100000)) / 1))) hx hb dX10_runScript_94 rfl ?_
                  obtain ⟨G1, hG1⟩ : ∃ z, z = wn % 100000 := ⟨_, rfl⟩
                  have lG1 : G1 < 100000 := by omega
                  refine W.eq (g2 := F0 m 95 ls [.int (nI G1)]) (by rw [show lN (wn % 100000) / 1 = lN ((wn % 100000) / 1) from pk_lDiv (by omega) (by decide) (by decide), lN_i, show (wn % 100000) / 1 = G1 by omega]) ?_
                  refine lv_istore (lv' := [(9, .int (nI G1)), (4, .long 1), (8, .int 1), (6, .long (lN (wn % 100000))), (0, .ref (b 0)), (1, .int 2), (2, .long (lN wn))]) hx hb dX10_runScript_95 hl (by decide) rfl (fun ls hl => ?_)
                  refine lv_lload hx hb dX10_runScript_97 (lv_at hl 3 rfl) ?_
                  refine lv_lload hx hb dX10_runScript_99 (lv_at hl 1 rfl) ?_
                  refine lv_lrem hx hb dX10_runScript_101 (by decide) ?_
                  refine W.eq (g2 := F0 m 102 ls [.long (lN (wn % 100000 % 1))]) (by rw [show lN (wn % 100000) - lN (wn % 100000) / 1 * 1 = lN (wn % 100000 % 1) from pk_lRem (by omega) (by decide) (by decide)]) ?_
                  refine lv_lstore (lv' := [(6, .long (lN (wn % 100000 % 1))), (9, .int (nI G1)), (4, .long 1), (8, .int 1), (0, .ref (b 0)), (1, .int 2), (2, .long (lN wn))]) hx hb dX10_runScript_102 hl (by decide) rfl (fun ls hl => ?_)
                  refine lv_aload_n hx hb dX10_runScript_104 rfl (lv_at hl 4 rfl) ?_
                  refine lv_iload hx hb dX10_runScript_105 (lv_at hl 1 rfl) ?_
                  refine lv_sipush (v := 10000) hx hb dX10_runScript_107 (by decide) ?_
                  refine k_idiv (v := (nI (G1 / 10000))) hx hb dX10_runScript_110 (by decide) (pk_div (a := G1) (d := 10000) (by omega) (by decide) (by decide)) ?_
                  refine lv_iload hx hb dX10_runScript_111 (lv_at hl 1 rfl) ?_
                  refine lv_sipush (v := 10000) hx hb dX10_runScript_113 (by decide) ?_
                  refine k_irem (v := (nI (G1 % 10000))) hx hb dX10_runScript_116 (by decide) (pk_rem (a := G1) (d := 10000) (by omega) (by decide) (by decide)) ?_
                  refine cVi (As := [.int (nI (G1 / 10000)), .int (nI (G1 % 10000))]) (rest := []) ⟨hx, hb, hml, hown, hts⟩ (c_X10_does l D ty b 0 tn sp ac G1 (cmdR G0 r) (minsX (cmdN G0) r x) (minsY (cmdN G0) r y) (by omega) ((Pw_cmd hp))) (cwV 2 hts gX10_runScript_X10_does rfl rfl rfl (by decide +kernel) ⟨Nat.le_of_ble_eq_true rfl, Nat.le_of_ble_eq_true rfl⟩) hK hX hP hD hS hA (pk (bs := [[ob (b 0) 9 [.int 0, .ref (b 1), .int tn, .int sp, .ref (b 2), .ref (b 3), .ref (b 4), .ref (b 5), .int ac, .ref (b 6), .ref (b 7), .ref (b 8), .ref (b 9), .ref (b 10), .ref (b 11)]], [ia ty (b 3) 57 r], [ia ty (b 4) 57 (cmdR G0 r)], [la ty (b 8) 2 (tw x y)], [la ty (b 9) 2 (tw (minsX (cmdN G0) r x) (minsY (cmdN G0) r y))]]) (bsc := [[ob (b 0) 9 [.int 0, .ref (b 1), .int tn, .int sp, .ref (b 2), .ref (b 3), .ref (b 4), .ref (b 5), .int ac, .ref (b 6), .ref (b 7), .ref (b 8), .ref (b 9), .ref (b 10), .ref (b 11)]], [ia ty (b 4) 57 (cmdR G0 r)], [la ty (b 9) 2 (tw (minsX (cmdN G0) r x) (minsY (cmdN G0) r y))]]) (bsr := [[ia ty (b 3) 57 r], [la ty (b 8) 2 (tw x y)]]) [0, 2, 4] [1, 3] 5 rfl (by decide +kernel) rfl rfl) (ci := 9) rfl 0 rfl rfl hl.1 rfl (Nat.le_of_ble_eq_true rfl) dX10_runScript_117 ⟨Nat.le_of_ble_eq_true rfl, Nat.le_of_ble_eq_true rfl⟩ (fun r_25 u_24 h_26 H locs hP hD hS => ?_)
                  have h_26 : r_25 = (cmdOk G1 (cmdR G0 r)) := h_26
                  subst h_26
                  have hP : va_P D vwCl (fl [[ob (b 0) 9 [.int 0, .ref (b 1), .int tn, .int sp, .ref (b 2), .ref (b 3), .ref (b 4), .ref (b 5), .int ac, .ref (b 6), .ref (b 7), .ref (b 8), .ref (b 9), .ref (b 10), .ref (b 11)]], [ia ty (b 3) 57 r], [ia ty (b 4) 57 (cmdR G1 (cmdR G0 r))], [la ty (b 8) 2 (tw x y)], [la ty (b 9) 2 (tw (minsX (cmdN G1) (cmdR G0 r) (minsX (cmdN G0) r x)) (minsY (cmdN G1) (cmdR G0 r) (minsY (cmdN G0) r y)))]]) H := P_perm (po (bs := [[ob (b 0) 9 [.int 0, .ref (b 1), .int tn, .int sp, .ref (b 2), .ref (b 3), .ref (b 4), .ref (b 5), .int ac, .ref (b 6), .ref (b 7), .ref (b 8), .ref (b 9), .ref (b 10), .ref (b 11)]], [ia ty (b 4) 57 (cmdR G1 (cmdR G0 r))], [la ty (b 9) 2 (tw (minsX (cmdN G1) (cmdR G0 r) (minsX (cmdN G0) r x)) (minsY (cmdN G1) (cmdR G0 r) (minsY (cmdN G0) r y)))], [ia ty (b 3) 57 r], [la ty (b 8) 2 (tw x y)]]) [0, 3, 1, 4, 2] 5 rfl (by decide +kernel) rfl) hP
                  have hD : va_D A (fl [[ob (b 0) 9 [.int 0, .ref (b 1), .int tn, .int sp, .ref (b 2), .ref (b 3), .ref (b 4), .ref (b 5), .int ac, .ref (b 6), .ref (b 7), .ref (b 8), .ref (b 9), .ref (b 10), .ref (b 11)]], [ia ty (b 3) 57 r], [ia ty (b 4) 57 (cmdR G1 (cmdR G0 r))], [la ty (b 8) 2 (tw x y)], [la ty (b 9) 2 (tw (minsX (cmdN G1) (cmdR G0 r) (minsX (cmdN G0) r x)) (minsY (cmdN G1) (cmdR G0 r) (minsY (cmdN G0) r y)))]]) := D_perm (po (bs := [[ob (b 0) 9 [.int 0, .ref (b 1), .int tn, .int sp, .ref (b 2), .ref (b 3), .ref (b 4), .ref (b 5), .int ac, .ref (b 6), .ref (b 7), .ref (b 8), .ref (b 9), .ref (b 10), .ref (b 11)]], [ia ty (b 4) 57 (cmdR G1 (cmdR G0 r))], [la ty (b 9) 2 (tw (minsX (cmdN G1) (cmdR G0 r) (minsX (cmdN G0) r x)) (minsY (cmdN G1) (cmdR G0 r) (minsY (cmdN G0) r y)))], [ia ty (b 3) 57 r], [la ty (b 8) 2 (tw x y)]]) [0, 3, 1, 4, 2] 5 rfl (by decide +kernel) rfl) hD
                  refine lv_if_ne (tgt := 126) hx hb dX10_runScript_120 (by decide) (fun c_27 => ?_) (fun c_27 => ?_)
                  · skip
                    refine lv_iinc (v := 2) (lv' := [(8, .int 2), (6, .long (lN (wn % 100000 % 1))), (9, .int (nI G1)), (4, .long 1), (0, .ref (b 0)), (1, .int 2), (2, .long (lN wn))]) hx hb dX10_runScript_126 hl (k := 3) rfl (by decide) (by decide) rfl (fun ls hl => ?_)
                    refine lv_goto (tgt := 75) hx hb dX10_runScript_129 (by decide) ?_
                    refine lv_iload hx hb dX10_runScript_75 (lv_at hl 0 rfl) ?_
                    refine lv_iload_n hx hb dX10_runScript_77 rfl (lv_at hl 5 rfl) ?_
                    refine lv_icmp_ge (tgt := 132) hx hb dX10_runScript_78 (by decide) (fun c_28 => ?_) (fun c_28 => ?_)
                    · skip
                      refine lv_ldc hx hb hown (hts (Cond.constant RX10 53 (-99999999)) (List.mem_of_getElem? (i := 5) rfl)) dX10_runScript_132 ?_
                      have f1 : scR [G0, G1] r = (cmdR G1 (cmdR G0 r)) := ((if_neg c_22).trans (if_neg c_27))
                      have f2 : scX [G0, G1] r x = (minsX (cmdN G1) (cmdR G0 r) (minsX (cmdN G0) r x)) := ((if_neg c_22).trans (if_neg c_27))
                      have f3 : scY [G0, G1] r y = (minsY (cmdN G1) (cmdR G0 r) (minsY (cmdN G0) r y)) := ((if_neg c_22).trans (if_neg c_27))
                      have f5 : scV 0 [G0, G1] r = (-99999999) := ((if_neg c_22).trans (if_neg c_27))
                      have hP : va_P D vwCl (fl [[ob (b 0) 9 [.int 0, .ref (b 1), .int tn, .int sp, .ref (b 2), .ref (b 3), .ref (b 4), .ref (b 5), .int ac, .ref (b 6), .ref (b 7), .ref (b 8), .ref (b 9), .ref (b 10), .ref (b 11)]], [ia ty (b 3) 57 r], [ia ty (b 4) 57 (scR [G0, G1] r)], [la ty (b 8) 2 (tw x y)], [la ty (b 9) 2 (tw (scX [G0, G1] r x) (scY [G0, G1] r y))]]) H := by rw [f1, f2, f3]; exact hP
                      have hPn := hP
                      have hDn := hD
                      have hSn := hS
                      rw [hG0, hG1] at hPn f5
                      have hP : va_P D vwCl (fl [[ob (b 0) 9 [.int 0, .ref (b 1), .int tn, .int sp, .ref (b 2), .ref (b 3), .ref (b 4), .ref (b 5), .int ac, .ref (b 6), .ref (b 7), .ref (b 8), .ref (b 9), .ref (b 10), .ref (b 11)]], [ia ty (b 3) 57 r], [ia ty (b 4) 57 (scR [wn / 100000 % 100000, wn % 100000] r)], [la ty (b 8) 2 (tw x y)], [la ty (b 9) 2 (tw (scX [wn / 100000 % 100000, wn % 100000] r x) (scY [wn / 100000 % 100000, wn % 100000] r y))]]) H := hPn
                      have hD : va_D A (fl [[ob (b 0) 9 [.int 0, .ref (b 1), .int tn, .int sp, .ref (b 2), .ref (b 3), .ref (b 4), .ref (b 5), .int ac, .ref (b 6), .ref (b 7), .ref (b 8), .ref (b 9), .ref (b 10), .ref (b 11)]], [ia ty (b 3) 57 r], [ia ty (b 4) 57 (scR [wn / 100000 % 100000, wn % 100000] r)], [la ty (b 8) 2 (tw x y)], [la ty (b 9) 2 (tw (scX [wn / 100000 % 100000, wn % 100000] r x) (scY [wn / 100000 % 100000, wn % 100000] r y))]]) := (D_same2 hD [(b 0), (b 3), (b 4), (b 8), (b 9)] rfl rfl)
                      exact end_i (bs' := (fun (_ : Unit) => [[ob (b 0) 9 [.int 0, .ref (b 1), .int tn, .int sp, .ref (b 2), .ref (b 3), .ref (b 4), .ref (b 5), .int ac, .ref (b 6), .ref (b 7), .ref (b 8), .ref (b 9), .ref (b 10), .ref (b 11)]], [ia ty (b 3) 57 r], [ia ty (b 4) 57 (scR [wn / 100000 % 100000, wn % 100000] r)], [la ty (b 8) 2 (tw x y)], [la ty (b 9) 2 (tw (scX [wn / 100000 % 100000, wn % 100000] r x) (scY [wn / 100000 % 100000, wn % 100000] r y))]])) () hx hb hr hlocks hP hD hS f5.symm (Nat.le_of_ble_eq_true rfl) (Nat.le_of_ble_eq_true rfl) dX10_runScript_134
                    · exact absurd (by decide) c_28
                  · skip
                    refine lv_iload hx hb dX10_runScript_123 (lv_at hl 3 rfl) ?_
                    have f1 : scR [G0, G1] r = (cmdR G1 (cmdR G0 r)) := ((if_neg c_22).trans (if_pos c_27))
                    have f2 : scX [G0, G1] r x = (minsX (cmdN G1) (cmdR G0 r) (minsX (cmdN G0) r x)) := ((if_neg c_22).trans (if_pos c_27))
                    have f3 : scY [G0, G1] r y = (minsY (cmdN G1) (cmdR G0 r) (minsY (cmdN G0) r y)) := ((if_neg c_22).trans (if_pos c_27))
                    have f5 : scV 0 [G0, G1] r = 1 := ((if_neg c_22).trans (if_pos c_27))
                    have hP : va_P D vwCl (fl [[ob (b 0) 9 [.int 0, .ref (b 1), .int tn, .int sp, .ref (b 2), .ref (b 3), .ref (b 4), .ref (b 5), .int ac, .ref (b 6), .ref (b 7), .ref (b 8), .ref (b 9), .ref (b 10), .ref (b 11)]], [ia ty (b 3) 57 r], [ia ty (b 4) 57 (scR [G0, G1] r)], [la ty (b 8) 2 (tw x y)], [la ty (b 9) 2 (tw (scX [G0, G1] r x) (scY [G0, G1] r y))]]) H := by rw [f1, f2, f3]; exact hP
                    have hPn := hP
                    have hDn := hD
                    have hSn := hS
                    rw [hG0, hG1] at hPn f5
                    have hP : va_P D vwCl (fl [[ob (b 0) 9 [.int 0, .ref (b 1), .int tn, .int sp, .ref (b 2), .ref (b 3), .ref (b 4), .ref (b 5), .int ac, .ref (b 6), .ref (b 7), .ref (b 8), .ref (b 9), .ref (b 10), .ref (b 11)]], [ia ty (b 3) 57 r], [ia ty (b 4) 57 (scR [wn / 100000 % 100000, wn % 100000] r)], [la ty (b 8) 2 (tw x y)], [la ty (b 9) 2 (tw (scX [wn / 100000 % 100000, wn % 100000] r x) (scY [wn / 100000 % 100000, wn % 100000] r y))]]) H := hPn
                    have hD : va_D A (fl [[ob (b 0) 9 [.int 0, .ref (b 1), .int tn, .int sp, .ref (b 2), .ref (b 3), .ref (b 4), .ref (b 5), .int ac, .ref (b 6), .ref (b 7), .ref (b 8), .ref (b 9), .ref (b 10), .ref (b 11)]], [ia ty (b 3) 57 r], [ia ty (b 4) 57 (scR [wn / 100000 % 100000, wn % 100000] r)], [la ty (b 8) 2 (tw x y)], [la ty (b 9) 2 (tw (scX [wn / 100000 % 100000, wn % 100000] r x) (scY [wn / 100000 % 100000, wn % 100000] r y))]]) := (D_same2 hD [(b 0), (b 3), (b 4), (b 8), (b 9)] rfl rfl)
                    exact end_i (bs' := (fun (_ : Unit) => [[ob (b 0) 9 [.int 0, .ref (b 1), .int tn, .int sp, .ref (b 2), .ref (b 3), .ref (b 4), .ref (b 5), .int ac, .ref (b 6), .ref (b 7), .ref (b 8), .ref (b 9), .ref (b 10), .ref (b 11)]], [ia ty (b 3) 57 r], [ia ty (b 4) 57 (scR [wn / 100000 % 100000, wn % 100000] r)], [la ty (b 8) 2 (tw x y)], [la ty (b 9) 2 (tw (scX [wn / 100000 % 100000, wn % 100000] r x) (scY [wn / 100000 % 100000, wn % 100000] r y))]])) () hx hb hr hlocks hP hD hS f5.symm (Nat.le_of_ble_eq_true rfl) (Nat.le_of_ble_eq_true rfl) dX10_runScript_125
              · skip
                refine lv_iload hx hb dX10_runScript_123 (lv_at hl 3 rfl) ?_
                obtain ⟨G1, hG1⟩ : ∃ z, z = wn % 100000 := ⟨_, rfl⟩
                have f1 : scR [G0, G1] r = (cmdR G0 r) := (if_pos c_22)
                have f2 : scX [G0, G1] r x = (minsX (cmdN G0) r x) := (if_pos c_22)
                have f3 : scY [G0, G1] r y = (minsY (cmdN G0) r y) := (if_pos c_22)
                have f5 : scV 0 [G0, G1] r = 0 := (if_pos c_22)
                have hP : va_P D vwCl (fl [[ob (b 0) 9 [.int 0, .ref (b 1), .int tn, .int sp, .ref (b 2), .ref (b 3), .ref (b 4), .ref (b 5), .int ac, .ref (b 6), .ref (b 7), .ref (b 8), .ref (b 9), .ref (b 10), .ref (b 11)]], [ia ty (b 3) 57 r], [ia ty (b 4) 57 (scR [G0, G1] r)], [la ty (b 8) 2 (tw x y)], [la ty (b 9) 2 (tw (scX [G0, G1] r x) (scY [G0, G1] r y))]]) H := by rw [f1, f2, f3]; exact hP
                have hPn := hP
                have hDn := hD
                have hSn := hS
                rw [hG0, hG1] at hPn f5
                have hP : va_P D vwCl (fl [[ob (b 0) 9 [.int 0, .ref (b 1), .int tn, .int sp, .ref (b 2), .ref (b 3), .ref (b 4), .ref (b 5), .int ac, .ref (b 6), .ref (b 7), .ref (b 8), .ref (b 9), .ref (b 10), .ref (b 11)]], [ia ty (b 3) 57 r], [ia ty (b 4) 57 (scR [wn / 100000 % 100000, wn % 100000] r)], [la ty (b 8) 2 (tw x y)], [la ty (b 9) 2 (tw (scX [wn / 100000 % 100000, wn % 100000] r x) (scY [wn / 100000 % 100000, wn % 100000] r y))]]) H := hPn
                have hD : va_D A (fl [[ob (b 0) 9 [.int 0, .ref (b 1), .int tn, .int sp, .ref (b 2), .ref (b 3), .ref (b 4), .ref (b 5), .int ac, .ref (b 6), .ref (b 7), .ref (b 8), .ref (b 9), .ref (b 10), .ref (b 11)]], [ia ty (b 3) 57 r], [ia ty (b 4) 57 (scR [wn / 100000 % 100000, wn % 100000] r)], [la ty (b 8) 2 (tw x y)], [la ty (b 9) 2 (tw (scX [wn / 100000 % 100000, wn % 100000] r x) (scY [wn / 100000 % 100000, wn % 100000] r y))]]) := (D_same2 hD [(b 0), (b 3), (b 4), (b 8), (b 9)] rfl rfl)
                exact end_i (bs' := (fun (_ : Unit) => [[ob (b 0) 9 [.int 0, .ref (b 1), .int tn, .int sp, .ref (b 2), .ref (b 3), .ref (b 4), .ref (b 5), .int ac, .ref (b 6), .ref (b 7), .ref (b 8), .ref (b 9), .ref (b 10), .ref (b 11)]], [ia ty (b 3) 57 r], [ia ty (b 4) 57 (scR [wn / 100000 % 100000, wn % 100000] r)], [la ty (b 8) 2 (tw x y)], [la ty (b 9) 2 (tw (scX [wn / 100000 % 100000, wn % 100000] r x) (scY [wn / 100000 % 100000, wn % 100000] r y))]])) () hx hb hr hlocks hP hD hS f5.symm (Nat.le_of_ble_eq_true rfl) (Nat.le_of_ble_eq_true rfl) dX10_runScript_125
          · exact absurd (by decide) c_14
  · first | exact absurd c_1 (by decide) | exact absurd (by decide) c_1
set_option maxHeartbeats 4000000 in
set_option maxRecDepth 100000 in
theorem c_X10_runScript2n (l : Launch) (D : va_G) (ty : Nat → ClassId) (b : Nat → Nat) (rf tn sp ac : Int32) (wn : Nat) (hwn : wn < 2 ^ 63) (hb9 : ¬ wn < 10000000000) : CTi l yX10_runScript wsX10_runScript ({ frames := 1, cells := 0, slots := 0, locals := 25 }) D ty [.ref (b 0), .int 2, .long (lN wn)] [[ob (b 0) 9 [.int rf, .ref (b 1), .int tn, .int sp, .ref (b 2), .ref (b 3), .ref (b 4), .ref (b 5), .int ac, .ref (b 6), .ref (b 7), .ref (b 8), .ref (b 9), .ref (b 10), .ref (b 11)]]] (fun (RET : Int32) (_ : Unit) => RET = 0) (fun (_ : Unit) => [[ob (b 0) 9 [.int 1, .ref (b 1), .int tn, .int sp, .ref (b 2), .ref (b 3), .ref (b 4), .ref (b 5), .int ac, .ref (b 6), .ref (b 7), .ref (b 8), .ref (b 9), .ref (b 10), .ref (b 11)]]]) := by
  refine CTi_of cX10_runScript 10 (some .int) (by decide) rfl (Nat.le_of_ble_eq_true rfl) ?_
  intro p e s m args below meth c A hx hb hr hml hown hlocks hin hts hA hX hK hP hD ls hl
  have hown : s.vm.findClass RX10 = some m.cls := hown
  have hS : va_S A s.heap s.heap [] := va_S.rf
  have hl : lv_has ls 10 [(0, .ref (b 0)), (1, .int 2), (2, .long (lN wn))] := hl
  refine lv_iload_n hx hb dX10_runScript_0 rfl (lv_at hl 1 rfl) ?_
  refine lv_iconst (v := 1) hx hb dX10_runScript_1 (by decide) ?_
  refine lv_icmp_ne (tgt := 11) hx hb dX10_runScript_2 (by decide) (fun c_1 => ?_) (fun c_1 => ?_)
  · skip
    refine lv_iload_n hx hb dX10_runScript_11 rfl (lv_at hl 1 rfl) ?_
    refine lv_iconst (v := 2) hx hb dX10_runScript_12 (by decide) ?_
    refine lv_icmp_ne (tgt := 22) hx hb dX10_runScript_13 (by decide) (fun c_2 => ?_) (fun c_2 => ?_)
    · first | exact absurd c_2 (by decide) | exact absurd (by decide) c_2
    · skip
      refine lv_ldc2 hx hb hown (hts (Cond.constantLong RX10 193 (10000000000)) (List.mem_of_getElem? (i := 2) rfl)) dX10_runScript_16 ?_
      refine lv_goto (tgt := 25) hx hb dX10_runScript_19 (by decide) ?_
      refine lv_lstore (lv' := [(4, .long 10000000000), (0, .ref (b 0)), (1, .int 2), (2, .long (lN wn))]) hx hb dX10_runScript_25 hl (by decide) rfl (fun ls hl => ?_)
      refine lv_aload_n hx hb dX10_runScript_27 rfl (lv_at hl 1 rfl) ?_
      refine lv_iload_n hx hb dX10_runScript_28 rfl (lv_at hl 2 rfl) ?_
      refine lv_i2l (v := 2) hx hb dX10_runScript_29 (by decide) ?_
      refine lv_lconst (v := 1) hx hb dX10_runScript_30 (by decide) ?_
      refine lv_ldc2 hx hb hown (hts (Cond.constantLong RX10 144 (3)) (List.mem_of_getElem? (i := 4) rfl)) dX10_runScript_31 ?_
      refine cSi (As := [.long 2, .long 1, .long 3]) (rest := [.ref (b 0)]) ⟨hx, hb, hml, hown, hts⟩ (c_X10_in l D ty 2 1 3) (va_cwS 3 hts gX10_runScript_X10_in rfl rfl rfl (by decide +kernel) ⟨Nat.le_of_ble_eq_true rfl, Nat.le_of_ble_eq_true rfl⟩) hK hX hP hD hS hA (pk (bs := [[ob (b 0) 9 [.int rf, .ref (b 1), .int tn, .int sp, .ref (b 2), .ref (b 3), .ref (b 4), .ref (b 5), .int ac, .ref (b 6), .ref (b 7), .ref (b 8), .ref (b 9), .ref (b 10), .ref (b 11)]]]) (bsc := []) (bsr := [[ob (b 0) 9 [.int rf, .ref (b 1), .int tn, .int sp, .ref (b 2), .ref (b 3), .ref (b 4), .ref (b 5), .int ac, .ref (b 6), .ref (b 7), .ref (b 8), .ref (b 9), .ref (b 10), .ref (b 11)]]]) [] [0] 1 rfl (by decide +kernel) rfl rfl) rfl hl.1 rfl (Nat.le_of_ble_eq_true rfl) dX10_runScript_34 ⟨Nat.le_of_ble_eq_true rfl, Nat.le_of_ble_eq_true rfl⟩ (fun r_4 u_3 h_5 H locs hP hD hS => ?_)
      have h_5 : r_4 = (inv 2 1 3) := h_5
      subst h_5
      have hP : va_P D vwCl (fl [[ob (b 0) 9 [.int rf, .ref (b 1), .int tn, .int sp, .ref (b 2), .ref (b 3), .ref (b 4), .ref (b 5), .int ac, .ref (b 6), .ref (b 7), .ref (b 8), .ref (b 9), .ref (b 10), .ref (b 11)]]]) H := P_perm (po (bs := [[ob (b 0) 9 [.int rf, .ref (b 1), .int tn, .int sp, .ref (b 2), .ref (b 3), .ref (b 4), .ref (b 5), .int ac, .ref (b 6), .ref (b 7), .ref (b 8), .ref (b 9), .ref (b 10), .ref (b 11)]]]) [0] 1 rfl (by decide +kernel) rfl) hP
      have hD : va_D A (fl [[ob (b 0) 9 [.int rf, .ref (b 1), .int tn, .int sp, .ref (b 2), .ref (b 3), .ref (b 4), .ref (b 5), .int ac, .ref (b 6), .ref (b 7), .ref (b 8), .ref (b 9), .ref (b 10), .ref (b 11)]]]) := D_perm (po (bs := [[ob (b 0) 9 [.int rf, .ref (b 1), .int tn, .int sp, .ref (b 2), .ref (b 3), .ref (b 4), .ref (b 5), .int ac, .ref (b 6), .ref (b 7), .ref (b 8), .ref (b 9), .ref (b 10), .ref (b 11)]]]) [0] 1 rfl (by decide +kernel) rfl) hD
      refine lv_if_eq (tgt := 56) hx hb dX10_runScript_37 (by decide) (fun c_6 => ?_) (fun c_6 => ?_)
      · first | exact absurd c_6 (by decide +kernel) | exact absurd (by decide +kernel) c_6
      · skip
        refine lv_lload_n hx hb dX10_runScript_40 rfl (lv_at hl 3 rfl) ?_
        refine lv_lconst (v := 0) hx hb dX10_runScript_41 (by decide) ?_
        refine lv_lload hx hb dX10_runScript_42 (lv_at hl 0 rfl) ?_
        refine lv_lconst (v := 1) hx hb dX10_runScript_44 (by decide) ?_
        refine lv_lsub hx hb dX10_runScript_45 ?_
        refine W.eq (g2 := F0 m 46 ls [.long 9999999999, .long 0, .long (lN wn), .ref (b 0)]) (by rw [show (10000000000 : Int64) - 1 = 9999999999 from by decide +kernel]) ?_
        refine cSi (As := [.long (lN wn), .long 0, .long 9999999999]) (rest := [.ref (b 0)]) ⟨hx, hb, hml, hown, hts⟩ (c_X10_in l D ty (lN wn) 0 9999999999) (va_cwS 3 hts gX10_runScript_X10_in rfl rfl rfl (by decide +kernel) ⟨Nat.le_of_ble_eq_true rfl, Nat.le_of_ble_eq_true rfl⟩) hK hX hP hD hS hA (pk (bs := [[ob (b 0) 9 [.int rf, .ref (b 1), .int tn, .int sp, .ref (b 2), .ref (b 3), .ref (b 4), .ref (b 5), .int ac, .ref (b 6), .ref (b 7), .ref (b 8), .ref (b 9), .ref (b 10), .ref (b 11)]]]) (bsc := []) (bsr := [[ob (b 0) 9 [.int rf, .ref (b 1), .int tn, .int sp, .ref (b 2), .ref (b 3), .ref (b 4), .ref (b 5), .int ac, .ref (b 6), .ref (b 7), .ref (b 8), .ref (b 9), .ref (b 10), .ref (b 11)]]]) [] [0] 1 rfl (by decide +kernel) rfl rfl) rfl hl.1 rfl (Nat.le_of_ble_eq_true rfl) dX10_runScript_46 ⟨Nat.le_of_ble_eq_true rfl, Nat.le_of_ble_eq_true rfl⟩ (fun r_8 u_7 h_9 H locs hP hD hS => ?_)
        have h_9 : r_8 = (inv (lN wn) 0 9999999999) := h_9
        subst h_9
        have hP : va_P D vwCl (fl [[ob (b 0) 9 [.int rf, .ref (b 1), .int tn, .int sp, .ref (b 2), .ref (b 3), .ref (b 4), .ref (b 5), .int ac, .ref (b 6), .ref (b 7), .ref (b 8), .ref (b 9), .ref (b 10), .ref (b 11)]]]) H := P_perm (po (bs := [[ob (b 0) 9 [.int rf, .ref (b 1), .int tn, .int sp, .ref (b 2), .ref (b 3), .ref (b 4), .ref (b 5), .int ac, .ref (b 6), .ref (b 7), .ref (b 8), .ref (b 9), .ref (b 10), .ref (b 11)]]]) [0] 1 rfl (by decide +kernel) rfl) hP
        have hD : va_D A (fl [[ob (b 0) 9 [.int rf, .ref (b 1), .int tn, .int sp, .ref (b 2), .ref (b 3), .ref (b 4), .ref (b 5), .int ac, .ref (b 6), .ref (b 7), .ref (b 8), .ref (b 9), .ref (b 10), .ref (b 11)]]]) := D_perm (po (bs := [[ob (b 0) 9 [.int rf, .ref (b 1), .int tn, .int sp, .ref (b 2), .ref (b 3), .ref (b 4), .ref (b 5), .int ac, .ref (b 6), .ref (b 7), .ref (b 8), .ref (b 9), .ref (b 10), .ref (b 11)]]]) [0] 1 rfl (by decide +kernel) rfl) hD
        refine lv_if_eq (tgt := 56) hx hb dX10_runScript_49 (by decide) (fun c_10 => ?_) (fun c_10 => ?_)
        · skip
          refine lv_iconst (v := 1) hx hb dX10_runScript_56 (by decide) ?_
          refine cVi (As := [.int 1]) (rest := []) ⟨hx, hb, hml, hown, hts⟩ (c_X10_refused1 l D ty b rf tn sp ac 1 (by decide)) (cwV 1 hts gX10_runScript_X10_refused rfl rfl rfl (by decide +kernel) ⟨Nat.le_of_ble_eq_true rfl, Nat.le_of_ble_eq_true rfl⟩) hK hX hP hD hS hA (pk (bs := [[ob (b 0) 9 [.int rf, .ref (b 1), .int tn, .int sp, .ref (b 2), .ref (b 3), .ref (b 4), .ref (b 5), .int ac, .ref (b 6), .ref (b 7), .ref (b 8), .ref (b 9), .ref (b 10), .ref (b 11)]]]) (bsc := [[ob (b 0) 9 [.int rf, .ref (b 1), .int tn, .int sp, .ref (b 2), .ref (b 3), .ref (b 4), .ref (b 5), .int ac, .ref (b 6), .ref (b 7), .ref (b 8), .ref (b 9), .ref (b 10), .ref (b 11)]]]) (bsr := []) [0] [] 1 rfl (by decide +kernel) rfl rfl) (ci := 9) rfl 0 rfl rfl hl.1 rfl (Nat.le_of_ble_eq_true rfl) dX10_runScript_57 ⟨Nat.le_of_ble_eq_true rfl, Nat.le_of_ble_eq_true rfl⟩ (fun r_12 u_11 h_13 H locs hP hD hS => ?_)
          have h_13 : r_12 = 1 := h_13
          subst h_13
          have hP : va_P D vwCl (fl [[ob (b 0) 9 [.int 1, .ref (b 1), .int tn, .int sp, .ref (b 2), .ref (b 3), .ref (b 4), .ref (b 5), .int ac, .ref (b 6), .ref (b 7), .ref (b 8), .ref (b 9), .ref (b 10), .ref (b 11)]]]) H := P_perm (po (bs := [[ob (b 0) 9 [.int 1, .ref (b 1), .int tn, .int sp, .ref (b 2), .ref (b 3), .ref (b 4), .ref (b 5), .int ac, .ref (b 6), .ref (b 7), .ref (b 8), .ref (b 9), .ref (b 10), .ref (b 11)]]]) [0] 1 rfl (by decide +kernel) rfl) hP
          have hD : va_D A (fl [[ob (b 0) 9 [.int 1, .ref (b 1), .int tn, .int sp, .ref (b 2), .ref (b 3), .ref (b 4), .ref (b 5), .int ac, .ref (b 6), .ref (b 7), .ref (b 8), .ref (b 9), .ref (b 10), .ref (b 11)]]]) := D_perm (po (bs := [[ob (b 0) 9 [.int 1, .ref (b 1), .int tn, .int sp, .ref (b 2), .ref (b 3), .ref (b 4), .ref (b 5), .int ac, .ref (b 6), .ref (b 7), .ref (b 8), .ref (b 9), .ref (b 10), .ref (b 11)]]]) [0] 1 rfl (by decide +kernel) rfl) hD
          refine lv_if_eq (tgt := 65) hx hb dX10_runScript_60 (by decide) (fun c_14 => ?_) (fun c_14 => ?_)
          · exact absurd c_14 (by decide)
          · skip
            refine lv_iconst (v := 0) hx hb dX10_runScript_63 (by decide) ?_
            have hP : va_P D vwCl (fl [[ob (b 0) 9 [.int 1, .ref (b 1), .int tn, .int sp, .ref (b 2), .ref (b 3), .ref (b 4), .ref (b 5), .int ac, .ref (b 6), .ref (b 7), .ref (b 8), .ref (b 9), .ref (b 10), .ref (b 11)]]]) H := hP
            have hD : va_D A (fl [[ob (b 0) 9 [.int 1, .ref (b 1), .int tn, .int sp, .ref (b 2), .ref (b 3), .ref (b 4), .ref (b 5), .int ac, .ref (b 6), .ref (b 7), .ref (b 8), .ref (b 9), .ref (b 10), .ref (b 11)]]]) := hD
            exact end_i (bs' := (fun (_ : Unit) => [[ob (b 0) 9 [.int 1, .ref (b 1), .int tn, .int sp, .ref (b 2), .ref (b 3), .ref (b 4), .ref (b 5), .int ac, .ref (b 6), .ref (b 7), .ref (b 8), .ref (b 9), .ref (b 10), .ref (b 11)]]])) () hx hb hr hlocks hP hD hS (by first | rfl | decide | simp [c_1, c_2, c_6, c_10, c_14]) (Nat.le_of_ble_eq_true rfl) (Nat.le_of_ble_eq_true rfl) dX10_runScript_64
        · first | exact absurd c_10 (invL_n (hi := 9999999999) (n := 9999999999) hwn (by decide +kernel) (by omega)) | exact absurd (invL_n (hi := 9999999999) (n := 9999999999) hwn (by decide +kernel) (by omega)) c_10
  · first | exact absurd c_1 (by decide) | exact absurd (by decide) c_1
