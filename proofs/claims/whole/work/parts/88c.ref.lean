set_option maxHeartbeats 4000000 in
set_option maxRecDepth 100000 in
theorem c_X10_bestCorrection (l : Launch) (D : va_G) (ty : Nat → ClassId) (b : Nat → Nat) (rf tn sp ac : Int32) (r : Nat → Int32) (x y : Int64) (rt : Nat → Int32) (xt yt : Int64) (v9 : Int32) (hc0 : inR v9 1 600) : CTi l yX10_bestCorrection wsX10_bestCorrection ({ frames := 5, cells := 0, slots := 0, locals := 115 }) D ty [.ref (b 0), .int v9] [[ob (b 0) 9 [.int rf, .ref (b 1), .int tn, .int sp, .ref (b 2), .ref (b 3), .ref (b 4), .ref (b 5), .int ac, .ref (b 6), .ref (b 7), .ref (b 8), .ref (b 9), .ref (b 10), .ref (b 11)]], [ia ty (b 3) 57 r], [ia ty (b 4) 57 rt], [la ty (b 8) 2 (tw x y)], [la ty (b 9) 2 (tw xt yt)]] (fun (RET : Int32) (u : (Nat → Int32) × Int64 × Int64) => match u with | (q1, q2, q3) => RET = mB (farv v9.toNatClampNeg r) 1000) (fun (u : (Nat → Int32) × Int64 × Int64) => match u with | (q1, q2, q3) => [[ob (b 0) 9 [.int 0, .ref (b 1), .int tn, .int sp, .ref (b 2), .ref (b 3), .ref (b 4), .ref (b 5), .int ac, .ref (b 6), .ref (b 7), .ref (b 8), .ref (b 9), .ref (b 10), .ref (b 11)]], [ia ty (b 3) 57 r], [ia ty (b 4) 57 q1], [la ty (b 8) 2 (tw x y)], [la ty (b 9) 2 (tw q2 q3)]]) := by
  refine CTi_of cX10_bestCorrection 8 (some .int) (by decide) rfl (Nat.le_of_ble_eq_true rfl) ?_
  intro p e s m args below meth c A hx hb hr hml hown hlocks hin hts hA hX hK hP hD ls hl
  have hown : s.vm.findClass RX10 = some m.cls := hown
  have hS : va_S A s.heap s.heap [] := va_S.rf
  have i_X10 : ∀ z ∈ wsX100, z ∈ wsX10_bestCorrection := fun z h => List.mem_cons_of_mem _ (List.mem_append_right _ h)
  have hl : lv_has ls 8 [(0, .ref (b 0)), (1, .int v9)] := hl
  generalize hQg : MQ below (va_Qi (fun (RET : Int32) (u : (Nat → Int32) × Int64 × Int64) => match u with | (q1, q2, q3) => RET = mB (farv v9.toNatClampNeg r) 1000) (PostW D (fun (u : (Nat → Int32) × Int64 × Int64) => match u with | (q1, q2, q3) => [[ob (b 0) 9 [.int 0, .ref (b 1), .int tn, .int sp, .ref (b 2), .ref (b 3), .ref (b 4), .ref (b 5), .int ac, .ref (b 6), .ref (b 7), .ref (b 8), .ref (b 9), .ref (b 10), .ref (b 11)]], [ia ty (b 3) 57 r], [ia ty (b 4) 57 q1], [la ty (b 8) 2 (tw x y)], [la ty (b 9) 2 (tw q2 q3)]]) A) A) args s 0 0 A = Qg
  refine lv_aload_n hx hb dX10_bestCorrection_0 rfl (lv_at hl 0 rfl) ?_
  refine lv_iload_n hx hb dX10_bestCorrection_1 rfl (lv_at hl 1 rfl) ?_
  refine lv_i2l (v := (Int32.toInt64 v9)) hx hb dX10_bestCorrection_2 rfl ?_
  refine lv_lconst (v := 1) hx hb dX10_bestCorrection_3 (by decide) ?_
  refine lv_ldc2 hx hb hown (hts (Cond.constantLong RX10 185 (600)) (List.mem_of_getElem? (i := 1) rfl)) dX10_bestCorrection_4 ?_
  refine cSi (As := [.long (Int32.toInt64 v9), .long 1, .long 600]) (rest := [.ref (b 0)]) ⟨hx, hb, hml, hown, hts⟩ (c_X10_in l D ty (Int32.toInt64 v9) 1 600) (va_cwS 3 hts gX10_bestCorrection_X10_in rfl rfl rfl (by decide +kernel) ⟨Nat.le_of_ble_eq_true rfl, Nat.le_of_ble_eq_true rfl⟩) hK hX hP hD hS hA (pk (bs := [[ob (b 0) 9 [.int rf, .ref (b 1), .int tn, .int sp, .ref (b 2), .ref (b 3), .ref (b 4), .ref (b 5), .int ac, .ref (b 6), .ref (b 7), .ref (b 8), .ref (b 9), .ref (b 10), .ref (b 11)]], [ia ty (b 3) 57 r], [ia ty (b 4) 57 rt], [la ty (b 8) 2 (tw x y)], [la ty (b 9) 2 (tw xt yt)]]) (bsc := []) (bsr := [[ob (b 0) 9 [.int rf, .ref (b 1), .int tn, .int sp, .ref (b 2), .ref (b 3), .ref (b 4), .ref (b 5), .int ac, .ref (b 6), .ref (b 7), .ref (b 8), .ref (b 9), .ref (b 10), .ref (b 11)]], [ia ty (b 3) 57 r], [ia ty (b 4) 57 rt], [la ty (b 8) 2 (tw x y)], [la ty (b 9) 2 (tw xt yt)]]) [] [0, 1, 2, 3, 4] 5 rfl (by decide +kernel) rfl rfl) rfl hl.1 rfl (Nat.le_of_ble_eq_true rfl) dX10_bestCorrection_7 ⟨Nat.le_of_ble_eq_true rfl, Nat.le_of_ble_eq_true rfl⟩ (fun r_2 u_1 h_3 H locs hP hD hS => ?_)
  have h_3 : r_2 = (inv (Int32.toInt64 v9) 1 600) := h_3
  subst h_3
  have hP : va_P D vwCl (fl [[ob (b 0) 9 [.int rf, .ref (b 1), .int tn, .int sp, .ref (b 2), .ref (b 3), .ref (b 4), .ref (b 5), .int ac, .ref (b 6), .ref (b 7), .ref (b 8), .ref (b 9), .ref (b 10), .ref (b 11)]], [ia ty (b 3) 57 r], [ia ty (b 4) 57 rt], [la ty (b 8) 2 (tw x y)], [la ty (b 9) 2 (tw xt yt)]]) H := P_perm (po (bs := [[ob (b 0) 9 [.int rf, .ref (b 1), .int tn, .int sp, .ref (b 2), .ref (b 3), .ref (b 4), .ref (b 5), .int ac, .ref (b 6), .ref (b 7), .ref (b 8), .ref (b 9), .ref (b 10), .ref (b 11)]], [ia ty (b 3) 57 r], [ia ty (b 4) 57 rt], [la ty (b 8) 2 (tw x y)], [la ty (b 9) 2 (tw xt yt)]]) [0, 1, 2, 3, 4] 5 rfl (by decide +kernel) rfl) hP
  have hD : va_D A (fl [[ob (b 0) 9 [.int rf, .ref (b 1), .int tn, .int sp, .ref (b 2), .ref (b 3), .ref (b 4), .ref (b 5), .int ac, .ref (b 6), .ref (b 7), .ref (b 8), .ref (b 9), .ref (b 10), .ref (b 11)]], [ia ty (b 3) 57 r], [ia ty (b 4) 57 rt], [la ty (b 8) 2 (tw x y)], [la ty (b 9) 2 (tw xt yt)]]) := D_perm (po (bs := [[ob (b 0) 9 [.int rf, .ref (b 1), .int tn, .int sp, .ref (b 2), .ref (b 3), .ref (b 4), .ref (b 5), .int ac, .ref (b 6), .ref (b 7), .ref (b 8), .ref (b 9), .ref (b 10), .ref (b 11)]], [ia ty (b 3) 57 r], [ia ty (b 4) 57 rt], [la ty (b 8) 2 (tw x y)], [la ty (b 9) 2 (tw xt yt)]]) [0, 1, 2, 3, 4] 5 rfl (by decide +kernel) rfl) hD
  refine lv_if_eq (tgt := 17) hx hb dX10_bestCorrection_10 (by decide) (fun c_4 => ?_) (fun c_4 => ?_)
  · first | exact absurd c_4 (invR_y hc0 (by decide +kernel) (by decide +kernel)) | exact absurd (invR_y hc0 (by decide +kernel) (by decide +kernel)) c_4
  · skip
    refine lv_iconst (v := 0) hx hb dX10_bestCorrection_13 (by decide) ?_
    refine lv_goto (tgt := 18) hx hb dX10_bestCorrection_14 (by decide) ?_
    refine cVi (As := [.int 0]) (rest := []) ⟨hx, hb, hml, hown, hts⟩ (c_X10_refused0 l D ty b rf tn sp ac) (cwV 1 hts gX10_bestCorrection_X10_refused rfl rfl rfl (by decide +kernel) ⟨Nat.le_of_ble_eq_true rfl, Nat.le_of_ble_eq_true rfl⟩) hK hX hP hD hS hA (pk (bs := [[ob (b 0) 9 [.int rf, .ref (b 1), .int tn, .int sp, .ref (b 2), .ref (b 3), .ref (b 4), .ref (b 5), .int ac, .ref (b 6), .ref (b 7), .ref (b 8), .ref (b 9), .ref (b 10), .ref (b 11)]], [ia ty (b 3) 57 r], [ia ty (b 4) 57 rt], [la ty (b 8) 2 (tw x y)], [la ty (b 9) 2 (tw xt yt)]]) (bsc := [[ob (b 0) 9 [.int rf, .ref (b 1), .int tn, .int sp, .ref (b 2), .ref (b 3), .ref (b 4), .ref (b 5), .int ac, .ref (b 6), .ref (b 7), .ref (b 8), .ref (b 9), .ref (b 10), .ref (b 11)]]]) (bsr := [[ia ty (b 3) 57 r], [ia ty (b 4) 57 rt], [la ty (b 8) 2 (tw x y)], [la ty (b 9) 2 (tw xt yt)]]) [0] [1, 2, 3, 4] 5 rfl (by decide +kernel) rfl rfl) (ci := 9) rfl 0 rfl rfl hl.1 rfl (Nat.le_of_ble_eq_true rfl) dX10_bestCorrection_18 ⟨Nat.le_of_ble_eq_true rfl, Nat.le_of_ble_eq_true rfl⟩ (fun r_6 u_5 h_7 H locs hP hD hS => ?_)
    have h_7 : r_6 = 0 := h_7
    subst h_7
    have hP : va_P D vwCl (fl [[ob (b 0) 9 [.int 0, .ref (b 1), .int tn, .int sp, .ref (b 2), .ref (b 3), .ref (b 4), .ref (b 5), .int ac, .ref (b 6), .ref (b 7), .ref (b 8), .ref (b 9), .ref (b 10), .ref (b 11)]], [ia ty (b 3) 57 r], [ia ty (b 4) 57 rt], [la ty (b 8) 2 (tw x y)], [la ty (b 9) 2 (tw xt yt)]]) H := P_perm (po (bs := [[ob (b 0) 9 [.int 0, .ref (b 1), .int tn, .int sp, .ref (b 2), .ref (b 3), .ref (b 4), .ref (b 5), .int ac, .ref (b 6), .ref (b 7), .ref (b 8), .ref (b 9), .ref (b 10), .ref (b 11)]], [ia ty (b 3) 57 r], [ia ty (b 4) 57 rt], [la ty (b 8) 2 (tw x y)], [la ty (b 9) 2 (tw xt yt)]]) [0, 1, 2, 3, 4] 5 rfl (by decide +kernel) rfl) hP
    have hD : va_D A (fl [[ob (b 0) 9 [.int 0, .ref (b 1), .int tn, .int sp, .ref (b 2), .ref (b 3), .ref (b 4), .ref (b 5), .int ac, .ref (b 6), .ref (b 7), .ref (b 8), .ref (b 9), .ref (b 10), .ref (b 11)]], [ia ty (b 3) 57 r], [ia ty (b 4) 57 rt], [la ty (b 8) 2 (tw x y)], [la ty (b 9) 2 (tw xt yt)]]) := D_perm (po (bs := [[ob (b 0) 9 [.int 0, .ref (b 1), .int tn, .int sp, .ref (b 2), .ref (b 3), .ref (b 4), .ref (b 5), .int ac, .ref (b 6), .ref (b 7), .ref (b 8), .ref (b 9), .ref (b 10), .ref (b 11)]], [ia ty (b 3) 57 r], [ia ty (b 4) 57 rt], [la ty (b 8) 2 (tw x y)], [la ty (b 9) 2 (tw xt yt)]]) [0, 1, 2, 3, 4] 5 rfl (by decide +kernel) rfl) hD
    refine lv_if_eq (tgt := 26) hx hb dX10_bestCorrection_21 (by decide) (fun c_8 => ?_) (fun c_8 => ?_)
    · skip
      obtain ⟨J, hJ⟩ : ∃ z, z = v9.toNatClampNeg := ⟨_, rfl⟩
      have qJ := inR_nat hc0 (by decide +kernel)
      have nJ : v9 = nI J := by rw [hJ]; exact qJ.1
      have lJ : J < 601 := by have q9 := qJ.2.1; rw [← hJ, show (600 : Int32).toInt = 600 from by decide +kernel] at q9; omega
      have hl : lv_has ls 8 [(0, .ref (b 0)), (1, .int (nI J))] := by rw [← nJ]; exact hl
      refine lv_ldc hx hb hown (hts (Cond.constant RX10 53 (-99999999)) (List.mem_of_getElem? (i := 2) rfl)) dX10_bestCorrection_26 ?_
      refine lv_istore_n (lv' := [(2, .int (-99999999)), (0, .ref (b 0)), (1, .int (nI J))]) hx hb dX10_bestCorrection_28 rfl hl (by decide) rfl (fun ls hl => ?_)
      refine lv_iconst (v := 0) hx hb dX10_bestCorrection_29 (by decide) ?_
      refine lv_istore_n (lv' := [(3, .int 0), (2, .int (-99999999)), (0, .ref (b 0)), (1, .int (nI J))]) hx hb dX10_bestCorrection_30 rfl hl (by decide) rfl (fun ls hl => ?_)
      refine lv_iconst (v := 0) hx hb dX10_bestCorrection_31 (by decide) ?_
      refine lv_istore (lv' := [(4, .int 0), (3, .int 0), (2, .int (-99999999)), (0, .ref (b 0)), (1, .int (nI J))]) hx hb dX10_bestCorrection_32 hl (by decide) rfl (fun ls hl => ?_)
      have hl : lv_has ls 8 [(4, .int (nI 0)), (3, .int 0), (2, .int (-99999999)), (0, .ref (b 0)), (1, .int (nI J))] := hl
      have lp : ∀ (n : Nat) (k9 : Nat) (b9 : Int32) (l9 : Int32) (rr : Nat → Int32) (xx : Int64) (yy : Int64), (n + k9 = 1002) → (k9 ≤ 1001) → ((k9 = 0 ∧ b9 = -99999999) ∨ (1 ≤ k9 ∧ b9 = mB (farv J r) (k9 - 1) ∧ l9 = farv J r b9)) → ∀ (H : Heap) (locs : List Loc), va_P D vwCl (fl [[ob (b 0) 9 [.int 0, .ref (b 1), .int tn, .int sp, .ref (b 2), .ref (b 3), .ref (b 4), .ref (b 5), .int ac, .ref (b 6), .ref (b 7), .ref (b 8), .ref (b 9), .ref (b 10), .ref (b 11)]], [ia ty (b 3) 57 r], [ia ty (b 4) 57 rr], [la ty (b 8) 2 (tw x y)], [la ty (b 9) 2 (tw xx yy)]]) H → va_D A (fl [[ob (b 0) 9 [.int 0, .ref (b 1), .int tn, .int sp, .ref (b 2), .ref (b 3), .ref (b 4), .ref (b 5), .int ac, .ref (b 6), .ref (b 7), .ref (b 8), .ref (b 9), .ref (b 10), .ref (b 11)]], [ia ty (b 3) 57 r], [ia ty (b 4) 57 rr], [la ty (b 8) 2 (tw x y)], [la ty (b 9) 2 (tw xx yy)]]) → va_S A s.heap H locs → ∀ ls : Array Slot, lv_has ls 8 [(4, .int (nI k9)), (3, .int l9), (2, .int b9), (0, .ref (b 0)), (1, .int (nI J))] → W p l e ({ frames := 5, cells := 0, slots := 0, locals := 115 } : Room) s m args below meth c H locs 0 0 Qg (F0 m 34 ls []) := by
        intro n
        induction n with
        | zero =>
          intro k9 b9 l9 rr xx yy g1 g2 g5
          exact absurd g1 (by omega)
        | succ n ih =>
          intro k9 b9 l9 rr xx yy g1 g2 g5 H locs hP hD hS ls hl
          refine lv_iload hx hb dX10_bestCorrection_34 (lv_at hl 0 rfl) ?_
          refine lv_sipush (v := 1000) hx hb dX10_bestCorrection_36 (by decide) ?_
          refine lv_icmp_gt (tgt := 151) hx hb dX10_bestCorrection_39 (by decide) (fun c_9 => ?_) (fun c_9 => ?_)
          · skip
            refine lv_iload_n hx hb dX10_bestCorrection_151 rfl (lv_at hl 2 rfl) ?_
            subst hQg
            have hz21_1 := (nI_eq (a := 0) (b := 0) (by omega) (by omega)).mp c_8
            have hz39_2 := (nI_ltI (a := 1000) (b := k9) (by omega) (by omega)).mp c_9
            have hV : b9 = mB (farv J r) 1000 := by
              rcases g5 with g5 | g5
              · exact absurd g5.1 (by omega)
              · rw [g5.2.1, show k9 - 1 = 1000 by omega]
            have hPn := hP
            have hDn := hD
            have hSn := hS
            subst hJ
            have hP := hPn
            have hD := hDn
            have hS := hSn
            have hP : va_P D vwCl (fl [[ob (b 0) 9 [.int 0, .ref (b 1), .int tn, .int sp, .ref (b 2), .ref (b 3), .ref (b 4), .ref (b 5), .int ac, .ref (b 6), .ref (b 7), .ref (b 8), .ref (b 9), .ref (b 10), .ref (b 11)]], [ia ty (b 3) 57 r], [ia ty (b 4) 57 rr], [la ty (b 8) 2 (tw x y)], [la ty (b 9) 2 (tw xx yy)]]) H := hP
            have hD : va_D A (fl [[ob (b 0) 9 [.int 0, .ref (b 1), .int tn, .int sp, .ref (b 2), .ref (b 3), .ref (b 4), .ref (b 5), .int ac, .ref (b 6), .ref (b 7), .ref (b 8), .ref (b 9), .ref (b 10), .ref (b 11)]], [ia ty (b 3) 57 r], [ia ty (b 4) 57 rr], [la ty (b 8) 2 (tw x y)], [la ty (b 9) 2 (tw xx yy)]]) := hD
            exact end_i (bs' := (fun (u : (Nat → Int32) × Int64 × Int64) => match u with | (q1, q2, q3) => [[ob (b 0) 9 [.int 0, .ref (b 1), .int tn, .int sp, .ref (b 2), .ref (b 3), .ref (b 4), .ref (b 5), .int ac, .ref (b 6), .ref (b 7), .ref (b 8), .ref (b 9), .ref (b 10), .ref (b 11)]], [ia ty (b 3) 57 r], [ia ty (b 4) 57 q1], [la ty (b 8) 2 (tw x y)], [la ty (b 9) 2 (tw q2 q3)]])) (rr, xx, yy) hx hb hr hlocks hP hD hS hV (Nat.le_of_ble_eq_true rfl) (Nat.le_of_ble_eq_true rfl) dX10_bestCorrection_152
          · skip
            have hz21_1 := (nI_eq (a := 0) (b := 0) (by omega) (by omega)).mp c_8
            have hz39_2 := nlt_of (a := 1000) (b := k9) (by omega) (by omega) c_9
            refine lv_iload hx hb dX10_bestCorrection_42 (lv_at hl 0 rfl) ?_
            refine lv_iconst (v := 2) hx hb dX10_bestCorrection_44 (by decide) ?_
            refine k_irem (v := (nI (k9 % 2))) hx hb dX10_bestCorrection_45 (by decide) (pk_rem (a := k9) (d := 2) (by omega) (by decide) (by decide)) ?_
            refine lv_iconst (v := 1) hx hb dX10_bestCorrection_46 (by decide) ?_
            refine lv_icmp_ne (tgt := 60) hx hb dX10_bestCorrection_47 (by decide) (fun c_10 => ?_) (fun c_10 => ?_)
            · skip
              refine lv_iload hx hb dX10_bestCorrection_60 (lv_at hl 0 rfl) ?_
              refine lv_iconst (v := 2) hx hb dX10_bestCorrection_62 (by decide) ?_
              refine k_idiv (v := (nI (k9 / 2))) hx hb dX10_bestCorrection_63 (by decide) (pk_div (a := k9) (d := 2) (by omega) (by decide) (by decide)) ?_
              have hz47_0 := neq_of (a := k9 % 2) (b := 1) (by omega) (by omega) c_10
              refine W.eq (g2 := F0 m 64 ls [.int (vk k9)]) (by rw [vk_even (by omega)]) ?_
              refine lv_istore (lv' := [(5, .int (vk k9)), (4, .int (nI k9)), (3, .int l9), (2, .int b9), (0, .ref (b 0)), (1, .int (nI J))]) hx hb dX10_bestCorrection_64 hl (by decide) rfl (fun ls hl => ?_)
              refine lv_aload_n hx hb dX10_bestCorrection_66 rfl (lv_at hl 4 rfl) ?_
              refine cVv (As := []) (rest := []) ⟨hx, hb, hml, hown, hts⟩ (c_X10_copyNow l D ty b 0 tn sp ac r rr x y xx yy) (cwV 0 hts gX10_bestCorrection_X10_copyNow rfl rfl rfl (by decide +kernel) ⟨Nat.le_of_ble_eq_true rfl, Nat.le_of_ble_eq_true rfl⟩) hK hX hP hD hS hA (pk (bs := [[ob (b 0) 9 [.int 0, .ref (b 1), .int tn, .int sp, .ref (b 2), .ref (b 3), .ref (b 4), .ref (b 5), .int ac, .ref (b 6), .ref (b 7), .ref (b 8), .ref (b 9), .ref (b 10), .ref (b 11)]], [ia ty (b 3) 57 r], [ia ty (b 4) 57 rr], [la ty (b 8) 2 (tw x y)], [la ty (b 9) 2 (tw xx yy)]]) (bsc := [[ob (b 0) 9 [.int 0, .ref (b 1), .int tn, .int sp, .ref (b 2), .ref (b 3), .ref (b 4), .ref (b 5), .int ac, .ref (b 6), .ref (b 7), .ref (b 8), .ref (b 9), .ref (b 10), .ref (b 11)]], [ia ty (b 3) 57 r], [ia ty (b 4) 57 rr], [la ty (b 8) 2 (tw x y)], [la ty (b 9) 2 (tw xx yy)]]) (bsr := []) [0, 1, 2, 3, 4] [] 5 rfl (by decide +kernel) rfl rfl) (ci := 9) rfl 0 rfl rfl hl.1 rfl (Nat.le_of_ble_eq_true rfl) dX10_bestCorrection_67 ⟨Nat.le_of_ble_eq_true rfl, Nat.le_of_ble_eq_true rfl⟩ (fun u_11 h_13 H locs hP hD hS => ?_)
              have hP : va_P D vwCl (fl [[ob (b 0) 9 [.int 0, .ref (b 1), .int tn, .int sp, .ref (b 2), .ref (b 3), .ref (b 4), .ref (b 5), .int ac, .ref (b 6), .ref (b 7), .ref (b 8), .ref (b 9), .ref (b 10), .ref (b 11)]], [ia ty (b 3) 57 r], [ia ty (b 4) 57 r], [la ty (b 8) 2 (tw x y)], [la ty (b 9) 2 (tw x y)]]) H := P_perm (po (bs := [[ob (b 0) 9 [.int 0, .ref (b 1), .int tn, .int sp, .ref (b 2), .ref (b 3), .ref (b 4), .ref (b 5), .int ac, .ref (b 6), .ref (b 7), .ref (b 8), .ref (b 9), .ref (b 10), .ref (b 11)]], [ia ty (b 3) 57 r], [ia ty (b 4) 57 r], [la ty (b 8) 2 (tw x y)], [la ty (b 9) 2 (tw x y)]]) [0, 1, 2, 3, 4] 5 rfl (by decide +kernel) rfl) hP
              have hD : va_D A (fl [[ob (b 0) 9 [.int 0, .ref (b 1), .int tn, .int sp, .ref (b 2), .ref (b 3), .ref (b 4), .ref (b 5), .int ac, .ref (b 6), .ref (b 7), .ref (b 8), .ref (b 9), .ref (b 10), .ref (b 11)]], [ia ty (b 3) 57 r], [ia ty (b 4) 57 r], [la ty (b 8) 2 (tw x y)], [la ty (b 9) 2 (tw x y)]]) := D_perm (po (bs := [[ob (b 0) 9 [.int 0, .ref (b 1), .int tn, .int sp, .ref (b 2), .ref (b 3), .ref (b 4), .ref (b 5), .int ac, .ref (b 6), .ref (b 7), .ref (b 8), .ref (b 9), .ref (b 10), .ref (b 11)]], [ia ty (b 3) 57 r], [ia ty (b 4) 57 r], [la ty (b 8) 2 (tw x y)], [la ty (b 9) 2 (tw x y)]]) [0, 1, 2, 3, 4] 5 rfl (by decide +kernel) rfl) hD
              refine lv_aload_n hx hb dX10_bestCorrection_70 rfl (lv_at hl 4 rfl) ?_
              refine va_get (D := D) (ci := 9) (v := .ref (b 4)) (C := RX10) (T := TX10) (N := 15) hx hb hts i_X10 hown hK hP 0 rfl rfl 6 (by decide) (hts (Cond.fieldLink RX10 19 "BrownClockModel" "trial" "[I") (List.mem_of_getElem? (i := 3) rfl)) (fun _ h9 => h9) rfl dX10_bestCorrection_71 ?_
              refine lv_iconst (v := 4) hx hb dX10_bestCorrection_74 (by decide) ?_
              refine lv_iload hx hb dX10_bestCorrection_75 (lv_at hl 0 rfl) ?_
              refine k_iast hx hb hK hP hD hS 2 rfl 4 rfl (by decide) (Nat.le_of_ble_eq_true rfl) dX10_bestCorrection_77 (fun H locs hP hD hS => ?_)
              have hP : va_P D vwCl (fl [[ob (b 0) 9 [.int 0, .ref (b 1), .int tn, .int sp, .ref (b 2), .ref (b 3), .ref (b 4), .ref (b 5), .int ac, .ref (b 6), .ref (b 7), .ref (b 8), .ref (b 9), .ref (b 10), .ref (b 11)]], [ia ty (b 3) 57 r], [ia ty (b 4) 57 (upd r 4 (vk k9))], [la ty (b 8) 2 (tw x y)], [la ty (b 9) 2 (tw x y)]]) H := hP
              have hD : va_D A (fl [[ob (b 0) 9 [.int 0, .ref (b 1), .int tn, .int sp, .ref (b 2), .ref (b 3), .ref (b 4), .ref (b 5), .int ac, .ref (b 6), .ref (b 7), .ref (b 8), .ref (b 9), .ref (b 10), .ref (b 11)]], [ia ty (b 3) 57 r], [ia ty (b 4) 57 (upd r 4 (vk k9))], [la ty (b 8) 2 (tw x y)], [la ty (b 9) 2 (tw x y)]]) := hD
              refine lv_aload_n hx hb dX10_bestCorrection_78 rfl (lv_at hl 4 rfl) ?_
              refine va_get (D := D) (ci := 9) (v := .ref (b 4)) (C := RX10) (T := TX10) (N := 15) hx hb hts i_X10 hown hK hP 0 rfl rfl 6 (by decide) (hts (Cond.fieldLink RX10 19 "BrownClockModel" "trial" "[I") (List.mem_of_getElem? (i := 3) rfl)) (fun _ h9 => h9) rfl dX10_bestCorrection_79 ?_
              refine lv_aload_n hx hb dX10_bestCorrection_82 rfl (lv_at hl 4 rfl) ?_
              refine va_get (D := D) (ci := 9) (v := .ref (b 9)) (C := RX10) (T := TX10) (N := 15) hx hb hts i_X10 hown hK hP 0 rfl rfl 12 (by decide) (hts (Cond.fieldLink RX10 36 "BrownClockModel" "trialSums" "[J") (List.mem_of_getElem? (i := 4) rfl)) (fun _ h9 => h9) rfl dX10_bestCorrection_83 ?_
              refine lv_iload_n hx hb dX10_bestCorrection_86 rfl (lv_at hl 5 rfl) ?_
              refine cSv (As := [.ref (b 4), .ref (b 9), .int (nI J)]) (rest := []) ⟨hx, hb, hml, hown, hts⟩ (c_X10_minutesOn l D ty (b 4) (b 9) J (upd r 4 (vk k9)) x y (by omega)) (va_cwS 3 hts gX10_bestCorrection_X10_minutesOn rfl rfl rfl (by decide +kernel) ⟨Nat.le_of_ble_eq_true rfl, Nat.le_of_ble_eq_true rfl⟩) hK hX hP hD hS hA (pk (bs := [[ob (b 0) 9 [.int 0, .ref (b 1), .int tn, .int sp, .ref (b 2), .ref (b 3), .ref (b 4), .ref (b 5), .int ac, .ref (b 6), .ref (b 7), .ref (b 8), .ref (b 9), .ref (b 10), .ref (b 11)]], [ia ty (b 3) 57 r], [ia ty (b 4) 57 (upd r 4 (vk k9))], [la ty (b 8) 2 (tw x y)], [la ty (b 9) 2 (tw x y)]]) (bsc := [[ia ty (b 4) 57 (upd r 4 (vk k9))], [la ty (b 9) 2 (tw x y)]]) (bsr := [[ob (b 0) 9 [.int 0, .ref (b 1), .int tn, .int sp, .ref (b 2), .ref (b 3), .ref (b 4), .ref (b 5), .int ac, .ref (b 6), .ref (b 7), .ref (b 8), .ref (b 9), .ref (b 10), .ref (b 11)]], [ia ty (b 3) 57 r], [la ty (b 8) 2 (tw x y)]]) [2, 4] [0, 1, 3] 5 rfl (by decide +kernel) rfl rfl) rfl hl.1 rfl (Nat.le_of_ble_eq_true rfl) dX10_bestCorrection_87 ⟨Nat.le_of_ble_eq_true rfl, Nat.le_of_ble_eq_true rfl⟩ (fun u_14 h_16 H locs hP hD hS => ?_)
              have hP : va_P D vwCl (fl [[ob (b 0) 9 [.int 0, .ref (b 1), .int tn, .int sp, .ref (b 2), .ref (b 3), .ref (b 4), .ref (b 5), .int ac, .ref (b 6), .ref (b 7), .ref (b 8), .ref (b 9), .ref (b 10), .ref (b 11)]], [ia ty (b 3) 57 r], [ia ty (b 4) 57 (minsR J (upd r 4 (vk k9)))], [la ty (b 8) 2 (tw x y)], [la ty (b 9) 2 (tw (minsX J (upd r 4 (vk k9)) x) (minsY J (upd r 4 (vk k9)) y))]]) H := P_perm (po (bs := [[ia ty (b 4) 57 (minsR J (upd r 4 (vk k9)))], [la ty (b 9) 2 (tw (minsX J (upd r 4 (vk k9)) x) (minsY J (upd r 4 (vk k9)) y))], [ob (b 0) 9 [.int 0, .ref (b 1), .int tn, .int sp, .ref (b 2), .ref (b 3), .ref (b 4), .ref (b 5), .int ac, .ref (b 6), .ref (b 7), .ref (b 8), .ref (b 9), .ref (b 10), .ref (b 11)]], [ia ty (b 3) 57 r], [la ty (b 8) 2 (tw x y)]]) [2, 3, 0, 4, 1] 5 rfl (by decide +kernel) rfl) hP
              have hD : va_D A (fl [[ob (b 0) 9 [.int 0, .ref (b 1), .int tn, .int sp, .ref (b 2), .ref (b 3), .ref (b 4), .ref (b 5), .int ac, .ref (b 6), .ref (b 7), .ref (b 8), .ref (b 9), .ref (b 10), .ref (b 11)]], [ia ty (b 3) 57 r], [ia ty (b 4) 57 (minsR J (upd r 4 (vk k9)))], [la ty (b 8) 2 (tw x y)], [la ty (b 9) 2 (tw (minsX J (upd r 4 (vk k9)) x) (minsY J (upd r 4 (vk k9)) y))]]) := D_perm (po (bs := [[ia ty (b 4) 57 (minsR J (upd r 4 (vk k9)))], [la ty (b 9) 2 (tw (minsX J (upd r 4 (vk k9)) x) (minsY J (upd r 4 (vk k9)) y))], [ob (b 0) 9 [.int 0, .ref (b 1), .int tn, .int sp, .ref (b 2), .ref (b 3), .ref (b 4), .ref (b 5), .int ac, .ref (b 6), .ref (b 7), .ref (b 8), .ref (b 9), .ref (b 10), .ref (b 11)]], [ia ty (b 3) 57 r], [la ty (b 8) 2 (tw x y)]]) [2, 3, 0, 4, 1] 5 rfl (by decide +kernel) rfl) hD
              refine lv_aload_n hx hb dX10_bestCorrection_90 rfl (lv_at hl 4 rfl) ?_
              refine va_get (D := D) (ci := 9) (v := .ref (b 4)) (C := RX10) (T := TX10) (N := 15) hx hb hts i_X10 hown hK hP 0 rfl rfl 6 (by decide) (hts (Cond.fieldLink RX10 19 "BrownClockModel" "trial" "[I") (List.mem_of_getElem? (i := 3) rfl)) (fun _ h9 => h9) rfl dX10_bestCorrection_91 ?_
              refine cSi (As := [.ref (b 4)]) (rest := []) ⟨hx, hb, hml, hown, hts⟩ (c_X10_offsetOf l D ty (b 4) (minsR J (upd r 4 (vk k9)))) (va_cwS 1 hts gX10_bestCorrection_X10_offsetOf rfl rfl rfl (by decide +kernel) ⟨Nat.le_of_ble_eq_true rfl, Nat.le_of_ble_eq_true rfl⟩) hK hX hP hD hS hA (pk (bs := [[ob (b 0) 9 [.int 0, .ref (b 1), .int tn, .int sp, .ref (b 2), .ref (b 3), .ref (b 4), .ref (b 5), .int ac, .ref (b 6), .ref (b 7), .ref (b 8), .ref (b 9), .ref (b 10), .ref (b 11)]], [ia ty (b 3) 57 r], [ia ty (b 4) 57 (minsR J (upd r 4 (vk k9)))], [la ty (b 8) 2 (tw x y)], [la ty (b 9) 2 (tw (minsX J (upd r 4 (vk k9)) x) (minsY J (upd r 4 (vk k9)) y))]]) (bsc := [[ia ty (b 4) 57 (minsR J (upd r 4 (vk k9)))]]) (bsr := [[ob (b 0) 9 [.int 0, .ref (b 1), .int tn, .int sp, .ref (b 2), .ref (b 3), .ref (b 4), .ref (b 5), .int ac, .ref (b 6), .ref (b 7), .ref (b 8), .ref (b 9), .ref (b 10), .ref (b 11)]], [ia ty (b 3) 57 r], [la ty (b 8) 2 (tw x y)], [la ty (b 9) 2 (tw (minsX J (upd r 4 (vk k9)) x) (minsY J (upd r 4 (vk k9)) y))]]) [2] [0, 1, 3, 4] 5 rfl (by decide +kernel) rfl rfl) rfl hl.1 rfl (Nat.le_of_ble_eq_true rfl) dX10_bestCorrection_94 ⟨Nat.le_of_ble_eq_true rfl, Nat.le_of_ble_eq_true rfl⟩ (fun r_18 u_17 h_19 H locs hP hD hS => ?_)
              have h_19 : r_18 = (poff (minsR J (upd r 4 (vk k9)))) := h_19
              subst h_19
              have hP : va_P D vwCl (fl [[ob (b 0) 9 [.int 0, .ref (b 1), .int tn, .int sp, .ref (b 2), .ref (b 3), .ref (b 4), .ref (b 5), .int ac, .ref (b 6), .ref (b 7), .ref (b 8), .ref (b 9), .ref (b 10), .ref (b 11)]], [ia ty (b 3) 57 r], [ia ty (b 4) 57 (minsR J (upd r 4 (vk k9)))], [la ty (b 8) 2 (tw x y)], [la ty (b 9) 2 (tw (minsX J (upd r 4 (vk k9)) x) (minsY J (upd r 4 (vk k9)) y))]]) H := P_perm (po (bs := [[ia ty (b 4) 57 (minsR J (upd r 4 (vk k9)))], [ob (b 0) 9 [.int 0, .ref (b 1), .int tn, .int sp, .ref (b 2), .ref (b 3), .ref (b 4), .ref (b 5), .int ac, .ref (b 6), .ref (b 7), .ref (b 8), .ref (b 9), .ref (b 10), .ref (b 11)]], [ia ty (b 3) 57 r], [la ty (b 8) 2 (tw x y)], [la ty (b 9) 2 (tw (minsX J (upd r 4 (vk k9)) x) (minsY J (upd r 4 (vk k9)) y))]]) [1, 2, 0, 3, 4] 5 rfl (by decide +kernel) rfl) hP
              have hD : va_D A (fl [[ob (b 0) 9 [.int 0, .ref (b 1), .int tn, .int sp, .ref (b 2), .ref (b 3), .ref (b 4), .ref (b 5), .int ac, .ref (b 6), .ref (b 7), .ref (b 8), .ref (b 9), .ref (b 10), .ref (b 11)]], [ia ty (b 3) 57 r], [ia ty (b 4) 57 (minsR J (upd r 4 (vk k9)))], [la ty (b 8) 2 (tw x y)], [la ty (b 9) 2 (tw (minsX J (upd r 4 (vk k9)) x) (minsY J (upd r 4 (vk k9)) y))]]) := D_perm (po (bs := [[ia ty (b 4) 57 (minsR J (upd r 4 (vk k9)))], [ob (b 0) 9 [.int 0, .ref (b 1), .int tn, .int sp, .ref (b 2), .ref (b 3), .ref (b 4), .ref (b 5), .int ac, .ref (b 6), .ref (b 7), .ref (b 8), .ref (b 9), .ref (b 10), .ref (b 11)]], [ia ty (b 3) 57 r], [la ty (b 8) 2 (tw x y)], [la ty (b 9) 2 (tw (minsX J (upd r 4 (vk k9)) x) (minsY J (upd r 4 (vk k9)) y))]]) [1, 2, 0, 3, 4] 5 rfl (by decide +kernel) rfl) hD
              refine cSi (As := [.int (poff (minsR J (upd r 4 (vk k9))))]) (rest := []) ⟨hx, hb, hml, hown, hts⟩ (c_X10_size l D ty (poff (minsR J (upd r 4 (vk k9))))) (va_cwS 1 hts gX10_bestCorrection_X10_size rfl rfl rfl (by decide +kernel) ⟨Nat.le_of_ble_eq_true rfl, Nat.le_of_ble_eq_true rfl⟩) hK hX hP hD hS hA (pk (bs := [[ob (b 0) 9 [.int 0, .ref (b 1), .int tn, .int sp, .ref (b 2), .ref (b 3), .ref (b 4), .ref (b 5), .int ac, .ref (b 6), .ref (b 7), .ref (b 8), .ref (b 9), .ref (b 10), .ref (b 11)]], [ia ty (b 3) 57 r], [ia ty (b 4) 57 (minsR J (upd r 4 (vk k9)))], [la ty (b 8) 2 (tw x y)], [la ty (b 9) 2 (tw (minsX J (upd r 4 (vk k9)) x) (minsY J (upd r 4 (vk k9)) y))]]) (bsc := []) (bsr := [[ob (b 0) 9 [.int 0, .ref (b 1), .int tn, .int sp, .ref (b 2), .ref (b 3), .ref (b 4), .ref (b 5), .int ac, .ref (b 6), .ref (b 7), .ref (b 8), .ref (b 9), .ref (b 10), .ref (b 11)]], [ia ty (b 3) 57 r], [ia ty (b 4) 57 (minsR J (upd r 4 (vk k9)))], [la ty (b 8) 2 (tw x y)], [la ty (b 9) 2 (tw (minsX J (upd r 4 (vk k9)) x) (minsY J (upd r 4 (vk k9)) y))]]) [] [0, 1, 2, 3, 4] 5 rfl (by decide +kernel) rfl rfl) rfl hl.1 rfl (Nat.le_of_ble_eq_true rfl) dX10_bestCorrection_97 ⟨Nat.le_of_ble_eq_true rfl, Nat.le_of_ble_eq_true rfl⟩ (fun r_21 u_20 h_22 H locs hP hD hS => ?_)
              have h_22 : r_21 = (if (poff (minsR J (upd r 4 (vk k9)))) < 0 then -(poff (minsR J (upd r 4 (vk k9)))) else (poff (minsR J (upd r 4 (vk k9))))) := h_22
              subst h_22
              have hP : va_P D vwCl (fl [[ob (b 0) 9 [.int 0, .ref (b 1), .int tn, .int sp, .ref (b 2), .ref (b 3), .ref (b 4), .ref (b 5), .int ac, .ref (b 6), .ref (b 7), .ref (b 8), .ref (b 9), .ref (b 10), .ref (b 11)]], [ia ty (b 3) 57 r], [ia ty (b 4) 57 (minsR J (upd r 4 (vk k9)))], [la ty (b 8) 2 (tw x y)], [la ty (b 9) 2 (tw (minsX J (upd r 4 (vk k9)) x) (minsY J (upd r 4 (vk k9)) y))]]) H := P_perm (po (bs := [[ob (b 0) 9 [.int 0, .ref (b 1), .int tn, .int sp, .ref (b 2), .ref (b 3), .ref (b 4), .ref (b 5), .int ac, .ref (b 6), .ref (b 7), .ref (b 8), .ref (b 9), .ref (b 10), .ref (b 11)]], [ia ty (b 3) 57 r], [ia ty (b 4) 57 (minsR J (upd r 4 (vk k9)))], [la ty (b 8) 2 (tw x y)], [la ty (b 9) 2 (tw (minsX J (upd r 4 (vk k9)) x) (minsY J (upd r 4 (vk k9)) y))]]) [0, 1, 2, 3, 4] 5 rfl (by decide +kernel) rfl) hP
              have hD : va_D A (fl [[ob (b 0) 9 [.int 0, .ref (b 1), .int tn, .int sp, .ref (b 2), .ref (b 3), .ref (b 4), .ref (b 5), .int ac, .ref (b 6), .ref (b 7), .ref (b 8), .ref (b 9), .ref (b 10), .ref (b 11)]], [ia ty (b 3) 57 r], [ia ty (b 4) 57 (minsR J (upd r 4 (vk k9)))], [la ty (b 8) 2 (tw x y)], [la ty (b 9) 2 (tw (minsX J (upd r 4 (vk k9)) x) (minsY J (upd r 4 (vk k9)) y))]]) := D_perm (po (bs := [[ob (b 0) 9 [.int 0, .ref (b 1), .int tn, .int sp, .ref (b 2), .ref (b 3), .ref (b 4), .ref (b 5), .int ac, .ref (b 6), .ref (b 7), .ref (b 8), .ref (b 9), .ref (b 10), .ref (b 11)]], [ia ty (b 3) 57 r], [ia ty (b 4) 57 (minsR J (upd r 4 (vk k9)))], [la ty (b 8) 2 (tw x y)], [la ty (b 9) 2 (tw (minsX J (upd r 4 (vk k9)) x) (minsY J (upd r 4 (vk k9)) y))]]) [0, 1, 2, 3, 4] 5 rfl (by decide +kernel) rfl) hD
              refine W.eq (g2 := F0 m 100 ls [.int (farv J r (vk k9))]) rfl ?_
              refine lv_istore (lv' := [(6, .int (farv J r (vk k9))), (5, .int (vk k9)), (4, .int (nI k9)), (3, .int l9), (2, .int b9), (0, .ref (b 0)), (1, .int (nI J))]) hx hb dX10_bestCorrection_100 hl (by decide) rfl (fun ls hl => ?_)
              rcases g5 with g5 | g5
              · skip
                have hbn : b9 = -99999999 := g5.2
                refine lv_iload_n hx hb dX10_bestCorrection_102 rfl (lv_at hl 4 rfl) ?_
                refine lv_ldc hx hb hown (hts (Cond.constant RX10 53 (-99999999)) (List.mem_of_getElem? (i := 2) rfl)) dX10_bestCorrection_103 ?_
                refine lv_icmp_eq (tgt := 114) hx hb dX10_bestCorrection_105 (by decide) (fun c_23 => ?_) (fun c_23 => ?_)
                · skip
                  refine lv_iconst (v := 1) hx hb dX10_bestCorrection_114 (by decide) ?_
                  refine lv_goto (tgt := 119) hx hb dX10_bestCorrection_115 (by decide) ?_
                  refine lv_istore (lv' := [(7, .int 1), (6, .int (farv J r (vk k9))), (5, .int (vk k9)), (4, .int (nI k9)), (3, .int l9), (2, .int b9), (0, .ref (b 0)), (1, .int (nI J))]) hx hb dX10_bestCorrection_119 hl (by decide) rfl (fun ls hl => ?_)
                  refine lv_iload hx hb dX10_bestCorrection_121 (lv_at hl 0 rfl) ?_
                  refine lv_if_eq (tgt := 131) hx hb dX10_bestCorrection_123 (by decide) (fun c_24 => ?_) (fun c_24 => ?_)
                  · exact absurd c_24 (by decide)
                  · skip
                    refine lv_iload hx hb dX10_bestCorrection_126 (lv_at hl 2 rfl) ?_
                    refine lv_goto (tgt := 132) hx hb dX10_bestCorrection_128 (by decide) ?_
                    refine lv_istore_n (lv' := [(2, .int (vk k9)), (7, .int 1), (6, .int (farv J r (vk k9))), (5, .int (vk k9)), (4, .int (nI k9)), (3, .int l9), (0, .ref (b 0)), (1, .int (nI J))]) hx hb dX10_bestCorrection_132 rfl hl (by decide) rfl (fun ls hl => ?_)
                    refine lv_iload hx hb dX10_bestCorrection_133 (lv_at hl 1 rfl) ?_
                    refine lv_if_eq (tgt := 143) hx hb dX10_bestCorrection_135 (by decide) (fun c_25 => ?_) (fun c_25 => ?_)
                    · exact absurd c_25 (by decide)
                    · skip
                      refine lv_iload hx hb dX10_bestCorrection_138 (lv_at hl 2 rfl) ?_
                      refine lv_goto (tgt := 144) hx hb dX10_bestCorrection_140 (by decide) ?_
                      refine lv_istore_n (lv' := [(3, .int (farv J r (vk k9))), (2, .int (vk k9)), (7, .int 1), (6, .int (farv J r (vk k9))), (5, .int (vk k9)), (4, .int (nI k9)), (0, .ref (b 0)), (1, .int (nI J))]) hx hb dX10_bestCorrection_144 rfl hl (by decide) rfl (fun ls hl => ?_)
                      have hk0 : k9 = 0 := g5.1
                      have hN1 : vk k9 = mB (farv J r) (k9 + 1 - 1) := by rw [hk0]; rfl
                      have hN2 : farv J r (vk k9) = farv J r (vk k9) := rfl
                      refine lv_iinc (v := (nI (k9 + 1))) (lv' := [(4, .int (nI (k9 + 1))), (3, .int (farv J r (vk k9))), (2, .int (vk k9)), (7, .int 1), (6, .int (farv J r (vk k9))), (5, .int (vk k9)), (0, .ref (b 0)), (1, .int (nI J))]) hx hb dX10_bestCorrection_145 hl (k := 5) rfl (nI_add (k9) (1)) (by decide) rfl (fun ls hl => ?_)
                      refine lv_goto (tgt := 34) hx hb dX10_bestCorrection_148 (by decide) ?_
                      exact ih (k9 + 1) (vk k9) (farv J r (vk k9)) (minsR J (upd r 4 (vk k9))) (minsX J (upd r 4 (vk k9)) x) (minsY J (upd r 4 (vk k9)) y) (by omega) (by omega) (Or.inr ⟨by omega, hN1, hN2⟩) _ _ (show va_P D vwCl (fl [[ob (b 0) 9 [.int 0, .ref (b 1), .int tn, .int sp, .ref (b 2), .ref (b 3), .ref (b 4), .ref (b 5), .int ac, .ref (b 6), .ref (b 7), .ref (b 8), .ref (b 9), .ref (b 10), .ref (b 11)]], [ia ty (b 3) 57 r], [ia ty (b 4) 57 (minsR J (upd r 4 (vk k9)))], [la ty (b 8) 2 (tw x y)], [la ty (b 9) 2 (tw (minsX J (upd r 4 (vk k9)) x) (minsY J (upd r 4 (vk k9)) y))]]) _ from hP) hD hS _ (lv_sub hl [0, 1, 2, 6, 7] rfl)
                · first | exact absurd c_23 hbn | exact absurd hbn c_23
              · skip
                have hbn : ¬ b9 = -99999999 := (by rw [g5.2.1]; exact mB_ne _ _ (by omega))
                refine lv_iload_n hx hb dX10_bestCorrection_102 rfl (lv_at hl 4 rfl) ?_
                refine lv_ldc hx hb hown (hts (Cond.constant RX10 53 (-99999999)) (List.mem_of_getElem? (i := 2) rfl)) dX10_bestCorrection_103 ?_
                refine lv_icmp_eq (tgt := 114) hx hb dX10_bestCorrection_105 (by decide) (fun c_26 => ?_) (fun c_26 => ?_)
                · first | exact absurd c_26 hbn | exact absurd hbn c_26
                · skip
                  refine lv_iload hx hb dX10_bestCorrection_108 (lv_at hl 0 rfl) ?_
                  refine lv_iload_n hx hb dX10_bestCorrection_110 rfl (lv_at hl 3 rfl) ?_
                  refine lv_icmp_ge (tgt := 118) hx hb dX10_bestCorrection_111 (by decide) (fun c_27 => ?_) (fun c_27 => ?_)
                  · skip
                    refine lv_iconst (v := 0) hx hb dX10_bestCorrection_118 (by decide) ?_
                    refine lv_istore (lv' := [(7, .int 0), (6, .int (farv J r (vk k9))), (5, .int (vk k9)), (4, .int (nI k9)), (3, .int l9), (2, .int b9), (0, .ref (b 0)), (1, .int (nI J))]) hx hb dX10_bestCorrection_119 hl (by decide) rfl (fun ls hl => ?_)
                    refine lv_iload hx hb dX10_bestCorrection_121 (lv_at hl 0 rfl) ?_
                    refine lv_if_eq (tgt := 131) hx hb dX10_bestCorrection_123 (by decide) (fun c_28 => ?_) (fun c_28 => ?_)
                    · skip
                      refine lv_iload_n hx hb dX10_bestCorrection_131 rfl (lv_at hl 5 rfl) ?_
                      refine lv_istore_n (lv' := [(2, .int b9), (7, .int 0), (6, .int (farv J r (vk k9))), (5, .int (vk k9)), (4, .int (nI k9)), (3, .int l9), (0, .ref (b 0)), (1, .int (nI J))]) hx hb dX10_bestCorrection_132 rfl hl (by decide) rfl (fun ls hl => ?_)
                      refine lv_iload hx hb dX10_bestCorrection_133 (lv_at hl 1 rfl) ?_
                      refine lv_if_eq (tgt := 143) hx hb dX10_bestCorrection_135 (by decide) (fun c_29 => ?_) (fun c_29 => ?_)
                      · skip
                        refine lv_iload_n hx hb dX10_bestCorrection_143 rfl (lv_at hl 5 rfl) ?_
                        refine lv_istore_n (lv' := [(3, .int l9), (2, .int b9), (7, .int 0), (6, .int (farv J r (vk k9))), (5, .int (vk k9)), (4, .int (nI k9)), (0, .ref (b 0)), (1, .int (nI J))]) hx hb dX10_bestCorrection_144 rfl hl (by decide) rfl (fun ls hl => ?_)
                        obtain ⟨j9, hj9⟩ : ∃ j, k9 = j + 1 := ⟨k9 - 1, by omega⟩
                        have hN1 : b9 = mB (farv J r) (k9 + 1 - 1) := by
                          have hc9 : ¬ farv J r (vk k9) < l9 := Int32.not_lt.mpr c_27
                          rw [g5.2.2, g5.2.1, hj9] at hc9
                          rw [g5.2.1, hj9]
                          exact (if_neg hc9).symm
                        have hN2 : l9 = farv J r b9 := g5.2.2
                        refine lv_iinc (v := (nI (k9 + 1))) (lv' := [(4, .int (nI (k9 + 1))), (3, .int l9), (2, .int b9), (7, .int 0), (6, .int (farv J r (vk k9))), (5, .int (vk k9)), (0, .ref (b 0)), (1, .int (nI J))]) hx hb dX10_bestCorrection_145 hl (k := 5) rfl (nI_add (k9) (1)) (by decide) rfl (fun ls hl => ?_)
                        refine lv_goto (tgt := 34) hx hb dX10_bestCorrection_148 (by decide) ?_
                        exact ih (k9 + 1) b9 l9 (minsR J (upd r 4 (vk k9))) (minsX J (upd r 4 (vk k9)) x) (minsY J (upd r 4 (vk k9)) y) (by omega) (by omega) (Or.inr ⟨by omega, hN1, hN2⟩) _ _ (show va_P D vwCl (fl [[ob (b 0) 9 [.int 0, .ref (b 1), .int tn, .int sp, .ref (b 2), .ref (b 3), .ref (b 4), .ref (b 5), .int ac, .ref (b 6), .ref (b 7), .ref (b 8), .ref (b 9), .ref (b 10), .ref (b 11)]], [ia ty (b 3) 57 r], [ia ty (b 4) 57 (minsR J (upd r 4 (vk k9)))], [la ty (b 8) 2 (tw x y)], [la ty (b 9) 2 (tw (minsX J (upd r 4 (vk k9)) x) (minsY J (upd r 4 (vk k9)) y))]]) _ from hP) hD hS _ (lv_sub hl [0, 1, 2, 6, 7] rfl)
                      · exact absurd (by decide) c_29
                    · exact absurd (by decide) c_28
                  · skip
                    refine lv_iconst (v := 1) hx hb dX10_bestCorrection_114 (by decide) ?_
                    refine lv_goto (tgt := 119) hx hb dX10_bestCorrection_115 (by decide) ?_
                    refine lv_istore (lv' := [(7, .int 1), (6, .int (farv J r (vk k9))), (5, .int (vk k9)), (4, .int (nI k9)), (3, .int l9), (2, .int b9), (0, .ref (b 0)), (1, .int (nI J))]) hx hb dX10_bestCorrection_119 hl (by decide) rfl (fun ls hl => ?_)
                    refine lv_iload hx hb dX10_bestCorrection_121 (lv_at hl 0 rfl) ?_
                    refine lv_if_eq (tgt := 131) hx hb dX10_bestCorrection_123 (by decide) (fun c_30 => ?_) (fun c_30 => ?_)
                    · exact absurd c_30 (by decide)
                    · skip
                      refine lv_iload hx hb dX10_bestCorrection_126 (lv_at hl 2 rfl) ?_
                      refine lv_goto (tgt := 132) hx hb dX10_bestCorrection_128 (by decide) ?_
                      refine lv_istore_n (lv' := [(2, .int (vk k9)), (7, .int 1), (6, .int (farv J r (vk k9))), (5, .int (vk k9)), (4, .int (nI k9)), (3, .int l9), (0, .ref (b 0)), (1, .int (nI J))]) hx hb dX10_bestCorrection_132 rfl hl (by decide) rfl (fun ls hl => ?_)
                      refine lv_iload hx hb dX10_bestCorrection_133 (lv_at hl 1 rfl) ?_
                      refine lv_if_eq (tgt := 143) hx hb dX10_bestCorrection_135 (by decide) (fun c_31 => ?_) (fun c_31 => ?_)
                      · exact absurd c_31 (by decide)
                      · skip
                        refine lv_iload hx hb dX10_bestCorrection_138 (lv_at hl 2 rfl) ?_
                        refine lv_goto (tgt := 144) hx hb dX10_bestCorrection_140 (by decide) ?_
                        refine lv_istore_n (lv' := [(3, .int (farv J r (vk k9))), (2, .int (vk k9)), (7, .int 1), (6, .int (farv J r (vk k9))), (5, .int (vk k9)), (4, .int (nI k9)), (0, .ref (b 0)), (1, .int (nI J))]) hx hb dX10_bestCorrection_144 rfl hl (by decide) rfl (fun ls hl => ?_)
                        obtain ⟨j9, hj9⟩ : ∃ j, k9 = j + 1 := ⟨k9 - 1, by omega⟩
                        have hN1 : vk k9 = mB (farv J r) (k9 + 1 - 1) := by
                          have hc9 : farv J r (vk k9) < l9 := Int32.not_le.mp c_27
                          rw [g5.2.2, g5.2.1, hj9] at hc9
                          rw [hj9]
                          exact (if_pos hc9).symm
                        have hN2 : farv J r (vk k9) = farv J r (vk k9) := rfl
                        refine lv_iinc (v := (nI (k9 + 1))) (lv' := [(4, .int (nI (k9 + 1))), (3, .int (farv J r (vk k9))), (2, .int (vk k9)), (7, .int 1), (6, .int (farv J r (vk k9))), (5, .int (vk k9)), (0, .ref (b 0)), (1, .int (nI J))]) hx hb dX10_bestCorrection_145 hl (k := 5) rfl (nI_add (k9) (1)) (by decide) rfl (fun ls hl => ?_)
                        refine lv_goto (tgt := 34) hx hb dX10_bestCorrection_148 (by decide) ?_
                        exact ih (k9 + 1) (vk k9) (farv J r (vk k9)) (minsR J (upd r 4 (vk k9))) (minsX J (upd r 4 (vk k9)) x) (minsY J (upd r 4 (vk k9)) y) (by omega) (by omega) (Or.inr ⟨by omega, hN1, hN2⟩) _ _ (show va_P D vwCl (fl [[ob (b 0) 9 [.int 0, .ref (b 1), .int tn, .int sp, .ref (b 2), .ref (b 3), .ref (b 4), .ref (b 5), .int ac, .ref (b 6), .ref (b 7), .ref (b 8), .ref (b 9), .ref (b 10), .ref (b 11)]], [ia ty (b 3) 57 r], [ia ty (b 4) 57 (minsR J (upd r 4 (vk k9)))], [la ty (b 8) 2 (tw x y)], [la ty (b 9) 2 (tw (minsX J (upd r 4 (vk k9)) x) (minsY J (upd r 4 (vk k9)) y))]]) _ from hP) hD hS _ (lv_sub hl [0, 1, 2, 6, 7] rfl)
            · skip
              refine lv_iload hx hb dX10_bestCorrection_50 (lv_at hl 0 rfl) ?_
              refine lv_iconst (v := 1) hx hb dX10_bestCorrection_52 (by decide) ?_
              refine k_iadd (v := (nI (k9 + 1))) hx hb dX10_bestCorrection_53 (nI_add (k9) (1)) ?_
              refine k_ineg (v := (-(nI (k9 + 1)))) hx hb dX10_bestCorrection_54 rfl ?_
              refine lv_iconst (v := 2) hx hb dX10_bestCorrection_55 (by decide) ?_
              refine k_idiv (v := ((-(nI (k9 + 1))) / 2)) hx hb dX10_bestCorrection_56 (by decide) rfl ?_
              refine lv_goto (tgt := 64) hx hb dX10_bestCorrection_57 (by decide) ?_
              have hz47_0 := (nI_eq (a := k9 % 2) (b := 1) (by omega) (by omega)).mp c_10
              refine W.eq (g2 := F0 m 64 ls [.int (vk k9)]) (by rw [vk_odd (by omega) (by omega)]) ?_
              refine lv_istore (lv' := [(5, .int (vk k9)), (4, .int (nI k9)), (3, .int l9), (2, .int b9), (0, .ref (b 0)), (1, .int (nI J))]) hx hb dX10_bestCorrection_64 hl (by decide) rfl (fun ls hl => ?_)
              refine lv_aload_n hx hb dX10_bestCorrection_66 rfl (lv_at hl 4 rfl) ?_
              refine cVv (As := []) (rest := []) ⟨hx, hb, hml, hown, hts⟩ (c_X10_copyNow l D ty b 0 tn sp ac r rr x y xx yy) (cwV 0 hts gX10_bestCorrection_X10_copyNow rfl rfl rfl (by decide +kernel) ⟨Nat.le_of_ble_eq_true rfl, Nat.le_of_ble_eq_true rfl⟩) hK hX hP hD hS hA (pk (bs := [[ob (b 0) 9 [.int 0, .ref (b 1), .int tn, .int sp, .ref (b 2), .ref (b 3), .ref (b 4), .ref (b 5), .int ac, .ref (b 6), .ref (b 7), .ref (b 8), .ref (b 9), .ref (b 10), .ref (b 11)]], [ia ty (b 3) 57 r], [ia ty (b 4) 57 rr], [la ty (b 8) 2 (tw x y)], [la ty (b 9) 2 (tw xx yy)]]) (bsc := [[ob (b 0) 9 [.int 0, .ref (b 1), .int tn, .int sp, .ref (b 2), .ref (b 3), .ref (b 4), .ref (b 5), .int ac, .ref (b 6), .ref (b 7), .ref (b 8), .ref (b 9), .ref (b 10), .ref (b 11)]], [ia ty (b 3) 57 r], [ia ty (b 4) 57 rr], [la ty (b 8) 2 (tw x y)], [la ty (b 9) 2 (tw xx yy)]]) (bsr := []) [0, 1, 2, 3, 4] [] 5 rfl (by decide +kernel) rfl rfl) (ci := 9) rfl 0 rfl rfl hl.1 rfl (Nat.le_of_ble_eq_true rfl) dX10_bestCorrection_67 ⟨Nat.le_of_ble_eq_true rfl, Nat.le_of_ble_eq_true rfl⟩ (fun u_32 h_34 H locs hP hD hS => ?_)
              have hP : va_P D vwCl (fl [[ob (b 0) 9 [.int 0, .ref (b 1), .int tn, .int sp, .ref (b 2), .ref (b 3), .ref (b 4), .ref (b 5), .int ac, .ref (b 6), .ref (b 7), .ref (b 8), .ref (b 9), .ref (b 10), .ref (b 11)]], [ia ty (b 3) 57 r], [ia ty (b 4) 57 r], [la ty (b 8) 2 (tw x y)], [la ty (b 9) 2 (tw x y)]]) H := P_perm (po (bs := [[ob (b 0) 9 [.int 0, .ref (b 1), .int tn, .int sp, .ref (b 2), .ref (b 3), .ref (b 4), .ref (b 5), .int ac, .ref (b 6), .ref (b 7), .ref (b 8), .ref (b 9), .ref (b 10), .ref (b 11)]], [ia ty (b 3) 57 r], [ia ty (b 4) 57 r], [la ty (b 8) 2 (tw x y)], [la ty (b 9) 2 (tw x y)]]) [0, 1, 2, 3, 4] 5 rfl (by decide +kernel) rfl) hP
              have hD : va_D A (fl [[ob (b 0) 9 [.int 0, .ref (b 1), .int tn, .int sp, .ref (b 2), .ref (b 3), .ref (b 4), .ref (b 5), .int ac, .ref (b 6), .ref (b 7), .ref (b 8), .ref (b 9), .ref (b 10), .ref (b 11)]], [ia ty (b 3) 57 r], [ia ty (b 4) 57 r], [la ty (b 8) 2 (tw x y)], [la ty (b 9) 2 (tw x y)]]) := D_perm (po (bs := [[ob (b 0) 9 [.int 0, .ref (b 1), .int tn, .int sp, .ref (b 2), .ref (b 3), .ref (b 4), .ref (b 5), .int ac, .ref (b 6), .ref (b 7), .ref (b 8), .ref (b 9), .ref (b 10), .ref (b 11)]], [ia ty (b 3) 57 r], [ia ty (b 4) 57 r], [la ty (b 8) 2 (tw x y)], [la ty (b 9) 2 (tw x y)]]) [0, 1, 2, 3, 4] 5 rfl (by decide +kernel) rfl) hD
              refine lv_aload_n hx hb dX10_bestCorrection_70 rfl (lv_at hl 4 rfl) ?_
              refine va_get (D := D) (ci := 9) (v := .ref (b 4)) (C := RX10) (T := TX10) (N := 15) hx hb hts i_X10 hown hK hP 0 rfl rfl 6 (by decide) (hts (Cond.fieldLink RX10 19 "BrownClockModel" "trial" "[I") (List.mem_of_getElem? (i := 3) rfl)) (fun _ h9 => h9) rfl dX10_bestCorrection_71 ?_
              refine lv_iconst (v := 4) hx hb dX10_bestCorrection_74 (by decide) ?_
              refine lv_iload hx hb dX10_bestCorrection_75 (lv_at hl 0 rfl) ?_
              refine k_iast hx hb hK hP hD hS 2 rfl 4 rfl (by decide) (Nat.le_of_ble_eq_true rfl) dX10_bestCorrection_77 (fun H locs hP hD hS => ?_)
              have hP : va_P D vwCl (fl [[ob (b 0) 9 [.int 0, .ref (b 1), .int tn, .int sp, .ref (b 2), .ref (b 3), .ref (b 4), .ref (b 5), .int ac, .ref (b 6), .ref (b 7), .ref (b 8), .ref (b 9), .ref (b 10), .ref (b 11)]], [ia ty (b 3) 57 r], [ia ty (b 4) 57 (upd r 4 (vk k9))], [la ty (b 8) 2 (tw x y)], [la ty (b 9) 2 (tw x y)]]) H := hP
              have hD : va_D A (fl [[ob (b 0) 9 [.int 0, .ref (b 1), .int tn, .int sp, .ref (b 2), .ref (b 3), .ref (b 4), .ref (b 5), .int ac, .ref (b 6), .ref (b 7), .ref (b 8), .ref (b 9), .ref (b 10), .ref (b 11)]], [ia ty (b 3) 57 r], [ia ty (b 4) 57 (upd r 4 (vk k9))], [la ty (b 8) 2 (tw x y)], [la ty (b 9) 2 (tw x y)]]) := hD
              refine lv_aload_n hx hb dX10_bestCorrection_78 rfl (lv_at hl 4 rfl) ?_
              refine va_get (D := D) (ci := 9) (v := .ref (b 4)) (C := RX10) (T := TX10) (N := 15) hx hb hts i_X10 hown hK hP 0 rfl rfl 6 (by decide) (hts (Cond.fieldLink RX10 19 "BrownClockModel" "trial" "[I") (List.mem_of_getElem? (i := 3) rfl)) (fun _ h9 => h9) rfl dX10_bestCorrection_79 ?_
              refine lv_aload_n hx hb dX10_bestCorrection_82 rfl (lv_at hl 4 rfl) ?_
              refine va_get (D := D) (ci := 9) (v := .ref (b 9)) (C := RX10) (T := TX10) (N := 15) hx hb hts i_X10 hown hK hP 0 rfl rfl 12 (by decide) (hts (Cond.fieldLink RX10 36 "BrownClockModel" "trialSums" "[J") (List.mem_of_getElem? (i := 4) rfl)) (fun _ h9 => h9) rfl dX10_bestCorrection_83 ?_
              refine lv_iload_n hx hb dX10_bestCorrection_86 rfl (lv_at hl 5 rfl) ?_
              refine cSv (As := [.ref (b 4), .ref (b 9), .int (nI J)]) (rest := []) ⟨hx, hb, hml, hown, hts⟩ (c_X10_minutesOn l D ty (b 4) (b 9) J (upd r 4 (vk k9)) x y (by omega)) (va_cwS 3 hts gX10_bestCorrection_X10_minutesOn rfl rfl rfl (by decide +kernel) ⟨Nat.le_of_ble_eq_true rfl, Nat.le_of_ble_eq_true rfl⟩) hK hX hP hD hS hA (pk (bs := [[ob (b 0) 9 [.int 0, .ref (b 1), .int tn, .int sp, .ref (b 2), .ref (b 3), .ref (b 4), .ref (b 5), .int ac, .ref (b 6), .ref (b 7), .ref (b 8), .ref (b 9), .ref (b 10), .ref (b 11)]], [ia ty (b 3) 57 r], [ia ty (b 4) 57 (upd r 4 (vk k9))], [la ty (b 8) 2 (tw x y)], [la ty (b 9) 2 (tw x y)]]) (bsc := [[ia ty (b 4) 57 (upd r 4 (vk k9))], [la ty (b 9) 2 (tw x y)]]) (bsr := [[ob (b 0) 9 [.int 0, .ref (b 1), .int tn, .int sp, .ref (b 2), .ref (b 3), .ref (b 4), .ref (b 5), .int ac, .ref (b 6), .ref (b 7), .ref (b 8), .ref (b 9), .ref (b 10), .ref (b 11)]], [ia ty (b 3) 57 r], [la ty (b 8) 2 (tw x y)]]) [2, 4] [0, 1, 3] 5 rfl (by decide +kernel) rfl rfl) rfl hl.1 rfl (Nat.le_of_ble_eq_true rfl) dX10_bestCorrection_87 ⟨Nat.le_of_ble_eq_true rfl, Nat.le_of_ble_eq_true rfl⟩ (fun u_35 h_37 H locs hP hD hS => ?_)
              have hP : va_P D vwCl (fl [[ob (b 0) 9 [.int 0, .ref (b 1), .int tn, .int sp, .ref (b 2), .ref (b 3), .ref (b 4), .ref (b 5), .int ac, .ref (b 6), .ref (b 7), .ref (b 8), .ref (b 9), .ref (b 10), .ref (b 11)]], [ia ty (b 3) 57 r], [ia ty (b 4) 57 (minsR J (upd r 4 (vk k9)))], [la ty (b 8) 2 (tw x y)], [la ty (b 9) 2 (tw (minsX J (upd r 4 (vk k9)) x) (minsY J (upd r 4 (vk k9)) y))]]) H := P_perm (po (bs := [[ia ty (b 4) 57 (minsR J (upd r 4 (vk k9)))], [la ty (b 9) 2 (tw (minsX J (upd r 4 (vk k9)) x) (minsY J (upd r 4 (vk k9)) y))], [ob (b 0) 9 [.int 0, .ref (b 1), .int tn, .int sp, .ref (b 2), .ref (b 3), .ref (b 4), .ref (b 5), .int ac, .ref (b 6), .ref (b 7), .ref (b 8), .ref (b 9), .ref (b 10), .ref (b 11)]], [ia ty (b 3) 57 r], [la ty (b 8) 2 (tw x y)]]) [2, 3, 0, 4, 1] 5 rfl (by decide +kernel) rfl) hP
              have hD : va_D A (fl [[ob (b 0) 9 [.int 0, .ref (b 1), .int tn, .int sp, .ref (b 2), .ref (b 3), .ref (b 4), .ref (b 5), .int ac, .ref (b 6), .ref (b 7), .ref (b 8), .ref (b 9), .ref (b 10), .ref (b 11)]], [ia ty (b 3) 57 r], [ia ty (b 4) 57 (minsR J (upd r 4 (vk k9)))], [la ty (b 8) 2 (tw x y)], [la ty (b 9) 2 (tw (minsX J (upd r 4 (vk k9)) x) (minsY J (upd r 4 (vk k9)) y))]]) := D_perm (po (bs := [[ia ty (b 4) 57 (minsR J (upd r 4 (vk k9)))], [la ty (b 9) 2 (tw (minsX J (upd r 4 (vk k9)) x) (minsY J (upd r 4 (vk k9)) y))], [ob (b 0) 9 [.int 0, .ref (b 1), .int tn, .int sp, .ref (b 2), .ref (b 3), .ref (b 4), .ref (b 5), .int ac, .ref (b 6), .ref (b 7), .ref (b 8), .ref (b 9), .ref (b 10), .ref (b 11)]], [ia ty (b 3) 57 r], [la ty (b 8) 2 (tw x y)]]) [2, 3, 0, 4, 1] 5 rfl (by decide +kernel) rfl) hD
              refine lv_aload_n hx hb dX10_bestCorrection_90 rfl (lv_at hl 4 rfl) ?_
              refine va_get (D := D) (ci := 9) (v := .ref (b 4)) (C := RX10) (T := TX10) (N := 15) hx hb hts i_X10 hown hK hP 0 rfl rfl 6 (by decide) (hts (Cond.fieldLink RX10 19 "BrownClockModel" "trial" "[I") (List.mem_of_getElem? (i := 3) rfl)) (fun _ h9 => h9) rfl dX10_bestCorrection_91 ?_
              refine cSi (As := [.ref (b 4)]) (rest := []) ⟨hx, hb, hml, hown, hts⟩ (c_X10_offsetOf l D ty (b 4) (minsR J (upd r 4 (vk k9)))) (va_cwS 1 hts gX10_bestCorrection_X10_offsetOf rfl rfl rfl (by decide +kernel) ⟨Nat.le_of_ble_eq_true rfl, Nat.le_of_ble_eq_true rfl⟩) hK hX hP hD hS hA (pk (bs := [[ob (b 0) 9 [.int 0, .ref (b 1), .int tn, .int sp, .ref (b 2), .ref (b 3), .ref (b 4), .ref (b 5), .int ac, .ref (b 6), .ref (b 7), .ref (b 8), .ref (b 9), .ref (b 10), .ref (b 11)]], [ia ty (b 3) 57 r], [ia ty (b 4) 57 (minsR J (upd r 4 (vk k9)))], [la ty (b 8) 2 (tw x y)], [la ty (b 9) 2 (tw (minsX J (upd r 4 (vk k9)) x) (minsY J (upd r 4 (vk k9)) y))]]) (bsc := [[ia ty (b 4) 57 (minsR J (upd r 4 (vk k9)))]]) (bsr := [[ob (b 0) 9 [.int 0, .ref (b 1), .int tn, .int sp, .ref (b 2), .ref (b 3), .ref (b 4), .ref (b 5), .int ac, .ref (b 6), .ref (b 7), .ref (b 8), .ref (b 9), .ref (b 10), .ref (b 11)]], [ia ty (b 3) 57 r], [la ty (b 8) 2 (tw x y)], [la ty (b 9) 2 (tw (minsX J (upd r 4 (vk k9)) x) (minsY J (upd r 4 (vk k9)) y))]]) [2] [0, 1, 3, 4] 5 rfl (by decide +kernel) rfl rfl) rfl hl.1 rfl (Nat.le_of_ble_eq_true rfl) dX10_bestCorrection_94 ⟨Nat.le_of_ble_eq_true rfl, Nat.le_of_ble_eq_true rfl⟩ (fun r_39 u_38 h_40 H locs hP hD hS => ?_)
              have h_40 : r_39 = (poff (minsR J (upd r 4 (vk k9)))) := h_40
              subst h_40
              have hP : va_P D vwCl (fl [[ob (b 0) 9 [.int 0, .ref (b 1), .int tn, .int sp, .ref (b 2), .ref (b 3), .ref (b 4), .ref (b 5), .int ac, .ref (b 6), .ref (b 7), .ref (b 8), .ref (b 9), .ref (b 10), .ref (b 11)]], [ia ty (b 3) 57 r], [ia ty (b 4) 57 (minsR J (upd r 4 (vk k9)))], [la ty (b 8) 2 (tw x y)], [la ty (b 9) 2 (tw (minsX J (upd r 4 (vk k9)) x) (minsY J (upd r 4 (vk k9)) y))]]) H := P_perm (po (bs := [[ia ty (b 4) 57 (minsR J (upd r 4 (vk k9)))], [ob (b 0) 9 [.int 0, .ref (b 1), .int tn, .int sp, .ref (b 2), .ref (b 3), .ref (b 4), .ref (b 5), .int ac, .ref (b 6), .ref (b 7), .ref (b 8), .ref (b 9), .ref (b 10), .ref (b 11)]], [ia ty (b 3) 57 r], [la ty (b 8) 2 (tw x y)], [la ty (b 9) 2 (tw (minsX J (upd r 4 (vk k9)) x) (minsY J (upd r 4 (vk k9)) y))]]) [1, 2, 0, 3, 4] 5 rfl (by decide +kernel) rfl) hP
              have hD : va_D A (fl [[ob (b 0) 9 [.int 0, .ref (b 1), .int tn, .int sp, .ref (b 2), .ref (b 3), .ref (b 4), .ref (b 5), .int ac, .ref (b 6), .ref (b 7), .ref (b 8), .ref (b 9), .ref (b 10), .ref (b 11)]], [ia ty (b 3) 57 r], [ia ty (b 4) 57 (minsR J (upd r 4 (vk k9)))], [la ty (b 8) 2 (tw x y)], [la ty (b 9) 2 (tw (minsX J (upd r 4 (vk k9)) x) (minsY J (upd r 4 (vk k9)) y))]]) := D_perm (po (bs := [[ia ty (b 4) 57 (minsR J (upd r 4 (vk k9)))], [ob (b 0) 9 [.int 0, .ref (b 1), .int tn, .int sp, .ref (b 2), .ref (b 3), .ref (b 4), .ref (b 5), .int ac, .ref (b 6), .ref (b 7), .ref (b 8), .ref (b 9), .ref (b 10), .ref (b 11)]], [ia ty (b 3) 57 r], [la ty (b 8) 2 (tw x y)], [la ty (b 9) 2 (tw (minsX J (upd r 4 (vk k9)) x) (minsY J (upd r 4 (vk k9)) y))]]) [1, 2, 0, 3, 4] 5 rfl (by decide +kernel) rfl) hD
              refine cSi (As := [.int (poff (minsR J (upd r 4 (vk k9))))]) (rest := []) ⟨hx, hb, hml, hown, hts⟩ (c_X10_size l D ty (poff (minsR J (upd r 4 (vk k9))))) (va_cwS 1 hts gX10_bestCorrection_X10_size rfl rfl rfl (by decide +kernel) ⟨Nat.le_of_ble_eq_true rfl, Nat.le_of_ble_eq_true rfl⟩) hK hX hP hD hS hA (pk (bs := [[ob (b 0) 9 [.int 0, .ref (b 1), .int tn, .int sp, .ref (b 2), .ref (b 3), .ref (b 4), .ref (b 5), .int ac, .ref (b 6), .ref (b 7), .ref (b 8), .ref (b 9), .ref (b 10), .ref (b 11)]], [ia ty (b 3) 57 r], [ia ty (b 4) 57 (minsR J (upd r 4 (vk k9)))], [la ty (b 8) 2 (tw x y)], [la ty (b 9) 2 (tw (minsX J (upd r 4 (vk k9)) x) (minsY J (upd r 4 (vk k9)) y))]]) (bsc := []) (bsr := [[ob (b 0) 9 [.int 0, .ref (b 1), .int tn, .int sp, .ref (b 2), .ref (b 3), .ref (b 4), .ref (b 5), .int ac, .ref (b 6), .ref (b 7), .ref (b 8), .ref (b 9), .ref (b 10), .ref (b 11)]], [ia ty (b 3) 57 r], [ia ty (b 4) 57 (minsR J (upd r 4 (vk k9)))], [la ty (b 8) 2 (tw x y)], [la ty (b 9) 2 (tw (minsX J (upd r 4 (vk k9)) x) (minsY J (upd r 4 (vk k9)) y))]]) [] [0, 1, 2, 3, 4] 5 rfl (by decide +kernel) rfl rfl) rfl hl.1 rfl (Nat.le_of_ble_eq_true rfl) dX10_bestCorrection_97 ⟨Nat.le_of_ble_eq_true rfl, Nat.le_of_ble_eq_true rfl⟩ (fun r_42 u_41 h_43 H locs hP hD hS => ?_)
              have h_43 : r_42 = (if (poff (minsR J (upd r 4 (vk k9)))) < 0 then -(poff (minsR J (upd r 4 (vk k9)))) else (poff (minsR J (upd r 4 (vk k9))))) := h_43
              subst h_43
              have hP : va_P D vwCl (fl [[ob (b 0) 9 [.int 0, .ref (b 1), .int tn, .int sp, .ref (b 2), .ref (b 3), .ref (b 4), .ref (b 5), .int ac, .ref (b 6), .ref (b 7), .ref (b 8), .ref (b 9), .ref (b 10), .ref (b 11)]], [ia ty (b 3) 57 r], [ia ty (b 4) 57 (minsR J (upd r 4 (vk k9)))], [la ty (b 8) 2 (tw x y)], [la ty (b 9) 2 (tw (minsX J (upd r 4 (vk k9)) x) (minsY J (upd r 4 (vk k9)) y))]]) H := P_perm (po (bs := [[ob (b 0) 9 [.int 0, .ref (b 1), .int tn, .int sp, .ref (b 2), .ref (b 3), .ref (b 4), .ref (b 5), .int ac, .ref (b 6), .ref (b 7), .ref (b 8), .ref (b 9), .ref (b 10), .ref (b 11)]], [ia ty (b 3) 57 r], [ia ty (b 4) 57 (minsR J (upd r 4 (vk k9)))], [la ty (b 8) 2 (tw x y)], [la ty (b 9) 2 (tw (minsX J (upd r 4 (vk k9)) x) (minsY J (upd r 4 (vk k9)) y))]]) [0, 1, 2, 3, 4] 5 rfl (by decide +kernel) rfl) hP
              have hD : va_D A (fl [[ob (b 0) 9 [.int 0, .ref (b 1), .int tn, .int sp, .ref (b 2), .ref (b 3), .ref (b 4), .ref (b 5), .int ac, .ref (b 6), .ref (b 7), .ref (b 8), .ref (b 9), .ref (b 10), .ref (b 11)]], [ia ty (b 3) 57 r], [ia ty (b 4) 57 (minsR J (upd r 4 (vk k9)))], [la ty (b 8) 2 (tw x y)], [la ty (b 9) 2 (tw (minsX J (upd r 4 (vk k9)) x) (minsY J (upd r 4 (vk k9)) y))]]) := D_perm (po (bs := [[ob (b 0) 9 [.int 0, .ref (b 1), .int tn, .int sp, .ref (b 2), .ref (b 3), .ref (b 4), .ref (b 5), .int ac, .ref (b 6), .ref (b 7), .ref (b 8), .ref (b 9), .ref (b 10), .ref (b 11)]], [ia ty (b 3) 57 r], [ia ty (b 4) 57 (minsR J (upd r 4 (vk k9)))], [la ty (b 8) 2 (tw x y)], [la ty (b 9) 2 (tw (minsX J (upd r 4 (vk k9)) x) (minsY J (upd r 4 (vk k9)) y))]]) [0, 1, 2, 3, 4] 5 rfl (by decide +kernel) rfl) hD
              refine W.eq (g2 := F0 m 100 ls [.int (farv J r (vk k9))]) rfl ?_
              refine lv_istore (lv' := [(6, .int (farv J r (vk k9))), (5, .int (vk k9)), (4, .int (nI k9)), (3, .int l9), (2, .int b9), (0, .ref (b 0)), (1, .int (nI J))]) hx hb dX10_bestCorrection_100 hl (by decide) rfl (fun ls hl => ?_)
              rcases g5 with g5 | g5
              · skip
                have hbn : b9 = -99999999 := g5.2
                refine lv_iload_n hx hb dX10_bestCorrection_102 rfl (lv_at hl 4 rfl) ?_
                refine lv_ldc hx hb hown (hts (Cond.constant RX10 53 (-99999999)) (List.mem_of_getElem? (i := 2) rfl)) dX10_bestCorrection_103 ?_
                refine lv_icmp_eq (tgt := 114) hx hb dX10_bestCorrection_105 (by decide) (fun c_44 => ?_) (fun c_44 => ?_)
                · skip
                  refine lv_iconst (v := 1) hx hb dX10_bestCorrection_114 (by decide) ?_
                  refine lv_goto (tgt := 119) hx hb dX10_bestCorrection_115 (by decide) ?_
                  refine lv_istore (lv' := [(7, .int 1), (6, .int (farv J r (vk k9))), (5, .int (vk k9)), (4, .int (nI k9)), (3, .int l9), (2, .int b9), (0, .ref (b 0)), (1, .int (nI J))]) hx hb dX10_bestCorrection_119 hl (by decide) rfl (fun ls hl => ?_)
                  refine lv_iload hx hb dX10_bestCorrection_121 (lv_at hl 0 rfl) ?_
                  refine lv_if_eq (tgt := 131) hx hb dX10_bestCorrection_123 (by decide) (fun c_45 => ?_) (fun c_45 => ?_)
                  · exact absurd c_45 (by decide)
                  · skip
                    refine lv_iload hx hb dX10_bestCorrection_126 (lv_at hl 2 rfl) ?_
                    refine lv_goto (tgt := 132) hx hb dX10_bestCorrection_128 (by decide) ?_
                    refine lv_istore_n (lv' := [(2, .int (vk k9)), (7, .int 1), (6, .int (farv J r (vk k9))), (5, .int (vk k9)), (4, .int (nI k9)), (3, .int l9), (0, .ref (b 0)), (1, .int (nI J))]) hx hb dX10_bestCorrection_132 rfl hl (by decide) rfl (fun ls hl => ?_)
                    refine lv_iload hx hb dX10_bestCorrection_133 (lv_at hl 1 rfl) ?_
                    refine lv_if_eq (tgt := 143) hx hb dX10_bestCorrection_135 (by decide) (fun c_46 => ?_) (fun c_46 => ?_)
                    · exact absurd c_46 (by decide)
                    · skip
                      refine lv_iload hx hb dX10_bestCorrection_138 (lv_at hl 2 rfl) ?_
                      refine lv_goto (tgt := 144) hx hb dX10_bestCorrection_140 (by decide) ?_
                      refine lv_istore_n (lv' := [(3, .int (farv J r (vk k9))), (2, .int (vk k9)), (7, .int 1), (6, .int (farv J r (vk k9))), (5, .int (vk k9)), (4, .int (nI k9)), (0, .ref (b 0)), (1, .int (nI J))]) hx hb dX10_bestCorrection_144 rfl hl (by decide) rfl (fun ls hl => ?_)
                      have hk0 : k9 = 0 := g5.1
                      have hN1 : vk k9 = mB (farv J r) (k9 + 1 - 1) := by rw [hk0]; rfl
                      have hN2 : farv J r (vk k9) = farv J r (vk k9) := rfl
                      refine lv_iinc (v := (nI (k9 + 1))) (lv' := [(4, .int (nI (k9 + 1))), (3, .int (farv J r (vk k9))), (2, .int (vk k9)), (7, .int 1), (6, .int (farv J r (vk k9))), (5, .int (vk k9)), (0, .ref (b 0)), (1, .int (nI J))]) hx hb dX10_bestCorrection_145 hl (k := 5) rfl (nI_add (k9) (1)) (by decide) rfl (fun ls hl => ?_)
                      refine lv_goto (tgt := 34) hx hb dX10_bestCorrection_148 (by decide) ?_
                      exact ih (k9 + 1) (vk k9) (farv J r (vk k9)) (minsR J (upd r 4 (vk k9))) (minsX J (upd r 4 (vk k9)) x) (minsY J (upd r 4 (vk k9)) y) (by omega) (by omega) (Or.inr ⟨by omega, hN1, hN2⟩) _ _ (show va_P D vwCl (fl [[ob (b 0) 9 [.int 0, .ref (b 1), .int tn, .int sp, .ref (b 2), .ref (b 3), .ref (b 4), .ref (b 5), .int ac, .ref (b 6), .ref (b 7), .ref (b 8), .ref (b 9), .ref (b 10), .ref (b 11)]], [ia ty (b 3) 57 r], [ia ty (b 4) 57 (minsR J (upd r 4 (vk k9)))], [la ty (b 8) 2 (tw x y)], [la ty (b 9) 2 (tw (minsX J (upd r 4 (vk k9)) x) (minsY J (upd r 4 (vk k9)) y))]]) _ from hP) hD hS _ (lv_sub hl [0, 1, 2, 6, 7] rfl)
                · first | exact absurd c_44 hbn | exact absurd hbn c_44
              · skip
                have hbn : ¬ b9 = -99999999 := (by rw [g5.2.1]; exact mB_ne _ _ (by omega))
                refine lv_iload_n hx hb dX10_bestCorrection_102 rfl (lv_at hl 4 rfl) ?_
                refine lv_ldc hx hb hown (hts (Cond.constant RX10 53 (-99999999)) (List.mem_of_getElem? (i := 2) rfl)) dX10_bestCorrection_103 ?_
                refine lv_icmp_eq (tgt := 114) hx hb dX10_bestCorrection_105 (by decide) (fun c_47 => ?_) (fun c_47 => ?_)
                · first | exact absurd c_47 hbn | exact absurd hbn c_47
                · skip
                  refine lv_iload hx hb dX10_bestCorrection_108 (lv_at hl 0 rfl) ?_
                  refine lv_iload_n hx hb dX10_bestCorrection_110 rfl (lv_at hl 3 rfl) ?_
                  refine lv_icmp_ge (tgt := 118) hx hb dX10_bestCorrection_111 (by decide) (fun c_48 => ?_) (fun c_48 => ?_)
                  · skip
                    refine lv_iconst (v := 0) hx hb dX10_bestCorrection_118 (by decide) ?_
                    refine lv_istore (lv' := [(7, .int 0), (6, .int (farv J r (vk k9))), (5, .int (vk k9)), (4, .int (nI k9)), (3, .int l9), (2, .int b9), (0, .ref (b 0)), (1, .int (nI J))]) hx hb dX10_bestCorrection_119 hl (by decide) rfl (fun ls hl => ?_)
                    refine lv_iload hx hb dX10_bestCorrection_121 (lv_at hl 0 rfl) ?_
                    refine lv_if_eq (tgt := 131) hx hb dX10_bestCorrection_123 (by decide) (fun c_49 => ?_) (fun c_49 => ?_)
                    · skip
                      refine lv_iload_n hx hb dX10_bestCorrection_131 rfl (lv_at hl 5 rfl) ?_
                      refine lv_istore_n (lv' := [(2, .int b9), (7, .int 0), (6, .int (farv J r (vk k9))), (5, .int (vk k9)), (4, .int (nI k9)), (3, .int l9), (0, .ref (b 0)), (1, .int (nI J))]) hx hb dX10_bestCorrection_132 rfl hl (by decide) rfl (fun ls hl => ?_)
                      refine lv_iload hx hb dX10_bestCorrection_133 (lv_at hl 1 rfl) ?_
                      refine lv_if_eq (tgt := 143) hx hb dX10_bestCorrection_135 (by decide) (fun c_50 => ?_) (fun c_50 => ?_)
                      · skip
                        refine lv_iload_n hx hb dX10_bestCorrection_143 rfl (lv_at hl 5 rfl) ?_
                        refine lv_istore_n (lv' := [(3, .int l9), (2, .int b9), (7, .int 0), (6, .int (farv J r (vk k9))), (5, .int (vk k9)), (4, .int (nI k9)), (0, .ref (b 0)), (1, .int (nI J))]) hx hb dX10_bestCorrection_144 rfl hl (by decide) rfl (fun ls hl => ?_)
                        obtain ⟨j9, hj9⟩ : ∃ j, k9 = j + 1 := ⟨k9 - 1, by omega⟩
                        have hN1 : b9 = mB (farv J r) (k9 + 1 - 1) := by
                          have hc9 : ¬ farv J r (vk k9) < l9 := Int32.not_lt.mpr c_48
                          rw [g5.2.2, g5.2.1, hj9] at hc9
                          rw [g5.2.1, hj9]
                          exact (if_neg hc9).symm
                        have hN2 : l9 = farv J r b9 := g5.2.2
                        refine lv_iinc (v := (nI (k9 + 1))) (lv' := [(4, .int (nI (k9 + 1))), (3, .int l9), (2, .int b9), (7, .int 0), (6, .int (farv J r (vk k9))), (5, .int (vk k9)), (0, .ref (b 0)), (1, .int (nI J))]) hx hb dX10_bestCorrection_145 hl (k := 5) rfl (nI_add (k9) (1)) (by decide) rfl (fun ls hl => ?_)
                        refine lv_goto (tgt := 34) hx hb dX10_bestCorrection_148 (by decide) ?_
                        exact ih (k9 + 1) b9 l9 (minsR J (upd r 4 (vk k9))) (minsX J (upd r 4 (vk k9)) x) (minsY J (upd r 4 (vk k9)) y) (by omega) (by omega) (Or.inr ⟨by omega, hN1, hN2⟩) _ _ (show va_P D vwCl (fl [[ob (b 0) 9 [.int 0, .ref (b 1), .int tn, .int sp, .ref (b 2), .ref (b 3), .ref (b 4), .ref (b 5), .int ac, .ref (b 6), .ref (b 7), .ref (b 8), .ref (b 9), .ref (b 10), .ref (b 11)]], [ia ty (b 3) 57 r], [ia ty (b 4) 57 (minsR J (upd r 4 (vk k9)))], [la ty (b 8) 2 (tw x y)], [la ty (b 9) 2 (tw (minsX J (upd r 4 (vk k9)) x) (minsY J (upd r 4 (vk k9)) y))]]) _ from hP) hD hS _ (lv_sub hl [0, 1, 2, 6, 7] rfl)
                      · exact absurd (by decide) c_50
                    · exact absurd (by decide) c_49
                  · skip
                    refine lv_iconst (v := 1) hx hb dX10_bestCorrection_114 (by decide) ?_
                    refine lv_goto (tgt := 119) hx hb dX10_bestCorrection_115 (by decide) ?_
                    refine lv_istore (lv' := [(7, .int 1), (6, .int (farv J r (vk k9))), (5, .int (vk k9)), (4, .int (nI k9)), (3, .int l9), (2, .int b9), (0, .ref (b 0)), (1, .int (nI J))]) hx hb dX10_bestCorrection_119 hl (by decide) rfl (fun ls hl => ?_)
                    refine lv_iload hx hb dX10_bestCorrection_121 (lv_at hl 0 rfl) ?_
                    refine lv_if_eq (tgt := 131) hx hb dX10_bestCorrection_123 (by decide) (fun c_51 => ?_) (fun c_51 => ?_)
                    · exact absurd c_51 (by decide)
                    · skip
                      refine lv_iload hx hb dX10_bestCorrection_126 (lv_at hl 2 rfl) ?_
                      refine lv_goto (tgt := 132) hx hb dX10_bestCorrection_128 (by decide) ?_
                      refine lv_istore_n (lv' := [(2, .int (vk k9)), (7, .int 1), (6, .int (farv J r (vk k9))), (5, .int (vk k9)), (4, .int (nI k9)), (3, .int l9), (0, .ref (b 0)), (1, .int (nI J))]) hx hb dX10_bestCorrection_132 rfl hl (by decide) rfl (fun ls hl => ?_)
                      refine lv_iload hx hb dX10_bestCorrection_133 (lv_at hl 1 rfl) ?_
                      refine lv_if_eq (tgt := 143) hx hb dX10_bestCorrection_135 (by decide) (fun c_52 => ?_) (fun c_52 => ?_)
                      · exact absurd c_52 (by decide)
                      · skip
                        refine lv_iload hx hb dX10_bestCorrection_138 (lv_at hl 2 rfl) ?_
                        refine lv_goto (tgt := 144) hx hb dX10_bestCorrection_140 (by decide) ?_
                        refine lv_istore_n (lv' := [(3, .int (farv J r (vk k9))), (2, .int (vk k9)), (7, .int 1), (6, .int (farv J r (vk k9))), (5, .int (vk k9)), (4, .int (nI k9)), (0, .ref (b 0)), (1, .int (nI J))]) hx hb dX10_bestCorrection_144 rfl hl (by decide) rfl (fun ls hl => ?_)
                        obtain ⟨j9, hj9⟩ : ∃ j, k9 = j + 1 := ⟨k9 - 1, by omega⟩
                        have hN1 : vk k9 = mB (farv J r) (k9 + 1 - 1) := by
                          have hc9 : farv J r (vk k9) < l9 := Int32.not_le.mp c_48
                          rw [g5.2.2, g5.2.1, hj9] at hc9
                          rw [hj9]
                          exact (if_pos hc9).symm
                        have hN2 : farv J r (vk k9) = farv J r (vk k9) := rfl
                        refine lv_iinc (v := (nI (k9 + 1))) (lv' := [(4, .int (nI (k9 + 1))), (3, .int (farv J r (vk k9))), (2, .int (vk k9)), (7, .int 1), (6, .int (farv J r (vk k9))), (5, .int (vk k9)), (0, .ref (b 0)), (1, .int (nI J))]) hx hb dX10_bestCorrection_145 hl (k := 5) rfl (nI_add (k9) (1)) (by decide) rfl (fun ls hl => ?_)
                        refine lv_goto (tgt := 34) hx hb dX10_bestCorrection_148 (by decide) ?_
                        exact ih (k9 + 1) (vk k9) (farv J r (vk k9)) (minsR J (upd r 4 (vk k9))) (minsX J (upd r 4 (vk k9)) x) (minsY J (upd r 4 (vk k9)) y) (by omega) (by omega) (Or.inr ⟨by omega, hN1, hN2⟩) _ _ (show va_P D vwCl (fl [[ob (b 0) 9 [.int 0, .ref (b 1), .int tn, .int sp, .ref (b 2), .ref (b 3), .ref (b 4), .ref (b 5), .int ac, .ref (b 6), .ref (b 7), .ref (b 8), .ref (b 9), .ref (b 10), .ref (b 11)]], [ia ty (b 3) 57 r], [ia ty (b 4) 57 (minsR J (upd r 4 (vk k9)))], [la ty (b 8) 2 (tw x y)], [la ty (b 9) 2 (tw (minsX J (upd r 4 (vk k9)) x) (minsY J (upd r 4 (vk k9)) y))]]) _ from hP) hD hS _ (lv_sub hl [0, 1, 2, 6, 7] rfl)
      exact lp 1002 0 (-99999999) 0 rt xt yt (rfl) (by decide) (Or.inl ⟨rfl, rfl⟩) _ _ (show va_P D vwCl (fl [[ob (b 0) 9 [.int 0, .ref (b 1), .int tn, .int sp, .ref (b 2), .ref (b 3), .ref (b 4), .ref (b 5), .int ac, .ref (b 6), .ref (b 7), .ref (b 8), .ref (b 9), .ref (b 10), .ref (b 11)]], [ia ty (b 3) 57 r], [ia ty (b 4) 57 rt], [la ty (b 8) 2 (tw x y)], [la ty (b 9) 2 (tw xt yt)]]) _ from hP) hD hS _ (lv_sub hl [0, 1, 2, 3, 4] rfl)
    · exact absurd (by decide) c_8
set_option maxHeartbeats 4000000 in
set_option maxRecDepth 100000 in
theorem c_X10_bestCorrection_n0 (l : Launch) (D : va_G) (ty : Nat → ClassId) (b : Nat → Nat) (rf tn sp ac : Int32) (v9 : Int32) (hc0 : ¬ inR v9 1 600) : CTi l yX10_bestCorrection wsX10_bestCorrection ({ frames := 1, cells := 0, slots := 0, locals := 25 }) D ty [.ref (b 0), .int v9] [[ob (b 0) 9 [.int rf, .ref (b 1), .int tn, .int sp, .ref (b 2), .ref (b 3), .ref (b 4), .ref (b 5), .int ac, .ref (b 6), .ref (b 7), .ref (b 8), .ref (b 9), .ref (b 10), .ref (b 11)]]] (fun (RET : Int32) (_ : Unit) => RET = 0) (fun (_ : Unit) => [[ob (b 0) 9 [.int 1, .ref (b 1), .int tn, .int sp, .ref (b 2), .ref (b 3), .ref (b 4), .ref (b 5), .int ac, .ref (b 6), .ref (b 7), .ref (b 8), .ref (b 9), .ref (b 10), .ref (b 11)]]]) := by
  refine CTi_of cX10_bestCorrection 8 (some .int) (by decide) rfl (Nat.le_of_ble_eq_true rfl) ?_
  intro p e s m args below meth c A hx hb hr hml hown hlocks hin hts hA hX hK hP hD ls hl
  have hown : s.vm.findClass RX10 = some m.cls := hown
  have hS : va_S A s.heap s.heap [] := va_S.rf
  have hl : lv_has ls 8 [(0, .ref (b 0)), (1, .int v9)] := hl
  refine lv_aload_n hx hb dX10_bestCorrection_0 rfl (lv_at hl 0 rfl) ?_
  refine lv_iload_n hx hb dX10_bestCorrection_1 rfl (lv_at hl 1 rfl) ?_
  refine lv_i2l (v := (Int32.toInt64 v9)) hx hb dX10_bestCorrection_2 rfl ?_
  refine lv_lconst (v := 1) hx hb dX10_bestCorrection_3 (by decide) ?_
  refine lv_ldc2 hx hb hown (hts (Cond.constantLong RX10 185 (600)) (List.mem_of_getElem? (i := 1) rfl)) dX10_bestCorrection_4 ?_
  refine cSi (As := [.long (Int32.toInt64 v9), .long 1, .long 600]) (rest := [.ref (b 0)]) ⟨hx, hb, hml, hown, hts⟩ (c_X10_in l D ty (Int32.toInt64 v9) 1 600) (va_cwS 3 hts gX10_bestCorrection_X10_in rfl rfl rfl (by decide +kernel) ⟨Nat.le_of_ble_eq_true rfl, Nat.le_of_ble_eq_true rfl⟩) hK hX hP hD hS hA (pk (bs := [[ob (b 0) 9 [.int rf, .ref (b 1), .int tn, .int sp, .ref (b 2), .ref (b 3), .ref (b 4), .ref (b 5), .int ac, .ref (b 6), .ref (b 7), .ref (b 8), .ref (b 9), .ref (b 10), .ref (b 11)]]]) (bsc := []) (bsr := [[ob (b 0) 9 [.int rf, .ref (b 1), .int tn, .int sp, .ref (b 2), .ref (b 3), .ref (b 4), .ref (b 5), .int ac, .ref (b 6), .ref (b 7), .ref (b 8), .ref (b 9), .ref (b 10), .ref (b 11)]]]) [] [0] 1 rfl (by decide +kernel) rfl rfl) rfl hl.1 rfl (Nat.le_of_ble_eq_true rfl) dX10_bestCorrection_7 ⟨Nat.le_of_ble_eq_true rfl, Nat.le_of_ble_eq_true rfl⟩ (fun r_2 u_1 h_3 H locs hP hD hS => ?_)
  have h_3 : r_2 = (inv (Int32.toInt64 v9) 1 600) := h_3
  subst h_3
  have hP : va_P D vwCl (fl [[ob (b 0) 9 [.int rf, .ref (b 1), .int tn, .int sp, .ref (b 2), .ref (b 3), .ref (b 4), .ref (b 5), .int ac, .ref (b 6), .ref (b 7), .ref (b 8), .ref (b 9), .ref (b 10), .ref (b 11)]]]) H := P_perm (po (bs := [[ob (b 0) 9 [.int rf, .ref (b 1), .int tn, .int sp, .ref (b 2), .ref (b 3), .ref (b 4), .ref (b 5), .int ac, .ref (b 6), .ref (b 7), .ref (b 8), .ref (b 9), .ref (b 10), .ref (b 11)]]]) [0] 1 rfl (by decide +kernel) rfl) hP
  have hD : va_D A (fl [[ob (b 0) 9 [.int rf, .ref (b 1), .int tn, .int sp, .ref (b 2), .ref (b 3), .ref (b 4), .ref (b 5), .int ac, .ref (b 6), .ref (b 7), .ref (b 8), .ref (b 9), .ref (b 10), .ref (b 11)]]]) := D_perm (po (bs := [[ob (b 0) 9 [.int rf, .ref (b 1), .int tn, .int sp, .ref (b 2), .ref (b 3), .ref (b 4), .ref (b 5), .int ac, .ref (b 6), .ref (b 7), .ref (b 8), .ref (b 9), .ref (b 10), .ref (b 11)]]]) [0] 1 rfl (by decide +kernel) rfl) hD
  refine lv_if_eq (tgt := 17) hx hb dX10_bestCorrection_10 (by decide) (fun c_4 => ?_) (fun c_4 => ?_)
  · skip
    refine lv_iconst (v := 1) hx hb dX10_bestCorrection_17 (by decide) ?_
    refine cVi (As := [.int 1]) (rest := []) ⟨hx, hb, hml, hown, hts⟩ (c_X10_refused1 l D ty b rf tn sp ac 1 (by decide)) (cwV 1 hts gX10_bestCorrection_X10_refused rfl rfl rfl (by decide +kernel) ⟨Nat.le_of_ble_eq_true rfl, Nat.le_of_ble_eq_true rfl⟩) hK hX hP hD hS hA (pk (bs := [[ob (b 0) 9 [.int rf, .ref (b 1), .int tn, .int sp, .ref (b 2), .ref (b 3), .ref (b 4), .ref (b 5), .int ac, .ref (b 6), .ref (b 7), .ref (b 8), .ref (b 9), .ref (b 10), .ref (b 11)]]]) (bsc := [[ob (b 0) 9 [.int rf, .ref (b 1), .int tn, .int sp, .ref (b 2), .ref (b 3), .ref (b 4), .ref (b 5), .int ac, .ref (b 6), .ref (b 7), .ref (b 8), .ref (b 9), .ref (b 10), .ref (b 11)]]]) (bsr := []) [0] [] 1 rfl (by decide +kernel) rfl rfl) (ci := 9) rfl 0 rfl rfl hl.1 rfl (Nat.le_of_ble_eq_true rfl) dX10_bestCorrection_18 ⟨Nat.le_of_ble_eq_true rfl, Nat.le_of_ble_eq_true rfl⟩ (fun r_6 u_5 h_7 H locs hP hD hS => ?_)
    have h_7 : r_6 = 1 := h_7
    subst h_7
    have hP : va_P D vwCl (fl [[ob (b 0) 9 [.int 1, .ref (b 1), .int tn, .int sp, .ref (b 2), .ref (b 3), .ref (b 4), .ref (b 5), .int ac, .ref (b 6), .ref (b 7), .ref (b 8), .ref (b 9), .ref (b 10), .ref (b 11)]]]) H := P_perm (po (bs := [[ob (b 0) 9 [.int 1, .ref (b 1), .int tn, .int sp, .ref (b 2), .ref (b 3), .ref (b 4), .ref (b 5), .int ac, .ref (b 6), .ref (b 7), .ref (b 8), .ref (b 9), .ref (b 10), .ref (b 11)]]]) [0] 1 rfl (by decide +kernel) rfl) hP
    have hD : va_D A (fl [[ob (b 0) 9 [.int 1, .ref (b 1), .int tn, .int sp, .ref (b 2), .ref (b 3), .ref (b 4), .ref (b 5), .int ac, .ref (b 6), .ref (b 7), .ref (b 8), .ref (b 9), .ref (b 10), .ref (b 11)]]]) := D_perm (po (bs := [[ob (b 0) 9 [.int 1, .ref (b 1), .int tn, .int sp, .ref (b 2), .ref (b 3), .ref (b 4), .ref (b 5), .int ac, .ref (b 6), .ref (b 7), .ref (b 8), .ref (b 9), .ref (b 10), .ref (b 11)]]]) [0] 1 rfl (by decide +kernel) rfl) hD
    refine lv_if_eq (tgt := 26) hx hb dX10_bestCorrection_21 (by decide) (fun c_8 => ?_) (fun c_8 => ?_)
    · exact absurd c_8 (by decide)
    · skip
      refine lv_iconst (v := 0) hx hb dX10_bestCorrection_24 (by decide) ?_
      have hP : va_P D vwCl (fl [[ob (b 0) 9 [.int 1, .ref (b 1), .int tn, .int sp, .ref (b 2), .ref (b 3), .ref (b 4), .ref (b 5), .int ac, .ref (b 6), .ref (b 7), .ref (b 8), .ref (b 9), .ref (b 10), .ref (b 11)]]]) H := hP
      have hD : va_D A (fl [[ob (b 0) 9 [.int 1, .ref (b 1), .int tn, .int sp, .ref (b 2), .ref (b 3), .ref (b 4), .ref (b 5), .int ac, .ref (b 6), .ref (b 7), .ref (b 8), .ref (b 9), .ref (b 10), .ref (b 11)]]]) := hD
      exact end_i (bs' := (fun (_ : Unit) => [[ob (b 0) 9 [.int 1, .ref (b 1), .int tn, .int sp, .ref (b 2), .ref (b 3), .ref (b 4), .ref (b 5), .int ac, .ref (b 6), .ref (b 7), .ref (b 8), .ref (b 9), .ref (b 10), .ref (b 11)]]])) () hx hb hr hlocks hP hD hS (by first | rfl | decide | simp [c_4, c_8]) (Nat.le_of_ble_eq_true rfl) (Nat.le_of_ble_eq_true rfl) dX10_bestCorrection_25
  · first | exact absurd c_4 (invR_n hc0 (by decide +kernel) (by decide +kernel)) | exact absurd (invR_n hc0 (by decide +kernel) (by decide +kernel)) c_4
