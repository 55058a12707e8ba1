set_option maxHeartbeats 4000000 in
set_option maxRecDepth 100000 in
theorem c_X10_minuteOn (l : Launch) (D : va_G) (ty : Nat → ClassId) (q t9 : Nat) (r : Nat → Int32) (x y : Int64) : CTi l yX10_minuteOn wsX10_minuteOn ({ frames := 3, cells := 0, slots := 0, locals := 66 }) D ty [.ref q, .ref t9] [[ia ty q 57 r], [la ty t9 2 (tw x y)]] (fun (RET : Int32) (_ : Unit) => RET = (pdues r)) (fun (_ : Unit) => [[ia ty q 57 (pminute r)], [la ty t9 2 (tw (minX r x) (minY r y))]]) := by
  refine CTi_of cX10_minuteOn 7 (some .int) (by decide) rfl (Nat.le_of_ble_eq_true rfl) ?_
  intro p e s m args below meth c A hx hb hr hml hown hlocks hin hts hA hX hK hP hD ls hl
  have hown : s.vm.findClass RX10 = some m.cls := hown
  have hS : va_S A s.heap s.heap [] := va_S.rf
  have hl : lv_has ls 7 [(0, .ref q), (1, .ref t9)] := hl
  generalize hQg : MQ below (va_Qi (fun (RET : Int32) (_ : Unit) => RET = (pdues r)) (PostW D (fun (_ : Unit) => [[ia ty q 57 (pminute r)], [la ty t9 2 (tw (minX r x) (minY r y))]]) A) A) args s 0 0 A = Qg
  refine lv_aload_n hx hb dX10_minuteOn_0 rfl (lv_at hl 0 rfl) ?_
  refine cSi (As := [.ref q]) (rest := []) ⟨hx, hb, hml, hown, hts⟩ (c_X10_domainOf l D ty q r) (va_cwS 1 hts gX10_minuteOn_X10_domainOf rfl rfl rfl (by decide +kernel) ⟨Nat.le_of_ble_eq_true rfl, Nat.le_of_ble_eq_true rfl⟩) hK hX hP hD hS hA (pk (bs := [[ia ty q 57 r], [la ty t9 2 (tw x y)]]) (bsc := [[ia ty q 57 r]]) (bsr := [[la ty t9 2 (tw x y)]]) [0] [1] 2 rfl (by decide +kernel) rfl rfl) rfl hl.1 rfl (Nat.le_of_ble_eq_true rfl) dX10_minuteOn_1 ⟨Nat.le_of_ble_eq_true rfl, Nat.le_of_ble_eq_true rfl⟩ (fun r_2 u_1 h_3 H locs hP hD hS => ?_)
  have h_3 : r_2 = (pdom r) := h_3
  subst h_3
  have hP : va_P D vwCl (fl [[ia ty q 57 r], [la ty t9 2 (tw x y)]]) H := P_perm (po (bs := [[ia ty q 57 r], [la ty t9 2 (tw x y)]]) [0, 1] 2 rfl (by decide +kernel) rfl) hP
  have hD : va_D A (fl [[ia ty q 57 r], [la ty t9 2 (tw x y)]]) := D_perm (po (bs := [[ia ty q 57 r], [la ty t9 2 (tw x y)]]) [0, 1] 2 rfl (by decide +kernel) rfl) hD
  refine lv_istore_n (lv' := [(2, .int (pdom r)), (0, .ref q), (1, .ref t9)]) hx hb dX10_minuteOn_4 rfl hl (by decide) rfl (fun ls hl => ?_)
  refine lv_aload_n hx hb dX10_minuteOn_5 rfl (lv_at hl 1 rfl) ?_
  refine lv_iconst (v := 0) hx hb dX10_minuteOn_6 (by decide) ?_
  refine lv_dup2_11 hx hb dX10_minuteOn_7 rfl rfl ?_
  refine k_iald hx hb hK hP 0 rfl 0 rfl (by decide) (Nat.le_of_ble_eq_true rfl) (v := r 0) rfl dX10_minuteOn_8 ?_
  refine lv_iconst (v := 1) hx hb dX10_minuteOn_9 (by decide) ?_
  refine k_iadd (v := ((r 0) + 1)) hx hb dX10_minuteOn_10 rfl ?_
  refine k_iast hx hb hK hP hD hS 0 rfl 0 rfl (by decide) (Nat.le_of_ble_eq_true rfl) dX10_minuteOn_11 (fun H locs hP hD hS => ?_)
  have hP : va_P D vwCl (fl [[ia ty q 57 (upd r 0 ((r 0) + 1))], [la ty t9 2 (tw x y)]]) H := hP
  have hD : va_D A (fl [[ia ty q 57 (upd r 0 ((r 0) + 1))], [la ty t9 2 (tw x y)]]) := hD
  refine lv_aload_n hx hb dX10_minuteOn_12 rfl (lv_at hl 1 rfl) ?_
  refine lv_bipush (v := 12) hx hb dX10_minuteOn_13 (by decide) ?_
  refine lv_iload_n hx hb dX10_minuteOn_15 rfl (lv_at hl 0 rfl) ?_
  refine k_iadd (v := (12 + (pdom r))) hx hb dX10_minuteOn_16 rfl ?_
  refine lv_dup2_11 hx hb dX10_minuteOn_17 rfl rfl ?_
  refine k_iald hx hb hK hP 0 rfl (12 + (pdom r).toNatClampNeg) (dom_12 r) (by have h9 := domv_lt (r 6) (r 7); show 12 + (domv (r 6) (r 7)).toNatClampNeg < 57; omega) (Nat.le_of_ble_eq_true rfl) (v := (upd r 0 ((r 0) + 1)) (12 + (pdom r).toNatClampNeg)) rfl dX10_minuteOn_18 ?_
  refine lv_iconst (v := 1) hx hb dX10_minuteOn_19 (by decide) ?_
  refine k_iadd (v := (((upd r 0 ((r 0) + 1)) (12 + (pdom r).toNatClampNeg)) + 1)) hx hb dX10_minuteOn_20 rfl ?_
  refine k_iast hx hb hK hP hD hS 0 rfl (12 + (pdom r).toNatClampNeg) (dom_12 r) (by have h9 := domv_lt (r 6) (r 7); show 12 + (domv (r 6) (r 7)).toNatClampNeg < 57; omega) (Nat.le_of_ble_eq_true rfl) dX10_minuteOn_21 (fun H locs hP hD hS => ?_)
  have hP : va_P D vwCl (fl [[ia ty q 57 (upd (upd r 0 ((r 0) + 1)) (12 + (pdom r).toNatClampNeg) (((upd r 0 ((r 0) + 1)) (12 + (pdom r).toNatClampNeg)) + 1))], [la ty t9 2 (tw x y)]]) H := hP
  have hD : va_D A (fl [[ia ty q 57 (upd (upd r 0 ((r 0) + 1)) (12 + (pdom r).toNatClampNeg) (((upd r 0 ((r 0) + 1)) (12 + (pdom r).toNatClampNeg)) + 1))], [la ty t9 2 (tw x y)]]) := hD
  have hP : va_P D vwCl (fl [[ia ty q 57 (pspent r)], [la ty t9 2 (tw x y)]]) H := P_at 0 (at_ia (fun k _ => congrFun (spent_eq r) k)) rfl rfl hP
  have hD : va_D A (fl [[ia ty q 57 (pspent r)], [la ty t9 2 (tw x y)]]) := (D_same2 hD [q, t9] rfl rfl)
  refine lv_iload_n hx hb dX10_minuteOn_22 rfl (lv_at hl 0 rfl) ?_
  refine lv_iconst (v := 1) hx hb dX10_minuteOn_23 (by decide) ?_
  refine lv_icmp_eq (tgt := 32) hx hb dX10_minuteOn_24 (by decide) (fun c_4 => ?_) (fun c_4 => ?_)
  · skip
    have hd12 : pdom r = 1 ∨ pdom r = 2 := Or.inl c_4
    refine lv_aload_n hx hb dX10_minuteOn_32 rfl (lv_at hl 1 rfl) ?_
    refine lv_aload_n hx hb dX10_minuteOn_33 rfl (lv_at hl 1 rfl) ?_
    refine lv_bipush (v := 7) hx hb dX10_minuteOn_34 (by decide) ?_
    refine k_iald hx hb hK hP 0 rfl 7 rfl (by decide) (Nat.le_of_ble_eq_true rfl) (v := (pspent r) 7) rfl dX10_minuteOn_36 ?_
    refine lv_iconst (v := 1) hx hb dX10_minuteOn_37 (by decide) ?_
    refine k_isub (v := (((pspent r) 7) - 1)) hx hb dX10_minuteOn_38 rfl ?_
    refine cSv (As := [.ref q, .int (((pspent r) 7) - 1)]) (rest := []) ⟨hx, hb, hml, hown, hts⟩ (c_X10_chargeOn l D ty q (((pspent r) 7) - 1) (pspent r)) (va_cwS 2 hts gX10_minuteOn_X10_chargeOn rfl rfl rfl (by decide +kernel) ⟨Nat.le_of_ble_eq_true rfl, Nat.le_of_ble_eq_true rfl⟩) hK hX hP hD hS hA (pk (bs := [[ia ty q 57 (pspent r)], [la ty t9 2 (tw x y)]]) (bsc := [[ia ty q 57 (pspent r)]]) (bsr := [[la ty t9 2 (tw x y)]]) [0] [1] 2 rfl (by decide +kernel) rfl rfl) rfl hl.1 rfl (Nat.le_of_ble_eq_true rfl) dX10_minuteOn_39 ⟨Nat.le_of_ble_eq_true rfl, Nat.le_of_ble_eq_true rfl⟩ (fun u_5 h_7 H locs hP hD hS => ?_)
    have hP : va_P D vwCl (fl [[ia ty q 57 (pcharge (((pspent r) 7) - 1) (pspent r))], [la ty t9 2 (tw x y)]]) H := P_perm (po (bs := [[ia ty q 57 (pcharge (((pspent r) 7) - 1) (pspent r))], [la ty t9 2 (tw x y)]]) [0, 1] 2 rfl (by decide +kernel) rfl) hP
    have hD : va_D A (fl [[ia ty q 57 (pcharge (((pspent r) 7) - 1) (pspent r))], [la ty t9 2 (tw x y)]]) := D_perm (po (bs := [[ia ty q 57 (pcharge (((pspent r) 7) - 1) (pspent r))], [la ty t9 2 (tw x y)]]) [0, 1] 2 rfl (by decide +kernel) rfl) hD
    have hP : va_P D vwCl (fl [[ia ty q 57 (pm2 r)], [la ty t9 2 (tw x y)]]) H := P_at 0 (at_ia (fun k _ => congrFun ((congrArg (fun z => pcharge (z - 1) (pspent r)) (pspent_7 r).1).trans (pm2_A hd12)) k)) rfl rfl hP
    have hD : va_D A (fl [[ia ty q 57 (pm2 r)], [la ty t9 2 (tw x y)]]) := (D_same2 hD [q, t9] rfl rfl)
    refine lv_aload_n hx hb dX10_minuteOn_42 rfl (lv_at hl 1 rfl) ?_
    refine cSi (As := [.ref q]) (rest := []) ⟨hx, hb, hml, hown, hts⟩ (c_X10_domainOf l D ty q (pm2 r)) (va_cwS 1 hts gX10_minuteOn_X10_domainOf rfl rfl rfl (by decide +kernel) ⟨Nat.le_of_ble_eq_true rfl, Nat.le_of_ble_eq_true rfl⟩) hK hX hP hD hS hA (pk (bs := [[ia ty q 57 (pm2 r)], [la ty t9 2 (tw x y)]]) (bsc := [[ia ty q 57 (pm2 r)]]) (bsr := [[la ty t9 2 (tw x y)]]) [0] [1] 2 rfl (by decide +kernel) rfl rfl) rfl hl.1 rfl (Nat.le_of_ble_eq_true rfl) dX10_minuteOn_43 ⟨Nat.le_of_ble_eq_true rfl, Nat.le_of_ble_eq_true rfl⟩ (fun r_9 u_8 h_10 H locs hP hD hS => ?_)
    have h_10 : r_9 = (pdom (pm2 r)) := h_10
    subst h_10
    have hP : va_P D vwCl (fl [[ia ty q 57 (pm2 r)], [la ty t9 2 (tw x y)]]) H := P_perm (po (bs := [[ia ty q 57 (pm2 r)], [la ty t9 2 (tw x y)]]) [0, 1] 2 rfl (by decide +kernel) rfl) hP
    have hD : va_D A (fl [[ia ty q 57 (pm2 r)], [la ty t9 2 (tw x y)]]) := D_perm (po (bs := [[ia ty q 57 (pm2 r)], [la ty t9 2 (tw x y)]]) [0, 1] 2 rfl (by decide +kernel) rfl) hD
    refine lv_iconst (v := 3) hx hb dX10_minuteOn_46 (by decide) ?_
    refine lv_icmp_ne (tgt := 52) hx hb dX10_minuteOn_47 (by decide) (fun c_11 => ?_) (fun c_11 => ?_)
    · skip
      refine lv_aload_n hx hb dX10_minuteOn_52 rfl (lv_at hl 1 rfl) ?_
      refine lv_iconst (v := 1) hx hb dX10_minuteOn_53 (by decide) ?_
      refine k_iald hx hb hK hP 0 rfl 1 rfl (by decide) (Nat.le_of_ble_eq_true rfl) (v := (pm2 r) 1) rfl dX10_minuteOn_54 ?_
      refine lv_bipush (v := 60) hx hb dX10_minuteOn_55 (by decide) ?_
      refine k_idiv (v := (((pm2 r) 1) / 60)) hx hb dX10_minuteOn_57 (by decide) rfl ?_
      refine lv_istore_n (lv' := [(3, .int (((pm2 r) 1) / 60)), (2, .int (pdom r)), (0, .ref q), (1, .ref t9)]) hx hb dX10_minuteOn_58 rfl hl (by decide) rfl (fun ls hl => ?_)
      refine lv_aload_n hx hb dX10_minuteOn_59 rfl (lv_at hl 2 rfl) ?_
      refine lv_aload_n hx hb dX10_minuteOn_60 rfl (lv_at hl 3 rfl) ?_
      refine cSv (As := [.ref q, .ref t9]) (rest := []) ⟨hx, hb, hml, hown, hts⟩ (c_X10_clockOn l D ty q t9 (pm2 r) x y) (va_cwS 2 hts gX10_minuteOn_X10_clockOn rfl rfl rfl (by decide +kernel) ⟨Nat.le_of_ble_eq_true rfl, Nat.le_of_ble_eq_true rfl⟩) hK hX hP hD hS hA (pk (bs := [[ia ty q 57 (pm2 r)], [la ty t9 2 (tw x y)]]) (bsc := [[ia ty q 57 (pm2 r)], [la ty t9 2 (tw x y)]]) (bsr := []) [0, 1] [] 2 rfl (by decide +kernel) rfl rfl) rfl hl.1 rfl (Nat.le_of_ble_eq_true rfl) dX10_minuteOn_61 ⟨Nat.le_of_ble_eq_true rfl, Nat.le_of_ble_eq_true rfl⟩ (fun u_12 h_14 H locs hP hD hS => ?_)
      have hP : va_P D vwCl (fl [[ia ty q 57 (pclock (pm2 r))], [la ty t9 2 (tw (x + Int32.toInt64 (((pm2 r) 4) * 60)) (y + Int32.toInt64 ((((pm2 r) 3) - ((pm2 r) 4)) * 60)))]]) H := P_perm (po (bs := [[ia ty q 57 (pclock (pm2 r))], [la ty t9 2 (tw (x + Int32.toInt64 (((pm2 r) 4) * 60)) (y + Int32.toInt64 ((((pm2 r) 3) - ((pm2 r) 4)) * 60)))]]) [0, 1] 2 rfl (by decide +kernel) rfl) hP
      have hD : va_D A (fl [[ia ty q 57 (pclock (pm2 r))], [la ty t9 2 (tw (x + Int32.toInt64 (((pm2 r) 4) * 60)) (y + Int32.toInt64 ((((pm2 r) 3) - ((pm2 r) 4)) * 60)))]]) := D_perm (po (bs := [[ia ty q 57 (pclock (pm2 r))], [la ty t9 2 (tw (x + Int32.toInt64 (((pm2 r) 4) * 60)) (y + Int32.toInt64 ((((pm2 r) 3) - ((pm2 r) 4)) * 60)))]]) [0, 1] 2 rfl (by decide +kernel) rfl) hD
      refine lv_aload_n hx hb dX10_minuteOn_64 rfl (lv_at hl 2 rfl) ?_
      refine lv_iconst (v := 1) hx hb dX10_minuteOn_65 (by decide) ?_
      refine k_iald hx hb hK hP 0 rfl 1 rfl (by decide) (Nat.le_of_ble_eq_true rfl) (v := (pclock (pm2 r)) 1) rfl dX10_minuteOn_66 ?_
      refine lv_bipush (v := 60) hx hb dX10_minuteOn_67 (by decide) ?_
      refine k_idiv (v := (((pclock (pm2 r)) 1) / 60)) hx hb dX10_minuteOn_69 (by decide) rfl ?_
      refine lv_istore (lv' := [(4, .int (((pclock (pm2 r)) 1) / 60)), (3, .int (((pm2 r) 1) / 60)), (2, .int (pdom r)), (0, .ref q), (1, .ref t9)]) hx hb dX10_minuteOn_70 hl (by decide) rfl (fun ls hl => ?_)
      refine lv_iconst (v := 0) hx hb dX10_minuteOn_72 (by decide) ?_
      refine lv_istore (lv' := [(5, .int 0), (4, .int (((pclock (pm2 r)) 1) / 60)), (3, .int (((pm2 r) 1) / 60)), (2, .int (pdom r)), (0, .ref q), (1, .ref t9)]) hx hb dX10_minuteOn_73 hl (by decide) rfl (fun ls hl => ?_)
      refine lv_iconst (v := 0) hx hb dX10_minuteOn_75 (by decide) ?_
      refine lv_istore (lv' := [(6, .int 0), (5, .int 0), (4, .int (((pclock (pm2 r)) 1) / 60)), (3, .int (((pm2 r) 1) / 60)), (2, .int (pdom r)), (0, .ref q), (1, .ref t9)]) hx hb dX10_minuteOn_76 hl (by decide) rfl (fun ls hl => ?_)
      have hit78_4 : ∀ (r1 : Nat → Int32) (acc : Int32), (pdueFrom (pm2 r 1 / 60) (pclock (pm2 r) 1 / 60) 0 4 r1 = pgo (pm2 r)) → (duesFrom (pm2 r 1 / 60) (pclock (pm2 r) 1 / 60) 0 4 r1 acc = pdues r) → (r1 6 = r 6) → ∀ (H : Heap) (locs : List Loc), va_P D vwCl (fl [[ia ty q 57 r1], [la ty t9 2 (tw (x + Int32.toInt64 ((pm2 r 4) * 60)) (y + Int32.toInt64 (((pm2 r 3) - (pm2 r 4)) * 60)))]]) H → va_D A (fl [[ia ty q 57 r1], [la ty t9 2 (tw (x + Int32.toInt64 ((pm2 r 4) * 60)) (y + Int32.toInt64 (((pm2 r 3) - (pm2 r 4)) * 60)))]]) → va_S A s.heap H locs → ∀ ls : Array Slot, lv_has ls 7 [(6, .int 4), (5, .int acc), (0, .ref q), (1, .ref t9), (2, .int (pdom r)), (3, .int ((pm2 r 1) / 60)), (4, .int ((pclock (pm2 r) 1) / 60))] → W p l e ({ frames := 3, cells := 0, slots := 0, locals := 66 } : Room) s m args below meth c H locs 0 0 Qg (F0 m 78 ls []) := by
        intro r1 acc hT hB h6 H locs hP hD hS ls hl
        refine lv_iload hx hb dX10_minuteOn_78 (lv_at hl 0 rfl) ?_
        refine lv_iconst (v := 4) hx hb dX10_minuteOn_80 (by decide) ?_
        refine lv_icmp_ge (tgt := 136) hx hb dX10_minuteOn_81 (by decide) (fun c_15 => ?_) (fun c_15 => ?_)
        · skip
          refine lv_iload hx hb dX10_minuteOn_136 (lv_at hl 1 rfl) ?_
          subst hQg
          have hP : va_P D vwCl (fl [[ia ty q 57 (pminute r)], [la ty t9 2 (tw (minX r x) (minY r y))]]) H := by
            have hT : r1 = pgo (pm2 r) := hT
            rw [show pminute r = pgo (pm2 r) from if_neg c_11, show minX r x = _ from if_neg c_11, show minY r y = _ from if_neg c_11, ← hT]; exact hP
          have hD : va_D A (fl [[ia ty q 57 (pminute r)], [la ty t9 2 (tw (minX r x) (minY r y))]]) := (D_same2 hD [q, t9] rfl rfl)
          exact end_i (bs' := (fun (_ : Unit) => [[ia ty q 57 (pminute r)], [la ty t9 2 (tw (minX r x) (minY r y))]])) () hx hb hr hlocks hP hD hS hB (Nat.le_of_ble_eq_true rfl) (Nat.le_of_ble_eq_true rfl) dX10_minuteOn_138
        · exact absurd (by decide) c_15
      have hit78_3 : ∀ (r1 : Nat → Int32) (acc : Int32), (pdueFrom (pm2 r 1 / 60) (pclock (pm2 r) 1 / 60) 1 3 r1 = pgo (pm2 r)) → (duesFrom (pm2 r 1 / 60) (pclock (pm2 r) 1 / 60) 1 3 r1 acc = pdues r) → (r1 6 = r 6) → ∀ (H : Heap) (locs : List Loc), va_P D vwCl (fl [[ia ty q 57 r1], [la ty t9 2 (tw (x + Int32.toInt64 ((pm2 r 4) * 60)) (y + Int32.toInt64 (((pm2 r 3) - (pm2 r 4)) * 60)))]]) H → va_D A (fl [[ia ty q 57 r1], [la ty t9 2 (tw (x + Int32.toInt64 ((pm2 r 4) * 60)) (y + Int32.toInt64 (((pm2 r 3) - (pm2 r 4)) * 60)))]]) → va_S A s.heap H locs → ∀ ls : Array Slot, lv_has ls 7 [(6, .int 3), (5, .int acc), (0, .ref q), (1, .ref t9), (2, .int (pdom r)), (3, .int ((pm2 r 1) / 60)), (4, .int ((pclock (pm2 r) 1) / 60))] → W p l e ({ frames := 3, cells := 0, slots := 0, locals := 66 } : Room) s m args below meth c H locs 0 0 Qg (F0 m 78 ls []) := by
        intro r1 acc hT hB h6 H locs hP hD hS ls hl
        refine lv_iload hx hb dX10_minuteOn_78 (lv_at hl 0 rfl) ?_
        refine lv_iconst (v := 4) hx hb dX10_minuteOn_80 (by decide) ?_
        refine lv_icmp_ge (tgt := 136) hx hb dX10_minuteOn_81 (by decide) (fun c_16 => ?_) (fun c_16 => ?_)
        · exact absurd c_16 (by decide)
        · skip
          refine lv_aload_n hx hb dX10_minuteOn_84 rfl (lv_at hl 2 rfl) ?_
          refine lv_iload hx hb dX10_minuteOn_85 (lv_at hl 0 rfl) ?_
          refine lv_iload_n hx hb dX10_minuteOn_87 rfl (lv_at hl 5 rfl) ?_
          refine lv_iload hx hb dX10_minuteOn_88 (lv_at hl 6 rfl) ?_
          refine cSi (As := [.ref q, .int 3, .int ((pm2 r 1) / 60), .int ((pclock (pm2 r) 1) / 60)]) (rest := []) ⟨hx, hb, hml, hown, hts⟩ (c_X10_isDue l D ty q 3 ((pm2 r 1) / 60) ((pclock (pm2 r) 1) / 60) r1 (by omega) (div60_le _) (div60_le _)) (va_cwS 4 hts gX10_minuteOn_X10_isDue rfl rfl rfl (by decide +kernel) ⟨Nat.le_of_ble_eq_true rfl, Nat.le_of_ble_eq_true rfl⟩) hK hX hP hD hS hA (pk (bs := [[ia ty q 57 r1], [la ty t9 2 (tw (x + Int32.toInt64 ((pm2 r 4) * 60)) (y + Int32.toInt64 (((pm2 r 3) - (pm2 r 4)) * 60)))]]) (bsc := [[ia ty q 57 r1]]) (bsr := [[la ty t9 2 (tw (x + Int32.toInt64 ((pm2 r 4) * 60)) (y + Int32.toInt64 (((pm2 r 3) - (pm2 r 4)) * 60)))]]) [0] [1] 2 rfl (by decide +kernel) rfl rfl) rfl hl.1 rfl (Nat.le_of_ble_eq_true rfl) dX10_minuteOn_90 ⟨Nat.le_of_ble_eq_true rfl, Nat.le_of_ble_eq_true rfl⟩ (fun r_18 u_17 h_19 H locs hP hD hS => ?_)
          have h_19 : r_18 = (due ((pm2 r 1) / 60) ((pclock (pm2 r) 1) / 60) (r1 (27 + 3 * 3))) := h_19
          subst h_19
          have hP : va_P D vwCl (fl [[ia ty q 57 r1], [la ty t9 2 (tw (x + Int32.toInt64 ((pm2 r 4) * 60)) (y + Int32.toInt64 (((pm2 r 3) - (pm2 r 4)) * 60)))]]) H := P_perm (po (bs := [[ia ty q 57 r1], [la ty t9 2 (tw (x + Int32.toInt64 ((pm2 r 4) * 60)) (y + Int32.toInt64 (((pm2 r 3) - (pm2 r 4)) * 60)))]]) [0, 1] 2 rfl (by decide +kernel) rfl) hP
          have hD : va_D A (fl [[ia ty q 57 r1], [la ty t9 2 (tw (x + Int32.toInt64 ((pm2 r 4) * 60)) (y + Int32.toInt64 (((pm2 r 3) - (pm2 r 4)) * 60)))]]) := D_perm (po (bs := [[ia ty q 57 r1], [la ty t9 2 (tw (x + Int32.toInt64 ((pm2 r 4) * 60)) (y + Int32.toInt64 (((pm2 r 3) - (pm2 r 4)) * 60)))]]) [0, 1] 2 rfl (by decide +kernel) rfl) hD
          refine lv_if_eq (tgt := 130) hx hb dX10_minuteOn_93 (by decide) (fun c_20 => ?_) (fun c_20 => ?_)
          · skip
            refine lv_iinc (v := 4) (lv' := [(6, .int 4), (5, .int acc), (0, .ref q), (1, .ref t9), (2, .int (pdom r)), (3, .int ((pm2 r 1) / 60)), (4, .int ((pclock (pm2 r) 1) / 60))]) hx hb dX10_minuteOn_130 hl (k := 0) rfl (by decide) (by decide) rfl (fun ls hl => ?_)
            refine lv_goto (tgt := 78) hx hb dX10_minuteOn_133 (by decide) ?_
            exact hit78_4 r1 acc (by rw [← hT]; show pdueFrom _ _ _ _ r1 = pdueFrom _ _ _ _ (pdueStep _ _ 3 r1); rw [show pdueStep (pm2 r 1 / 60) (pclock (pm2 r) 1 / 60) 3 r1 = r1 from if_neg (show ¬ due (pm2 r 1 / 60) (pclock (pm2 r) 1 / 60) (r1 (27 + 3 * 3)) = 1 from fun q0 => absurd (q0.symm.trans c_20) (by decide))]) (by rw [← hB]; show duesFrom _ _ _ _ r1 acc = duesFrom _ _ _ _ (pdueStep _ _ 3 r1) (if _ then _ else _); rw [show pdueStep (pm2 r 1 / 60) (pclock (pm2 r) 1 / 60) 3 r1 = r1 from if_neg (show ¬ due (pm2 r 1 / 60) (pclock (pm2 r) 1 / 60) (r1 (27 + 3 * 3)) = 1 from fun q0 => absurd (q0.symm.trans c_20) (by decide)), if_neg (show ¬ due (pm2 r 1 / 60) (pclock (pm2 r) 1 / 60) (r1 (27 + 3 * 3)) = 1 from fun q0 => absurd (q0.symm.trans c_20) (by decide))]) (h6) _ _ (show va_P D vwCl (fl [[ia ty q 57 r1], [la ty t9 2 (tw (x + Int32.toInt64 ((pm2 r 4) * 60)) (y + Int32.toInt64 (((pm2 r 3) - (pm2 r 4)) * 60)))]]) _ from hP) hD hS _ (lv_sub hl [0, 1, 2, 3, 4, 5, 6] rfl)
          · skip
            refine lv_iload hx hb dX10_minuteOn_96 (lv_at hl 1 rfl) ?_
            refine lv_iconst (v := 1) hx hb dX10_minuteOn_98 (by decide) ?_
            refine lv_iload hx hb dX10_minuteOn_99 (lv_at hl 0 rfl) ?_
            refine W.eq (g2 := F0 m 101 ls [.int 3, .int 1, .int acc]) rfl ?_
            refine k_ishl (v := 8) hx hb dX10_minuteOn_101 (by decide) ?_
            refine k_ior (v := (acc ||| 8)) hx hb dX10_minuteOn_102 rfl ?_
            refine lv_istore (lv' := [(5, .int (acc ||| 8)), (6, .int 3), (0, .ref q), (1, .ref t9), (2, .int (pdom r)), (3, .int ((pm2 r 1) / 60)), (4, .int ((pclock (pm2 r) 1) / 60))]) hx hb dX10_minuteOn_103 hl (by decide) rfl (fun ls hl => ?_)
            refine lv_iload_n hx hb dX10_minuteOn_105 rfl (lv_at hl 4 rfl) ?_
            refine lv_if_ne (tgt := 118) hx hb dX10_minuteOn_106 (by decide) (fun c_21 => ?_) (fun c_21 => ?_)
            · skip
              refine lv_aload_n hx hb dX10_minuteOn_118 rfl (lv_at hl 2 rfl) ?_
              refine lv_bipush (v := 27) hx hb dX10_minuteOn_119 (by decide) ?_
              refine lv_iconst (v := 3) hx hb dX10_minuteOn_121 (by decide) ?_
              refine lv_iload hx hb dX10_minuteOn_122 (lv_at hl 1 rfl) ?_
              refine k_imul (v := 9) hx hb dX10_minuteOn_124 (by decide) ?_
              refine k_iadd (v := 36) hx hb dX10_minuteOn_125 (by decide) ?_
              refine lv_iconst (v := 1) hx hb dX10_minuteOn_126 (by decide) ?_
              refine k_iadd (v := 37) hx hb dX10_minuteOn_127 (by decide) ?_
              refine lv_iconst (v := 1) hx hb dX10_minuteOn_128 (by decide) ?_
              refine k_iast hx hb hK hP hD hS 0 rfl 37 rfl (by decide) (Nat.le_of_ble_eq_true rfl) dX10_minuteOn_129 (fun H locs hP hD hS => ?_)
              have hP : va_P D vwCl (fl [[ia ty q 57 (upd r1 37 1)], [la ty t9 2 (tw (x + Int32.toInt64 ((pm2 r 4) * 60)) (y + Int32.toInt64 (((pm2 r 3) - (pm2 r 4)) * 60)))]]) H := hP
              have hD : va_D A (fl [[ia ty q 57 (upd r1 37 1)], [la ty t9 2 (tw (x + Int32.toInt64 ((pm2 r 4) * 60)) (y + Int32.toInt64 (((pm2 r 3) - (pm2 r 4)) * 60)))]]) := hD
              refine lv_iinc (v := 4) (lv' := [(6, .int 4), (5, .int (acc ||| 8)), (0, .ref q), (1, .ref t9), (2, .int (pdom r)), (3, .int ((pm2 r 1) / 60)), (4, .int ((pclock (pm2 r) 1) / 60))]) hx hb dX10_minuteOn_130 hl (k := 1) rfl (by decide) (by decide) rfl (fun ls hl => ?_)
              refine lv_goto (tgt := 78) hx hb dX10_minuteOn_133 (by decide) ?_
              exact hit78_4 (upd r1 37 1) (acc ||| 8) (by rw [← hT]; show pdueFrom _ _ _ _ _ = pdueFrom _ _ _ _ (pdueStep _ _ 3 r1); rw [show pdueStep (pm2 r 1 / 60) (pclock (pm2 r) 1 / 60) 3 r1 = (upd r1 37 1) from (if_pos ((due_or _ _ _).resolve_left c_20 : due (pm2 r 1 / 60) (pclock (pm2 r) 1 / 60) (r1 (27 + 3 * 3)) = 1)).trans (if_neg (fun q0 => c_21 ((dom_iff h6).mpr q0)))]) (by rw [← hB]; show duesFrom _ _ _ _ _ _ = duesFrom _ _ _ _ (pdueStep _ _ 3 r1) (if _ then _ else _); rw [show pdueStep (pm2 r 1 / 60) (pclock (pm2 r) 1 / 60) 3 r1 = (upd r1 37 1) from (if_pos ((due_or _ _ _).resolve_left c_20 : due (pm2 r 1 / 60) (pclock (pm2 r) 1 / 60) (r1 (27 + 3 * 3)) = 1)).trans (if_neg (fun q0 => c_21 ((dom_iff h6).mpr q0))), if_pos ((due_or _ _ _).resolve_left c_20 : due (pm2 r 1 / 60) (pclock (pm2 r) 1 / 60) (r1 (27 + 3 * 3)) = 1)]; rfl) (h6) _ _ (show va_P D vwCl (fl [[ia ty q 57 (upd r1 37 1)], [la ty t9 2 (tw (x + Int32.toInt64 ((pm2 r 4) * 60)) (y + Int32.toInt64 (((pm2 r 3) - (pm2 r 4)) * 60)))]]) _ from hP) hD hS _ (lv_sub hl [0, 1, 2, 3, 4, 5, 6] rfl)
            · skip
              refine lv_aload_n hx hb dX10_minuteOn_109 rfl (lv_at hl 2 rfl) ?_
              refine lv_iload hx hb dX10_minuteOn_110 (lv_at hl 1 rfl) ?_
              refine cSv (As := [.ref q, .int 3]) (rest := []) ⟨hx, hb, hml, hown, hts⟩ (c_X10_ring l D ty q 3 r1 (by omega)) (va_cwS 2 hts gX10_minuteOn_X10_ring rfl rfl rfl (by decide +kernel) ⟨Nat.le_of_ble_eq_true rfl, Nat.le_of_ble_eq_true rfl⟩) hK hX hP hD hS hA (pk (bs := [[ia ty q 57 r1], [la ty t9 2 (tw (x + Int32.toInt64 ((pm2 r 4) * 60)) (y + Int32.toInt64 (((pm2 r 3) - (pm2 r 4)) * 60)))]]) (bsc := [[ia ty q 57 r1]]) (bsr := [[la ty t9 2 (tw (x + Int32.toInt64 ((pm2 r 4) * 60)) (y + Int32.toInt64 (((pm2 r 3) - (pm2 r 4)) * 60)))]]) [0] [1] 2 rfl (by decide +kernel) rfl rfl) rfl hl.1 rfl (Nat.le_of_ble_eq_true rfl) dX10_minuteOn_112 ⟨Nat.le_of_ble_eq_true rfl, Nat.le_of_ble_eq_true rfl⟩ (fun u_22 h_24 H locs hP hD hS => ?_)
              have hP : va_P D vwCl (fl [[ia ty q 57 (pring 3 r1)], [la ty t9 2 (tw (x + Int32.toInt64 ((pm2 r 4) * 60)) (y + Int32.toInt64 (((pm2 r 3) - (pm2 r 4)) * 60)))]]) H := P_perm (po (bs := [[ia ty q 57 (pring 3 r1)], [la ty t9 2 (tw (x + Int32.toInt64 ((pm2 r 4) * 60)) (y + Int32.toInt64 (((pm2 r 3) - (pm2 r 4)) * 60)))]]) [0, 1] 2 rfl (by decide +kernel) rfl) hP
              have hD : va_D A (fl [[ia ty q 57 (pring 3 r1)], [la ty t9 2 (tw (x + Int32.toInt64 ((pm2 r 4) * 60)) (y + Int32.toInt64 (((pm2 r 3) - (pm2 r 4)) * 60)))]]) := D_perm (po (bs := [[ia ty q 57 (pring 3 r1)], [la ty t9 2 (tw (x + Int32.toInt64 ((pm2 r 4) * 60)) (y + Int32.toInt64 (((pm2 r 3) - (pm2 r 4)) * 60)))]]) [0, 1] 2 rfl (by decide +kernel) rfl) hD
              refine lv_goto (tgt := 130) hx hb dX10_minuteOn_115 (by decide) ?_
              refine lv_iinc (v := 4) (lv' := [(6, .int 4), (5, .int (acc ||| 8)), (0, .ref q), (1, .ref t9), (2, .int (pdom r)), (3, .int ((pm2 r 1) / 60)), (4, .int ((pclock (pm2 r) 1) / 60))]) hx hb dX10_minuteOn_130 hl (k := 1) rfl (by decide) (by decide) rfl (fun ls hl => ?_)
              refine lv_goto (tgt := 78) hx hb dX10_minuteOn_133 (by decide) ?_
              exact hit78_4 (pring 3 r1) (acc ||| 8) (by rw [← hT]; show pdueFrom _ _ _ _ _ = pdueFrom _ _ _ _ (pdueStep _ _ 3 r1); rw [show pdueStep (pm2 r 1 / 60) (pclock (pm2 r) 1 / 60) 3 r1 = (pring 3 r1) from (if_pos ((due_or _ _ _).resolve_left c_20 : due (pm2 r 1 / 60) (pclock (pm2 r) 1 / 60) (r1 (27 + 3 * 3)) = 1)).trans (if_pos ((dom_iff h6).mp c_21))]) (by rw [← hB]; show duesFrom _ _ _ _ _ _ = duesFrom _ _ _ _ (pdueStep _ _ 3 r1) (if _ then _ else _); rw [show pdueStep (pm2 r 1 / 60) (pclock (pm2 r) 1 / 60) 3 r1 = (pring 3 r1) from (if_pos ((due_or _ _ _).resolve_left c_20 : due (pm2 r 1 / 60) (pclock (pm2 r) 1 / 60) (r1 (27 + 3 * 3)) = 1)).trans (if_pos ((dom_iff h6).mp c_21)), if_pos ((due_or _ _ _).resolve_left c_20 : due (pm2 r 1 / 60) (pclock (pm2 r) 1 / 60) (r1 (27 + 3 * 3)) = 1)]; rfl) (h6) _ _ (show va_P D vwCl (fl [[ia ty q 57 (pring 3 r1)], [la ty t9 2 (tw (x + Int32.toInt64 ((pm2 r 4) * 60)) (y + Int32.toInt64 (((pm2 r 3) - (pm2 r 4)) * 60)))]]) _ from hP) hD hS _ (lv_sub hl [0, 1, 2, 3, 4, 5, 6] rfl)
      have hit78_2 : ∀ (r1 : Nat → Int32) (acc : Int32), (pdueFrom (pm2 r 1 / 60) (pclock (pm2 r) 1 / 60) 2 2 r1 = pgo (pm2 r)) → (duesFrom (pm2 r 1 / 60) (pclock (pm2 r) 1 / 60) 2 2 r1 acc = pdues r) → (r1 6 = r 6) → ∀ (H : Heap) (locs : List Loc), va_P D vwCl (fl [[ia ty q 57 r1], [la ty t9 2 (tw (x + Int32.toInt64 ((pm2 r 4) * 60)) (y + Int32.toInt64 (((pm2 r 3) - (pm2 r 4)) * 60)))]]) H → va_D A (fl [[ia ty q 57 r1], [la ty t9 2 (tw (x + Int32.toInt64 ((pm2 r 4) * 60)) (y + Int32.toInt64 (((pm2 r 3) - (pm2 r 4)) * 60)))]]) → va_S A s.heap H locs → ∀ ls : Array Slot, lv_has ls 7 [(6, .int 2), (5, .int acc), (0, .ref q), (1, .ref t9), (2, .int (pdom r)), (3, .int ((pm2 r 1) / 60)), (4, .int ((pclock (pm2 r) 1) / 60))] → W p l e ({ frames := 3, cells := 0, slots := 0, locals := 66 } : Room) s m args below meth c H locs 0 0 Qg (F0 m 78 ls []) := by
        intro r1 acc hT hB h6 H locs hP hD hS ls hl
        refine lv_iload hx hb dX10_minuteOn_78 (lv_at hl 0 rfl) ?_
        refine lv_iconst (v := 4) hx hb dX10_minuteOn_80 (by decide) ?_
        refine lv_icmp_ge (tgt := 136) hx hb dX10_minuteOn_81 (by decide) (fun c_25 => ?_) (fun c_25 => ?_)
        · exact absurd c_25 (by decide)
        · skip
          refine lv_aload_n hx hb dX10_minuteOn_84 rfl (lv_at hl 2 rfl) ?_
          refine lv_iload hx hb dX10_minuteOn_85 (lv_at hl 0 rfl) ?_
          refine lv_iload_n hx hb dX10_minuteOn_87 rfl (lv_at hl 5 rfl) ?_
          refine lv_iload hx hb dX10_minuteOn_88 (lv_at hl 6 rfl) ?_
          refine cSi (As := [.ref q, .int 2, .int ((pm2 r 1) / 60), .int ((pclock (pm2 r) 1) / 60)]) (rest := []) ⟨hx, hb, hml, hown, hts⟩ (c_X10_isDue l D ty q 2 ((pm2 r 1) / 60) ((pclock (pm2 r) 1) / 60) r1 (by omega) (div60_le _) (div60_le _)) (va_cwS 4 hts gX10_minuteOn_X10_isDue rfl rfl rfl (by decide +kernel) ⟨Nat.le_of_ble_eq_true rfl, Nat.le_of_ble_eq_true rfl⟩) hK hX hP hD hS hA (pk (bs := [[ia ty q 57 r1], [la ty t9 2 (tw (x + Int32.toInt64 ((pm2 r 4) * 60)) (y + Int32.toInt64 (((pm2 r 3) - (pm2 r 4)) * 60)))]]) (bsc := [[ia ty q 57 r1]]) (bsr := [[la ty t9 2 (tw (x + Int32.toInt64 ((pm2 r 4) * 60)) (y + Int32.toInt64 (((pm2 r 3) - (pm2 r 4)) * 60)))]]) [0] [1] 2 rfl (by decide +kernel) rfl rfl) rfl hl.1 rfl (Nat.le_of_ble_eq_true rfl) dX10_minuteOn_90 ⟨Nat.le_of_ble_eq_true rfl, Nat.le_of_ble_eq_true rfl⟩ (fun r_27 u_26 h_28 H locs hP hD hS => ?_)
          have h_28 : r_27 = (due ((pm2 r 1) / 60) ((pclock (pm2 r) 1) / 60) (r1 (27 + 3 * 2))) := h_28
          subst h_28
          have hP : va_P D vwCl (fl [[ia ty q 57 r1], [la ty t9 2 (tw (x + Int32.toInt64 ((pm2 r 4) * 60)) (y + Int32.toInt64 (((pm2 r 3) - (pm2 r 4)) * 60)))]]) H := P_perm (po (bs := [[ia ty q 57 r1], [la ty t9 2 (tw (x + Int32.toInt64 ((pm2 r 4) * 60)) (y + Int32.toInt64 (((pm2 r 3) - (pm2 r 4)) * 60)))]]) [0, 1] 2 rfl (by decide +kernel) rfl) hP
          have hD : va_D A (fl [[ia ty q 57 r1], [la ty t9 2 (tw (x + Int32.toInt64 ((pm2 r 4) * 60)) (y + Int32.toInt64 (((pm2 r 3) - (pm2 r 4)) * 60)))]]) := D_perm (po (bs := [[ia ty q 57 r1], [la ty t9 2 (tw (x + Int32.toInt64 ((pm2 r 4) * 60)) (y + Int32.toInt64 (((pm2 r 3) - (pm2 r 4)) * 60)))]]) [0, 1] 2 rfl (by decide +kernel) rfl) hD
          refine lv_if_eq (tgt := 130) hx hb dX10_minuteOn_93 (by decide) (fun c_29 => ?_) (fun c_29 => ?_)
          · skip
            refine lv_iinc (v := 3) (lv' := [(6, .int 3), (5, .int acc), (0, .ref q), (1, .ref t9), (2, .int (pdom r)), (3, .int ((pm2 r 1) / 60)), (4, .int ((pclock (pm2 r) 1) / 60))]) hx hb dX10_minuteOn_130 hl (k := 0) rfl (by decide) (by decide) rfl (fun ls hl => ?_)
            refine lv_goto (tgt := 78) hx hb dX10_minuteOn_133 (by decide) ?_
            exact hit78_3 r1 acc (by rw [← hT]; show pdueFrom _ _ _ _ r1 = pdueFrom _ _ _ _ (pdueStep _ _ 2 r1); rw [show pdueStep (pm2 r 1 / 60) (pclock (pm2 r) 1 / 60) 2 r1 = r1 from if_neg (show ¬ due (pm2 r 1 / 60) (pclock (pm2 r) 1 / 60) (r1 (27 + 3 * 2)) = 1 from fun q0 => absurd (q0.symm.trans c_29) (by decide))]) (by rw [← hB]; show duesFrom _ _ _ _ r1 acc = duesFrom _ _ _ _ (pdueStep _ _ 2 r1) (if _ then _ else _); rw [show pdueStep (pm2 r 1 / 60) (pclock (pm2 r) 1 / 60) 2 r1 = r1 from if_neg (show ¬ due (pm2 r 1 / 60) (pclock (pm2 r) 1 / 60) (r1 (27 + 3 * 2)) = 1 from fun q0 => absurd (q0.symm.trans c_29) (by decide)), if_neg (show ¬ due (pm2 r 1 / 60) (pclock (pm2 r) 1 / 60) (r1 (27 + 3 * 2)) = 1 from fun q0 => absurd (q0.symm.trans c_29) (by decide))]) (h6) _ _ (show va_P D vwCl (fl [[ia ty q 57 r1], [la ty t9 2 (tw (x + Int32.toInt64 ((pm2 r 4) * 60)) (y + Int32.toInt64 (((pm2 r 3) - (pm2 r 4)) * 60)))]]) _ from hP) hD hS _ (lv_sub hl [0, 1, 2, 3, 4, 5, 6] rfl)
          · skip
            refine lv_iload hx hb dX10_minuteOn_96 (lv_at hl 1 rfl) ?_
            refine lv_iconst (v := 1) hx hb dX10_minuteOn_98 (by decide) ?_
            refine lv_iload hx hb dX10_minuteOn_99 (lv_at hl 0 rfl) ?_
            refine W.eq (g2 := F0 m 101 ls [.int 2, .int 1, .int acc]) rfl ?_
            refine k_ishl (v := 4) hx hb dX10_minuteOn_101 (by decide) ?_
            refine k_ior (v := (acc ||| 4)) hx hb dX10_minuteOn_102 rfl ?_
            refine lv_istore (lv' := [(5, .int (acc ||| 4)), (6, .int 2), (0, .ref q), (1, .ref t9), (2, .int (pdom r)), (3, .int ((pm2 r 1) / 60)), (4, .int ((pclock (pm2 r) 1) / 60))]) hx hb dX10_minuteOn_103 hl (by decide) rfl (fun ls hl => ?_)
            refine lv_iload_n hx hb dX10_minuteOn_105 rfl (lv_at hl 4 rfl) ?_
            refine lv_if_ne (tgt := 118) hx hb dX10_minuteOn_106 (by decide) (fun c_30 => ?_) (fun c_30 => ?_)
            · skip
              refine lv_aload_n hx hb dX10_minuteOn_118 rfl (lv_at hl 2 rfl) ?_
              refine lv_bipush (v := 27) hx hb dX10_minuteOn_119 (by decide) ?_
              refine lv_iconst (v := 3) hx hb dX10_minuteOn_121 (by decide) ?_
              refine lv_iload hx hb dX10_minuteOn_122 (lv_at hl 1 rfl) ?_
              refine k_imul (v := 6) hx hb dX10_minuteOn_124 (by decide) ?_
              refine k_iadd (v := 33) hx hb dX10_minuteOn_125 (by decide) ?_
              refine lv_iconst (v := 1) hx hb dX10_minuteOn_126 (by decide) ?_
              refine k_iadd (v := 34) hx hb dX10_minuteOn_127 (by decide) ?_
              refine lv_iconst (v := 1) hx hb dX10_minuteOn_128 (by decide) ?_
              refine k_iast hx hb hK hP hD hS 0 rfl 34 rfl (by decide) (Nat.le_of_ble_eq_true rfl) dX10_minuteOn_129 (fun H locs hP hD hS => ?_)
              have hP : va_P D vwCl (fl [[ia ty q 57 (upd r1 34 1)], [la ty t9 2 (tw (x + Int32.toInt64 ((pm2 r 4) * 60)) (y + Int32.toInt64 (((pm2 r 3) - (pm2 r 4)) * 60)))]]) H := hP
              have hD : va_D A (fl [[ia ty q 57 (upd r1 34 1)], [la ty t9 2 (tw (x + Int32.toInt64 ((pm2 r 4) * 60)) (y + Int32.toInt64 (((pm2 r 3) - (pm2 r 4)) * 60)))]]) := hD
              refine lv_iinc (v := 3) (lv' := [(6, .int 3), (5, .int (acc ||| 4)), (0, .ref q), (1, .ref t9), (2, .int (pdom r)), (3, .int ((pm2 r 1) / 60)), (4, .int ((pclock (pm2 r) 1) / 60))]) hx hb dX10_minuteOn_130 hl (k := 1) rfl (by decide) (by decide) rfl (fun ls hl => ?_)
              refine lv_goto (tgt := 78) hx hb dX10_minuteOn_133 (by decide) ?_
              exact hit78_3 (upd r1 34 1) (acc ||| 4) (by rw [← hT]; show pdueFrom _ _ _ _ _ = pdueFrom _ _ _ _ (pdueStep _ _ 2 r1); rw [show pdueStep (pm2 r 1 / 60) (pclock (pm2 r) 1 / 60) 2 r1 = (upd r1 34 1) from (if_pos ((due_or _ _ _).resolve_left c_29 : due (pm2 r 1 / 60) (pclock (pm2 r) 1 / 60) (r1 (27 + 3 * 2)) = 1)).trans (if_neg (fun q0 => c_30 ((dom_iff h6).mpr q0)))]) (by rw [← hB]; show duesFrom _ _ _ _ _ _ = duesFrom _ _ _ _ (pdueStep _ _ 2 r1) (if _ then _ else _); rw [show pdueStep (pm2 r 1 / 60) (pclock (pm2 r) 1 / 60) 2 r1 = (upd r1 34 1) from (if_pos ((due_or _ _ _).resolve_left c_29 : due (pm2 r 1 / 60) (pclock (pm2 r) 1 / 60) (r1 (27 + 3 * 2)) = 1)).trans (if_neg (fun q0 => c_30 ((dom_iff h6).mpr q0))), if_pos ((due_or _ _ _).resolve_left c_29 : due (pm2 r 1 / 60) (pclock (pm2 r) 1 / 60) (r1 (27 + 3 * 2)) = 1)]; rfl) (h6) _ _ (show va_P D vwCl (fl [[ia ty q 57 (upd r1 34 1)], [la ty t9 2 (tw (x + Int32.toInt64 ((pm2 r 4) * 60)) (y + Int32.toInt64 (((pm2 r 3) - (pm2 r 4)) * 60)))]]) _ from hP) hD hS _ (lv_sub hl [0, 1, 2, 3, 4, 5, 6] rfl)
            · skip
              refine lv_aload_n hx hb dX10_minuteOn_109 rfl (lv_at hl 2 rfl) ?_
              refine lv_iload hx hb dX10_minuteOn_110 (lv_at hl 1 rfl) ?_
              refine cSv (As := [.ref q, .int 2]) (rest := []) ⟨hx, hb, hml, hown, hts⟩ (c_X10_ring l D ty q 2 r1 (by omega)) (va_cwS 2 hts gX10_minuteOn_X10_ring rfl rfl rfl (by decide +kernel) ⟨Nat.le_of_ble_eq_true rfl, Nat.le_of_ble_eq_true rfl⟩) hK hX hP hD hS hA (pk (bs := [[ia ty q 57 r1], [la ty t9 2 (tw (x + Int32.toInt64 ((pm2 r 4) * 60)) (y + Int32.toInt64 (((pm2 r 3) - (pm2 r 4)) * 60)))]]) (bsc := [[ia ty q 57 r1]]) (bsr := [[la ty t9 2 (tw (x + Int32.toInt64 ((pm2 r 4) * 60)) (y + Int32.toInt64 (((pm2 r 3) - (pm2 r 4)) * 60)))]]) [0] [1] 2 rfl (by decide +kernel) rfl rfl) rfl hl.1 rfl (Nat.le_of_ble_eq_true rfl) dX10_minuteOn_112 ⟨Nat.le_of_ble_eq_true rfl, Nat.le_of_ble_eq_true rfl⟩ (fun u_31 h_33 H locs hP hD hS => ?_)
              have hP : va_P D vwCl (fl [[ia ty q 57 (pring 2 r1)], [la ty t9 2 (tw (x + Int32.toInt64 ((pm2 r 4) * 60)) (y + Int32.toInt64 (((pm2 r 3) - (pm2 r 4)) * 60)))]]) H := P_perm (po (bs := [[ia ty q 57 (pring 2 r1)], [la ty t9 2 (tw (x + Int32.toInt64 ((pm2 r 4) * 60)) (y + Int32.toInt64 (((pm2 r 3) - (pm2 r 4)) * 60)))]]) [0, 1] 2 rfl (by decide +kernel) rfl) hP
              have hD : va_D A (fl [[ia ty q 57 (pring 2 r1)], [la ty t9 2 (tw (x + Int32.toInt64 ((pm2 r 4) * 60)) (y + Int32.toInt64 (((pm2 r 3) - (pm2 r 4)) * 60)))]]) := D_perm (po (bs := [[ia ty q 57 (pring 2 r1)], [la ty t9 2 (tw (x + Int32.toInt64 ((pm2 r 4) * 60)) (y + Int32.toInt64 (((pm2 r 3) - (pm2 r 4)) * 60)))]]) [0, 1] 2 rfl (by decide +kernel) rfl) hD
              refine lv_goto (tgt := 130) hx hb dX10_minuteOn_115 (by decide) ?_
              refine lv_iinc (v := 3) (lv' := [(6, .int 3), (5, .int (acc ||| 4)), (0, .ref q), (1, .ref t9), (2, .int (pdom r)), (3, .int ((pm2 r 1) / 60)), (4, .int ((pclock (pm2 r) 1) / 60))]) hx hb dX10_minuteOn_130 hl (k := 1) rfl (by decide) (by decide) rfl (fun ls hl => ?_)
              refine lv_goto (tgt := 78) hx hb dX10_minuteOn_133 (by decide) ?_
              exact hit78_3 (pring 2 r1) (acc ||| 4) (by rw [← hT]; show pdueFrom _ _ _ _ _ = pdueFrom _ _ _ _ (pdueStep _ _ 2 r1); rw [show pdueStep (pm2 r 1 / 60) (pclock (pm2 r) 1 / 60) 2 r1 = (pring 2 r1) from (if_pos ((due_or _ _ _).resolve_left c_29 : due (pm2 r 1 / 60) (pclock (pm2 r) 1 / 60) (r1 (27 + 3 * 2)) = 1)).trans (if_pos ((dom_iff h6).mp c_30))]) (by rw [← hB]; show duesFrom _ _ _ _ _ _ = duesFrom _ _ _ _ (pdueStep _ _ 2 r1) (if _ then _ else _); rw [show pdueStep (pm2 r 1 / 60) (pclock (pm2 r) 1 / 60) 2 r1 = (pring 2 r1) from (if_pos ((due_or _ _ _).resolve_left c_29 : due (pm2 r 1 / 60) (pclock (pm2 r) 1 / 60) (r1 (27 + 3 * 2)) = 1)).trans (if_pos ((dom_iff h6).mp c_30)), if_pos ((due_or _ _ _).resolve_left c_29 : due (pm2 r 1 / 60) (pclock (pm2 r) 1 / 60) (r1 (27 + 3 * 2)) = 1)]; rfl) (h6) _ _ (show va_P D vwCl (fl [[ia ty q 57 (pring 2 r1)], [la ty t9 2 (tw (x + Int32.toInt64 ((pm2 r 4) * 60)) (y + Int32.toInt64 (((pm2 r 3) - (pm2 r 4)) * 60)))]]) _ from hP) hD hS _ (lv_sub hl [0, 1, 2, 3, 4, 5, 6] rfl)
      have hit78_1 : ∀ (r1 : Nat → Int32) (acc : Int32), (pdueFrom (pm2 r 1 / 60) (pclock (pm2 r) 1 / 60) 3 1 r1 = pgo (pm2 r)) → (duesFrom (pm2 r 1 / 60) (pclock (pm2 r) 1 / 60) 3 1 r1 acc = pdues r) → (r1 6 = r 6) → ∀ (H : Heap) (locs : List Loc), va_P D vwCl (fl [[ia ty q 57 r1], [la ty t9 2 (tw (x + Int32.toInt64 ((pm2 r 4) * 60)) (y + Int32.toInt64 (((pm2 r 3) - (pm2 r 4)) * 60)))]]) H → va_D A (fl [[ia ty q 57 r1], [la ty t9 2 (tw (x + Int32.toInt64 ((pm2 r 4) * 60)) (y + Int32.toInt64 (((pm2 r 3) - (pm2 r 4)) * 60)))]]) → va_S A s.heap H locs → ∀ ls : Array Slot, lv_has ls 7 [(6, .int 1), (5, .int acc), (0, .ref q), (1, .ref t9), (2, .int (pdom r)), (3, .int ((pm2 r 1) / 60)), (4, .int ((pclock (pm2 r) 1) / 60))] → W p l e ({ frames := 3, cells := 0, slots := 0, locals := 66 } : Room) s m args below meth c H locs 0 0 Qg (F0 m 78 ls []) := by
        intro r1 acc hT hB h6 H locs hP hD hS ls hl
        refine lv_iload hx hb dX10_minuteOn_78 (lv_at hl 0 rfl) ?_
        refine lv_iconst (v := 4) hx hb dX10_minuteOn_80 (by decide) ?_
        refine lv_icmp_ge (tgt := 136) hx hb dX10_minuteOn_81 (by decide) (fun c_34 => ?_) (fun c_34 => ?_)
        · exact absurd c_34 (by decide)
        · skip
          refine lv_aload_n hx hb dX10_minuteOn_84 rfl (lv_at hl 2 rfl) ?_
          refine lv_iload hx hb dX10_minuteOn_85 (lv_at hl 0 rfl) ?_
          refine lv_iload_n hx hb dX10_minuteOn_87 rfl (lv_at hl 5 rfl) ?_
          refine lv_iload hx hb dX10_minuteOn_88 (lv_at hl 6 rfl) ?_
          refine cSi (As := [.ref q, .int 1, .int ((pm2 r 1) / 60), .int ((pclock (pm2 r) 1) / 60)]) (rest := []) ⟨hx, hb, hml, hown, hts⟩ (c_X10_isDue l D ty q 1 ((pm2 r 1) / 60) ((pclock (pm2 r) 1) / 60) r1 (by omega) (div60_le _) (div60_le _)) (va_cwS 4 hts gX10_minuteOn_X10_isDue rfl rfl rfl (by decide +kernel) ⟨Nat.le_of_ble_eq_true rfl, Nat.le_of_ble_eq_true rfl⟩) hK hX hP hD hS hA (pk (bs := [[ia ty q 57 r1], [la ty t9 2 (tw (x + Int32.toInt64 ((pm2 r 4) * 60)) (y + Int32.toInt64 (((pm2 r 3) - (pm2 r 4)) * 60)))]]) (bsc := [[ia ty q 57 r1]]) (bsr := [[la ty t9 2 (tw (x + Int32.toInt64 ((pm2 r 4) * 60)) (y + Int32.toInt64 (((pm2 r 3) - (pm2 r 4)) * 60)))]]) [0] [1] 2 rfl (by decide +kernel) rfl rfl) rfl hl.1 rfl (Nat.le_of_ble_eq_true rfl) dX10_minuteOn_90 ⟨Nat.le_of_ble_eq_true rfl, Nat.le_of_ble_eq_true rfl⟩ (fun r_36 u_35 h_37 H locs hP hD hS => ?_)
          have h_37 : r_36 = (due ((pm2 r 1) / 60) ((pclock (pm2 r) 1) / 60) (r1 (27 + 3 * 1))) := h_37
          subst h_37
          have hP : va_P D vwCl (fl [[ia ty q 57 r1], [la ty t9 2 (tw (x + Int32.toInt64 ((pm2 r 4) * 60)) (y + Int32.toInt64 (((pm2 r 3) - (pm2 r 4)) * 60)))]]) H := P_perm (po (bs := [[ia ty q 57 r1], [la ty t9 2 (tw (x + Int32.toInt64 ((pm2 r 4) * 60)) (y + Int32.toInt64 (((pm2 r 3) - (pm2 r 4)) * 60)))]]) [0, 1] 2 rfl (by decide +kernel) rfl) hP
          have hD : va_D A (fl [[ia ty q 57 r1], [la ty t9 2 (tw (x + Int32.toInt64 ((pm2 r 4) * 60)) (y + Int32.toInt64 (((pm2 r 3) - (pm2 r 4)) * 60)))]]) := D_perm (po (bs := [[ia ty q 57 r1], [la ty t9 2 (tw (x + Int32.toInt64 ((pm2 r 4) * 60)) (y + Int32.toInt64 (((pm2 r 3) - (pm2 r 4)) * 60)))]]) [0, 1] 2 rfl (by decide +kernel) rfl) hD
          refine lv_if_eq (tgt := 130) hx hb dX10_minuteOn_93 (by decide) (fun c_38 => ?_) (fun c_38 => ?_)
          · skip
            refine lv_iinc (v := 2) (lv' := [(6, .int 2), (5, .int acc), (0, .ref q), (1, .ref t9), (2, .int (pdom r)), (3, .int ((pm2 r 1) / 60)), (4, .int ((pclock (pm2 r) 1) / 60))]) hx hb dX10_minuteOn_130 hl (k := 0) rfl (by decide) (by decide) rfl (fun ls hl => ?_)
            refine lv_goto (tgt := 78) hx hb dX10_minuteOn_133 (by decide) ?_
            exact hit78_2 r1 acc (by rw [← hT]; show pdueFrom _ _ _ _ r1 = pdueFrom _ _ _ _ (pdueStep _ _ 1 r1); rw [show pdueStep (pm2 r 1 / 60) (pclock (pm2 r) 1 / 60) 1 r1 = r1 from if_neg (show ¬ due (pm2 r 1 / 60) (pclock (pm2 r) 1 / 60) (r1 (27 + 3 * 1)) = 1 from fun q0 => absurd (q0.symm.trans c_38) (by decide))]) (by rw [← hB]; show duesFrom _ _ _ _ r1 acc = duesFrom _ _ _ _ (pdueStep _ _ 1 r1) (if _ then _ else _); rw [show pdueStep (pm2 r 1 / 60) (pclock (pm2 r) 1 / 60) 1 r1 = r1 from if_neg (show ¬ due (pm2 r 1 / 60) (pclock (pm2 r) 1 / 60) (r1 (27 + 3 * 1)) = 1 from fun q0 => absurd (q0.symm.trans c_38) (by decide)), if_neg (show ¬ due (pm2 r 1 / 60) (pclock (pm2 r) 1 / 60) (r1 (27 + 3 * 1)) = 1 from fun q0 => absurd (q0.symm.trans c_38) (by decide))]) (h6) _ _ (show va_P D vwCl (fl [[ia ty q 57 r1], [la ty t9 2 (tw (x + Int32.toInt64 ((pm2 r 4) * 60)) (y + Int32.toInt64 (((pm2 r 3) - (pm2 r 4)) * 60)))]]) _ from hP) hD hS _ (lv_sub hl [0, 1, 2, 3, 4, 5, 6] rfl)
          · skip
            refine lv_iload hx hb dX10_minuteOn_96 (lv_at hl 1 rfl) ?_
            refine lv_iconst (v := 1) hx hb dX10_minuteOn_98 (by decide) ?_
            refine lv_iload hx hb dX10_minuteOn_99 (lv_at hl 0 rfl) ?_
            refine W.eq (g2 := F0 m 101 ls [.int 1, .int 1, .int acc]) rfl ?_
            refine k_ishl (v := 2) hx hb dX10_minuteOn_101 (by decide) ?_
            refine k_ior (v := (acc ||| 2)) hx hb dX10_minuteOn_102 rfl ?_
            refine lv_istore (lv' := [(5, .int (acc ||| 2)), (6, .int 1), (0, .ref q), (1, .ref t9), (2, .int (pdom r)), (3, .int ((pm2 r 1) / 60)), (4, .int ((pclock (pm2 r) 1) / 60))]) hx hb dX10_minuteOn_103 hl (by decide) rfl (fun ls hl => ?_)
            refine lv_iload_n hx hb dX10_minuteOn_105 rfl (lv_at hl 4 rfl) ?_
            refine lv_if_ne (tgt := 118) hx hb dX10_minuteOn_106 (by decide) (fun c_39 => ?_) (fun c_39 => ?_)
            · skip
              refine lv_aload_n hx hb dX10_minuteOn_118 rfl (lv_at hl 2 rfl) ?_
              refine lv_bipush (v := 27) hx hb dX10_minuteOn_119 (by decide) ?_
              refine lv_iconst (v := 3) hx hb dX10_minuteOn_121 (by decide) ?_
              refine lv_iload hx hb dX10_minuteOn_122 (lv_at hl 1 rfl) ?_
              refine k_imul (v := 3) hx hb dX10_minuteOn_124 (by decide) ?_
              refine k_iadd (v := 30) hx hb dX10_minuteOn_125 (by decide) ?_
              refine lv_iconst (v := 1) hx hb dX10_minuteOn_126 (by decide) ?_
              refine k_iadd (v := 31) hx hb dX10_minuteOn_127 (by decide) ?_
              refine lv_iconst (v := 1) hx hb dX10_minuteOn_128 (by decide) ?_
              refine k_iast hx hb hK hP hD hS 0 rfl 31 rfl (by decide) (Nat.le_of_ble_eq_true rfl) dX10_minuteOn_129 (fun H locs hP hD hS => ?_)
              have hP : va_P D vwCl (fl [[ia ty q 57 (upd r1 31 1)], [la ty t9 2 (tw (x + Int32.toInt64 ((pm2 r 4) * 60)) (y + Int32.toInt64 (((pm2 r 3) - (pm2 r 4)) * 60)))]]) H := hP
              have hD : va_D A (fl [[ia ty q 57 (upd r1 31 1)], [la ty t9 2 (tw (x + Int32.toInt64 ((pm2 r 4) * 60)) (y + Int32.toInt64 (((pm2 r 3) - (pm2 r 4)) * 60)))]]) := hD
              refine lv_iinc (v := 2) (lv' := [(6, .int 2), (5, .int (acc ||| 2)), (0, .ref q), (1, .ref t9), (2, .int (pdom r)), (3, .int ((pm2 r 1) / 60)), (4, .int ((pclock (pm2 r) 1) / 60))]) hx hb dX10_minuteOn_130 hl (k := 1) rfl (by decide) (by decide) rfl (fun ls hl => ?_)
              refine lv_goto (tgt := 78) hx hb dX10_minuteOn_133 (by decide) ?_
              exact hit78_2 (upd r1 31 1) (acc ||| 2) (by rw [← hT]; show pdueFrom _ _ _ _ _ = pdueFrom _ _ _ _ (pdueStep _ _ 1 r1); rw [show pdueStep (pm2 r 1 / 60) (pclock (pm2 r) 1 / 60) 1 r1 = (upd r1 31 1) from (if_pos ((due_or _ _ _).resolve_left c_38 : due (pm2 r 1 / 60) (pclock (pm2 r) 1 / 60) (r1 (27 + 3 * 1)) = 1)).trans (if_neg (fun q0 => c_39 ((dom_iff h6).mpr q0)))]) (by rw [← hB]; show duesFrom _ _ _ _ _ _ = duesFrom _ _ _ _ (pdueStep _ _ 1 r1) (if _ then _ else _); rw [show pdueStep (pm2 r 1 / 60) (pclock (pm2 r) 1 / 60) 1 r1 = (upd r1 31 1) from (if_pos ((due_or _ _ _).resolve_left c_38 : due (pm2 r 1 / 60) (pclock (pm2 r) 1 / 60) (r1 (27 + 3 * 1)) = 1)).trans (if_neg (fun q0 => c_39 ((dom_iff h6).mpr q0))), if_pos ((due_or _ _ _).resolve_left c_38 : due (pm2 r 1 / 60) (pclock (pm2 r) 1 / 60) (r1 (27 + 3 * 1)) = 1)]; rfl) (h6) _ _ (show va_P D vwCl (fl [[ia ty q 57 (upd r1 31 1)], [la ty t9 2 (tw (x + Int32.toInt64 ((pm2 r 4) * 60)) (y + Int32.toInt64 (((pm2 r 3) - (pm2 r 4)) * 60)))]]) _ from hP) hD hS _ (lv_sub hl [0, 1, 2, 3, 4, 5, 6] rfl)
            · skip
              refine lv_aload_n hx hb dX10_minuteOn_109 rfl (lv_at hl 2 rfl) ?_
              refine lv_iload hx hb dX10_minuteOn_110 (lv_at hl 1 rfl) ?_
              refine cSv (As := [.ref q, .int 1]) (rest := []) ⟨hx, hb, hml, hown, hts⟩ (c_X10_ring l D ty q 1 r1 (by omega)) (va_cwS 2 hts gX10_minuteOn_X10_ring rfl rfl rfl (by decide +kernel) ⟨Nat.le_of_ble_eq_true rfl, Nat.le_of_ble_eq_true rfl⟩) hK hX hP hD hS hA (pk (bs := [[ia ty q 57 r1], [la ty t9 2 (tw (x + Int32.toInt64 ((pm2 r 4) * 60)) (y + Int32.toInt64 (((pm2 r 3) - (pm2 r 4)) * 60)))]]) (bsc := [[ia ty q 57 r1]]) (bsr := [[la ty t9 2 (tw (x + Int32.toInt64 ((pm2 r 4) * 60)) (y + Int32.toInt64 (((pm2 r 3) - (pm2 r 4)) * 60)))]]) [0] [1] 2 rfl (by decide +kernel) rfl rfl) rfl hl.1 rfl (Nat.le_of_ble_eq_true rfl) dX10_minuteOn_112 ⟨Nat.le_of_ble_eq_true rfl, Nat.le_of_ble_eq_true rfl⟩ (fun u_40 h_42 H locs hP hD hS => ?_)
              have hP : va_P D vwCl (fl [[ia ty q 57 (pring 1 r1)], [la ty t9 2 (tw (x + Int32.toInt64 ((pm2 r 4) * 60)) (y + Int32.toInt64 (((pm2 r 3) - (pm2 r 4)) * 60)))]]) H := P_perm (po (bs := [[ia ty q 57 (pring 1 r1)], [la ty t9 2 (tw (x + Int32.toInt64 ((pm2 r 4) * 60)) (y + Int32.toInt64 (((pm2 r 3) - (pm2 r 4)) * 60)))]]) [0, 1] 2 rfl (by decide +kernel) rfl) hP
              have hD : va_D A (fl [[ia ty q 57 (pring 1 r1)], [la ty t9 2 (tw (x + Int32.toInt64 ((pm2 r 4) * 60)) (y + Int32.toInt64 (((pm2 r 3) - (pm2 r 4)) * 60)))]]) := D_perm (po (bs := [[ia ty q 57 (pring 1 r1)], [la ty t9 2 (tw (x + Int32.toInt64 ((pm2 r 4) * 60)) (y + Int32.toInt64 (((pm2 r 3) - (pm2 r 4)) * 60)))]]) [0, 1] 2 rfl (by decide +kernel) rfl) hD
              refine lv_goto (tgt := 130) hx hb dX10_minuteOn_115 (by decide) ?_
              refine lv_iinc (v := 2) (lv' := [(6, .int 2), (5, .int (acc ||| 2)), (0, .ref q), (1, .ref t9), (2, .int (pdom r)), (3, .int ((pm2 r 1) / 60)), (4, .int ((pclock (pm2 r) 1) / 60))]) hx hb dX10_minuteOn_130 hl (k := 1) rfl (by decide) (by decide) rfl (fun ls hl => ?_)
              refine lv_goto (tgt := 78) hx hb dX10_minuteOn_133 (by decide) ?_
              exact hit78_2 (pring 1 r1) (acc ||| 2) (by rw [← hT]; show pdueFrom _ _ _ _ _ = pdueFrom _ _ _ _ (pdueStep _ _ 1 r1); rw [show pdueStep (pm2 r 1 / 60) (pclock (pm2 r) 1 / 60) 1 r1 = (pring 1 r1) from (if_pos ((due_or _ _ _).resolve_left c_38 : due (pm2 r 1 / 60) (pclock (pm2 r) 1 / 60) (r1 (27 + 3 * 1)) = 1)).trans (if_pos ((dom_iff h6).mp c_39))]) (by rw [← hB]; show duesFrom _ _ _ _ _ _ = duesFrom _ _ _ _ (pdueStep _ _ 1 r1) (if _ then _ else _); rw [show pdueStep (pm2 r 1 / 60) (pclock (pm2 r) 1 / 60) 1 r1 = (pring 1 r1) from (if_pos ((due_or _ _ _).resolve_left c_38 : due (pm2 r 1 / 60) (pclock (pm2 r) 1 / 60) (r1 (27 + 3 * 1)) = 1)).trans (if_pos ((dom_iff h6).mp c_39)), if_pos ((due_or _ _ _).resolve_left c_38 : due (pm2 r 1 / 60) (pclock (pm2 r) 1 / 60) (r1 (27 + 3 * 1)) = 1)]; rfl) (h6) _ _ (show va_P D vwCl (fl [[ia ty q 57 (pring 1 r1)], [la ty t9 2 (tw (x + Int32.toInt64 ((pm2 r 4) * 60)) (y + Int32.toInt64 (((pm2 r 3) - (pm2 r 4)) * 60)))]]) _ from hP) hD hS _ (lv_sub hl [0, 1, 2, 3, 4, 5, 6] rfl)
      have hit78_0 : ∀ (r1 : Nat → Int32) (acc : Int32), (pdueFrom (pm2 r 1 / 60) (pclock (pm2 r) 1 / 60) 4 0 r1 = pgo (pm2 r)) → (duesFrom (pm2 r 1 / 60) (pclock (pm2 r) 1 / 60) 4 0 r1 acc = pdues r) → (r1 6 = r 6) → ∀ (H : Heap) (locs : List Loc), va_P D vwCl (fl [[ia ty q 57 r1], [la ty t9 2 (tw (x + Int32.toInt64 ((pm2 r 4) * 60)) (y + Int32.toInt64 (((pm2 r 3) - (pm2 r 4)) * 60)))]]) H → va_D A (fl [[ia ty q 57 r1], [la ty t9 2 (tw (x + Int32.toInt64 ((pm2 r 4) * 60)) (y + Int32.toInt64 (((pm2 r 3) - (pm2 r 4)) * 60)))]]) → va_S A s.heap H locs → ∀ ls : Array Slot, lv_has ls 7 [(6, .int 0), (5, .int acc), (0, .ref q), (1, .ref t9), (2, .int (pdom r)), (3, .int ((pm2 r 1) / 60)), (4, .int ((pclock (pm2 r) 1) / 60))] → W p l e ({ frames := 3, cells := 0, slots := 0, locals := 66 } : Room) s m args below meth c H locs 0 0 Qg (F0 m 78 ls []) := by
        intro r1 acc hT hB h6 H locs hP hD hS ls hl
        refine lv_iload hx hb dX10_minuteOn_78 (lv_at hl 0 rfl) ?_
        refine lv_iconst (v := 4) hx hb dX10_minuteOn_80 (by decide) ?_
        refine lv_icmp_ge (tgt := 136) hx hb dX10_minuteOn_81 (by decide) (fun c_43 => ?_) (fun c_43 => ?_)
        · exact absurd c_43 (by decide)
        · skip
          refine lv_aload_n hx hb dX10_minuteOn_84 rfl (lv_at hl 2 rfl) ?_
          refine lv_iload hx hb dX10_minuteOn_85 (lv_at hl 0 rfl) ?_
          refine lv_iload_n hx hb dX10_minuteOn_87 rfl (lv_at hl 5 rfl) ?_
          refine lv_iload hx hb dX10_minuteOn_88 (lv_at hl 6 rfl) ?_
          refine cSi (As := [.ref q, .int 0, .int ((pm2 r 1) / 60), .int ((pclock (pm2 r) 1) / 60)]) (rest := []) ⟨hx, hb, hml, hown, hts⟩ (c_X10_isDue l D ty q 0 ((pm2 r 1) / 60) ((pclock (pm2 r) 1) / 60) r1 (by omega) (div60_le _) (div60_le _)) (va_cwS 4 hts gX10_minuteOn_X10_isDue rfl rfl rfl (by decide +kernel) ⟨Nat.le_of_ble_eq_true rfl, Nat.le_of_ble_eq_true rfl⟩) hK hX hP hD hS hA (pk (bs := [[ia ty q 57 r1], [la ty t9 2 (tw (x + Int32.toInt64 ((pm2 r 4) * 60)) (y + Int32.toInt64 (((pm2 r 3) - (pm2 r 4)) * 60)))]]) (bsc := [[ia ty q 57 r1]]) (bsr := [[la ty t9 2 (tw (x + Int32.toInt64 ((pm2 r 4) * 60)) (y + Int32.toInt64 (((pm2 r 3) - (pm2 r 4)) * 60)))]]) [0] [1] 2 rfl (by decide +kernel) rfl rfl) rfl hl.1 rfl (Nat.le_of_ble_eq_true rfl) dX10_minuteOn_90 ⟨Nat.le_of_ble_eq_true rfl, Nat.le_of_ble_eq_true rfl⟩ (fun r_45 u_44 h_46 H locs hP hD hS => ?_)
          have h_46 : r_45 = (due ((pm2 r 1) / 60) ((pclock (pm2 r) 1) / 60) (r1 (27 + 3 * 0))) := h_46
          subst h_46
          have hP : va_P D vwCl (fl [[ia ty q 57 r1], [la ty t9 2 (tw (x + Int32.toInt64 ((pm2 r 4) * 60)) (y + Int32.toInt64 (((pm2 r 3) - (pm2 r 4)) * 60)))]]) H := P_perm (po (bs := [[ia ty q 57 r1], [la ty t9 2 (tw (x + Int32.toInt64 ((pm2 r 4) * 60)) (y + Int32.toInt64 (((pm2 r 3) - (pm2 r 4)) * 60)))]]) [0, 1] 2 rfl (by decide +kernel) rfl) hP
          have hD : va_D A (fl [[ia ty q 57 r1], [la ty t9 2 (tw (x + Int32.toInt64 ((pm2 r 4) * 60)) (y + Int32.toInt64 (((pm2 r 3) - (pm2 r 4)) * 60)))]]) := D_perm (po (bs := [[ia ty q 57 r1], [la ty t9 2 (tw (x + Int32.toInt64 ((pm2 r 4) * 60)) (y + Int32.toInt64 (((pm2 r 3) - (pm2 r 4)) * 60)))]]) [0, 1] 2 rfl (by decide +kernel) rfl) hD
          refine lv_if_eq (tgt := 130) hx hb dX10_minuteOn_93 (by decide) (fun c_47 => ?_) (fun c_47 => ?_)
          · skip
            refine lv_iinc (v := 1) (lv' := [(6, .int 1), (5, .int acc), (0, .ref q), (1, .ref t9), (2, .int (pdom r)), (3, .int ((pm2 r 1) / 60)), (4, .int ((pclock (pm2 r) 1) / 60))]) hx hb dX10_minuteOn_130 hl (k := 0) rfl (by decide) (by decide) rfl (fun ls hl => ?_)
            refine lv_goto (tgt := 78) hx hb dX10_minuteOn_133 (by decide) ?_
            exact hit78_1 r1 acc (by rw [← hT]; show pdueFrom _ _ _ _ r1 = pdueFrom _ _ _ _ (pdueStep _ _ 0 r1); rw [show pdueStep (pm2 r 1 / 60) (pclock (pm2 r) 1 / 60) 0 r1 = r1 from if_neg (show ¬ due (pm2 r 1 / 60) (pclock (pm2 r) 1 / 60) (r1 (27 + 3 * 0)) = 1 from fun q0 => absurd (q0.symm.trans c_47) (by decide))]) (by rw [← hB]; show duesFrom _ _ _ _ r1 acc = duesFrom _ _ _ _ (pdueStep _ _ 0 r1) (if _ then _ else _); rw [show pdueStep (pm2 r 1 / 60) (pclock (pm2 r) 1 / 60) 0 r1 = r1 from if_neg (show ¬ due (pm2 r 1 / 60) (pclock (pm2 r) 1 / 60) (r1 (27 + 3 * 0)) = 1 from fun q0 => absurd (q0.symm.trans c_47) (by decide)), if_neg (show ¬ due (pm2 r 1 / 60) (pclock (pm2 r) 1 / 60) (r1 (27 + 3 * 0)) = 1 from fun q0 => absurd (q0.symm.trans c_47) (by decide))]) (h6) _ _ (show va_P D vwCl (fl [[ia ty q 57 r1], [la ty t9 2 (tw (x + Int32.toInt64 ((pm2 r 4) * 60)) (y + Int32.toInt64 (((pm2 r 3) - (pm2 r 4)) * 60)))]]) _ from hP) hD hS _ (lv_sub hl [0, 1, 2, 3, 4, 5, 6] rfl)
          · skip
            refine lv_iload hx hb dX10_minuteOn_96 (lv_at hl 1 rfl) ?_
            refine lv_iconst (v := 1) hx hb dX10_minuteOn_98 (by decide) ?_
            refine lv_iload hx hb dX10_minuteOn_99 (lv_at hl 0 rfl) ?_
            refine W.eq (g2 := F0 m 101 ls [.int 0, .int 1, .int acc]) rfl ?_
            refine k_ishl (v := 1) hx hb dX10_minuteOn_101 (by decide) ?_
            refine k_ior (v := (acc ||| 1)) hx hb dX10_minuteOn_102 rfl ?_
            refine lv_istore (lv' := [(5, .int (acc ||| 1)), (6, .int 0), (0, .ref q), (1, .ref t9), (2, .int (pdom r)), (3, .int ((pm2 r 1) / 60)), (4, .int ((pclock (pm2 r) 1) / 60))]) hx hb dX10_minuteOn_103 hl (by decide) rfl (fun ls hl => ?_)
            refine lv_iload_n hx hb dX10_minuteOn_105 rfl (lv_at hl 4 rfl) ?_
            refine lv_if_ne (tgt := 118) hx hb dX10_minuteOn_106 (by decide) (fun c_48 => ?_) (fun c_48 => ?_)
            · skip
              refine lv_aload_n hx hb dX10_minuteOn_118 rfl (lv_at hl 2 rfl) ?_
              refine lv_bipush (v := 27) hx hb dX10_minuteOn_119 (by decide) ?_
              refine lv_iconst (v := 3) hx hb dX10_minuteOn_121 (by decide) ?_
              refine lv_iload hx hb dX10_minuteOn_122 (lv_at hl 1 rfl) ?_
              refine k_imul (v := 0) hx hb dX10_minuteOn_124 (by decide) ?_
              refine k_iadd (v := 27) hx hb dX10_minuteOn_125 (by decide) ?_
              refine lv_iconst (v := 1) hx hb dX10_minuteOn_126 (by decide) ?_
              refine k_iadd (v := 28) hx hb dX10_minuteOn_127 (by decide) ?_
              refine lv_iconst (v := 1) hx hb dX10_minuteOn_128 (by decide) ?_
              refine k_iast hx hb hK hP hD hS 0 rfl 28 rfl (by decide) (Nat.le_of_ble_eq_true rfl) dX10_minuteOn_129 (fun H locs hP hD hS => ?_)
              have hP : va_P D vwCl (fl [[ia ty q 57 (upd r1 28 1)], [la ty t9 2 (tw (x + Int32.toInt64 ((pm2 r 4) * 60)) (y + Int32.toInt64 (((pm2 r 3) - (pm2 r 4)) * 60)))]]) H := hP
              have hD : va_D A (fl [[ia ty q 57 (upd r1 28 1)], [la ty t9 2 (tw (x + Int32.toInt64 ((pm2 r 4) * 60)) (y + Int32.toInt64 (((pm2 r 3) - (pm2 r 4)) * 60)))]]) := hD
              refine lv_iinc (v := 1) (lv' := [(6, .int 1), (5, .int (acc ||| 1)), (0, .ref q), (1, .ref t9), (2, .int (pdom r)), (3, .int ((pm2 r 1) / 60)), (4, .int ((pclock (pm2 r) 1) / 60))]) hx hb dX10_minuteOn_130 hl (k := 1) rfl (by decide) (by decide) rfl (fun ls hl => ?_)
              refine lv_goto (tgt := 78) hx hb dX10_minuteOn_133 (by decide) ?_
              exact hit78_1 (upd r1 28 1) (acc ||| 1) (by rw [← hT]; show pdueFrom _ _ _ _ _ = pdueFrom _ _ _ _ (pdueStep _ _ 0 r1); rw [show pdueStep (pm2 r 1 / 60) (pclock (pm2 r) 1 / 60) 0 r1 = (upd r1 28 1) from (if_pos ((due_or _ _ _).resolve_left c_47 : due (pm2 r 1 / 60) (pclock (pm2 r) 1 / 60) (r1 (27 + 3 * 0)) = 1)).trans (if_neg (fun q0 => c_48 ((dom_iff h6).mpr q0)))]) (by rw [← hB]; show duesFrom _ _ _ _ _ _ = duesFrom _ _ _ _ (pdueStep _ _ 0 r1) (if _ then _ else _); rw [show pdueStep (pm2 r 1 / 60) (pclock (pm2 r) 1 / 60) 0 r1 = (upd r1 28 1) from (if_pos ((due_or _ _ _).resolve_left c_47 : due (pm2 r 1 / 60) (pclock (pm2 r) 1 / 60) (r1 (27 + 3 * 0)) = 1)).trans (if_neg (fun q0 => c_48 ((dom_iff h6).mpr q0))), if_pos ((due_or _ _ _).resolve_left c_47 : due (pm2 r 1 / 60) (pclock (pm2 r) 1 / 60) (r1 (27 + 3 * 0)) = 1)]; rfl) (h6) _ _ (show va_P D vwCl (fl [[ia ty q 57 (upd r1 28 1)], [la ty t9 2 (tw (x + Int32.toInt64 ((pm2 r 4) * 60)) (y + Int32.toInt64 (((pm2 r 3) - (pm2 r 4)) * 60)))]]) _ from hP) hD hS _ (lv_sub hl [0, 1, 2, 3, 4, 5, 6] rfl)
            · skip
              refine lv_aload_n hx hb dX10_minuteOn_109 rfl (lv_at hl 2 rfl) ?_
              refine lv_iload hx hb dX10_minuteOn_110 (lv_at hl 1 rfl) ?_
              refine cSv (As := [.ref q, .int 0]) (rest := []) ⟨hx, hb, hml, hown, hts⟩ (c_X10_ring l D ty q 0 r1 (by omega)) (va_cwS 2 hts gX10_minuteOn_X10_ring rfl rfl rfl (by decide +kernel) ⟨Nat.le_of_ble_eq_true rfl, Nat.le_of_ble_eq_true rfl⟩) hK hX hP hD hS hA (pk (bs := [[ia ty q 57 r1], [la ty t9 2 (tw (x + Int32.toInt64 ((pm2 r 4) * 60)) (y + Int32.toInt64 (((pm2 r 3) - (pm2 r 4)) * 60)))]]) (bsc := [[ia ty q 57 r1]]) (bsr := [[la ty t9 2 (tw (x + Int32.toInt64 ((pm2 r 4) * 60)) (y + Int32.toInt64 (((pm2 r 3) - (pm2 r 4)) * 60)))]]) [0] [1] 2 rfl (by decide +kernel) rfl rfl) rfl hl.1 rfl (Nat.le_of_ble_eq_true rfl) dX10_minuteOn_112 ⟨Nat.le_of_ble_eq_true rfl, Nat.le_of_ble_eq_true rfl⟩ (fun u_49 h_51 H locs hP hD hS => ?_)
              have hP : va_P D vwCl (fl [[ia ty q 57 (pring 0 r1)], [la ty t9 2 (tw (x + Int32.toInt64 ((pm2 r 4) * 60)) (y + Int32.toInt64 (((pm2 r 3) - (pm2 r 4)) * 60)))]]) H := P_perm (po (bs := [[ia ty q 57 (pring 0 r1)], [la ty t9 2 (tw (x + Int32.toInt64 ((pm2 r 4) * 60)) (y + Int32.toInt64 (((pm2 r 3) - (pm2 r 4)) * 60)))]]) [0, 1] 2 rfl (by decide +kernel) rfl) hP
              have hD : va_D A (fl [[ia ty q 57 (pring 0 r1)], [la ty t9 2 (tw (x + Int32.toInt64 ((pm2 r 4) * 60)) (y + Int32.toInt64 (((pm2 r 3) - (pm2 r 4)) * 60)))]]) := D_perm (po (bs := [[ia ty q 57 (pring 0 r1)], [la ty t9 2 (tw (x + Int32.toInt64 ((pm2 r 4) * 60)) (y + Int32.toInt64 (((pm2 r 3) - (pm2 r 4)) * 60)))]]) [0, 1] 2 rfl (by decide +kernel) rfl) hD
              refine lv_goto (tgt := 130) hx hb dX10_minuteOn_115 (by decide) ?_
              refine lv_iinc (v := 1) (lv' := [(6, .int 1), (5, .int (acc ||| 1)), (0, .ref q), (1, .ref t9), (2, .int (pdom r)), (3, .int ((pm2 r 1) / 60)), (4, .int ((pclock (pm2 r) 1) / 60))]) hx hb dX10_minuteOn_130 hl (k := 1) rfl (by decide) (by decide) rfl (fun ls hl => ?_)
              refine lv_goto (tgt := 78) hx hb dX10_minuteOn_133 (by decide) ?_
              exact hit78_1 (pring 0 r1) (acc ||| 1) (by rw [← hT]; show pdueFrom _ _ _ _ _ = pdueFrom _ _ _ _ (pdueStep _ _ 0 r1); rw [show pdueStep (pm2 r 1 / 60) (pclock (pm2 r) 1 / 60) 0 r1 = (pring 0 r1) from (if_pos ((due_or _ _ _).resolve_left c_47 : due (pm2 r 1 / 60) (pclock (pm2 r) 1 / 60) (r1 (27 + 3 * 0)) = 1)).trans (if_pos ((dom_iff h6).mp c_48))]) (by rw [← hB]; show duesFrom _ _ _ _ _ _ = duesFrom _ _ _ _ (pdueStep _ _ 0 r1) (if _ then _ else _); rw [show pdueStep (pm2 r 1 / 60) (pclock (pm2 r) 1 / 60) 0 r1 = (pring 0 r1) from (if_pos ((due_or _ _ _).resolve_left c_47 : due (pm2 r 1 / 60) (pclock (pm2 r) 1 / 60) (r1 (27 + 3 * 0)) = 1)).trans (if_pos ((dom_iff h6).mp c_48)), if_pos ((due_or _ _ _).resolve_left c_47 : due (pm2 r 1 / 60) (pclock (pm2 r) 1 / 60) (r1 (27 + 3 * 0)) = 1)]; rfl) (h6) _ _ (show va_P D vwCl (fl [[ia ty q 57 (pring 0 r1)], [la ty t9 2 (tw (x + Int32.toInt64 ((pm2 r 4) * 60)) (y + Int32.toInt64 (((pm2 r 3) - (pm2 r 4)) * 60)))]]) _ from hP) hD hS _ (lv_sub hl [0, 1, 2, 3, 4, 5, 6] rfl)
      exact hit78_0 (pclock (pm2 r)) 0 (rfl) ((if_neg c_11).symm) (pm2_6 r) _ _ (show va_P D vwCl (fl [[ia ty q 57 (pclock (pm2 r))], [la ty t9 2 (tw (x + Int32.toInt64 ((pm2 r 4) * 60)) (y + Int32.toInt64 (((pm2 r 3) - (pm2 r 4)) * 60)))]]) _ from hP) (D_same2 hD [q, t9] rfl rfl) hS _ (lv_sub hl [0, 1, 5, 6, 4, 3, 2] rfl)
    · skip
      refine lv_iconst (v := 0) hx hb dX10_minuteOn_50 (by decide) ?_
      subst hQg
      have hP : va_P D vwCl (fl [[ia ty q 57 (pminute r)], [la ty t9 2 (tw (minX r x) (minY r y))]]) H := by
        rw [show pminute r = pm2 r from if_pos c_11, show minX r x = x from if_pos c_11, show minY r y = y from if_pos c_11]; exact hP
      have hD : va_D A (fl [[ia ty q 57 (pminute r)], [la ty t9 2 (tw (minX r x) (minY r y))]]) := (D_same2 hD [q, t9] rfl rfl)
      exact end_i (bs' := (fun (_ : Unit) => [[ia ty q 57 (pminute r)], [la ty t9 2 (tw (minX r x) (minY r y))]])) () hx hb hr hlocks hP hD hS (if_pos c_11).symm (Nat.le_of_ble_eq_true rfl) (Nat.le_of_ble_eq_true rfl) dX10_minuteOn_51
  · skip
    refine lv_iload_n hx hb dX10_minuteOn_27 rfl (lv_at hl 0 rfl) ?_
    refine lv_iconst (v := 2) hx hb dX10_minuteOn_28 (by decide) ?_
    refine lv_icmp_ne (tgt := 42) hx hb dX10_minuteOn_29 (by decide) (fun c_52 => ?_) (fun c_52 => ?_)
    · skip
      have hP : va_P D vwCl (fl [[ia ty q 57 (pm2 r)], [la ty t9 2 (tw x y)]]) H := P_at 0 (at_ia (fun k _ => congrFun (pm2_B (fun q0 => q0.elim c_4 c_52)) k)) rfl rfl hP
      have hD : va_D A (fl [[ia ty q 57 (pm2 r)], [la ty t9 2 (tw x y)]]) := (D_same2 hD [q, t9] rfl rfl)
      refine lv_aload_n hx hb dX10_minuteOn_42 rfl (lv_at hl 1 rfl) ?_
      refine cSi (As := [.ref q]) (rest := []) ⟨hx, hb, hml, hown, hts⟩ (c_X10_domainOf l D ty q (pm2 r)) (va_cwS 1 hts gX10_minuteOn_X10_domainOf rfl rfl rfl (by decide +kernel) ⟨Nat.le_of_ble_eq_true rfl, Nat.le_of_ble_eq_true rfl⟩) hK hX hP hD hS hA (pk (bs := [[ia ty q 57 (pm2 r)], [la ty t9 2 (tw x y)]]) (bsc := [[ia ty q 57 (pm2 r)]]) (bsr := [[la ty t9 2 (tw x y)]]) [0] [1] 2 rfl (by decide +kernel) rfl rfl) rfl hl.1 rfl (Nat.le_of_ble_eq_true rfl) dX10_minuteOn_43 ⟨Nat.le_of_ble_eq_true rfl, Nat.le_of_ble_eq_true rfl⟩ (fun r_54 u_53 h_55 H locs hP hD hS => ?_)
      have h_55 : r_54 = (pdom (pm2 r)) := h_55
      subst h_55
      have hP : va_P D vwCl (fl [[ia ty q 57 (pm2 r)], [la ty t9 2 (tw x y)]]) H := P_perm (po (bs := [[ia ty q 57 (pm2 r)], [la ty t9 2 (tw x y)]]) [0, 1] 2 rfl (by decide +kernel) rfl) hP
      have hD : va_D A (fl [[ia ty q 57 (pm2 r)], [la ty t9 2 (tw x y)]]) := D_perm (po (bs := [[ia ty q 57 (pm2 r)], [la ty t9 2 (tw x y)]]) [0, 1] 2 rfl (by decide +kernel) rfl) hD
      refine lv_iconst (v := 3) hx hb dX10_minuteOn_46 (by decide) ?_
      refine lv_icmp_ne (tgt := 52) hx hb dX10_minuteOn_47 (by decide) (fun c_56 => ?_) (fun c_56 => ?_)
      · skip
        refine lv_aload_n hx hb dX10_minuteOn_52 rfl (lv_at hl 1 rfl) ?_
        refine lv_iconst (v := 1) hx hb dX10_minuteOn_53 (by decide) ?_
        refine k_iald hx hb hK hP 0 rfl 1 rfl (by decide) (Nat.le_of_ble_eq_true rfl) (v := (pm2 r) 1) rfl dX10_minuteOn_54 ?_
        refine lv_bipush (v := 60) hx hb dX10_minuteOn_55 (by decide) ?_
        refine k_idiv (v := (((pm2 r) 1) / 60)) hx hb dX10_minuteOn_57 (by decide) rfl ?_
        refine lv_istore_n (lv' := [(3, .int (((pm2 r) 1) / 60)), (2, .int (pdom r)), (0, .ref q), (1, .ref t9)]) hx hb dX10_minuteOn_58 rfl hl (by decide) rfl (fun ls hl => ?_)
        refine lv_aload_n hx hb dX10_minuteOn_59 rfl (lv_at hl 2 rfl) ?_
        refine lv_aload_n hx hb dX10_minuteOn_60 rfl (lv_at hl 3 rfl) ?_
        refine cSv (As := [.ref q, .ref t9]) (rest := []) ⟨hx, hb, hml, hown, hts⟩ (c_X10_clockOn l D ty q t9 (pm2 r) x y) (va_cwS 2 hts gX10_minuteOn_X10_clockOn rfl rfl rfl (by decide +kernel) ⟨Nat.le_of_ble_eq_true rfl, Nat.le_of_ble_eq_true rfl⟩) hK hX hP hD hS hA (pk (bs := [[ia ty q 57 (pm2 r)], [la ty t9 2 (tw x y)]]) (bsc := [[ia ty q 57 (pm2 r)], [la ty t9 2 (tw x y)]]) (bsr := []) [0, 1] [] 2 rfl (by decide +kernel) rfl rfl) rfl hl.1 rfl (Nat.le_of_ble_eq_true rfl) dX10_minuteOn_61 ⟨Nat.le_of_ble_eq_true rfl, Nat.le_of_ble_eq_true rfl⟩ (fun u_57 h_59 H locs hP hD hS => ?_)
        have hP : va_P D vwCl (fl [[ia ty q 57 (pclock (pm2 r))], [la ty t9 2 (tw (x + Int32.toInt64 (((pm2 r) 4) * 60)) (y + Int32.toInt64 ((((pm2 r) 3) - ((pm2 r) 4)) * 60)))]]) H := P_perm (po (bs := [[ia ty q 57 (pclock (pm2 r))], [la ty t9 2 (tw (x + Int32.toInt64 (((pm2 r) 4) * 60)) (y + Int32.toInt64 ((((pm2 r) 3) - ((pm2 r) 4)) * 60)))]]) [0, 1] 2 rfl (by decide +kernel) rfl) hP
        have hD : va_D A (fl [[ia ty q 57 (pclock (pm2 r))], [la ty t9 2 (tw (x + Int32.toInt64 (((pm2 r) 4) * 60)) (y + Int32.toInt64 ((((pm2 r) 3) - ((pm2 r) 4)) * 60)))]]) := D_perm (po (bs := [[ia ty q 57 (pclock (pm2 r))], [la ty t9 2 (tw (x + Int32.toInt64 (((pm2 r) 4) * 60)) (y + Int32.toInt64 ((((pm2 r) 3) - ((pm2 r) 4)) * 60)))]]) [0, 1] 2 rfl (by decide +kernel) rfl) hD
        refine lv_aload_n hx hb dX10_minuteOn_64 rfl (lv_at hl 2 rfl) ?_
        refine lv_iconst (v := 1) hx hb dX10_minuteOn_65 (by decide) ?_
        refine k_iald hx hb hK hP 0 rfl 1 rfl (by decide) (Nat.le_of_ble_eq_true rfl) (v := (pclock (pm2 r)) 1) rfl dX10_minuteOn_66 ?_
        refine lv_bipush (v := 60) hx hb dX10_minuteOn_67 (by decide) ?_
        refine k_idiv (v := (((pclock (pm2 r)) 1) / 60)) hx hb dX10_minuteOn_69 (by decide) rfl ?_
        refine lv_istore (lv' := [(4, .int (((pclock (pm2 r)) 1) / 60)), (3, .int (((pm2 r) 1) / 60)), (2, .int (pdom r)), (0, .ref q), (1, .ref t9)]) hx hb dX10_minuteOn_70 hl (by decide) rfl (fun ls hl => ?_)
        refine lv_iconst (v := 0) hx hb dX10_minuteOn_72 (by decide) ?_
        refine lv_istore (lv' := [(5, .int 0), (4, .int (((pclock (pm2 r)) 1) / 60)), (3, .int (((pm2 r) 1) / 60)), (2, .int (pdom r)), (0, .ref q), (1, .ref t9)]) hx hb dX10_minuteOn_73 hl (by decide) rfl (fun ls hl => ?_)
        refine lv_iconst (v := 0) hx hb dX10_minuteOn_75 (by decide) ?_
        refine lv_istore (lv' := [(6, .int 0), (5, .int 0), (4, .int (((pclock (pm2 r)) 1) / 60)), (3, .int (((pm2 r) 1) / 60)), (2, .int (pdom r)), (0, .ref q), (1, .ref t9)]) hx hb dX10_minuteOn_76 hl (by decide) rfl (fun ls hl => ?_)
        have hit78_4 : ∀ (r1 : Nat → Int32) (acc : Int32), (pdueFrom (pm2 r 1 / 60) (pclock (pm2 r) 1 / 60) 0 4 r1 = pgo (pm2 r)) → (duesFrom (pm2 r 1 / 60) (pclock (pm2 r) 1 / 60) 0 4 r1 acc = pdues r) → (r1 6 = r 6) → ∀ (H : Heap) (locs : List Loc), va_P D vwCl (fl [[ia ty q 57 r1], [la ty t9 2 (tw (x + Int32.toInt64 ((pm2 r 4) * 60)) (y + Int32.toInt64 (((pm2 r 3) - (pm2 r 4)) * 60)))]]) H → va_D A (fl [[ia ty q 57 r1], [la ty t9 2 (tw (x + Int32.toInt64 ((pm2 r 4) * 60)) (y + Int32.toInt64 (((pm2 r 3) - (pm2 r 4)) * 60)))]]) → va_S A s.heap H locs → ∀ ls : Array Slot, lv_has ls 7 [(6, .int 4), (5, .int acc), (0, .ref q), (1, .ref t9), (2, .int (pdom r)), (3, .int ((pm2 r 1) / 60)), (4, .int ((pclock (pm2 r) 1) / 60))] → W p l e ({ frames := 3, cells := 0, slots := 0, locals := 66 } : Room) s m args below meth c H locs 0 0 Qg (F0 m 78 ls []) := by
          intro r1 acc hT hB h6 H locs hP hD hS ls hl
          refine lv_iload hx hb dX10_minuteOn_78 (lv_at hl 0 rfl) ?_
          refine lv_iconst (v := 4) hx hb dX10_minuteOn_80 (by decide) ?_
          refine lv_icmp_ge (tgt := 136) hx hb dX10_minuteOn_81 (by decide) (fun c_60 => ?_) (fun c_60 => ?_)
          · skip
            refine lv_iload hx hb dX10_minuteOn_136 (lv_at hl 1 rfl) ?_
            subst hQg
            have hP : va_P D vwCl (fl [[ia ty q 57 (pminute r)], [la ty t9 2 (tw (minX r x) (minY r y))]]) H := by
              have hT : r1 = pgo (pm2 r) := hT
              rw [show pminute r = pgo (pm2 r) from if_neg c_56, show minX r x = _ from if_neg c_56, show minY r y = _ from if_neg c_56, ← hT]; exact hP
            have hD : va_D A (fl [[ia ty q 57 (pminute r)], [la ty t9 2 (tw (minX r x) (minY r y))]]) := (D_same2 hD [q, t9] rfl rfl)
            exact end_i (bs' := (fun (_ : Unit) => [[ia ty q 57 (pminute r)], [la ty t9 2 (tw (minX r x) (minY r y))]])) () hx hb hr hlocks hP hD hS hB (Nat.le_of_ble_eq_true rfl) (Nat.le_of_ble_eq_true rfl) dX10_minuteOn_138
          · exact absurd (by decide) c_60
        have hit78_3 : ∀ (r1 : Nat → Int32) (acc : Int32), (pdueFrom (pm2 r 1 / 60) (pclock (pm2 r) 1 / 60) 1 3 r1 = pgo (pm2 r)) → (duesFrom (pm2 r 1 / 60) (pclock (pm2 r) 1 / 60) 1 3 r1 acc = pdues r) → (r1 6 = r 6) → ∀ (H : Heap) (locs : List Loc), va_P D vwCl (fl [[ia ty q 57 r1], [la ty t9 2 (tw (x + Int32.toInt64 ((pm2 r 4) * 60)) (y + Int32.toInt64 (((pm2 r 3) - (pm2 r 4)) * 60)))]]) H → va_D A (fl [[ia ty q 57 r1], [la ty t9 2 (tw (x + Int32.toInt64 ((pm2 r 4) * 60)) (y + Int32.toInt64 (((pm2 r 3) - (pm2 r 4)) * 60)))]]) → va_S A s.heap H locs → ∀ ls : Array Slot, lv_has ls 7 [(6, .int 3), (5, .int acc), (0, .ref q), (1, .ref t9), (2, .int (pdom r)), (3, .int ((pm2 r 1) / 60)), (4, .int ((pclock (pm2 r) 1) / 60))] → W p l e ({ frames := 3, cells := 0, slots := 0, locals := 66 } : Room) s m args below meth c H locs 0 0 Qg (F0 m 78 ls []) := by
          intro r1 acc hT hB h6 H locs hP hD hS ls hl
          refine lv_iload hx hb dX10_minuteOn_78 (lv_at hl 0 rfl) ?_
          refine lv_iconst (v := 4) hx hb dX10_minuteOn_80 (by decide) ?_
          refine lv_icmp_ge (tgt := 136) hx hb dX10_minuteOn_81 (by decide) (fun c_61 => ?_) (fun c_61 => ?_)
          · exact absurd c_61 (by decide)
          · skip
            refine lv_aload_n hx hb dX10_minuteOn_84 rfl (lv_at hl 2 rfl) ?_
            refine lv_iload hx hb dX10_minuteOn_85 (lv_at hl 0 rfl) ?_
            refine lv_iload_n hx hb dX10_minuteOn_87 rfl (lv_at hl 5 rfl) ?_
            refine lv_iload hx hb dX10_minuteOn_88 (lv_at hl 6 rfl) ?_
            refine cSi (As := [.ref q, .int 3, .int ((pm2 r 1) / 60), .int ((pclock (pm2 r) 1) / 60)]) (rest := []) ⟨hx, hb, hml, hown, hts⟩ (c_X10_isDue l D ty q 3 ((pm2 r 1) / 60) ((pclock (pm2 r) 1) / 60) r1 (by omega) (div60_le _) (div60_le _)) (va_cwS 4 hts gX10_minuteOn_X10_isDue rfl rfl rfl (by decide +kernel) ⟨Nat.le_of_ble_eq_true rfl, Nat.le_of_ble_eq_true rfl⟩) hK hX hP hD hS hA (pk (bs := [[ia ty q 57 r1], [la ty t9 2 (tw (x + Int32.toInt64 ((pm2 r 4) * 60)) (y + Int32.toInt64 (((pm2 r 3) - (pm2 r 4)) * 60)))]]) (bsc := [[ia ty q 57 r1]]) (bsr := [[la ty t9 2 (tw (x + Int32.toInt64 ((pm2 r 4) * 60)) (y + Int32.toInt64 (((pm2 r 3) - (pm2 r 4)) * 60)))]]) [0] [1] 2 rfl (by decide +kernel) rfl rfl) rfl hl.1 rfl (Nat.le_of_ble_eq_true rfl) dX10_minuteOn_90 ⟨Nat.le_of_ble_eq_true rfl, Nat.le_of_ble_eq_true rfl⟩ (fun r_63 u_62 h_64 H locs hP hD hS => ?_)
            have h_64 : r_63 = (due ((pm2 r 1) / 60) ((pclock (pm2 r) 1) / 60) (r1 (27 + 3 * 3))) := h_64
            subst h_64
            have hP : va_P D vwCl (fl [[ia ty q 57 r1], [la ty t9 2 (tw (x + Int32.toInt64 ((pm2 r 4) * 60)) (y + Int32.toInt64 (((pm2 r 3) - (pm2 r 4)) * 60)))]]) H := P_perm (po (bs := [[ia ty q 57 r1], [la ty t9 2 (tw (x + Int32.toInt64 ((pm2 r 4) * 60)) (y + Int32.toInt64 (((pm2 r 3) - (pm2 r 4)) * 60)))]]) [0, 1] 2 rfl (by decide +kernel) rfl) hP
            have hD : va_D A (fl [[ia ty q 57 r1], [la ty t9 2 (tw (x + Int32.toInt64 ((pm2 r 4) * 60)) (y + Int32.toInt64 (((pm2 r 3) - (pm2 r 4)) * 60)))]]) := D_perm (po (bs := [[ia ty q 57 r1], [la ty t9 2 (tw (x + Int32.toInt64 ((pm2 r 4) * 60)) (y + Int32.toInt64 (((pm2 r 3) - (pm2 r 4)) * 60)))]]) [0, 1] 2 rfl (by decide +kernel) rfl) hD
            refine lv_if_eq (tgt := 130) hx hb dX10_minuteOn_93 (by decide) (fun c_65 => ?_) (fun c_65 => ?_)
            · skip
              refine lv_iinc (v := 4) (lv' := [(6, .int 4), (5, .int acc), (0, .ref q), (1, .ref t9), (2, .int (pdom r)), (3, .int ((pm2 r 1) / 60)), (4, .int ((pclock (pm2 r) 1) / 60))]) hx hb dX10_minuteOn_130 hl (k := 0) rfl (by decide) (by decide) rfl (fun ls hl => ?_)
              refine lv_goto (tgt := 78) hx hb dX10_minuteOn_133 (by decide) ?_
              exact hit78_4 r1 acc (by rw [← hT]; show pdueFrom _ _ _ _ r1 = pdueFrom _ _ _ _ (pdueStep _ _ 3 r1); rw [show pdueStep (pm2 r 1 / 60) (pclock (pm2 r) 1 / 60) 3 r1 = r1 from if_neg (show ¬ due (pm2 r 1 / 60) (pclock (pm2 r) 1 / 60) (r1 (27 + 3 * 3)) = 1 from fun q0 => absurd (q0.symm.trans c_65) (by decide))]) (by rw [← hB]; show duesFrom _ _ _ _ r1 acc = duesFrom _ _ _ _ (pdueStep _ _ 3 r1) (if _ then _ else _); rw [show pdueStep (pm2 r 1 / 60) (pclock (pm2 r) 1 / 60) 3 r1 = r1 from if_neg (show ¬ due (pm2 r 1 / 60) (pclock (pm2 r) 1 / 60) (r1 (27 + 3 * 3)) = 1 from fun q0 => absurd (q0.symm.trans c_65) (by decide)), if_neg (show ¬ due (pm2 r 1 / 60) (pclock (pm2 r) 1 / 60) (r1 (27 + 3 * 3)) = 1 from fun q0 => absurd (q0.symm.trans c_65) (by decide))]) (h6) _ _ (show va_P D vwCl (fl [[ia ty q 57 r1], [la ty t9 2 (tw (x + Int32.toInt64 ((pm2 r 4) * 60)) (y + Int32.toInt64 (((pm2 r 3) - (pm2 r 4)) * 60)))]]) _ from hP) hD hS _ (lv_sub hl [0, 1, 2, 3, 4, 5, 6] rfl)
            · skip
              refine lv_iload hx hb dX10_minuteOn_96 (lv_at hl 1 rfl) ?_
              refine lv_iconst (v := 1) hx hb dX10_minuteOn_98 (by decide) ?_
              refine lv_iload hx hb dX10_minuteOn_99 (lv_at hl 0 rfl) ?_
              refine W.eq (g2 := F0 m 101 ls [.int 3, .int 1, .int acc]) rfl ?_
              refine k_ishl (v := 8) hx hb dX10_minuteOn_101 (by decide) ?_
              refine k_ior (v := (acc ||| 8)) hx hb dX10_minuteOn_102 rfl ?_
              refine lv_istore (lv' := [(5, .int (acc ||| 8)), (6, .int 3), (0, .ref q), (1, .ref t9), (2, .int (pdom r)), (3, .int ((pm2 r 1) / 60)), (4, .int ((pclock (pm2 r) 1) / 60))]) hx hb dX10_minuteOn_103 hl (by decide) rfl (fun ls hl => ?_)
              refine lv_iload_n hx hb dX10_minuteOn_105 rfl (lv_at hl 4 rfl) ?_
              refine lv_if_ne (tgt := 118) hx hb dX10_minuteOn_106 (by decide) (fun c_66 => ?_) (fun c_66 => ?_)
              · skip
                refine lv_aload_n hx hb dX10_minuteOn_118 rfl (lv_at hl 2 rfl) ?_
                refine lv_bipush (v := 27) hx hb dX10_minuteOn_119 (by decide) ?_
                refine lv_iconst (v := 3) hx hb dX10_minuteOn_121 (by decide) ?_
                refine lv_iload hx hb dX10_minuteOn_122 (lv_at hl 1 rfl) ?_
                refine k_imul (v := 9) hx hb dX10_minuteOn_124 (by decide) ?_
                refine k_iadd (v := 36) hx hb dX10_minuteOn_125 (by decide) ?_
                refine lv_iconst (v := 1) hx hb dX10_minuteOn_126 (by decide) ?_
                refine k_iadd (v := 37) hx hb dX10_minuteOn_127 (by decide) ?_
                refine lv_iconst (v := 1) hx hb dX10_minuteOn_128 (by decide) ?_
                refine k_iast hx hb hK hP hD hS 0 rfl 37 rfl (by decide) (Nat.le_of_ble_eq_true rfl) dX10_minuteOn_129 (fun H locs hP hD hS => ?_)
                have hP : va_P D vwCl (fl [[ia ty q 57 (upd r1 37 1)], [la ty t9 2 (tw (x + Int32.toInt64 ((pm2 r 4) * 60)) (y + Int32.toInt64 (((pm2 r 3) - (pm2 r 4)) * 60)))]]) H := hP
                have hD : va_D A (fl [[ia ty q 57 (upd r1 37 1)], [la ty t9 2 (tw (x + Int32.toInt64 ((pm2 r 4) * 60)) (y + Int32.toInt64 (((pm2 r 3) - (pm2 r 4)) * 60)))]]) := hD
                refine lv_iinc (v := 4) (lv' := [(6, .int 4), (5, .int (acc ||| 8)), (0, .ref q), (1, .ref t9), (2, .int (pdom r)), (3, .int ((pm2 r 1) / 60)), (4, .int ((pclock (pm2 r) 1) / 60))]) hx hb dX10_minuteOn_130 hl (k := 1) rfl (by decide) (by decide) rfl (fun ls hl => ?_)
                refine lv_goto (tgt := 78) hx hb dX10_minuteOn_133 (by decide) ?_
                exact hit78_4 (upd r1 37 1) (acc ||| 8) (by rw [← hT]; show pdueFrom _ _ _ _ _ = pdueFrom _ _ _ _ (pdueStep _ _ 3 r1); rw [show pdueStep (pm2 r 1 / 60) (pclock (pm2 r) 1 / 60) 3 r1 = (upd r1 37 1) from (if_pos ((due_or _ _ _).resolve_left c_65 : due (pm2 r 1 / 60) (pclock (pm2 r) 1 / 60) (r1 (27 + 3 * 3)) = 1)).trans (if_neg (fun q0 => c_66 ((dom_iff h6).mpr q0)))]) (by rw [← hB]; show duesFrom _ _ _ _ _ _ = duesFrom _ _ _ _ (pdueStep _ _ 3 r1) (if _ then _ else _); rw [show pdueStep (pm2 r 1 / 60) (pclock (pm2 r) 1 / 60) 3 r1 = (upd r1 37 1) from (if_pos ((due_or _ _ _).resolve_left c_65 : due (pm2 r 1 / 60) (pclock (pm2 r) 1 / 60) (r1 (27 + 3 * 3)) = 1)).trans (if_neg (fun q0 => c_66 ((dom_iff h6).mpr q0))), if_pos ((due_or _ _ _).resolve_left c_65 : due (pm2 r 1 / 60) (pclock (pm2 r) 1 / 60) (r1 (27 + 3 * 3)) = 1)]; rfl) (h6) _ _ (show va_P D vwCl (fl [[ia ty q 57 (upd r1 37 1)], [la ty t9 2 (tw (x + Int32.toInt64 ((pm2 r 4) * 60)) (y + Int32.toInt64 (((pm2 r 3) - (pm2 r 4)) * 60)))]]) _ from hP) hD hS _ (lv_sub hl [0, 1, 2, 3, 4, 5, 6] rfl)
              · skip
                refine lv_aload_n hx hb dX10_minuteOn_109 rfl (lv_at hl 2 rfl) ?_
                refine lv_iload hx hb dX10_minuteOn_110 (lv_at hl 1 rfl) ?_
                refine cSv (As := [.ref q, .int 3]) (rest := []) ⟨hx, hb, hml, hown, hts⟩ (c_X10_ring l D ty q 3 r1 (by omega)) (va_cwS 2 hts gX10_minuteOn_X10_ring rfl rfl rfl (by decide +kernel) ⟨Nat.le_of_ble_eq_true rfl, Nat.le_of_ble_eq_true rfl⟩) hK hX hP hD hS hA (pk (bs := [[ia ty q 57 r1], [la ty t9 2 (tw (x + Int32.toInt64 ((pm2 r 4) * 60)) (y + Int32.toInt64 (((pm2 r 3) - (pm2 r 4)) * 60)))]]) (bsc := [[ia ty q 57 r1]]) (bsr := [[la ty t9 2 (tw (x + Int32.toInt64 ((pm2 r 4) * 60)) (y + Int32.toInt64 (((pm2 r 3) - (pm2 r 4)) * 60)))]]) [0] [1] 2 rfl (by decide +kernel) rfl rfl) rfl hl.1 rfl (Nat.le_of_ble_eq_true rfl) dX10_minuteOn_112 ⟨Nat.le_of_ble_eq_true rfl, Nat.le_of_ble_eq_true rfl⟩ (fun u_67 h_69 H locs hP hD hS => ?_)
                have hP : va_P D vwCl (fl [[ia ty q 57 (pring 3 r1)], [la ty t9 2 (tw (x + Int32.toInt64 ((pm2 r 4) * 60)) (y + Int32.toInt64 (((pm2 r 3) - (pm2 r 4)) * 60)))]]) H := P_perm (po (bs := [[ia ty q 57 (pring 3 r1)], [la ty t9 2 (tw (x + Int32.toInt64 ((pm2 r 4) * 60)) (y + Int32.toInt64 (((pm2 r 3) - (pm2 r 4)) * 60)))]]) [0, 1] 2 rfl (by decide +kernel) rfl) hP
                have hD : va_D A (fl [[ia ty q 57 (pring 3 r1)], [la ty t9 2 (tw (x + Int32.toInt64 ((pm2 r 4) * 60)) (y + Int32.toInt64 (((pm2 r 3) - (pm2 r 4)) * 60)))]]) := D_perm (po (bs := [[ia ty q 57 (pring 3 r1)], [la ty t9 2 (tw (x + Int32.toInt64 ((pm2 r 4) * 60)) (y + Int32.toInt64 (((pm2 r 3) - (pm2 r 4)) * 60)))]]) [0, 1] 2 rfl (by decide +kernel) rfl) hD
                refine lv_goto (tgt := 130) hx hb dX10_minuteOn_115 (by decide) ?_
                refine lv_iinc (v := 4) (lv' := [(6, .int 4), (5, .int (acc ||| 8)), (0, .ref q), (1, .ref t9), (2, .int (pdom r)), (3, .int ((pm2 r 1) / 60)), (4, .int ((pclock (pm2 r) 1) / 60))]) hx hb dX10_minuteOn_130 hl (k := 1) rfl (by decide) (by decide) rfl (fun ls hl => ?_)
                refine lv_goto (tgt := 78) hx hb dX10_minuteOn_133 (by decide) ?_
                exact hit78_4 (pring 3 r1) (acc ||| 8) (by rw [← hT]; show pdueFrom _ _ _ _ _ = pdueFrom _ _ _ _ (pdueStep _ _ 3 r1); rw [show pdueStep (pm2 r 1 / 60) (pclock (pm2 r) 1 / 60) 3 r1 = (pring 3 r1) from (if_pos ((due_or _ _ _).resolve_left c_65 : due (pm2 r 1 / 60) (pclock (pm2 r) 1 / 60) (r1 (27 + 3 * 3)) = 1)).trans (if_pos ((dom_iff h6).mp c_66))]) (by rw [← hB]; show duesFrom _ _ _ _ _ _ = duesFrom _ _ _ _ (pdueStep _ _ 3 r1) (if _ then _ else _); rw [show pdueStep (pm2 r 1 / 60) (pclock (pm2 r) 1 / 60) 3 r1 = (pring 3 r1) from (if_pos ((due_or _ _ _).resolve_left c_65 : due (pm2 r 1 / 60) (pclock (pm2 r) 1 / 60) (r1 (27 + 3 * 3)) = 1)).trans (if_pos ((dom_iff h6).mp c_66)), if_pos ((due_or _ _ _).resolve_left c_65 : due (pm2 r 1 / 60) (pclock (pm2 r) 1 / 60) (r1 (27 + 3 * 3)) = 1)]; rfl) (h6) _ _ (show va_P D vwCl (fl [[ia ty q 57 (pring 3 r1)], [la ty t9 2 (tw (x + Int32.toInt64 ((pm2 r 4) * 60)) (y + Int32.toInt64 (((pm2 r 3) - (pm2 r 4)) * 60)))]]) _ from hP) hD hS _ (lv_sub hl [0, 1, 2, 3, 4, 5, 6] rfl)
        have hit78_2 : ∀ (r1 : Nat → Int32) (acc : Int32), (pdueFrom (pm2 r 1 / 60) (pclock (pm2 r) 1 / 60) 2 2 r1 = pgo (pm2 r)) → (duesFrom (pm2 r 1 / 60) (pclock (pm2 r) 1 / 60) 2 2 r1 acc = pdues r) → (r1 6 = r 6) → ∀ (H : Heap) (locs : List Loc), va_P D vwCl (fl [[ia ty q 57 r1], [la ty t9 2 (tw (x + Int32.toInt64 ((pm2 r 4) * 60)) (y + Int32.toInt64 (((pm2 r 3) - (pm2 r 4)) * 60)))]]) H → va_D A (fl [[ia ty q 57 r1], [la ty t9 2 (tw (x + Int32.toInt64 ((pm2 r 4) * 60)) (y + Int32.toInt64 (((pm2 r 3) - (pm2 r 4)) * 60)))]]) → va_S A s.heap H locs → ∀ ls : Array Slot, lv_has ls 7 [(6, .int 2), (5, .int acc), (0, .ref q), (1, .ref t9), (2, .int (pdom r)), (3, .int ((pm2 r 1) / 60)), (4, .int ((pclock (pm2 r) 1) / 60))] → W p l e ({ frames := 3, cells := 0, slots := 0, locals := 66 } : Room) s m args below meth c H locs 0 0 Qg (F0 m 78 ls []) := by
          intro r1 acc hT hB h6 H locs hP hD hS ls hl
          refine lv_iload hx hb dX10_minuteOn_78 (lv_at hl 0 rfl) ?_
          refine lv_iconst (v := 4) hx hb dX10_minuteOn_80 (by decide) ?_
          refine lv_icmp_ge (tgt := 136) hx hb dX10_minuteOn_81 (by decide) (fun c_70 => ?_) (fun c_70 => ?_)
          · exact absurd c_70 (by decide)
          · skip
            refine lv_aload_n hx hb dX10_minuteOn_84 rfl (lv_at hl 2 rfl) ?_
            refine lv_iload hx hb dX10_minuteOn_85 (lv_at hl 0 rfl) ?_
            refine lv_iload_n hx hb dX10_minuteOn_87 rfl (lv_at hl 5 rfl) ?_
            refine lv_iload hx hb dX10_minuteOn_88 (lv_at hl 6 rfl) ?_
            refine cSi (As := [.ref q, .int 2, .int ((pm2 r 1) / 60), .int ((pclock (pm2 r) 1) / 60)]) (rest := []) ⟨hx, hb, hml, hown, hts⟩ (c_X10_isDue l D ty q 2 ((pm2 r 1) / 60) ((pclock (pm2 r) 1) / 60) r1 (by omega) (div60_le _) (div60_le _)) (va_cwS 4 hts gX10_minuteOn_X10_isDue rfl rfl rfl (by decide +kernel) ⟨Nat.le_of_ble_eq_true rfl, Nat.le_of_ble_eq_true rfl⟩) hK hX hP hD hS hA (pk (bs := [[ia ty q 57 r1], [la ty t9 2 (tw (x + Int32.toInt64 ((pm2 r 4) * 60)) (y + Int32.toInt64 (((pm2 r 3) - (pm2 r 4)) * 60)))]]) (bsc := [[ia ty q 57 r1]]) (bsr := [[la ty t9 2 (tw (x + Int32.toInt64 ((pm2 r 4) * 60)) (y + Int32.toInt64 (((pm2 r 3) - (pm2 r 4)) * 60)))]]) [0] [1] 2 rfl (by decide +kernel) rfl rfl) rfl hl.1 rfl (Nat.le_of_ble_eq_true rfl) dX10_minuteOn_90 ⟨Nat.le_of_ble_eq_true rfl, Nat.le_of_ble_eq_true rfl⟩ (fun r_72 u_71 h_73 H locs hP hD hS => ?_)
            have h_73 : r_72 = (due ((pm2 r 1) / 60) ((pclock (pm2 r) 1) / 60) (r1 (27 + 3 * 2))) := h_73
            subst h_73
            have hP : va_P D vwCl (fl [[ia ty q 57 r1], [la ty t9 2 (tw (x + Int32.toInt64 ((pm2 r 4) * 60)) (y + Int32.toInt64 (((pm2 r 3) - (pm2 r 4)) * 60)))]]) H := P_perm (po (bs := [[ia ty q 57 r1], [la ty t9 2 (tw (x + Int32.toInt64 ((pm2 r 4) * 60)) (y + Int32.toInt64 (((pm2 r 3) - (pm2 r 4)) * 60)))]]) [0, 1] 2 rfl (by decide +kernel) rfl) hP
            have hD : va_D A (fl [[ia ty q 57 r1], [la ty t9 2 (tw (x + Int32.toInt64 ((pm2 r 4) * 60)) (y + Int32.toInt64 (((pm2 r 3) - (pm2 r 4)) * 60)))]]) := D_perm (po (bs := [[ia ty q 57 r1], [la ty t9 2 (tw (x + Int32.toInt64 ((pm2 r 4) * 60)) (y + Int32.toInt64 (((pm2 r 3) - (pm2 r 4)) * 60)))]]) [0, 1] 2 rfl (by decide +kernel) rfl) hD
            refine lv_if_eq (tgt := 130) hx hb dX10_minuteOn_93 (by decide) (fun c_74 => ?_) (fun c_74 => ?_)
            · skip
              refine lv_iinc (v := 3) (lv' := [(6, .int 3), (5, .int acc), (0, .ref q), (1, .ref t9), (2, .int (pdom r)), (3, .int ((pm2 r 1) / 60)), (4, .int ((pclock (pm2 r) 1) / 60))]) hx hb dX10_minuteOn_130 hl (k := 0) rfl (by decide) (by decide) rfl (fun ls hl => ?_)
              refine lv_goto (tgt := 78) hx hb dX10_minuteOn_133 (by decide) ?_
              exact hit78_3 r1 acc (by rw [← hT]; show pdueFrom _ _ _ _ r1 = pdueFrom _ _ _ _ (pdueStep _ _ 2 r1); rw [show pdueStep (pm2 r 1 / 60) (pclock (pm2 r) 1 / 60) 2 r1 = r1 from if_neg (show ¬ due (pm2 r 1 / 60) (pclock (pm2 r) 1 / 60) (r1 (27 + 3 * 2)) = 1 from fun q0 => absurd (q0.symm.trans c_74) (by decide))]) (by rw [← hB]; show duesFrom _ _ _ _ r1 acc = duesFrom _ _ _ _ (pdueStep _ _ 2 r1) (if _ then _ else _); rw [show pdueStep (pm2 r 1 / 60) (pclock (pm2 r) 1 / 60) 2 r1 = r1 from if_neg (show ¬ due (pm2 r 1 / 60) (pclock (pm2 r) 1 / 60) (r1 (27 + 3 * 2)) = 1 from fun q0 => absurd (q0.symm.trans c_74) (by decide)), if_neg (show ¬ due (pm2 r 1 / 60) (pclock (pm2 r) 1 / 60) (r1 (27 + 3 * 2)) = 1 from fun q0 => absurd (q0.symm.trans c_74) (by decide))]) (h6) _ _ (show va_P D vwCl (fl [[ia ty q 57 r1], [la ty t9 2 (tw (x + Int32.toInt64 ((pm2 r 4) * 60)) (y + Int32.toInt64 (((pm2 r 3) - (pm2 r 4)) * 60)))]]) _ from hP) hD hS _ (lv_sub hl [0, 1, 2, 3, 4, 5, 6] rfl)
            · skip
              refine lv_iload hx hb dX10_minuteOn_96 (lv_at hl 1 rfl) ?_
              refine lv_iconst (v := 1) hx hb dX10_minuteOn_98 (by decide) ?_
              refine lv_iload hx hb dX10_minuteOn_99 (lv_at hl 0 rfl) ?_
              refine W.eq (g2 := F0 m 101 ls [.int 2, .int 1, .int acc]) rfl ?_
              refine k_ishl (v := 4) hx hb dX10_minuteOn_101 (by decide) ?_
              refine k_ior (v := (acc ||| 4)) hx hb dX10_minuteOn_102 rfl ?_
              refine lv_istore (lv' := [(5, .int (acc ||| 4)), (6, .int 2), (0, .ref q), (1, .ref t9), (2, .int (pdom r)), (3, .int ((pm2 r 1) / 60)), (4, .int ((pclock (pm2 r) 1) / 60))]) hx hb dX10_minuteOn_103 hl (by decide) rfl (fun ls hl => ?_)
              refine lv_iload_n hx hb dX10_minuteOn_105 rfl (lv_at hl 4 rfl) ?_
              refine lv_if_ne (tgt := 118) hx hb dX10_minuteOn_106 (by decide) (fun c_75 => ?_) (fun c_75 => ?_)
              · skip
                refine lv_aload_n hx hb dX10_minuteOn_118 rfl (lv_at hl 2 rfl) ?_
                refine lv_bipush (v := 27) hx hb dX10_minuteOn_119 (by decide) ?_
                refine lv_iconst (v := 3) hx hb dX10_minuteOn_121 (by decide) ?_
                refine lv_iload hx hb dX10_minuteOn_122 (lv_at hl 1 rfl) ?_
                refine k_imul (v := 6) hx hb dX10_minuteOn_124 (by decide) ?_
                refine k_iadd (v := 33) hx hb dX10_minuteOn_125 (by decide) ?_
                refine lv_iconst (v := 1) hx hb dX10_minuteOn_126 (by decide) ?_
                refine k_iadd (v := 34) hx hb dX10_minuteOn_127 (by decide) ?_
                refine lv_iconst (v := 1) hx hb dX10_minuteOn_128 (by decide) ?_
                refine k_iast hx hb hK hP hD hS 0 rfl 34 rfl (by decide) (Nat.le_of_ble_eq_true rfl) dX10_minuteOn_129 (fun H locs hP hD hS => ?_)
                have hP : va_P D vwCl (fl [[ia ty q 57 (upd r1 34 1)], [la ty t9 2 (tw (x + Int32.toInt64 ((pm2 r 4) * 60)) (y + Int32.toInt64 (((pm2 r 3) - (pm2 r 4)) * 60)))]]) H := hP
                have hD : va_D A (fl [[ia ty q 57 (upd r1 34 1)], [la ty t9 2 (tw (x + Int32.toInt64 ((pm2 r 4) * 60)) (y + Int32.toInt64 (((pm2 r 3) - (pm2 r 4)) * 60)))]]) := hD
                refine lv_iinc (v := 3) (lv' := [(6, .int 3), (5, .int (acc ||| 4)), (0, .ref q), (1, .ref t9), (2, .int (pdom r)), (3, .int ((pm2 r 1) / 60)), (4, .int ((pclock (pm2 r) 1) / 60))]) hx hb dX10_minuteOn_130 hl (k := 1) rfl (by decide) (by decide) rfl (fun ls hl => ?_)
                refine lv_goto (tgt := 78) hx hb dX10_minuteOn_133 (by decide) ?_
                exact hit78_3 (upd r1 34 1) (acc ||| 4) (by rw [← hT]; show pdueFrom _ _ _ _ _ = pdueFrom _ _ _ _ (pdueStep _ _ 2 r1); rw [show pdueStep (pm2 r 1 / 60) (pclock (pm2 r) 1 / 60) 2 r1 = (upd r1 34 1) from (if_pos ((due_or _ _ _).resolve_left c_74 : due (pm2 r 1 / 60) (pclock (pm2 r) 1 / 60) (r1 (27 + 3 * 2)) = 1)).trans (if_neg (fun q0 => c_75 ((dom_iff h6).mpr q0)))]) (by rw [← hB]; show duesFrom _ _ _ _ _ _ = duesFrom _ _ _ _ (pdueStep _ _ 2 r1) (if _ then _ else _); rw [show pdueStep (pm2 r 1 / 60) (pclock (pm2 r) 1 / 60) 2 r1 = (upd r1 34 1) from (if_pos ((due_or _ _ _).resolve_left c_74 : due (pm2 r 1 / 60) (pclock (pm2 r) 1 / 60) (r1 (27 + 3 * 2)) = 1)).trans (if_neg (fun q0 => c_75 ((dom_iff h6).mpr q0))), if_pos ((due_or _ _ _).resolve_left c_74 : due (pm2 r 1 / 60) (pclock (pm2 r) 1 / 60) (r1 (27 + 3 * 2)) = 1)]; rfl) (h6) _ _ (show va_P D vwCl (fl [[ia ty q 57 (upd r1 34 1)], [la ty t9 2 (tw (x + Int32.toInt64 ((pm2 r 4) * 60)) (y + Int32.toInt64 (((pm2 r 3) - (pm2 r 4)) * 60)))]]) _ from hP) hD hS _ (lv_sub hl [0, 1, 2, 3, 4, 5, 6] rfl)
              · skip
                refine lv_aload_n hx hb dX10_minuteOn_109 rfl (lv_at hl 2 rfl) ?_
                refine lv_iload hx hb dX10_minuteOn_110 (lv_at hl 1 rfl) ?_
                refine cSv (As := [.ref q, .int 2]) (rest := []) ⟨hx, hb, hml, hown, hts⟩ (c_X10_ring l D ty q 2 r1 (by omega)) (va_cwS 2 hts gX10_minuteOn_X10_ring rfl rfl rfl (by decide +kernel) ⟨Nat.le_of_ble_eq_true rfl, Nat.le_of_ble_eq_true rfl⟩) hK hX hP hD hS hA (pk (bs := [[ia ty q 57 r1], [la ty t9 2 (tw (x + Int32.toInt64 ((pm2 r 4) * 60)) (y + Int32.toInt64 (((pm2 r 3) - (pm2 r 4)) * 60)))]]) (bsc := [[ia ty q 57 r1]]) (bsr := [[la ty t9 2 (tw (x + Int32.toInt64 ((pm2 r 4) * 60)) (y + Int32.toInt64 (((pm2 r 3) - (pm2 r 4)) * 60)))]]) [0] [1] 2 rfl (by decide +kernel) rfl rfl) rfl hl.1 rfl (Nat.le_of_ble_eq_true rfl) dX10_minuteOn_112 ⟨Nat.le_of_ble_eq_true rfl, Nat.le_of_ble_eq_true rfl⟩ (fun u_76 h_78 H locs hP hD hS => ?_)
                have hP : va_P D vwCl (fl [[ia ty q 57 (pring 2 r1)], [la ty t9 2 (tw (x + Int32.toInt64 ((pm2 r 4) * 60)) (y + Int32.toInt64 (((pm2 r 3) - (pm2 r 4)) * 60)))]]) H := P_perm (po (bs := [[ia ty q 57 (pring 2 r1)], [la ty t9 2 (tw (x + Int32.toInt64 ((pm2 r 4) * 60)) (y + Int32.toInt64 (((pm2 r 3) - (pm2 r 4)) * 60)))]]) [0, 1] 2 rfl (by decide +kernel) rfl) hP
                have hD : va_D A (fl [[ia ty q 57 (pring 2 r1)], [la ty t9 2 (tw (x + Int32.toInt64 ((pm2 r 4) * 60)) (y + Int32.toInt64 (((pm2 r 3) - (pm2 r 4)) * 60)))]]) := D_perm (po (bs := [[ia ty q 57 (pring 2 r1)], [la ty t9 2 (tw (x + Int32.toInt64 ((pm2 r 4) * 60)) (y + Int32.toInt64 (((pm2 r 3) - (pm2 r 4)) * 60)))]]) [0, 1] 2 rfl (by decide +kernel) rfl) hD
                refine lv_goto (tgt := 130) hx hb dX10_minuteOn_115 (by decide) ?_
                refine lv_iinc (v := 3) (lv' := [(6, .int 3), (5, .int (acc ||| 4)), (0, .ref q), (1, .ref t9), (2, .int (pdom r)), (3, .int ((pm2 r 1) / 60)), (4, .int ((pclock (pm2 r) 1) / 60))]) hx hb dX10_minuteOn_130 hl (k := 1) rfl (by decide) (by decide) rfl (fun ls hl => ?_)
                refine lv_goto (tgt := 78) hx hb dX10_minuteOn_133 (by decide) ?_
                exact hit78_3 (pring 2 r1) (acc ||| 4) (by rw [← hT]; show pdueFrom _ _ _ _ _ = pdueFrom _ _ _ _ (pdueStep _ _ 2 r1); rw [show pdueStep (pm2 r 1 / 60) (pclock (pm2 r) 1 / 60) 2 r1 = (pring 2 r1) from (if_pos ((due_or _ _ _).resolve_left c_74 : due (pm2 r 1 / 60) (pclock (pm2 r) 1 / 60) (r1 (27 + 3 * 2)) = 1)).trans (if_pos ((dom_iff h6).mp c_75))]) (by rw [← hB]; show duesFrom _ _ _ _ _ _ = duesFrom _ _ _ _ (pdueStep _ _ 2 r1) (if _ then _ else _); rw [show pdueStep (pm2 r 1 / 60) (pclock (pm2 r) 1 / 60) 2 r1 = (pring 2 r1) from (if_pos ((due_or _ _ _).resolve_left c_74 : due (pm2 r 1 / 60) (pclock (pm2 r) 1 / 60) (r1 (27 + 3 * 2)) = 1)).trans (if_pos ((dom_iff h6).mp c_75)), if_pos ((due_or _ _ _).resolve_left c_74 : due (pm2 r 1 / 60) (pclock (pm2 r) 1 / 60) (r1 (27 + 3 * 2)) = 1)]; rfl) (h6) _ _ (show va_P D vwCl (fl [[ia ty q 57 (pring 2 r1)], [la ty t9 2 (tw (x + Int32.toInt64 ((pm2 r 4) * 60)) (y + Int32.toInt64 (((pm2 r 3) - (pm2 r 4)) * 60)))]]) _ from hP) hD hS _ (lv_sub hl [0, 1, 2, 3, 4, 5, 6] rfl)
        have hit78_1 : ∀ (r1 : Nat → Int32) (acc : Int32), (pdueFrom (pm2 r 1 / 60) (pclock (pm2 r) 1 / 60) 3 1 r1 = pgo (pm2 r)) → (duesFrom (pm2 r 1 / 60) (pclock (pm2 r) 1 / 60) 3 1 r1 acc = pdues r) → (r1 6 = r 6) → ∀ (H : Heap) (locs : List Loc), va_P D vwCl (fl [[ia ty q 57 r1], [la ty t9 2 (tw (x + Int32.toInt64 ((pm2 r 4) * 60)) (y + Int32.toInt64 (((pm2 r 3) - (pm2 r 4)) * 60)))]]) H → va_D A (fl [[ia ty q 57 r1], [la ty t9 2 (tw (x + Int32.toInt64 ((pm2 r 4) * 60)) (y + Int32.toInt64 (((pm2 r 3) - (pm2 r 4)) * 60)))]]) → va_S A s.heap H locs → ∀ ls : Array Slot, lv_has ls 7 [(6, .int 1), (5, .int acc), (0, .ref q), (1, .ref t9), (2, .int (pdom r)), (3, .int ((pm2 r 1) / 60)), (4, .int ((pclock (pm2 r) 1) / 60))] → W p l e ({ frames := 3, cells := 0, slots := 0, locals := 66 } : Room) s m args below meth c H locs 0 0 Qg (F0 m 78 ls []) := by
          intro r1 acc hT hB h6 H locs hP hD hS ls hl
          refine lv_iload hx hb dX10_minuteOn_78 (lv_at hl 0 rfl) ?_
          refine lv_iconst (v := 4) hx hb dX10_minuteOn_80 (by decide) ?_
          refine lv_icmp_ge (tgt := 136) hx hb dX10_minuteOn_81 (by decide) (fun c_79 => ?_) (fun c_79 => ?_)
          · exact absurd c_79 (by decide)
          · skip
            refine lv_aload_n hx hb dX10_minuteOn_84 rfl (lv_at hl 2 rfl) ?_
            refine lv_iload hx hb dX10_minuteOn_85 (lv_at hl 0 rfl) ?_
            refine lv_iload_n hx hb dX10_minuteOn_87 rfl (lv_at hl 5 rfl) ?_
            refine lv_iload hx hb dX10_minuteOn_88 (lv_at hl 6 rfl) ?_
            refine cSi (As := [.ref q, .int 1, .int ((pm2 r 1) / 60), .int ((pclock (pm2 r) 1) / 60)]) (rest := []) ⟨hx, hb, hml, hown, hts⟩ (c_X10_isDue l D ty q 1 ((pm2 r 1) / 60) ((pclock (pm2 r) 1) / 60) r1 (by omega) (div60_le _) (div60_le _)) (va_cwS 4 hts gX10_minuteOn_X10_isDue rfl rfl rfl (by decide +kernel) ⟨Nat.le_of_ble_eq_true rfl, Nat.le_of_ble_eq_true rfl⟩) hK hX hP hD hS hA (pk (bs := [[ia ty q 57 r1], [la ty t9 2 (tw (x + Int32.toInt64 ((pm2 r 4) * 60)) (y + Int32.toInt64 (((pm2 r 3) - (pm2 r 4)) * 60)))]]) (bsc := [[ia ty q 57 r1]]) (bsr := [[la ty t9 2 (tw (x + Int32.toInt64 ((pm2 r 4) * 60)) (y + Int32.toInt64 (((pm2 r 3) - (pm2 r 4)) * 60)))]]) [0] [1] 2 rfl (by decide +kernel) rfl rfl) rfl hl.1 rfl (Nat.le_of_ble_eq_true rfl) dX10_minuteOn_90 ⟨Nat.le_of_ble_eq_true rfl, Nat.le_of_ble_eq_true rfl⟩ (fun r_81 u_80 h_82 H locs hP hD hS => ?_)
            have h_82 : r_81 = (due ((pm2 r 1) / 60) ((pclock (pm2 r) 1) / 60) (r1 (27 + 3 * 1))) := h_82
            subst h_82
            have hP : va_P D vwCl (fl [[ia ty q 57 r1], [la ty t9 2 (tw (x + Int32.toInt64 ((pm2 r 4) * 60)) (y + Int32.toInt64 (((pm2 r 3) - (pm2 r 4)) * 60)))]]) H := P_perm (po (bs := [[ia ty q 57 r1], [la ty t9 2 (tw (x + Int32.toInt64 ((pm2 r 4) * 60)) (y + Int32.toInt64 (((pm2 r 3) - (pm2 r 4)) * 60)))]]) [0, 1] 2 rfl (by decide +kernel) rfl) hP
            have hD : va_D A (fl [[ia ty q 57 r1], [la ty t9 2 (tw (x + Int32.toInt64 ((pm2 r 4) * 60)) (y + Int32.toInt64 (((pm2 r 3) - (pm2 r 4)) * 60)))]]) := D_perm (po (bs := [[ia ty q 57 r1], [la ty t9 2 (tw (x + Int32.toInt64 ((pm2 r 4) * 60)) (y + Int32.toInt64 (((pm2 r 3) - (pm2 r 4)) * 60)))]]) [0, 1] 2 rfl (by decide +kernel) rfl) hD
            refine lv_if_eq (tgt := 130) hx hb dX10_minuteOn_93 (by decide) (fun c_83 => ?_) (fun c_83 => ?_)
            · skip
              refine lv_iinc (v := 2) (lv' := [(6, .int 2), (5, .int acc), (0, .ref q), (1, .ref t9), (2, .int (pdom r)), (3, .int ((pm2 r 1) / 60)), (4, .int ((pclock (pm2 r) 1) / 60))]) hx hb dX10_minuteOn_130 hl (k := 0) rfl (by decide) (by decide) rfl (fun ls hl => ?_)
              refine lv_goto (tgt := 78) hx hb dX10_minuteOn_133 (by decide) ?_
              exact hit78_2 r1 acc (by rw [← hT]; show pdueFrom _ _ _ _ r1 = pdueFrom _ _ _ _ (pdueStep _ _ 1 r1); rw [show pdueStep (pm2 r 1 / 60) (pclock (pm2 r) 1 / 60) 1 r1 = r1 from if_neg (show ¬ due (pm2 r 1 / 60) (pclock (pm2 r) 1 / 60) (r1 (27 + 3 * 1)) = 1 from fun q0 => absurd (q0.symm.trans c_83) (by decide))]) (by rw [← hB]; show duesFrom _ _ _ _ r1 acc = duesFrom _ _ _ _ (pdueStep _ _ 1 r1) (if _ then _ else _); rw [show pdueStep (pm2 r 1 / 60) (pclock (pm2 r) 1 / 60) 1 r1 = r1 from if_neg (show ¬ due (pm2 r 1 / 60) (pclock (pm2 r) 1 / 60) (r1 (27 + 3 * 1)) = 1 from fun q0 => absurd (q0.symm.trans c_83) (by decide)), if_neg (show ¬ due (pm2 r 1 / 60) (pclock (pm2 r) 1 / 60) (r1 (27 + 3 * 1)) = 1 from fun q0 => absurd (q0.symm.trans c_83) (by decide))]) (h6) _ _ (show va_P D vwCl (fl [[ia ty q 57 r1], [la ty t9 2 (tw (x + Int32.toInt64 ((pm2 r 4) * 60)) (y + Int32.toInt64 (((pm2 r 3) - (pm2 r 4)) * 60)))]]) _ from hP) hD hS _ (lv_sub hl [0, 1, 2, 3, 4, 5, 6] rfl)
            · skip
              refine lv_iload hx hb dX10_minuteOn_96 (lv_at hl 1 rfl) ?_
              refine lv_iconst (v := 1) hx hb dX10_minuteOn_98 (by decide) ?_
              refine lv_iload hx hb dX10_minuteOn_99 (lv_at hl 0 rfl) ?_
              refine W.eq (g2 := F0 m 101 ls [.int 1, .int 1, .int acc]) rfl ?_
              refine k_ishl (v := 2) hx hb dX10_minuteOn_101 (by decide) ?_
              refine k_ior (v := (acc ||| 2)) hx hb dX10_minuteOn_102 rfl ?_
              refine lv_istore (lv' := [(5, .int (acc ||| 2)), (6, .int 1), (0, .ref q), (1, .ref t9), (2, .int (pdom r)), (3, .int ((pm2 r 1) / 60)), (4, .int ((pclock (pm2 r) 1) / 60))]) hx hb dX10_minuteOn_103 hl (by decide) rfl (fun ls hl => ?_)
              refine lv_iload_n hx hb dX10_minuteOn_105 rfl (lv_at hl 4 rfl) ?_
              refine lv_if_ne (tgt := 118) hx hb dX10_minuteOn_106 (by decide) (fun c_84 => ?_) (fun c_84 => ?_)
              · skip
                refine lv_aload_n hx hb dX10_minuteOn_118 rfl (lv_at hl 2 rfl) ?_
                refine lv_bipush (v := 27) hx hb dX10_minuteOn_119 (by decide) ?_
                refine lv_iconst (v := 3) hx hb dX10_minuteOn_121 (by decide) ?_
                refine lv_iload hx hb dX10_minuteOn_122 (lv_at hl 1 rfl) ?_
                refine k_imul (v := 3) hx hb dX10_minuteOn_124 (by decide) ?_
                refine k_iadd (v := 30) hx hb dX10_minuteOn_125 (by decide) ?_
                refine lv_iconst (v := 1) hx hb dX10_minuteOn_126 (by decide) ?_
                refine k_iadd (v := 31) hx hb dX10_minuteOn_127 (by decide) ?_
                refine lv_iconst (v := 1) hx hb dX10_minuteOn_128 (by decide) ?_
                refine k_iast hx hb hK hP hD hS 0 rfl 31 rfl (by decide) (Nat.le_of_ble_eq_true rfl) dX10_minuteOn_129 (fun H locs hP hD hS => ?_)
                have hP : va_P D vwCl (fl [[ia ty q 57 (upd r1 31 1)], [la ty t9 2 (tw (x + Int32.toInt64 ((pm2 r 4) * 60)) (y + Int32.toInt64 (((pm2 r 3) - (pm2 r 4)) * 60)))]]) H := hP
                have hD : va_D A (fl [[ia ty q 57 (upd r1 31 1)], [la ty t9 2 (tw (x + Int32.toInt64 ((pm2 r 4) * 60)) (y + Int32.toInt64 (((pm2 r 3) - (pm2 r 4)) * 60)))]]) := hD
                refine lv_iinc (v := 2) (lv' := [(6, .int 2), (5, .int (acc ||| 2)), (0, .ref q), (1, .ref t9), (2, .int (pdom r)), (3, .int ((pm2 r 1) / 60)), (4, .int ((pclock (pm2 r) 1) / 60))]) hx hb dX10_minuteOn_130 hl (k := 1) rfl (by decide) (by decide) rfl (fun ls hl => ?_)
                refine lv_goto (tgt := 78) hx hb dX10_minuteOn_133 (by decide) ?_
                exact hit78_2 (upd r1 31 1) (acc ||| 2) (by rw [← hT]; show pdueFrom _ _ _ _ _ = pdueFrom _ _ _ _ (pdueStep _ _ 1 r1); rw [show pdueStep (pm2 r 1 / 60) (pclock (pm2 r) 1 / 60) 1 r1 = (upd r1 31 1) from (if_pos ((due_or _ _ _).resolve_left c_83 : due (pm2 r 1 / 60) (pclock (pm2 r) 1 / 60) (r1 (27 + 3 * 1)) = 1)).trans (if_neg (fun q0 => c_84 ((dom_iff h6).mpr q0)))]) (by rw [← hB]; show duesFrom _ _ _ _ _ _ = duesFrom _ _ _ _ (pdueStep _ _ 1 r1) (if _ then _ else _); rw [show pdueStep (pm2 r 1 / 60) (pclock (pm2 r) 1 / 60) 1 r1 = (upd r1 31 1) from (if_pos ((due_or _ _ _).resolve_left c_83 : due (pm2 r 1 / 60) (pclock (pm2 r) 1 / 60) (r1 (27 + 3 * 1)) = 1)).trans (if_neg (fun q0 => c_84 ((dom_iff h6).mpr q0))), if_pos ((due_or _ _ _).resolve_left c_83 : due (pm2 r 1 / 60) (pclock (pm2 r) 1 / 60) (r1 (27 + 3 * 1)) = 1)]; rfl) (h6) _ _ (show va_P D vwCl (fl [[ia ty q 57 (upd r1 31 1)], [la ty t9 2 (tw (x + Int32.toInt64 ((pm2 r 4) * 60)) (y + Int32.toInt64 (((pm2 r 3) - (pm2 r 4)) * 60)))]]) _ from hP) hD hS _ (lv_sub hl [0, 1, 2, 3, 4, 5, 6] rfl)
              · skip
                refine lv_aload_n hx hb dX10_minuteOn_109 rfl (lv_at hl 2 rfl) ?_
                refine lv_iload hx hb dX10_minuteOn_110 (lv_at hl 1 rfl) ?_
                refine cSv (As := [.ref q, .int 1]) (rest := []) ⟨hx, hb, hml, hown, hts⟩ (c_X10_ring l D ty q 1 r1 (by omega)) (va_cwS 2 hts gX10_minuteOn_X10_ring rfl rfl rfl (by decide +kernel) ⟨Nat.le_of_ble_eq_true rfl, Nat.le_of_ble_eq_true rfl⟩) hK hX hP hD hS hA (pk (bs := [[ia ty q 57 r1], [la ty t9 2 (tw (x + Int32.toInt64 ((pm2 r 4) * 60)) (y + Int32.toInt64 (((pm2 r 3) - (pm2 r 4)) * 60)))]]) (bsc := [[ia ty q 57 r1]]) (bsr := [[la ty t9 2 (tw (x + Int32.toInt64 ((pm2 r 4) * 60)) (y + Int32.toInt64 (((pm2 r 3) - (pm2 r 4)) * 60)))]]) [0] [1] 2 rfl (by decide +kernel) rfl rfl) rfl hl.1 rfl (Nat.le_of_ble_eq_true rfl) dX10_minuteOn_112 ⟨Nat.le_of_ble_eq_true rfl, Nat.le_of_ble_eq_true rfl⟩ (fun u_85 h_87 H locs hP hD hS => ?_)
                have hP : va_P D vwCl (fl [[ia ty q 57 (pring 1 r1)], [la ty t9 2 (tw (x + Int32.toInt64 ((pm2 r 4) * 60)) (y + Int32.toInt64 (((pm2 r 3) - (pm2 r 4)) * 60)))]]) H := P_perm (po (bs := [[ia ty q 57 (pring 1 r1)], [la ty t9 2 (tw (x + Int32.toInt64 ((pm2 r 4) * 60)) (y + Int32.toInt64 (((pm2 r 3) - (pm2 r 4)) * 60)))]]) [0, 1] 2 rfl (by decide +kernel) rfl) hP
                have hD : va_D A (fl [[ia ty q 57 (pring 1 r1)], [la ty t9 2 (tw (x + Int32.toInt64 ((pm2 r 4) * 60)) (y + Int32.toInt64 (((pm2 r 3) - (pm2 r 4)) * 60)))]]) := D_perm (po (bs := [[ia ty q 57 (pring 1 r1)], [la ty t9 2 (tw (x + Int32.toInt64 ((pm2 r 4) * 60)) (y + Int32.toInt64 (((pm2 r 3) - (pm2 r 4)) * 60)))]]) [0, 1] 2 rfl (by decide +kernel) rfl) hD
                refine lv_goto (tgt := 130) hx hb dX10_minuteOn_115 (by decide) ?_
                refine lv_iinc (v := 2) (lv' := [(6, .int 2), (5, .int (acc ||| 2)), (0, .ref q), (1, .ref t9), (2, .int (pdom r)), (3, .int ((pm2 r 1) / 60)), (4, .int ((pclock (pm2 r) 1) / 60))]) hx hb dX10_minuteOn_130 hl (k := 1) rfl (by decide) (by decide) rfl (fun ls hl => ?_)
                refine lv_goto (tgt := 78) hx hb dX10_minuteOn_133 (by decide) ?_
                exact hit78_2 (pring 1 r1) (acc ||| 2) (by rw [← hT]; show pdueFrom _ _ _ _ _ = pdueFrom _ _ _ _ (pdueStep _ _ 1 r1); rw [show pdueStep (pm2 r 1 / 60) (pclock (pm2 r) 1 / 60) 1 r1 = (pring 1 r1) from (if_pos ((due_or _ _ _).resolve_left c_83 : due (pm2 r 1 / 60) (pclock (pm2 r) 1 / 60) (r1 (27 + 3 * 1)) = 1)).trans (if_pos ((dom_iff h6).mp c_84))]) (by rw [← hB]; show duesFrom _ _ _ _ _ _ = duesFrom _ _ _ _ (pdueStep _ _ 1 r1) (if _ then _ else _); rw [show pdueStep (pm2 r 1 / 60) (pclock (pm2 r) 1 / 60) 1 r1 = (pring 1 r1) from (if_pos ((due_or _ _ _).resolve_left c_83 : due (pm2 r 1 / 60) (pclock (pm2 r) 1 / 60) (r1 (27 + 3 * 1)) = 1)).trans (if_pos ((dom_iff h6).mp c_84)), if_pos ((due_or _ _ _).resolve_left c_83 : due (pm2 r 1 / 60) (pclock (pm2 r) 1 / 60) (r1 (27 + 3 * 1)) = 1)]; rfl) (h6) _ _ (show va_P D vwCl (fl [[ia ty q 57 (pring 1 r1)], [la ty t9 2 (tw (x + Int32.toInt64 ((pm2 r 4) * 60)) (y + Int32.toInt64 (((pm2 r 3) - (pm2 r 4)) * 60)))]]) _ from hP) hD hS _ (lv_sub hl [0, 1, 2, 3, 4, 5, 6] rfl)
        have hit78_0 : ∀ (r1 : Nat → Int32) (acc : Int32), (pdueFrom (pm2 r 1 / 60) (pclock (pm2 r) 1 / 60) 4 0 r1 = pgo (pm2 r)) → (duesFrom (pm2 r 1 / 60) (pclock (pm2 r) 1 / 60) 4 0 r1 acc = pdues r) → (r1 6 = r 6) → ∀ (H : Heap) (locs : List Loc), va_P D vwCl (fl [[ia ty q 57 r1], [la ty t9 2 (tw (x + Int32.toInt64 ((pm2 r 4) * 60)) (y + Int32.toInt64 (((pm2 r 3) - (pm2 r 4)) * 60)))]]) H → va_D A (fl [[ia ty q 57 r1], [la ty t9 2 (tw (x + Int32.toInt64 ((pm2 r 4) * 60)) (y + Int32.toInt64 (((pm2 r 3) - (pm2 r 4)) * 60)))]]) → va_S A s.heap H locs → ∀ ls : Array Slot, lv_has ls 7 [(6, .int 0), (5, .int acc), (0, .ref q), (1, .ref t9), (2, .int (pdom r)), (3, .int ((pm2 r 1) / 60)), (4, .int ((pclock (pm2 r) 1) / 60))] → W p l e ({ frames := 3, cells := 0, slots := 0, locals := 66 } : Room) s m args below meth c H locs 0 0 Qg (F0 m 78 ls []) := by
          intro r1 acc hT hB h6 H locs hP hD hS ls hl
          refine lv_iload hx hb dX10_minuteOn_78 (lv_at hl 0 rfl) ?_
          refine lv_iconst (v := 4) hx hb dX10_minuteOn_80 (by decide) ?_
          refine lv_icmp_ge (tgt := 136) hx hb dX10_minuteOn_81 (by decide) (fun c_88 => ?_) (fun c_88 => ?_)
          · exact absurd c_88 (by decide)
          · skip
            refine lv_aload_n hx hb dX10_minuteOn_84 rfl (lv_at hl 2 rfl) ?_
            refine lv_iload hx hb dX10_minuteOn_85 (lv_at hl 0 rfl) ?_
            refine lv_iload_n hx hb dX10_minuteOn_87 rfl (lv_at hl 5 rfl) ?_
            refine lv_iload hx hb dX10_minuteOn_88 (lv_at hl 6 rfl) ?_
            refine cSi (As := [.ref q, .int 0, .int ((pm2 r 1) / 60), .int ((pclock (pm2 r) 1) / 60)]) (rest := []) ⟨hx, hb, hml, hown, hts⟩ (c_X10_isDue l D ty q 0 ((pm2 r 1) / 60) ((pclock (pm2 r) 1) / 60) r1 (by omega) (div60_le _) (div60_le _)) (va_cwS 4 hts gX10_minuteOn_X10_isDue rfl rfl rfl (by decide +kernel) ⟨Nat.le_of_ble_eq_true rfl, Nat.le_of_ble_eq_true rfl⟩) hK hX hP hD hS hA (pk (bs := [[ia ty q 57 r1], [la ty t9 2 (tw (x + Int32.toInt64 ((pm2 r 4) * 60)) (y + Int32.toInt64 (((pm2 r 3) - (pm2 r 4)) * 60)))]]) (bsc := [[ia ty q 57 r1]]) (bsr := [[la ty t9 2 (tw (x + Int32.toInt64 ((pm2 r 4) * 60)) (y + Int32.toInt64 (((pm2 r 3) - (pm2 r 4)) * 60)))]]) [0] [1] 2 rfl (by decide +kernel) rfl rfl) rfl hl.1 rfl (Nat.le_of_ble_eq_true rfl) dX10_minuteOn_90 ⟨Nat.le_of_ble_eq_true rfl, Nat.le_of_ble_eq_true rfl⟩ (fun r_90 u_89 h_91 H locs hP hD hS => ?_)
            have h_91 : r_90 = (due ((pm2 r 1) / 60) ((pclock (pm2 r) 1) / 60) (r1 (27 + 3 * 0))) := h_91
            subst h_91
            have hP : va_P D vwCl (fl [[ia ty q 57 r1], [la ty t9 2 (tw (x + Int32.toInt64 ((pm2 r 4) * 60)) (y + Int32.toInt64 (((pm2 r 3) - (pm2 r 4)) * 60)))]]) H := P_perm (po (bs := [[ia ty q 57 r1], [la ty t9 2 (tw (x + Int32.toInt64 ((pm2 r 4) * 60)) (y + Int32.toInt64 (((pm2 r 3) - (pm2 r 4)) * 60)))]]) [0, 1] 2 rfl (by decide +kernel) rfl) hP
            have hD : va_D A (fl [[ia ty q 57 r1], [la ty t9 2 (tw (x + Int32.toInt64 ((pm2 r 4) * 60)) (y + Int32.toInt64 (((pm2 r 3) - (pm2 r 4)) * 60)))]]) := D_perm (po (bs := [[ia ty q 57 r1], [la ty t9 2 (tw (x + Int32.toInt64 ((pm2 r 4) * 60)) (y + Int32.toInt64 (((pm2 r 3) - (pm2 r 4)) * 60)))]]) [0, 1] 2 rfl (by decide +kernel) rfl) hD
            refine lv_if_eq (tgt := 130) hx hb dX10_minuteOn_93 (by decide) (fun c_92 => ?_) (fun c_92 => ?_)
            · skip
              refine lv_iinc (v := 1) (lv' := [(6, .int 1), (5, .int acc), (0, .ref q), (1, .ref t9), (2, .int (pdom r)), (3, .int ((pm2 r 1) / 60)), (4, .int ((pclock (pm2 r) 1) / 60))]) hx hb dX10_minuteOn_130 hl (k := 0) rfl (by decide) (by decide) rfl (fun ls hl => ?_)
              refine lv_goto (tgt := 78) hx hb dX10_minuteOn_133 (by decide) ?_
              exact hit78_1 r1 acc (by rw [← hT]; show pdueFrom _ _ _ _ r1 = pdueFrom _ _ _ _ (pdueStep _ _ 0 r1); rw [show pdueStep (pm2 r 1 / 60) (pclock (pm2 r) 1 / 60) 0 r1 = r1 from if_neg (show ¬ due (pm2 r 1 / 60) (pclock (pm2 r) 1 / 60) (r1 (27 + 3 * 0)) = 1 from fun q0 => absurd (q0.symm.trans c_92) (by decide))]) (by rw [← hB]; show duesFrom _ _ _ _ r1 acc = duesFrom _ _ _ _ (pdueStep _ _ 0 r1) (if _ then _ else _); rw [show pdueStep (pm2 r 1 / 60) (pclock (pm2 r) 1 / 60) 0 r1 = r1 from if_neg (show ¬ due (pm2 r 1 / 60) (pclock (pm2 r) 1 / 60) (r1 (27 + 3 * 0)) = 1 from fun q0 => absurd (q0.symm.trans c_92) (by decide)), if_neg (show ¬ due (pm2 r 1 / 60) (pclock (pm2 r) 1 / 60) (r1 (27 + 3 * 0)) = 1 from fun q0 => absurd (q0.symm.trans c_92) (by decide))]) (h6) _ _ (show va_P D vwCl (fl [[ia ty q 57 r1], [la ty t9 2 (tw (x + Int32.toInt64 ((pm2 r 4) * 60)) (y + Int32.toInt64 (((pm2 r 3) - (pm2 r 4)) * 60)))]]) _ from hP) hD hS _ (lv_sub hl [0, 1, 2, 3, 4, 5, 6] rfl)
            · skip
              refine lv_iload hx hb dX10_minuteOn_96 (lv_at hl 1 rfl) ?_
              refine lv_iconst (v := 1) hx hb dX10_minuteOn_98 (by decide) ?_
              refine lv_iload hx hb dX10_minuteOn_99 (lv_at hl 0 rfl) ?_
              refine W.eq (g2 := F0 m 101 ls [.int 0, .int 1, .int acc]) rfl ?_
              refine k_ishl (v := 1) hx hb dX10_minuteOn_101 (by decide) ?_
              refine k_ior (v := (acc ||| 1)) hx hb dX10_minuteOn_102 rfl ?_
              refine lv_istore (lv' := [(5, .int (acc ||| 1)), (6, .int 0), (0, .ref q), (1, .ref t9), (2, .int (pdom r)), (3, .int ((pm2 r 1) / 60)), (4, .int ((pclock (pm2 r) 1) / 60))]) hx hb dX10_minuteOn_103 hl (by decide) rfl (fun ls hl => ?_)
              refine lv_iload_n hx hb dX10_minuteOn_105 rfl (lv_at hl 4 rfl) ?_
              refine lv_if_ne (tgt := 118) hx hb dX10_minuteOn_106 (by decide) (fun c_93 => ?_) (fun c_93 => ?_)
              · skip
                refine lv_aload_n hx hb dX10_minuteOn_118 rfl (lv_at hl 2 rfl) ?_
                refine lv_bipush (v := 27) hx hb dX10_minuteOn_119 (by decide) ?_
                refine lv_iconst (v := 3) hx hb dX10_minuteOn_121 (by decide) ?_
                refine lv_iload hx hb dX10_minuteOn_122 (lv_at hl 1 rfl) ?_
                refine k_imul (v := 0) hx hb dX10_minuteOn_124 (by decide) ?_
                refine k_iadd (v := 27) hx hb dX10_minuteOn_125 (by decide) ?_
                refine lv_iconst (v := 1) hx hb dX10_minuteOn_126 (by decide) ?_
                refine k_iadd (v := 28) hx hb dX10_minuteOn_127 (by decide) ?_
                refine lv_iconst (v := 1) hx hb dX10_minuteOn_128 (by decide) ?_
                refine k_iast hx hb hK hP hD hS 0 rfl 28 rfl (by decide) (Nat.le_of_ble_eq_true rfl) dX10_minuteOn_129 (fun H locs hP hD hS => ?_)
                have hP : va_P D vwCl (fl [[ia ty q 57 (upd r1 28 1)], [la ty t9 2 (tw (x + Int32.toInt64 ((pm2 r 4) * 60)) (y + Int32.toInt64 (((pm2 r 3) - (pm2 r 4)) * 60)))]]) H := hP
                have hD : va_D A (fl [[ia ty q 57 (upd r1 28 1)], [la ty t9 2 (tw (x + Int32.toInt64 ((pm2 r 4) * 60)) (y + Int32.toInt64 (((pm2 r 3) - (pm2 r 4)) * 60)))]]) := hD
                refine lv_iinc (v := 1) (lv' := [(6, .int 1), (5, .int (acc ||| 1)), (0, .ref q), (1, .ref t9), (2, .int (pdom r)), (3, .int ((pm2 r 1) / 60)), (4, .int ((pclock (pm2 r) 1) / 60))]) hx hb dX10_minuteOn_130 hl (k := 1) rfl (by decide) (by decide) rfl (fun ls hl => ?_)
                refine lv_goto (tgt := 78) hx hb dX10_minuteOn_133 (by decide) ?_
                exact hit78_1 (upd r1 28 1) (acc ||| 1) (by rw [← hT]; show pdueFrom _ _ _ _ _ = pdueFrom _ _ _ _ (pdueStep _ _ 0 r1); rw [show pdueStep (pm2 r 1 / 60) (pclock (pm2 r) 1 / 60) 0 r1 = (upd r1 28 1) from (if_pos ((due_or _ _ _).resolve_left c_92 : due (pm2 r 1 / 60) (pclock (pm2 r) 1 / 60) (r1 (27 + 3 * 0)) = 1)).trans (if_neg (fun q0 => c_93 ((dom_iff h6).mpr q0)))]) (by rw [← hB]; show duesFrom _ _ _ _ _ _ = duesFrom _ _ _ _ (pdueStep _ _ 0 r1) (if _ then _ else _); rw [show pdueStep (pm2 r 1 / 60) (pclock (pm2 r) 1 / 60) 0 r1 = (upd r1 28 1) from (if_pos ((due_or _ _ _).resolve_left c_92 : due (pm2 r 1 / 60) (pclock (pm2 r) 1 / 60) (r1 (27 + 3 * 0)) = 1)).trans (if_neg (fun q0 => c_93 ((dom_iff h6).mpr q0))), if_pos ((due_or _ _ _).resolve_left c_92 : due (pm2 r 1 / 60) (pclock (pm2 r) 1 / 60) (r1 (27 + 3 * 0)) = 1)]; rfl) (h6) _ _ (show va_P D vwCl (fl [[ia ty q 57 (upd r1 28 1)], [la ty t9 2 (tw (x + Int32.toInt64 ((pm2 r 4) * 60)) (y + Int32.toInt64 (((pm2 r 3) - (pm2 r 4)) * 60)))]]) _ from hP) hD hS _ (lv_sub hl [0, 1, 2, 3, 4, 5, 6] rfl)
              · skip
                refine lv_aload_n hx hb dX10_minuteOn_109 rfl (lv_at hl 2 rfl) ?_
                refine lv_iload hx hb dX10_minuteOn_110 (lv_at hl 1 rfl) ?_
                refine cSv (As := [.ref q, .int 0]) (rest := []) ⟨hx, hb, hml, hown, hts⟩ (c_X10_ring l D ty q 0 r1 (by omega)) (va_cwS 2 hts gX10_minuteOn_X10_ring rfl rfl rfl (by decide +kernel) ⟨Nat.le_of_ble_eq_true rfl, Nat.le_of_ble_eq_true rfl⟩) hK hX hP hD hS hA (pk (bs := [[ia ty q 57 r1], [la ty t9 2 (tw (x + Int32.toInt64 ((pm2 r 4) * 60)) (y + Int32.toInt64 (((pm2 r 3) - (pm2 r 4)) * 60)))]]) (bsc := [[ia ty q 57 r1]]) (bsr := [[la ty t9 2 (tw (x + Int32.toInt64 ((pm2 r 4) * 60)) (y + Int32.toInt64 (((pm2 r 3) - (pm2 r 4)) * 60)))]]) [0] [1] 2 rfl (by decide +kernel) rfl rfl) rfl hl.1 rfl (Nat.le_of_ble_eq_true rfl) dX10_minuteOn_112 ⟨Nat.le_of_ble_eq_true rfl, Nat.le_of_ble_eq_true rfl⟩ (fun u_94 h_96 H locs hP hD hS => ?_)
                have hP : va_P D vwCl (fl [[ia ty q 57 (pring 0 r1)], [la ty t9 2 (tw (x + Int32.toInt64 ((pm2 r 4) * 60)) (y + Int32.toInt64 (((pm2 r 3) - (pm2 r 4)) * 60)))]]) H := P_perm (po (bs := [[ia ty q 57 (pring 0 r1)], [la ty t9 2 (tw (x + Int32.toInt64 ((pm2 r 4) * 60)) (y + Int32.toInt64 (((pm2 r 3) - (pm2 r 4)) * 60)))]]) [0, 1] 2 rfl (by decide +kernel) rfl) hP
                have hD : va_D A (fl [[ia ty q 57 (pring 0 r1)], [la ty t9 2 (tw (x + Int32.toInt64 ((pm2 r 4) * 60)) (y + Int32.toInt64 (((pm2 r 3) - (pm2 r 4)) * 60)))]]) := D_perm (po (bs := [[ia ty q 57 (pring 0 r1)], [la ty t9 2 (tw (x + Int32.toInt64 ((pm2 r 4) * 60)) (y + Int32.toInt64 (((pm2 r 3) - (pm2 r 4)) * 60)))]]) [0, 1] 2 rfl (by decide +kernel) rfl) hD
                refine lv_goto (tgt := 130) hx hb dX10_minuteOn_115 (by decide) ?_
                refine lv_iinc (v := 1) (lv' := [(6, .int 1), (5, .int (acc ||| 1)), (0, .ref q), (1, .ref t9), (2, .int (pdom r)), (3, .int ((pm2 r 1) / 60)), (4, .int ((pclock (pm2 r) 1) / 60))]) hx hb dX10_minuteOn_130 hl (k := 1) rfl (by decide) (by decide) rfl (fun ls hl => ?_)
                refine lv_goto (tgt := 78) hx hb dX10_minuteOn_133 (by decide) ?_
                exact hit78_1 (pring 0 r1) (acc ||| 1) (by rw [← hT]; show pdueFrom _ _ _ _ _ = pdueFrom _ _ _ _ (pdueStep _ _ 0 r1); rw [show pdueStep (pm2 r 1 / 60) (pclock (pm2 r) 1 / 60) 0 r1 = (pring 0 r1) from (if_pos ((due_or _ _ _).resolve_left c_92 : due (pm2 r 1 / 60) (pclock (pm2 r) 1 / 60) (r1 (27 + 3 * 0)) = 1)).trans (if_pos ((dom_iff h6).mp c_93))]) (by rw [← hB]; show duesFrom _ _ _ _ _ _ = duesFrom _ _ _ _ (pdueStep _ _ 0 r1) (if _ then _ else _); rw [show pdueStep (pm2 r 1 / 60) (pclock (pm2 r) 1 / 60) 0 r1 = (pring 0 r1) from (if_pos ((due_or _ _ _).resolve_left c_92 : due (pm2 r 1 / 60) (pclock (pm2 r) 1 / 60) (r1 (27 + 3 * 0)) = 1)).trans (if_pos ((dom_iff h6).mp c_93)), if_pos ((due_or _ _ _).resolve_left c_92 : due (pm2 r 1 / 60) (pclock (pm2 r) 1 / 60) (r1 (27 + 3 * 0)) = 1)]; rfl) (h6) _ _ (show va_P D vwCl (fl [[ia ty q 57 (pring 0 r1)], [la ty t9 2 (tw (x + Int32.toInt64 ((pm2 r 4) * 60)) (y + Int32.toInt64 (((pm2 r 3) - (pm2 r 4)) * 60)))]]) _ from hP) hD hS _ (lv_sub hl [0, 1, 2, 3, 4, 5, 6] rfl)
        exact hit78_0 (pclock (pm2 r)) 0 (rfl) ((if_neg c_56).symm) (pm2_6 r) _ _ (show va_P D vwCl (fl [[ia ty q 57 (pclock (pm2 r))], [la ty t9 2 (tw (x + Int32.toInt64 ((pm2 r 4) * 60)) (y + Int32.toInt64 (((pm2 r 3) - (pm2 r 4)) * 60)))]]) _ from hP) (D_same2 hD [q, t9] rfl rfl) hS _ (lv_sub hl [0, 1, 5, 6, 4, 3, 2] rfl)
      · skip
        refine lv_iconst (v := 0) hx hb dX10_minuteOn_50 (by decide) ?_
        subst hQg
        have hP : va_P D vwCl (fl [[ia ty q 57 (pminute r)], [la ty t9 2 (tw (minX r x) (minY r y))]]) H := by
          rw [show pminute r = pm2 r from if_pos c_56, show minX r x = x from if_pos c_56, show minY r y = y from if_pos c_56]; exact hP
        have hD : va_D A (fl [[ia ty q 57 (pminute r)], [la ty t9 2 (tw (minX r x) (minY r y))]]) := (D_same2 hD [q, t9] rfl rfl)
        exact end_i (bs' := (fun (_ : Unit) => [[ia ty q 57 (pminute r)], [la ty t9 2 (tw (minX r x) (minY r y))]])) () hx hb hr hlocks hP hD hS (if_pos c_56).symm (Nat.le_of_ble_eq_true rfl) (Nat.le_of_ble_eq_true rfl) dX10_minuteOn_51
    · skip
      have hd12 : pdom r = 1 ∨ pdom r = 2 := Or.inr c_52
      refine lv_aload_n hx hb dX10_minuteOn_32 rfl (lv_at hl 1 rfl) ?_
      refine lv_aload_n hx hb dX10_minuteOn_33 rfl (lv_at hl 1 rfl) ?_
      refine lv_bipush (v := 7) hx hb dX10_minuteOn_34 (by decide) ?_
      refine k_iald hx hb hK hP 0 rfl 7 rfl (by decide) (Nat.le_of_ble_eq_true rfl) (v := (pspent r) 7) rfl dX10_minuteOn_36 ?_
      refine lv_iconst (v := 1) hx hb dX10_minuteOn_37 (by decide) ?_
      refine k_isub (v := (((pspent r) 7) - 1)) hx hb dX10_minuteOn_38 rfl ?_
      refine cSv (As := [.ref q, .int (((pspent r) 7) - 1)]) (rest := []) ⟨hx, hb, hml, hown, hts⟩ (c_X10_chargeOn l D ty q (((pspent r) 7) - 1) (pspent r)) (va_cwS 2 hts gX10_minuteOn_X10_chargeOn rfl rfl rfl (by decide +kernel) ⟨Nat.le_of_ble_eq_true rfl, Nat.le_of_ble_eq_true rfl⟩) hK hX hP hD hS hA (pk (bs := [[ia ty q 57 (pspent r)], [la ty t9 2 (tw x y)]]) (bsc := [[ia ty q 57 (pspent r)]]) (bsr := [[la ty t9 2 (tw x y)]]) [0] [1] 2 rfl (by decide +kernel) rfl rfl) rfl hl.1 rfl (Nat.le_of_ble_eq_true rfl) dX10_minuteOn_39 ⟨Nat.le_of_ble_eq_true rfl, Nat.le_of_ble_eq_true rfl⟩ (fun u_97 h_99 H locs hP hD hS => ?_)
      have hP : va_P D vwCl (fl [[ia ty q 57 (pcharge (((pspent r) 7) - 1) (pspent r))], [la ty t9 2 (tw x y)]]) H := P_perm (po (bs := [[ia ty q 57 (pcharge (((pspent r) 7) - 1) (pspent r))], [la ty t9 2 (tw x y)]]) [0, 1] 2 rfl (by decide +kernel) rfl) hP
      have hD : va_D A (fl [[ia ty q 57 (pcharge (((pspent r) 7) - 1) (pspent r))], [la ty t9 2 (tw x y)]]) := D_perm (po (bs := [[ia ty q 57 (pcharge (((pspent r) 7) - 1) (pspent r))], [la ty t9 2 (tw x y)]]) [0, 1] 2 rfl (by decide +kernel) rfl) hD
      have hP : va_P D vwCl (fl [[ia ty q 57 (pm2 r)], [la ty t9 2 (tw x y)]]) H := P_at 0 (at_ia (fun k _ => congrFun ((congrArg (fun z => pcharge (z - 1) (pspent r)) (pspent_7 r).1).trans (pm2_A hd12)) k)) rfl rfl hP
      have hD : va_D A (fl [[ia ty q 57 (pm2 r)], [la ty t9 2 (tw x y)]]) := (D_same2 hD [q, t9] rfl rfl)
      refine lv_aload_n hx hb dX10_minuteOn_42 rfl (lv_at hl 1 rfl) ?_
      refine cSi (As := [.ref q]) (rest := []) ⟨hx, hb, hml, hown, hts⟩ (c_X10_domainOf l D ty q (pm2 r)) (va_cwS 1 hts gX10_minuteOn_X10_domainOf rfl rfl rfl (by decide +kernel) ⟨Nat.le_of_ble_eq_true rfl, Nat.le_of_ble_eq_true rfl⟩) hK hX hP hD hS hA (pk (bs := [[ia ty q 57 (pm2 r)], [la ty t9 2 (tw x y)]]) (bsc := [[ia ty q 57 (pm2 r)]]) (bsr := [[la ty t9 2 (tw x y)]]) [0] [1] 2 rfl (by decide +kernel) rfl rfl) rfl hl.1 rfl (Nat.le_of_ble_eq_true rfl) dX10_minuteOn_43 ⟨Nat.le_of_ble_eq_true rfl, Nat.le_of_ble_eq_true rfl⟩ (fun r_101 u_100 h_102 H locs hP hD hS => ?_)
      have h_102 : r_101 = (pdom (pm2 r)) := h_102
      subst h_102
      have hP : va_P D vwCl (fl [[ia ty q 57 (pm2 r)], [la ty t9 2 (tw x y)]]) H := P_perm (po (bs := [[ia ty q 57 (pm2 r)], [la ty t9 2 (tw x y)]]) [0, 1] 2 rfl (by decide +kernel) rfl) hP
      have hD : va_D A (fl [[ia ty q 57 (pm2 r)], [la ty t9 2 (tw x y)]]) := D_perm (po (bs := [[ia ty q 57 (pm2 r)], [la ty t9 2 (tw x y)]]) [0, 1] 2 rfl (by decide +kernel) rfl) hD
      refine lv_iconst (v := 3) hx hb dX10_minuteOn_46 (by decide) ?_
      refine lv_icmp_ne (tgt := 52) hx hb dX10_minuteOn_47 (by decide) (fun c_103 => ?_) (fun c_103 => ?_)
      · skip
        refine lv_aload_n hx hb dX10_minuteOn_52 rfl (lv_at hl 1 rfl) ?_
        refine lv_iconst (v := 1) hx hb dX10_minuteOn_53 (by decide) ?_
        refine k_iald hx hb hK hP 0 rfl 1 rfl (by decide) (Nat.le_of_ble_eq_true rfl) (v := (pm2 r) 1) rfl dX10_minuteOn_54 ?_
        refine lv_bipush (v := 60) hx hb dX10_minuteOn_55 (by decide) ?_
        refine k_idiv (v := (((pm2 r) 1) / 60)) hx hb dX10_minuteOn_57 (by decide) rfl ?_
        refine lv_istore_n (lv' := [(3, .int (((pm2 r) 1) / 60)), (2, .int (pdom r)), (0, .ref q), (1, .ref t9)]) hx hb dX10_minuteOn_58 rfl hl (by decide) rfl (fun ls hl => ?_)
        refine lv_aload_n hx hb dX10_minuteOn_59 rfl (lv_at hl 2 rfl) ?_
        refine lv_aload_n hx hb dX10_minuteOn_60 rfl (lv_at hl 3 rfl) ?_
        refine cSv (As := [.ref q, .ref t9]) (rest := []) ⟨hx, hb, hml, hown, hts⟩ (c_X10_clockOn l D ty q t9 (pm2 r) x y) (va_cwS 2 hts gX10_minuteOn_X10_clockOn rfl rfl rfl (by decide +kernel) ⟨Nat.le_of_ble_eq_true rfl, Nat.le_of_ble_eq_true rfl⟩) hK hX hP hD hS hA (pk (bs := [[ia ty q 57 (pm2 r)], [la ty t9 2 (tw x y)]]) (bsc := [[ia ty q 57 (pm2 r)], [la ty t9 2 (tw x y)]]) (bsr := []) [0, 1] [] 2 rfl (by decide +kernel) rfl rfl) rfl hl.1 rfl (Nat.le_of_ble_eq_true rfl) dX10_minuteOn_61 ⟨Nat.le_of_ble_eq_true rfl, Nat.le_of_ble_eq_true rfl⟩ (fun u_104 h_106 H locs hP hD hS => ?_)
        have hP : va_P D vwCl (fl [[ia ty q 57 (pclock (pm2 r))], [la ty t9 2 (tw (x + Int32.toInt64 (((pm2 r) 4) * 60)) (y + Int32.toInt64 ((((pm2 r) 3) - ((pm2 r) 4)) * 60)))]]) H := P_perm (po (bs := [[ia ty q 57 (pclock (pm2 r))], [la ty t9 2 (tw (x + Int32.toInt64 (((pm2 r) 4) * 60)) (y + Int32.toInt64 ((((pm2 r) 3) - ((pm2 r) 4)) * 60)))]]) [0, 1] 2 rfl (by decide +kernel) rfl) hP
        have hD : va_D A (fl [[ia ty q 57 (pclock (pm2 r))], [la ty t9 2 (tw (x + Int32.toInt64 (((pm2 r) 4) * 60)) (y + Int32.toInt64 ((((pm2 r) 3) - ((pm2 r) 4)) * 60)))]]) := D_perm (po (bs := [[ia ty q 57 (pclock (pm2 r))], [la ty t9 2 (tw (x + Int32.toInt64 (((pm2 r) 4) * 60)) (y + Int32.toInt64 ((((pm2 r) 3) - ((pm2 r) 4)) * 60)))]]) [0, 1] 2 rfl (by decide +kernel) rfl) hD
        refine lv_aload_n hx hb dX10_minuteOn_64 rfl (lv_at hl 2 rfl) ?_
        refine lv_iconst (v := 1) hx hb dX10_minuteOn_65 (by decide) ?_
        refine k_iald hx hb hK hP 0 rfl 1 rfl (by decide) (Nat.le_of_ble_eq_true rfl) (v := (pclock (pm2 r)) 1) rfl dX10_minuteOn_66 ?_
        refine lv_bipush (v := 60) hx hb dX10_minuteOn_67 (by decide) ?_
        refine k_idiv (v := (((pclock (pm2 r)) 1) / 60)) hx hb dX10_minuteOn_69 (by decide) rfl ?_
        refine lv_istore (lv' := [(4, .int (((pclock (pm2 r)) 1) / 60)), (3, .int (((pm2 r) 1) / 60)), (2, .int (pdom r)), (0, .ref q), (1, .ref t9)]) hx hb dX10_minuteOn_70 hl (by decide) rfl (fun ls hl => ?_)
        refine lv_iconst (v := 0) hx hb dX10_minuteOn_72 (by decide) ?_
        refine lv_istore (lv' := [(5, .int 0), (4, .int (((pclock (pm2 r)) 1) / 60)), (3, .int (((pm2 r) 1) / 60)), (2, .int (pdom r)), (0, .ref q), (1, .ref t9)]) hx hb dX10_minuteOn_73 hl (by decide) rfl (fun ls hl => ?_)
        refine lv_iconst (v := 0) hx hb dX10_minuteOn_75 (by decide) ?_
        refine lv_istore (lv' := [(6, .int 0), (5, .int 0), (4, .int (((pclock (pm2 r)) 1) / 60)), (3, .int (((pm2 r) 1) / 60)), (2, .int (pdom r)), (0, .ref q), (1, .ref t9)]) hx hb dX10_minuteOn_76 hl (by decide) rfl (fun ls hl => ?_)
        have hit78_4 : ∀ (r1 : Nat → Int32) (acc : Int32), (pdueFrom (pm2 r 1 / 60) (pclock (pm2 r) 1 / 60) 0 4 r1 = pgo (pm2 r)) → (duesFrom (pm2 r 1 / 60) (pclock (pm2 r) 1 / 60) 0 4 r1 acc = pdues r) → (r1 6 = r 6) → ∀ (H : Heap) (locs : List Loc), va_P D vwCl (fl [[ia ty q 57 r1], [la ty t9 2 (tw (x + Int32.toInt64 ((pm2 r 4) * 60)) (y + Int32.toInt64 (((pm2 r 3) - (pm2 r 4)) * 60)))]]) H → va_D A (fl [[ia ty q 57 r1], [la ty t9 2 (tw (x + Int32.toInt64 ((pm2 r 4) * 60)) (y + Int32.toInt64 (((pm2 r 3) - (pm2 r 4)) * 60)))]]) → va_S A s.heap H locs → ∀ ls : Array Slot, lv_has ls 7 [(6, .int 4), (5, .int acc), (0, .ref q), (1, .ref t9), (2, .int (pdom r)), (3, .int ((pm2 r 1) / 60)), (4, .int ((pclock (pm2 r) 1) / 60))] → W p l e ({ frames := 3, cells := 0, slots := 0, locals := 66 } : Room) s m args below meth c H locs 0 0 Qg (F0 m 78 ls []) := by
          intro r1 acc hT hB h6 H locs hP hD hS ls hl
          refine lv_iload hx hb dX10_minuteOn_78 (lv_at hl 0 rfl) ?_
          refine lv_iconst (v := 4) hx hb dX10_minuteOn_80 (by decide) ?_
          refine lv_icmp_ge (tgt := 136) hx hb dX10_minuteOn_81 (by decide) (fun c_107 => ?_) (fun c_107 => ?_)
          · skip
            refine lv_iload hx hb dX10_minuteOn_136 (lv_at hl 1 rfl) ?_
            subst hQg
            have hP : va_P D vwCl (fl [[ia ty q 57 (pminute r)], [la ty t9 2 (tw (minX r x) (minY r y))]]) H := by
              have hT : r1 = pgo (pm2 r) := hT
              rw [show pminute r = pgo (pm2 r) from if_neg c_103, show minX r x = _ from if_neg c_103, show minY r y = _ from if_neg c_103, ← hT]; exact hP
            have hD : va_D A (fl [[ia ty q 57 (pminute r)], [la ty t9 2 (tw (minX r x) (minY r y))]]) := (D_same2 hD [q, t9] rfl rfl)
            exact end_i (bs' := (fun (_ : Unit) => [[ia ty q 57 (pminute r)], [la ty t9 2 (tw (minX r x) (minY r y))]])) () hx hb hr hlocks hP hD hS hB (Nat.le_of_ble_eq_true rfl) (Nat.le_of_ble_eq_true rfl) dX10_minuteOn_138
          · exact absurd (by decide) c_107
        have hit78_3 : ∀ (r1 : Nat → Int32) (acc : Int32), (pdueFrom (pm2 r 1 / 60) (pclock (pm2 r) 1 / 60) 1 3 r1 = pgo (pm2 r)) → (duesFrom (pm2 r 1 / 60) (pclock (pm2 r) 1 / 60) 1 3 r1 acc = pdues r) → (r1 6 = r 6) → ∀ (H : Heap) (locs : List Loc), va_P D vwCl (fl [[ia ty q 57 r1], [la ty t9 2 (tw (x + Int32.toInt64 ((pm2 r 4) * 60)) (y + Int32.toInt64 (((pm2 r 3) - (pm2 r 4)) * 60)))]]) H → va_D A (fl [[ia ty q 57 r1], [la ty t9 2 (tw (x + Int32.toInt64 ((pm2 r 4) * 60)) (y + Int32.toInt64 (((pm2 r 3) - (pm2 r 4)) * 60)))]]) → va_S A s.heap H locs → ∀ ls : Array Slot, lv_has ls 7 [(6, .int 3), (5, .int acc), (0, .ref q), (1, .ref t9), (2, .int (pdom r)), (3, .int ((pm2 r 1) / 60)), (4, .int ((pclock (pm2 r) 1) / 60))] → W p l e ({ frames := 3, cells := 0, slots := 0, locals := 66 } : Room) s m args below meth c H locs 0 0 Qg (F0 m 78 ls []) := by
          intro r1 acc hT hB h6 H locs hP hD hS ls hl
          refine lv_iload hx hb dX10_minuteOn_78 (lv_at hl 0 rfl) ?_
          refine lv_iconst (v := 4) hx hb dX10_minuteOn_80 (by decide) ?_
          refine lv_icmp_ge (tgt := 136) hx hb dX10_minuteOn_81 (by decide) (fun c_108 => ?_) (fun c_108 => ?_)
          · exact absurd c_108 (by decide)
          · skip
            refine lv_aload_n hx hb dX10_minuteOn_84 rfl (lv_at hl 2 rfl) ?_
            refine lv_iload hx hb dX10_minuteOn_85 (lv_at hl 0 rfl) ?_
            refine lv_iload_n hx hb dX10_minuteOn_87 rfl (lv_at hl 5 rfl) ?_
            refine lv_iload hx hb dX10_minuteOn_88 (lv_at hl 6 rfl) ?_
            refine cSi (As := [.ref q, .int 3, .int ((pm2 r 1) / 60), .int ((pclock (pm2 r) 1) / 60)]) (rest := []) ⟨hx, hb, hml, hown, hts⟩ (c_X10_isDue l D ty q 3 ((pm2 r 1) / 60) ((pclock (pm2 r) 1) / 60) r1 (by omega) (div60_le _) (div60_le _)) (va_cwS 4 hts gX10_minuteOn_X10_isDue rfl rfl rfl (by decide +kernel) ⟨Nat.le_of_ble_eq_true rfl, Nat.le_of_ble_eq_true rfl⟩) hK hX hP hD hS hA (pk (bs := [[ia ty q 57 r1], [la ty t9 2 (tw (x + Int32.toInt64 ((pm2 r 4) * 60)) (y + Int32.toInt64 (((pm2 r 3) - (pm2 r 4)) * 60)))]]) (bsc := [[ia ty q 57 r1]]) (bsr := [[la ty t9 2 (tw (x + Int32.toInt64 ((pm2 r 4) * 60)) (y + Int32.toInt64 (((pm2 r 3) - (pm2 r 4)) * 60)))]]) [0] [1] 2 rfl (by decide +kernel) rfl rfl) rfl hl.1 rfl (Nat.le_of_ble_eq_true rfl) dX10_minuteOn_90 ⟨Nat.le_of_ble_eq_true rfl, Nat.le_of_ble_eq_true rfl⟩ (fun r_110 u_109 h_111 H locs hP hD hS => ?_)
            have h_111 : r_110 = (due ((pm2 r 1) / 60) ((pclock (pm2 r) 1) / 60) (r1 (27 + 3 * 3))) := h_111
            subst h_111
            have hP : va_P D vwCl (fl [[ia ty q 57 r1], [la ty t9 2 (tw (x + Int32.toInt64 ((pm2 r 4) * 60)) (y + Int32.toInt64 (((pm2 r 3) - (pm2 r 4)) * 60)))]]) H := P_perm (po (bs := [[ia ty q 57 r1], [la ty t9 2 (tw (x + Int32.toInt64 ((pm2 r 4) * 60)) (y + Int32.toInt64 (((pm2 r 3) - (pm2 r 4)) * 60)))]]) [0, 1] 2 rfl (by decide +kernel) rfl) hP
            have hD : va_D A (fl [[ia ty q 57 r1], [la ty t9 2 (tw (x + Int32.toInt64 ((pm2 r 4) * 60)) (y + Int32.toInt64 (((pm2 r 3) - (pm2 r 4)) * 60)))]]) := D_perm (po (bs := [[ia ty q 57 r1], [la ty t9 2 (tw (x + Int32.toInt64 ((pm2 r 4) * 60)) (y + Int32.toInt64 (((pm2 r 3) - (pm2 r 4)) * 60)))]]) [0, 1] 2 rfl (by decide +kernel) rfl) hD
            refine lv_if_eq (tgt := 130) hx hb dX10_minuteOn_93 (by decide) (fun c_112 => ?_) (fun c_112 => ?_)
            · skip
              refine lv_iinc (v := 4) (lv' := [(6, .int 4), (5, .int acc), (0, .ref q), (1, .ref t9), (2, .int (pdom r)), (3, .int ((pm2 r 1) / 60)), (4, .int ((pclock (pm2 r) 1) / 60))]) hx hb dX10_minuteOn_130 hl (k := 0) rfl (by decide) (by decide) rfl (fun ls hl => ?_)
              refine lv_goto (tgt := 78) hx hb dX10_minuteOn_133 (by decide) ?_
              exact hit78_4 r1 acc (by rw [← hT]; show pdueFrom _ _ _ _ r1 = pdueFrom _ _ _ _ (pdueStep _ _ 3 r1); rw [show pdueStep (pm2 r 1 / 60) (pclock (pm2 r) 1 / 60) 3 r1 = r1 from if_neg (show ¬ due (pm2 r 1 / 60) (pclock (pm2 r) 1 / 60) (r1 (27 + 3 * 3)) = 1 from fun q0 => absurd (q0.symm.trans c_112) (by decide))]) (by rw [← hB]; show duesFrom _ _ _ _ r1 acc = duesFrom _ _ _ _ (pdueStep _ _ 3 r1) (if _ then _ else _); rw [show pdueStep (pm2 r 1 / 60) (pclock (pm2 r) 1 / 60) 3 r1 = r1 from if_neg (show ¬ due (pm2 r 1 / 60) (pclock (pm2 r) 1 / 60) (r1 (27 + 3 * 3)) = 1 from fun q0 => absurd (q0.symm.trans c_112) (by decide)), if_neg (show ¬ due (pm2 r 1 / 60) (pclock (pm2 r) 1 / 60) (r1 (27 + 3 * 3)) = 1 from fun q0 => absurd (q0.symm.trans c_112) (by decide))]) (h6) _ _ (show va_P D vwCl (fl [[ia ty q 57 r1], [la ty t9 2 (tw (x + Int32.toInt64 ((pm2 r 4) * 60)) (y + Int32.toInt64 (((pm2 r 3) - (pm2 r 4)) * 60)))]]) _ from hP) hD hS _ (lv_sub hl [0, 1, 2, 3, 4, 5, 6] rfl)
            · skip
              refine lv_iload hx hb dX10_minuteOn_96 (lv_at hl 1 rfl) ?_
              refine lv_iconst (v := 1) hx hb dX10_minuteOn_98 (by decide) ?_
              refine lv_iload hx hb dX10_minuteOn_99 (lv_at hl 0 rfl) ?_
              refine W.eq (g2 := F0 m 101 ls [.int 3, .int 1, .int acc]) rfl ?_
              refine k_ishl (v := 8) hx hb dX10_minuteOn_101 (by decide) ?_
              refine k_ior (v := (acc ||| 8)) hx hb dX10_minuteOn_102 rfl ?_
              refine lv_istore (lv' := [(5, .int (acc ||| 8)), (6, .int 3), (0, .ref q), (1, .ref t9), (2, .int (pdom r)), (3, .int ((pm2 r 1) / 60)), (4, .int ((pclock (pm2 r) 1) / 60))]) hx hb dX10_minuteOn_103 hl (by decide) rfl (fun ls hl => ?_)
              refine lv_iload_n hx hb dX10_minuteOn_105 rfl (lv_at hl 4 rfl) ?_
              refine lv_if_ne (tgt := 118) hx hb dX10_minuteOn_106 (by decide) (fun c_113 => ?_) (fun c_113 => ?_)
              · skip
                refine lv_aload_n hx hb dX10_minuteOn_118 rfl (lv_at hl 2 rfl) ?_
                refine lv_bipush (v := 27) hx hb dX10_minuteOn_119 (by decide) ?_
                refine lv_iconst (v := 3) hx hb dX10_minuteOn_121 (by decide) ?_
                refine lv_iload hx hb dX10_minuteOn_122 (lv_at hl 1 rfl) ?_
                refine k_imul (v := 9) hx hb dX10_minuteOn_124 (by decide) ?_
                refine k_iadd (v := 36) hx hb dX10_minuteOn_125 (by decide) ?_
                refine lv_iconst (v := 1) hx hb dX10_minuteOn_126 (by decide) ?_
                refine k_iadd (v := 37) hx hb dX10_minuteOn_127 (by decide) ?_
                refine lv_iconst (v := 1) hx hb dX10_minuteOn_128 (by decide) ?_
                refine k_iast hx hb hK hP hD hS 0 rfl 37 rfl (by decide) (Nat.le_of_ble_eq_true rfl) dX10_minuteOn_129 (fun H locs hP hD hS => ?_)
                have hP : va_P D vwCl (fl [[ia ty q 57 (upd r1 37 1)], [la ty t9 2 (tw (x + Int32.toInt64 ((pm2 r 4) * 60)) (y + Int32.toInt64 (((pm2 r 3) - (pm2 r 4)) * 60)))]]) H := hP
                have hD : va_D A (fl [[ia ty q 57 (upd r1 37 1)], [la ty t9 2 (tw (x + Int32.toInt64 ((pm2 r 4) * 60)) (y + Int32.toInt64 (((pm2 r 3) - (pm2 r 4)) * 60)))]]) := hD
                refine lv_iinc (v := 4) (lv' := [(6, .int 4), (5, .int (acc ||| 8)), (0, .ref q), (1, .ref t9), (2, .int (pdom r)), (3, .int ((pm2 r 1) / 60)), (4, .int ((pclock (pm2 r) 1) / 60))]) hx hb dX10_minuteOn_130 hl (k := 1) rfl (by decide) (by decide) rfl (fun ls hl => ?_)
                refine lv_goto (tgt := 78) hx hb dX10_minuteOn_133 (by decide) ?_
                exact hit78_4 (upd r1 37 1) (acc ||| 8) (by rw [← hT]; show pdueFrom _ _ _ _ _ = pdueFrom _ _ _ _ (pdueStep _ _ 3 r1); rw [show pdueStep (pm2 r 1 / 60) (pclock (pm2 r) 1 / 60) 3 r1 = (upd r1 37 1) from (if_pos ((due_or _ _ _).resolve_left c_112 : due (pm2 r 1 / 60) (pclock (pm2 r) 1 / 60) (r1 (27 + 3 * 3)) = 1)).trans (if_neg (fun q0 => c_113 ((dom_iff h6).mpr q0)))]) (by rw [← hB]; show duesFrom _ _ _ _ _ _ = duesFrom _ _ _ _ (pdueStep _ _ 3 r1) (if _ then _ else _); rw [show pdueStep (pm2 r 1 / 60) (pclock (pm2 r) 1 / 60) 3 r1 = (upd r1 37 1) from (if_pos ((due_or _ _ _).resolve_left c_112 : due (pm2 r 1 / 60) (pclock (pm2 r) 1 / 60) (r1 (27 + 3 * 3)) = 1)).trans (if_neg (fun q0 => c_113 ((dom_iff h6).mpr q0))), if_pos ((due_or _ _ _).resolve_left c_112 : due (pm2 r 1 / 60) (pclock (pm2 r) 1 / 60) (r1 (27 + 3 * 3)) = 1)]; rfl) (h6) _ _ (show va_P D vwCl (fl [[ia ty q 57 (upd r1 37 1)], [la ty t9 2 (tw (x + Int32.toInt64 ((pm2 r 4) * 60)) (y + Int32.toInt64 (((pm2 r 3) - (pm2 r 4)) * 60)))]]) _ from hP) hD hS _ (lv_sub hl [0, 1, 2, 3, 4, 5, 6] rfl)
              · skip
                refine lv_aload_n hx hb dX10_minuteOn_109 rfl (lv_at hl 2 rfl) ?_
                refine lv_iload hx hb dX10_minuteOn_110 (lv_at hl 1 rfl) ?_
                refine cSv (As := [.ref q, .int 3]) (rest := []) ⟨hx, hb, hml, hown, hts⟩ (c_X10_ring l D ty q 3 r1 (by omega)) (va_cwS 2 hts gX10_minuteOn_X10_ring rfl rfl rfl (by decide +kernel) ⟨Nat.le_of_ble_eq_true rfl, Nat.le_of_ble_eq_true rfl⟩) hK hX hP hD hS hA (pk (bs := [[ia ty q 57 r1], [la ty t9 2 (tw (x + Int32.toInt64 ((pm2 r 4) * 60)) (y + Int32.toInt64 (((pm2 r 3) - (pm2 r 4)) * 60)))]]) (bsc := [[ia ty q 57 r1]]) (bsr := [[la ty t9 2 (tw (x + Int32.toInt64 ((pm2 r 4) * 60)) (y + Int32.toInt64 (((pm2 r 3) - (pm2 r 4)) * 60)))]]) [0] [1] 2 rfl (by decide +kernel) rfl rfl) rfl hl.1 rfl (Nat.le_of_ble_eq_true rfl) dX10_minuteOn_112 ⟨Nat.le_of_ble_eq_true rfl, Nat.le_of_ble_eq_true rfl⟩ (fun u_114 h_116 H locs hP hD hS => ?_)
                have hP : va_P D vwCl (fl [[ia ty q 57 (pring 3 r1)], [la ty t9 2 (tw (x + Int32.toInt64 ((pm2 r 4) * 60)) (y + Int32.toInt64 (((pm2 r 3) - (pm2 r 4)) * 60)))]]) H := P_perm (po (bs := [[ia ty q 57 (pring 3 r1)], [la ty t9 2 (tw (x + Int32.toInt64 ((pm2 r 4) * 60)) (y + Int32.toInt64 (((pm2 r 3) - (pm2 r 4)) * 60)))]]) [0, 1] 2 rfl (by decide +kernel) rfl) hP
                have hD : va_D A (fl [[ia ty q 57 (pring 3 r1)], [la ty t9 2 (tw (x + Int32.toInt64 ((pm2 r 4) * 60)) (y + Int32.toInt64 (((pm2 r 3) - (pm2 r 4)) * 60)))]]) := D_perm (po (bs := [[ia ty q 57 (pring 3 r1)], [la ty t9 2 (tw (x + Int32.toInt64 ((pm2 r 4) * 60)) (y + Int32.toInt64 (((pm2 r 3) - (pm2 r 4)) * 60)))]]) [0, 1] 2 rfl (by decide +kernel) rfl) hD
                refine lv_goto (tgt := 130) hx hb dX10_minuteOn_115 (by decide) ?_
                refine lv_iinc (v := 4) (lv' := [(6, .int 4), (5, .int (acc ||| 8)), (0, .ref q), (1, .ref t9), (2, .int (pdom r)), (3, .int ((pm2 r 1) / 60)), (4, .int ((pclock (pm2 r) 1) / 60))]) hx hb dX10_minuteOn_130 hl (k := 1) rfl (by decide) (by decide) rfl (fun ls hl => ?_)
                refine lv_goto (tgt := 78) hx hb dX10_minuteOn_133 (by decide) ?_
                exact hit78_4 (pring 3 r1) (acc ||| 8) (by rw [← hT]; show pdueFrom _ _ _ _ _ = pdueFrom _ _ _ _ (pdueStep _ _ 3 r1); rw [show pdueStep (pm2 r 1 / 60) (pclock (pm2 r) 1 / 60) 3 r1 = (pring 3 r1) from (if_pos ((due_or _ _ _).resolve_left c_112 : due (pm2 r 1 / 60) (pclock (pm2 r) 1 / 60) (r1 (27 + 3 * 3)) = 1)).trans (if_pos ((dom_iff h6).mp c_113))]) (by rw [← hB]; show duesFrom _ _ _ _ _ _ = duesFrom _ _ _ _ (pdueStep _ _ 3 r1) (if _ then _ else _); rw [show pdueStep (pm2 r 1 / 60) (pclock (pm2 r) 1 / 60) 3 r1 = (pring 3 r1) from (if_pos ((due_or _ _ _).resolve_left c_112 : due (pm2 r 1 / 60) (pclock (pm2 r) 1 / 60) (r1 (27 + 3 * 3)) = 1)).trans (if_pos ((dom_iff h6).mp c_113)), if_pos ((due_or _ _ _).resolve_left c_112 : due (pm2 r 1 / 60) (pclock (pm2 r) 1 / 60) (r1 (27 + 3 * 3)) = 1)]; rfl) (h6) _ _ (show va_P D vwCl (fl [[ia ty q 57 (pring 3 r1)], [la ty t9 2 (tw (x + Int32.toInt64 ((pm2 r 4) * 60)) (y + Int32.toInt64 (((pm2 r 3) - (pm2 r 4)) * 60)))]]) _ from hP) hD hS _ (lv_sub hl [0, 1, 2, 3, 4, 5, 6] rfl)
        have hit78_2 : ∀ (r1 : Nat → Int32) (acc : Int32), (pdueFrom (pm2 r 1 / 60) (pclock (pm2 r) 1 / 60) 2 2 r1 = pgo (pm2 r)) → (duesFrom (pm2 r 1 / 60) (pclock (pm2 r) 1 / 60) 2 2 r1 acc = pdues r) → (r1 6 = r 6) → ∀ (H : Heap) (locs : List Loc), va_P D vwCl (fl [[ia ty q 57 r1], [la ty t9 2 (tw (x + Int32.toInt64 ((pm2 r 4) * 60)) (y + Int32.toInt64 (((pm2 r 3) - (pm2 r 4)) * 60)))]]) H → va_D A (fl [[ia ty q 57 r1], [la ty t9 2 (tw (x + Int32.toInt64 ((pm2 r 4) * 60)) (y + Int32.toInt64 (((pm2 r 3) - (pm2 r 4)) * 60)))]]) → va_S A s.heap H locs → ∀ ls : Array Slot, lv_has ls 7 [(6, .int 2), (5, .int acc), (0, .ref q), (1, .ref t9), (2, .int (pdom r)), (3, .int ((pm2 r 1) / 60)), (4, .int ((pclock (pm2 r) 1) / 60))] → W p l e ({ frames := 3, cells := 0, slots := 0, locals := 66 } : Room) s m args below meth c H locs 0 0 Qg (F0 m 78 ls []) := by
          intro r1 acc hT hB h6 H locs hP hD hS ls hl
          refine lv_iload hx hb dX10_minuteOn_78 (lv_at hl 0 rfl) ?_
          refine lv_iconst (v := 4) hx hb dX10_minuteOn_80 (by decide) ?_
          refine lv_icmp_ge (tgt := 136) hx hb dX10_minuteOn_81 (by decide) (fun c_117 => ?_) (fun c_117 => ?_)
          · exact absurd c_117 (by decide)
          · skip
            refine lv_aload_n hx hb dX10_minuteOn_84 rfl (lv_at hl 2 rfl) ?_
            refine lv_iload hx hb dX10_minuteOn_85 (lv_at hl 0 rfl) ?_
            refine lv_iload_n hx hb dX10_minuteOn_87 rfl (lv_at hl 5 rfl) ?_
            refine lv_iload hx hb dX10_minuteOn_88 (lv_at hl 6 rfl) ?_
            refine cSi (As := [.ref q, .int 2, .int ((pm2 r 1) / 60), .int ((pclock (pm2 r) 1) / 60)]) (rest := []) ⟨hx, hb, hml, hown, hts⟩ (c_X10_isDue l D ty q 2 ((pm2 r 1) / 60) ((pclock (pm2 r) 1) / 60) r1 (by omega) (div60_le _) (div60_le _)) (va_cwS 4 hts gX10_minuteOn_X10_isDue rfl rfl rfl (by decide +kernel) ⟨Nat.le_of_ble_eq_true rfl, Nat.le_of_ble_eq_true rfl⟩) hK hX hP hD hS hA (pk (bs := [[ia ty q 57 r1], [la ty t9 2 (tw (x + Int32.toInt64 ((pm2 r 4) * 60)) (y + Int32.toInt64 (((pm2 r 3) - (pm2 r 4)) * 60)))]]) (bsc := [[ia ty q 57 r1]]) (bsr := [[la ty t9 2 (tw (x + Int32.toInt64 ((pm2 r 4) * 60)) (y + Int32.toInt64 (((pm2 r 3) - (pm2 r 4)) * 60)))]]) [0] [1] 2 rfl (by decide +kernel) rfl rfl) rfl hl.1 rfl (Nat.le_of_ble_eq_true rfl) dX10_minuteOn_90 ⟨Nat.le_of_ble_eq_true rfl, Nat.le_of_ble_eq_true rfl⟩ (fun r_119 u_118 h_120 H locs hP hD hS => ?_)
            have h_120 : r_119 = (due ((pm2 r 1) / 60) ((pclock (pm2 r) 1) / 60) (r1 (27 + 3 * 2))) := h_120
            subst h_120
            have hP : va_P D vwCl (fl [[ia ty q 57 r1], [la ty t9 2 (tw (x + Int32.toInt64 ((pm2 r 4) * 60)) (y + Int32.toInt64 (((pm2 r 3) - (pm2 r 4)) * 60)))]]) H := P_perm (po (bs := [[ia ty q 57 r1], [la ty t9 2 (tw (x + Int32.toInt64 ((pm2 r 4) * 60)) (y + Int32.toInt64 (((pm2 r 3) - (pm2 r 4)) * 60)))]]) [0, 1] 2 rfl (by decide +kernel) rfl) hP
            have hD : va_D A (fl [[ia ty q 57 r1], [la ty t9 2 (tw (x + Int32.toInt64 ((pm2 r 4) * 60)) (y + Int32.toInt64 (((pm2 r 3) - (pm2 r 4)) * 60)))]]) := D_perm (po (bs := [[ia ty q 57 r1], [la ty t9 2 (tw (x + Int32.toInt64 ((pm2 r 4) * 60)) (y + Int32.toInt64 (((pm2 r 3) - (pm2 r 4)) * 60)))]]) [0, 1] 2 rfl (by decide +kernel) rfl) hD
            refine lv_if_eq (tgt := 130) hx hb dX10_minuteOn_93 (by decide) (fun c_121 => ?_) (fun c_121 => ?_)
            · skip
              refine lv_iinc (v := 3) (lv' := [(6, .int 3), (5, .int acc), (0, .ref q), (1, .ref t9), (2, .int (pdom r)), (3, .int ((pm2 r 1) / 60)), (4, .int ((pclock (pm2 r) 1) / 60))]) hx hb dX10_minuteOn_130 hl (k := 0) rfl (by decide) (by decide) rfl (fun ls hl => ?_)
              refine lv_goto (tgt := 78) hx hb dX10_minuteOn_133 (by decide) ?_
              exact hit78_3 r1 acc (by rw [← hT]; show pdueFrom _ _ _ _ r1 = pdueFrom _ _ _ _ (pdueStep _ _ 2 r1); rw [show pdueStep (pm2 r 1 / 60) (pclock (pm2 r) 1 / 60) 2 r1 = r1 from if_neg (show ¬ due (pm2 r 1 / 60) (pclock (pm2 r) 1 / 60) (r1 (27 + 3 * 2)) = 1 from fun q0 => absurd (q0.symm.trans c_121) (by decide))]) (by rw [← hB]; show duesFrom _ _ _ _ r1 acc = duesFrom _ _ _ _ (pdueStep _ _ 2 r1) (if _ then _ else _); rw [show pdueStep (pm2 r 1 / 60) (pclock (pm2 r) 1 / 60) 2 r1 = r1 from if_neg (show ¬ due (pm2 r 1 / 60) (pclock (pm2 r) 1 / 60) (r1 (27 + 3 * 2)) = 1 from fun q0 => absurd (q0.symm.trans c_121) (by decide)), if_neg (show ¬ due (pm2 r 1 / 60) (pclock (pm2 r) 1 / 60) (r1 (27 + 3 * 2)) = 1 from fun q0 => absurd (q0.symm.trans c_121) (by decide))]) (h6) _ _ (show va_P D vwCl (fl [[ia ty q 57 r1], [la ty t9 2 (tw (x + Int32.toInt64 ((pm2 r 4) * 60)) (y + Int32.toInt64 (((pm2 r 3) - (pm2 r 4)) * 60)))]]) _ from hP) hD hS _ (lv_sub hl [0, 1, 2, 3, 4, 5, 6] rfl)
            · skip
              refine lv_iload hx hb dX10_minuteOn_96 (lv_at hl 1 rfl) ?_
              refine lv_iconst (v := 1) hx hb dX10_minuteOn_98 (by decide) ?_
              refine lv_iload hx hb dX10_minuteOn_99 (lv_at hl 0 rfl) ?_
              refine W.eq (g2 := F0 m 101 ls [.int 2, .int 1, .int acc]) rfl ?_
              refine k_ishl (v := 4) hx hb dX10_minuteOn_101 (by decide) ?_
              refine k_ior (v := (acc ||| 4)) hx hb dX10_minuteOn_102 rfl ?_
              refine lv_istore (lv' := [(5, .int (acc ||| 4)), (6, .int 2), (0, .ref q), (1, .ref t9), (2, .int (pdom r)), (3, .int ((pm2 r 1) / 60)), (4, .int ((pclock (pm2 r) 1) / 60))]) hx hb dX10_minuteOn_103 hl (by decide) rfl (fun ls hl => ?_)
              refine lv_iload_n hx hb dX10_minuteOn_105 rfl (lv_at hl 4 rfl) ?_
              refine lv_if_ne (tgt := 118) hx hb dX10_minuteOn_106 (by decide) (fun c_122 => ?_) (fun c_122 => ?_)
              · skip
                refine lv_aload_n hx hb dX10_minuteOn_118 rfl (lv_at hl 2 rfl) ?_
                refine lv_bipush (v := 27) hx hb dX10_minuteOn_119 (by decide) ?_
                refine lv_iconst (v := 3) hx hb dX10_minuteOn_121 (by decide) ?_
                refine lv_iload hx hb dX10_minuteOn_122 (lv_at hl 1 rfl) ?_
                refine k_imul (v := 6) hx hb dX10_minuteOn_124 (by decide) ?_
                refine k_iadd (v := 33) hx hb dX10_minuteOn_125 (by decide) ?_
                refine lv_iconst (v := 1) hx hb dX10_minuteOn_126 (by decide) ?_
                refine k_iadd (v := 34) hx hb dX10_minuteOn_127 (by decide) ?_
                refine lv_iconst (v := 1) hx hb dX10_minuteOn_128 (by decide) ?_
                refine k_iast hx hb hK hP hD hS 0 rfl 34 rfl (by decide) (Nat.le_of_ble_eq_true rfl) dX10_minuteOn_129 (fun H locs hP hD hS => ?_)
                have hP : va_P D vwCl (fl [[ia ty q 57 (upd r1 34 1)], [la ty t9 2 (tw (x + Int32.toInt64 ((pm2 r 4) * 60)) (y + Int32.toInt64 (((pm2 r 3) - (pm2 r 4)) * 60)))]]) H := hP
                have hD : va_D A (fl [[ia ty q 57 (upd r1 34 1)], [la ty t9 2 (tw (x + Int32.toInt64 ((pm2 r 4) * 60)) (y + Int32.toInt64 (((pm2 r 3) - (pm2 r 4)) * 60)))]]) := hD
                refine lv_iinc (v := 3) (lv' := [(6, .int 3), (5, .int (acc ||| 4)), (0, .ref q), (1, .ref t9), (2, .int (pdom r)), (3, .int ((pm2 r 1) / 60)), (4, .int ((pclock (pm2 r) 1) / 60))]) hx hb dX10_minuteOn_130 hl (k := 1) rfl (by decide) (by decide) rfl (fun ls hl => ?_)
                refine lv_goto (tgt := 78) hx hb dX10_minuteOn_133 (by decide) ?_
                exact hit78_3 (upd r1 34 1) (acc ||| 4) (by rw [← hT]; show pdueFrom _ _ _ _ _ = pdueFrom _ _ _ _ (pdueStep _ _ 2 r1); rw [show pdueStep (pm2 r 1 / 60) (pclock (pm2 r) 1 / 60) 2 r1 = (upd r1 34 1) from (if_pos ((due_or _ _ _).resolve_left c_121 : due (pm2 r 1 / 60) (pclock (pm2 r) 1 / 60) (r1 (27 + 3 * 2)) = 1)).trans (if_neg (fun q0 => c_122 ((dom_iff h6).mpr q0)))]) (by rw [← hB]; show duesFrom _ _ _ _ _ _ = duesFrom _ _ _ _ (pdueStep _ _ 2 r1) (if _ then _ else _); rw [show pdueStep (pm2 r 1 / 60) (pclock (pm2 r) 1 / 60) 2 r1 = (upd r1 34 1) from (if_pos ((due_or _ _ _).resolve_left c_121 : due (pm2 r 1 / 60) (pclock (pm2 r) 1 / 60) (r1 (27 + 3 * 2)) = 1)).trans (if_neg (fun q0 => c_122 ((dom_iff h6).mpr q0))), if_pos ((due_or _ _ _).resolve_left c_121 : due (pm2 r 1 / 60) (pclock (pm2 r) 1 / 60) (r1 (27 + 3 * 2)) = 1)]; rfl) (h6) _ _ (show va_P D vwCl (fl [[ia ty q 57 (upd r1 34 1)], [la ty t9 2 (tw (x + Int32.toInt64 ((pm2 r 4) * 60)) (y + Int32.toInt64 (((pm2 r 3) - (pm2 r 4)) * 60)))]]) _ from hP) hD hS _ (lv_sub hl [0, 1, 2, 3, 4, 5, 6] rfl)
              · skip
                refine lv_aload_n hx hb dX10_minuteOn_109 rfl (lv_at hl 2 rfl) ?_
                refine lv_iload hx hb dX10_minuteOn_110 (lv_at hl 1 rfl) ?_
                refine cSv (As := [.ref q, .int 2]) (rest := []) ⟨hx, hb, hml, hown, hts⟩ (c_X10_ring l D ty q 2 r1 (by omega)) (va_cwS 2 hts gX10_minuteOn_X10_ring rfl rfl rfl (by decide +kernel) ⟨Nat.le_of_ble_eq_true rfl, Nat.le_of_ble_eq_true rfl⟩) hK hX hP hD hS hA (pk (bs := [[ia ty q 57 r1], [la ty t9 2 (tw (x + Int32.toInt64 ((pm2 r 4) * 60)) (y + Int32.toInt64 (((pm2 r 3) - (pm2 r 4)) * 60)))]]) (bsc := [[ia ty q 57 r1]]) (bsr := [[la ty t9 2 (tw (x + Int32.toInt64 ((pm2 r 4) * 60)) (y + Int32.toInt64 (((pm2 r 3) - (pm2 r 4)) * 60)))]]) [0] [1] 2 rfl (by decide +kernel) rfl rfl) rfl hl.1 rfl (Nat.le_of_ble_eq_true rfl) dX10_minuteOn_112 ⟨Nat.le_of_ble_eq_true rfl, Nat.le_of_ble_eq_true rfl⟩ (fun u_123 h_125 H locs hP hD hS => ?_)
                have hP : va_P D vwCl (fl [[ia ty q 57 (pring 2 r1)], [la ty t9 2 (tw (x + Int32.toInt64 ((pm2 r 4) * 60)) (y + Int32.toInt64 (((pm2 r 3) - (pm2 r 4)) * 60)))]]) H := P_perm (po (bs := [[ia ty q 57 (pring 2 r1)], [la ty t9 2 (tw (x + Int32.toInt64 ((pm2 r 4) * 60)) (y + Int32.toInt64 (((pm2 r 3) - (pm2 r 4)) * 60)))]]) [0, 1] 2 rfl (by decide +kernel) rfl) hP
                have hD : va_D A (fl [[ia ty q 57 (pring 2 r1)], [la ty t9 2 (tw (x + Int32.toInt64 ((pm2 r 4) * 60)) (y + Int32.toInt64 (((pm2 r 3) - (pm2 r 4)) * 60)))]]) := D_perm (po (bs := [[ia ty q 57 (pring 2 r1)], [la ty t9 2 (tw (x + Int32.toInt64 ((pm2 r 4) * 60)) (y + Int32.toInt64 (((pm2 r 3) - (pm2 r 4)) * 60)))]]) [0, 1] 2 rfl (by decide +kernel) rfl) hD
                refine lv_goto (tgt := 130) hx hb dX10_minuteOn_115 (by decide) ?_
                refine lv_iinc (v := 3) (lv' := [(6, .int 3), (5, .int (acc ||| 4)), (0, .ref q), (1, .ref t9), (2, .int (pdom r)), (3, .int ((pm2 r 1) / 60)), (4, .int ((pclock (pm2 r) 1) / 60))]) hx hb dX10_minuteOn_130 hl (k := 1) rfl (by decide) (by decide) rfl (fun ls hl => ?_)
                refine lv_goto (tgt := 78) hx hb dX10_minuteOn_133 (by decide) ?_
                exact hit78_3 (pring 2 r1) (acc ||| 4) (by rw [← hT]; show pdueFrom _ _ _ _ _ = pdueFrom _ _ _ _ (pdueStep _ _ 2 r1); rw [show pdueStep (pm2 r 1 / 60) (pclock (pm2 r) 1 / 60) 2 r1 = (pring 2 r1) from (if_pos ((due_or _ _ _).resolve_left c_121 : due (pm2 r 1 / 60) (pclock (pm2 r) 1 / 60) (r1 (27 + 3 * 2)) = 1)).trans (if_pos ((dom_iff h6).mp c_122))]) (by rw [← hB]; show duesFrom _ _ _ _ _ _ = duesFrom _ _ _ _ (pdueStep _ _ 2 r1) (if _ then _ else _); rw [show pdueStep (pm2 r 1 / 60) (pclock (pm2 r) 1 / 60) 2 r1 = (pring 2 r1) from (if_pos ((due_or _ _ _).resolve_left c_121 : due (pm2 r 1 / 60) (pclock (pm2 r) 1 / 60) (r1 (27 + 3 * 2)) = 1)).trans (if_pos ((dom_iff h6).mp c_122)), if_pos ((due_or _ _ _).resolve_left c_121 : due (pm2 r 1 / 60) (pclock (pm2 r) 1 / 60) (r1 (27 + 3 * 2)) = 1)]; rfl) (h6) _ _ (show va_P D vwCl (fl [[ia ty q 57 (pring 2 r1)], [la ty t9 2 (tw (x + Int32.toInt64 ((pm2 r 4) * 60)) (y + Int32.toInt64 (((pm2 r 3) - (pm2 r 4)) * 60)))]]) _ from hP) hD hS _ (lv_sub hl [0, 1, 2, 3, 4, 5, 6] rfl)
        have hit78_1 : ∀ (r1 : Nat → Int32) (acc : Int32), (pdueFrom (pm2 r 1 / 60) (pclock (pm2 r) 1 / 60) 3 1 r1 = pgo (pm2 r)) → (duesFrom (pm2 r 1 / 60) (pclock (pm2 r) 1 / 60) 3 1 r1 acc = pdues r) → (r1 6 = r 6) → ∀ (H : Heap) (locs : List Loc), va_P D vwCl (fl [[ia ty q 57 r1], [la ty t9 2 (tw (x + Int32.toInt64 ((pm2 r 4) * 60)) (y + Int32.toInt64 (((pm2 r 3) - (pm2 r 4)) * 60)))]]) H → va_D A (fl [[ia ty q 57 r1], [la ty t9 2 (tw (x + Int32.toInt64 ((pm2 r 4) * 60)) (y + Int32.toInt64 (((pm2 r 3) - (pm2 r 4)) * 60)))]]) → va_S A s.heap H locs → ∀ ls : Array Slot, lv_has ls 7 [(6, .int 1), (5, .int acc), (0, .ref q), (1, .ref t9), (2, .int (pdom r)), (3, .int ((pm2 r 1) / 60)), (4, .int ((pclock (pm2 r) 1) / 60))] → W p l e ({ frames := 3, cells := 0, slots := 0, locals := 66 } : Room) s m args below meth c H locs 0 0 Qg (F0 m 78 ls []) := by
          intro r1 acc hT hB h6 H locs hP hD hS ls hl
          refine lv_iload hx hb dX10_minuteOn_78 (lv_at hl 0 rfl) ?_
          refine lv_iconst (v := 4) hx hb dX10_minuteOn_80 (by decide) ?_
          refine lv_icmp_ge (tgt := 136) hx hb dX10_minuteOn_81 (by decide) (fun c_126 => ?_) (fun c_126 => ?_)
          · exact absurd c_126 (by decide)
          · skip
            refine lv_aload_n hx hb dX10_minuteOn_84 rfl (lv_at hl 2 rfl) ?_
            refine lv_iload hx hb dX10_minuteOn_85 (lv_at hl 0 rfl) ?_
            refine lv_iload_n hx hb dX10_minuteOn_87 rfl (lv_at hl 5 rfl) ?_
            refine lv_iload hx hb dX10_minuteOn_88 (lv_at hl 6 rfl) ?_
            refine cSi (As := [.ref q, .int 1, .int ((pm2 r 1) / 60), .int ((pclock (pm2 r) 1) / 60)]) (rest := []) ⟨hx, hb, hml, hown, hts⟩ (c_X10_isDue l D ty q 1 ((pm2 r 1) / 60) ((pclock (pm2 r) 1) / 60) r1 (by omega) (div60_le _) (div60_le _)) (va_cwS 4 hts gX10_minuteOn_X10_isDue rfl rfl rfl (by decide +kernel) ⟨Nat.le_of_ble_eq_true rfl, Nat.le_of_ble_eq_true rfl⟩) hK hX hP hD hS hA (pk (bs := [[ia ty q 57 r1], [la ty t9 2 (tw (x + Int32.toInt64 ((pm2 r 4) * 60)) (y + Int32.toInt64 (((pm2 r 3) - (pm2 r 4)) * 60)))]]) (bsc := [[ia ty q 57 r1]]) (bsr := [[la ty t9 2 (tw (x + Int32.toInt64 ((pm2 r 4) * 60)) (y + Int32.toInt64 (((pm2 r 3) - (pm2 r 4)) * 60)))]]) [0] [1] 2 rfl (by decide +kernel) rfl rfl) rfl hl.1 rfl (Nat.le_of_ble_eq_true rfl) dX10_minuteOn_90 ⟨Nat.le_of_ble_eq_true rfl, Nat.le_of_ble_eq_true rfl⟩ (fun r_128 u_127 h_129 H locs hP hD hS => ?_)
            have h_129 : r_128 = (due ((pm2 r 1) / 60) ((pclock (pm2 r) 1) / 60) (r1 (27 + 3 * 1))) := h_129
            subst h_129
            have hP : va_P D vwCl (fl [[ia ty q 57 r1], [la ty t9 2 (tw (x + Int32.toInt64 ((pm2 r 4) * 60)) (y + Int32.toInt64 (((pm2 r 3) - (pm2 r 4)) * 60)))]]) H := P_perm (po (bs := [[ia ty q 57 r1], [la ty t9 2 (tw (x + Int32.toInt64 ((pm2 r 4) * 60)) (y + Int32.toInt64 (((pm2 r 3) - (pm2 r 4)) * 60)))]]) [0, 1] 2 rfl (by decide +kernel) rfl) hP
            have hD : va_D A (fl [[ia ty q 57 r1], [la ty t9 2 (tw (x + Int32.toInt64 ((pm2 r 4) * 60)) (y + Int32.toInt64 (((pm2 r 3) - (pm2 r 4)) * 60)))]]) := D_perm (po (bs := [[ia ty q 57 r1], [la ty t9 2 (tw (x + Int32.toInt64 ((pm2 r 4) * 60)) (y + Int32.toInt64 (((pm2 r 3) - (pm2 r 4)) * 60)))]]) [0, 1] 2 rfl (by decide +kernel) rfl) hD
            refine lv_if_eq (tgt := 130) hx hb dX10_minuteOn_93 (by decide) (fun c_130 => ?_) (fun c_130 => ?_)
            · skip
              refine lv_iinc (v := 2) (lv' := [(6, .int 2), (5, .int acc), (0, .ref q), (1, .ref t9), (2, .int (pdom r)), (3, .int ((pm2 r 1) / 60)), (4, .int ((pclock (pm2 r) 1) / 60))]) hx hb dX10_minuteOn_130 hl (k := 0) rfl (by decide) (by decide) rfl (fun ls hl => ?_)
              refine lv_goto (tgt := 78) hx hb dX10_minuteOn_133 (by decide) ?_
              exact hit78_2 r1 acc (by rw [← hT]; show pdueFrom _ _ _ _ r1 = pdueFrom _ _ _ _ (pdueStep _ _ 1 r1); rw [show pdueStep (pm2 r 1 / 60) (pclock (pm2 r) 1 / 60) 1 r1 = r1 from if_neg (show ¬ due (pm2 r 1 / 60) (pclock (pm2 r) 1 / 60) (r1 (27 + 3 * 1)) = 1 from fun q0 => absurd (q0.symm.trans c_130) (by decide))]) (by rw [← hB]; show duesFrom _ _ _ _ r1 acc = duesFrom _ _ _ _ (pdueStep _ _ 1 r1) (if _ then _ else _); rw [show pdueStep (pm2 r 1 / 60) (pclock (pm2 r) 1 / 60) 1 r1 = r1 from if_neg (show ¬ due (pm2 r 1 / 60) (pclock (pm2 r) 1 / 60) (r1 (27 + 3 * 1)) = 1 from fun q0 => absurd (q0.symm.trans c_130) (by decide)), if_neg (show ¬ due (pm2 r 1 / 60) (pclock (pm2 r) 1 / 60) (r1 (27 + 3 * 1)) = 1 from fun q0 => absurd (q0.symm.trans c_130) (by decide))]) (h6) _ _ (show va_P D vwCl (fl [[ia ty q 57 r1], [la ty t9 2 (tw (x + Int32.toInt64 ((pm2 r 4) * 60)) (y + Int32.toInt64 (((pm2 r 3) - (pm2 r 4)) * 60)))]]) _ from hP) hD hS _ (lv_sub hl [0, 1, 2, 3, 4, 5, 6] rfl)
            · skip
              refine lv_iload hx hb dX10_minuteOn_96 (lv_at hl 1 rfl) ?_
              refine lv_iconst (v := 1) hx hb dX10_minuteOn_98 (by decide) ?_
              refine lv_iload hx hb dX10_minuteOn_99 (lv_at hl 0 rfl) ?_
              refine W.eq (g2 := F0 m 101 ls [.int 1, .int 1, .int acc]) rfl ?_
              refine k_ishl (v := 2) hx hb dX10_minuteOn_101 (by decide) ?_
              refine k_ior (v := (acc ||| 2)) hx hb dX10_minuteOn_102 rfl ?_
              refine lv_istore (lv' := [(5, .int (acc ||| 2)), (6, .int 1), (0, .ref q), (1, .ref t9), (2, .int (pdom r)), (3, .int ((pm2 r 1) / 60)), (4, .int ((pclock (pm2 r) 1) / 60))]) hx hb dX10_minuteOn_103 hl (by decide) rfl (fun ls hl => ?_)
              refine lv_iload_n hx hb dX10_minuteOn_105 rfl (lv_at hl 4 rfl) ?_
              refine lv_if_ne (tgt := 118) hx hb dX10_minuteOn_106 (by decide) (fun c_131 => ?_) (fun c_131 => ?_)
              · skip
                refine lv_aload_n hx hb dX10_minuteOn_118 rfl (lv_at hl 2 rfl) ?_
                refine lv_bipush (v := 27) hx hb dX10_minuteOn_119 (by decide) ?_
                refine lv_iconst (v := 3) hx hb dX10_minuteOn_121 (by decide) ?_
                refine lv_iload hx hb dX10_minuteOn_122 (lv_at hl 1 rfl) ?_
                refine k_imul (v := 3) hx hb dX10_minuteOn_124 (by decide) ?_
                refine k_iadd (v := 30) hx hb dX10_minuteOn_125 (by decide) ?_
                refine lv_iconst (v := 1) hx hb dX10_minuteOn_126 (by decide) ?_
                refine k_iadd (v := 31) hx hb dX10_minuteOn_127 (by decide) ?_
                refine lv_iconst (v := 1) hx hb dX10_minuteOn_128 (by decide) ?_
                refine k_iast hx hb hK hP hD hS 0 rfl 31 rfl (by decide) (Nat.le_of_ble_eq_true rfl) dX10_minuteOn_129 (fun H locs hP hD hS => ?_)
                have hP : va_P D vwCl (fl [[ia ty q 57 (upd r1 31 1)], [la ty t9 2 (tw (x + Int32.toInt64 ((pm2 r 4) * 60)) (y + Int32.toInt64 (((pm2 r 3) - (pm2 r 4)) * 60)))]]) H := hP
                have hD : va_D A (fl [[ia ty q 57 (upd r1 31 1)], [la ty t9 2 (tw (x + Int32.toInt64 ((pm2 r 4) * 60)) (y + Int32.toInt64 (((pm2 r 3) - (pm2 r 4)) * 60)))]]) := hD
                refine lv_iinc (v := 2) (lv' := [(6, .int 2), (5, .int (acc ||| 2)), (0, .ref q), (1, .ref t9), (2, .int (pdom r)), (3, .int ((pm2 r 1) / 60)), (4, .int ((pclock (pm2 r) 1) / 60))]) hx hb dX10_minuteOn_130 hl (k := 1) rfl (by decide) (by decide) rfl (fun ls hl => ?_)
                refine lv_goto (tgt := 78) hx hb dX10_minuteOn_133 (by decide) ?_
                exact hit78_2 (upd r1 31 1) (acc ||| 2) (by rw [← hT]; show pdueFrom _ _ _ _ _ = pdueFrom _ _ _ _ (pdueStep _ _ 1 r1); rw [show pdueStep (pm2 r 1 / 60) (pclock (pm2 r) 1 / 60) 1 r1 = (upd r1 31 1) from (if_pos ((due_or _ _ _).resolve_left c_130 : due (pm2 r 1 / 60) (pclock (pm2 r) 1 / 60) (r1 (27 + 3 * 1)) = 1)).trans (if_neg (fun q0 => c_131 ((dom_iff h6).mpr q0)))]) (by rw [← hB]; show duesFrom _ _ _ _ _ _ = duesFrom _ _ _ _ (pdueStep _ _ 1 r1) (if _ then _ else _); rw [show pdueStep (pm2 r 1 / 60) (pclock (pm2 r) 1 / 60) 1 r1 = (upd r1 31 1) from (if_pos ((due_or _ _ _).resolve_left c_130 : due (pm2 r 1 / 60) (pclock (pm2 r) 1 / 60) (r1 (27 + 3 * 1)) = 1)).trans (if_neg (fun q0 => c_131 ((dom_iff h6).mpr q0))), if_pos ((due_or _ _ _).resolve_left c_130 : due (pm2 r 1 / 60) (pclock (pm2 r) 1 / 60) (r1 (27 + 3 * 1)) = 1)]; rfl) (h6) _ _ (show va_P D vwCl (fl [[ia ty q 57 (upd r1 31 1)], [la ty t9 2 (tw (x + Int32.toInt64 ((pm2 r 4) * 60)) (y + Int32.toInt64 (((pm2 r 3) - (pm2 r 4)) * 60)))]]) _ from hP) hD hS _ (lv_sub hl [0, 1, 2, 3, 4, 5, 6] rfl)
              · skip
                refine lv_aload_n hx hb dX10_minuteOn_109 rfl (lv_at hl 2 rfl) ?_
                refine lv_iload hx hb dX10_minuteOn_110 (lv_at hl 1 rfl) ?_
                refine cSv (As := [.ref q, .int 1]) (rest := []) ⟨hx, hb, hml, hown, hts⟩ (c_X10_ring l D ty q 1 r1 (by omega)) (va_cwS 2 hts gX10_minuteOn_X10_ring rfl rfl rfl (by decide +kernel) ⟨Nat.le_of_ble_eq_true rfl, Nat.le_of_ble_eq_true rfl⟩) hK hX hP hD hS hA (pk (bs := [[ia ty q 57 r1], [la ty t9 2 (tw (x + Int32.toInt64 ((pm2 r 4) * 60)) (y + Int32.toInt64 (((pm2 r 3) - (pm2 r 4)) * 60)))]]) (bsc := [[ia ty q 57 r1]]) (bsr := [[la ty t9 2 (tw (x + Int32.toInt64 ((pm2 r 4) * 60)) (y + Int32.toInt64 (((pm2 r 3) - (pm2 r 4)) * 60)))]]) [0] [1] 2 rfl (by decide +kernel) rfl rfl) rfl hl.1 rfl (Nat.le_of_ble_eq_true rfl) dX10_minuteOn_112 ⟨Nat.le_of_ble_eq_true rfl, Nat.le_of_ble_eq_true rfl⟩ (fun u_132 h_134 H locs hP hD hS => ?_)
                have hP : va_P D vwCl (fl [[ia ty q 57 (pring 1 r1)], [la ty t9 2 (tw (x + Int32.toInt64 ((pm2 r 4) * 60)) (y + Int32.toInt64 (((pm2 r 3) - (pm2 r 4)) * 60)))]]) H := P_perm (po (bs := [[ia ty q 57 (pring 1 r1)], [la ty t9 2 (tw (x + Int32.toInt64 ((pm2 r 4) * 60)) (y + Int32.toInt64 (((pm2 r 3) - (pm2 r 4)) * 60)))]]) [0, 1] 2 rfl (by decide +kernel) rfl) hP
                have hD : va_D A (fl [[ia ty q 57 (pring 1 r1)], [la ty t9 2 (tw (x + Int32.toInt64 ((pm2 r 4) * 60)) (y + Int32.toInt64 (((pm2 r 3) - (pm2 r 4)) * 60)))]]) := D_perm (po (bs := [[ia ty q 57 (pring 1 r1)], [la ty t9 2 (tw (x + Int32.toInt64 ((pm2 r 4) * 60)) (y + Int32.toInt64 (((pm2 r 3) - (pm2 r 4)) * 60)))]]) [0, 1] 2 rfl (by decide +kernel) rfl) hD
                refine lv_goto (tgt := 130) hx hb dX10_minuteOn_115 (by decide) ?_
                refine lv_iinc (v := 2) (lv' := [(6, .int 2), (5, .int (acc ||| 2)), (0, .ref q), (1, .ref t9), (2, .int (pdom r)), (3, .int ((pm2 r 1) / 60)), (4, .int ((pclock (pm2 r) 1) / 60))]) hx hb dX10_minuteOn_130 hl (k := 1) rfl (by decide) (by decide) rfl (fun ls hl => ?_)
                refine lv_goto (tgt := 78) hx hb dX10_minuteOn_133 (by decide) ?_
                exact hit78_2 (pring 1 r1) (acc ||| 2) (by rw [← hT]; show pdueFrom _ _ _ _ _ = pdueFrom _ _ _ _ (pdueStep _ _ 1 r1); rw [show pdueStep (pm2 r 1 / 60) (pclock (pm2 r) 1 / 60) 1 r1 = (pring 1 r1) from (if_pos ((due_or _ _ _).resolve_left c_130 : due (pm2 r 1 / 60) (pclock (pm2 r) 1 / 60) (r1 (27 + 3 * 1)) = 1)).trans (if_pos ((dom_iff h6).mp c_131))]) (by rw [← hB]; show duesFrom _ _ _ _ _ _ = duesFrom _ _ _ _ (pdueStep _ _ 1 r1) (if _ then _ else _); rw [show pdueStep (pm2 r 1 / 60) (pclock (pm2 r) 1 / 60) 1 r1 = (pring 1 r1) from (if_pos ((due_or _ _ _).resolve_left c_130 : due (pm2 r 1 / 60) (pclock (pm2 r) 1 / 60) (r1 (27 + 3 * 1)) = 1)).trans (if_pos ((dom_iff h6).mp c_131)), if_pos ((due_or _ _ _).resolve_left c_130 : due (pm2 r 1 / 60) (pclock (pm2 r) 1 / 60) (r1 (27 + 3 * 1)) = 1)]; rfl) (h6) _ _ (show va_P D vwCl (fl [[ia ty q 57 (pring 1 r1)], [la ty t9 2 (tw (x + Int32.toInt64 ((pm2 r 4) * 60)) (y + Int32.toInt64 (((pm2 r 3) - (pm2 r 4)) * 60)))]]) _ from hP) hD hS _ (lv_sub hl [0, 1, 2, 3, 4, 5, 6] rfl)
        have hit78_0 : ∀ (r1 : Nat → Int32) (acc : Int32), (pdueFrom (pm2 r 1 / 60) (pclock (pm2 r) 1 / 60) 4 0 r1 = pgo (pm2 r)) → (duesFrom (pm2 r 1 / 60) (pclock (pm2 r) 1 / 60) 4 0 r1 acc = pdues r) → (r1 6 = r 6) → ∀ (H : Heap) (locs : List Loc), va_P D vwCl (fl [[ia ty q 57 r1], [la ty t9 2 (tw (x + Int32.toInt64 ((pm2 r 4) * 60)) (y + Int32.toInt64 (((pm2 r 3) - (pm2 r 4)) * 60)))]]) H → va_D A (fl [[ia ty q 57 r1], [la ty t9 2 (tw (x + Int32.toInt64 ((pm2 r 4) * 60)) (y + Int32.toInt64 (((pm2 r 3) - (pm2 r 4)) * 60)))]]) → va_S A s.heap H locs → ∀ ls : Array Slot, lv_has ls 7 [(6, .int 0), (5, .int acc), (0, .ref q), (1, .ref t9), (2, .int (pdom r)), (3, .int ((pm2 r 1) / 60)), (4, .int ((pclock (pm2 r) 1) / 60))] → W p l e ({ frames := 3, cells := 0, slots := 0, locals := 66 } : Room) s m args below meth c H locs 0 0 Qg (F0 m 78 ls []) := by
          intro r1 acc hT hB h6 H locs hP hD hS ls hl
          refine lv_iload hx hb dX10_minuteOn_78 (lv_at hl 0 rfl) ?_
          refine lv_iconst (v := 4) hx hb dX10_minuteOn_80 (by decide) ?_
          refine lv_icmp_ge (tgt := 136) hx hb dX10_minuteOn_81 (by decide) (fun c_135 => ?_) (fun c_135 => ?_)
          · exact absurd c_135 (by decide)
          · skip
            refine lv_aload_n hx hb dX10_minuteOn_84 rfl (lv_at hl 2 rfl) ?_
            refine lv_iload hx hb dX10_minuteOn_85 (lv_at hl 0 rfl) ?_
            refine lv_iload_n hx hb dX10_minuteOn_87 rfl (lv_at hl 5 rfl) ?_
            refine lv_iload hx hb dX10_minuteOn_88 (lv_at hl 6 rfl) ?_
            refine cSi (As := [.ref q, .int 0, .int ((pm2 r 1) / 60), .int ((pclock (pm2 r) 1) / 60)]) (rest := []) ⟨hx, hb, hml, hown, hts⟩ (c_X10_isDue l D ty q 0 ((pm2 r 1) / 60) ((pclock (pm2 r) 1) / 60) r1 (by omega) (div60_le _) (div60_le _)) (va_cwS 4 hts gX10_minuteOn_X10_isDue rfl rfl rfl (by decide +kernel) ⟨Nat.le_of_ble_eq_true rfl, Nat.le_of_ble_eq_true rfl⟩) hK hX hP hD hS hA (pk (bs := [[ia ty q 57 r1], [la ty t9 2 (tw (x + Int32.toInt64 ((pm2 r 4) * 60)) (y + Int32.toInt64 (((pm2 r 3) - (pm2 r 4)) * 60)))]]) (bsc := [[ia ty q 57 r1]]) (bsr := [[la ty t9 2 (tw (x + Int32.toInt64 ((pm2 r 4) * 60)) (y + Int32.toInt64 (((pm2 r 3) - (pm2 r 4)) * 60)))]]) [0] [1] 2 rfl (by decide +kernel) rfl rfl) rfl hl.1 rfl (Nat.le_of_ble_eq_true rfl) dX10_minuteOn_90 ⟨Nat.le_of_ble_eq_true rfl, Nat.le_of_ble_eq_true rfl⟩ (fun r_137 u_136 h_138 H locs hP hD hS => ?_)
            have h_138 : r_137 = (due ((pm2 r 1) / 60) ((pclock (pm2 r) 1) / 60) (r1 (27 + 3 * 0))) := h_138
            subst h_138
            have hP : va_P D vwCl (fl [[ia ty q 57 r1], [la ty t9 2 (tw (x + Int32.toInt64 ((pm2 r 4) * 60)) (y + Int32.toInt64 (((pm2 r 3) - (pm2 r 4)) * 60)))]]) H := P_perm (po (bs := [[ia ty q 57 r1], [la ty t9 2 (tw (x + Int32.toInt64 ((pm2 r 4) * 60)) (y + Int32.toInt64 (((pm2 r 3) - (pm2 r 4)) * 60)))]]) [0, 1] 2 rfl (by decide +kernel) rfl) hP
            have hD : va_D A (fl [[ia ty q 57 r1], [la ty t9 2 (tw (x + Int32.toInt64 ((pm2 r 4) * 60)) (y + Int32.toInt64 (((pm2 r 3) - (pm2 r 4)) * 60)))]]) := D_perm (po (bs := [[ia ty q 57 r1], [la ty t9 2 (tw (x + Int32.toInt64 ((pm2 r 4) * 60)) (y + Int32.toInt64 (((pm2 r 3) - (pm2 r 4)) * 60)))]]) [0, 1] 2 rfl (by decide +kernel) rfl) hD
            refine lv_if_eq (tgt := 130) hx hb dX10_minuteOn_93 (by decide) (fun c_139 => ?_) (fun c_139 => ?_)
            · skip
              refine lv_iinc (v := 1) (lv' := [(6, .int 1), (5, .int acc), (0, .ref q), (1, .ref t9), (2, .int (pdom r)), (3, .int ((pm2 r 1) / 60)), (4, .int ((pclock (pm2 r) 1) / 60))]) hx hb dX10_minuteOn_130 hl (k := 0) rfl (by decide) (by decide) rfl (fun ls hl => ?_)
              refine lv_goto (tgt := 78) hx hb dX10_minuteOn_133 (by decide) ?_
              exact hit78_1 r1 acc (by rw [← hT]; show pdueFrom _ _ _ _ r1 = pdueFrom _ _ _ _ (pdueStep _ _ 0 r1); rw [show pdueStep (pm2 r 1 / 60) (pclock (pm2 r) 1 / 60) 0 r1 = r1 from if_neg (show ¬ due (pm2 r 1 / 60) (pclock (pm2 r) 1 / 60) (r1 (27 + 3 * 0)) = 1 from fun q0 => absurd (q0.symm.trans c_139) (by decide))]) (by rw [← hB]; show duesFrom _ _ _ _ r1 acc = duesFrom _ _ _ _ (pdueStep _ _ 0 r1) (if _ then _ else _); rw [show pdueStep (pm2 r 1 / 60) (pclock (pm2 r) 1 / 60) 0 r1 = r1 from if_neg (show ¬ due (pm2 r 1 / 60) (pclock (pm2 r) 1 / 60) (r1 (27 + 3 * 0)) = 1 from fun q0 => absurd (q0.symm.trans c_139) (by decide)), if_neg (show ¬ due (pm2 r 1 / 60) (pclock (pm2 r) 1 / 60) (r1 (27 + 3 * 0)) = 1 from fun q0 => absurd (q0.symm.trans c_139) (by decide))]) (h6) _ _ (show va_P D vwCl (fl [[ia ty q 57 r1], [la ty t9 2 (tw (x + Int32.toInt64 ((pm2 r 4) * 60)) (y + Int32.toInt64 (((pm2 r 3) - (pm2 r 4)) * 60)))]]) _ from hP) hD hS _ (lv_sub hl [0, 1, 2, 3, 4, 5, 6] rfl)
            · skip
              refine lv_iload hx hb dX10_minuteOn_96 (lv_at hl 1 rfl) ?_
              refine lv_iconst (v := 1) hx hb dX10_minuteOn_98 (by decide) ?_
              refine lv_iload hx hb dX10_minuteOn_99 (lv_at hl 0 rfl) ?_
              refine W.eq (g2 := F0 m 101 ls [.int 0, .int 1, .int acc]) rfl ?_
              refine k_ishl (v := 1) hx hb dX10_minuteOn_101 (by decide) ?_
              refine k_ior (v := (acc ||| 1)) hx hb dX10_minuteOn_102 rfl ?_
              refine lv_istore (lv' := [(5, .int (acc ||| 1)), (6, .int 0), (0, .ref q), (1, .ref t9), (2, .int (pdom r)), (3, .int ((pm2 r 1) / 60)), (4, .int ((pclock (pm2 r) 1) / 60))]) hx hb dX10_minuteOn_103 hl (by decide) rfl (fun ls hl => ?_)
              refine lv_iload_n hx hb dX10_minuteOn_105 rfl (lv_at hl 4 rfl) ?_
              refine lv_if_ne (tgt := 118) hx hb dX10_minuteOn_106 (by decide) (fun c_140 => ?_) (fun c_140 => ?_)
              · skip
                refine lv_aload_n hx hb dX10_minuteOn_118 rfl (lv_at hl 2 rfl) ?_
                refine lv_bipush (v := 27) hx hb dX10_minuteOn_119 (by decide) ?_
                refine lv_iconst (v := 3) hx hb dX10_minuteOn_121 (by decide) ?_
                refine lv_iload hx hb dX10_minuteOn_122 (lv_at hl 1 rfl) ?_
                refine k_imul (v := 0) hx hb dX10_minuteOn_124 (by decide) ?_
                refine k_iadd (v := 27) hx hb dX10_minuteOn_125 (by decide) ?_
                refine lv_iconst (v := 1) hx hb dX10_minuteOn_126 (by decide) ?_
                refine k_iadd (v := 28) hx hb dX10_minuteOn_127 (by decide) ?_
                refine lv_iconst (v := 1) hx hb dX10_minuteOn_128 (by decide) ?_
                refine k_iast hx hb hK hP hD hS 0 rfl 28 rfl (by decide) (Nat.le_of_ble_eq_true rfl) dX10_minuteOn_129 (fun H locs hP hD hS => ?_)
                have hP : va_P D vwCl (fl [[ia ty q 57 (upd r1 28 1)], [la ty t9 2 (tw (x + Int32.toInt64 ((pm2 r 4) * 60)) (y + Int32.toInt64 (((pm2 r 3) - (pm2 r 4)) * 60)))]]) H := hP
                have hD : va_D A (fl [[ia ty q 57 (upd r1 28 1)], [la ty t9 2 (tw (x + Int32.toInt64 ((pm2 r 4) * 60)) (y + Int32.toInt64 (((pm2 r 3) - (pm2 r 4)) * 60)))]]) := hD
                refine lv_iinc (v := 1) (lv' := [(6, .int 1), (5, .int (acc ||| 1)), (0, .ref q), (1, .ref t9), (2, .int (pdom r)), (3, .int ((pm2 r 1) / 60)), (4, .int ((pclock (pm2 r) 1) / 60))]) hx hb dX10_minuteOn_130 hl (k := 1) rfl (by decide) (by decide) rfl (fun ls hl => ?_)
                refine lv_goto (tgt := 78) hx hb dX10_minuteOn_133 (by decide) ?_
                exact hit78_1 (upd r1 28 1) (acc ||| 1) (by rw [← hT]; show pdueFrom _ _ _ _ _ = pdueFrom _ _ _ _ (pdueStep _ _ 0 r1); rw [show pdueStep (pm2 r 1 / 60) (pclock (pm2 r) 1 / 60) 0 r1 = (upd r1 28 1) from (if_pos ((due_or _ _ _).resolve_left c_139 : due (pm2 r 1 / 60) (pclock (pm2 r) 1 / 60) (r1 (27 + 3 * 0)) = 1)).trans (if_neg (fun q0 => c_140 ((dom_iff h6).mpr q0)))]) (by rw [← hB]; show duesFrom _ _ _ _ _ _ = duesFrom _ _ _ _ (pdueStep _ _ 0 r1) (if _ then _ else _); rw [show pdueStep (pm2 r 1 / 60) (pclock (pm2 r) 1 / 60) 0 r1 = (upd r1 28 1) from (if_pos ((due_or _ _ _).resolve_left c_139 : due (pm2 r 1 / 60) (pclock (pm2 r) 1 / 60) (r1 (27 + 3 * 0)) = 1)).trans (if_neg (fun q0 => c_140 ((dom_iff h6).mpr q0))), if_pos ((due_or _ _ _).resolve_left c_139 : due (pm2 r 1 / 60) (pclock (pm2 r) 1 / 60) (r1 (27 + 3 * 0)) = 1)]; rfl) (h6) _ _ (show va_P D vwCl (fl [[ia ty q 57 (upd r1 28 1)], [la ty t9 2 (tw (x + Int32.toInt64 ((pm2 r 4) * 60)) (y + Int32.toInt64 (((pm2 r 3) - (pm2 r 4)) * 60)))]]) _ from hP) hD hS _ (lv_sub hl [0, 1, 2, 3, 4, 5, 6] rfl)
              · skip
                refine lv_aload_n hx hb dX10_minuteOn_109 rfl (lv_at hl 2 rfl) ?_
                refine lv_iload hx hb dX10_minuteOn_110 (lv_at hl 1 rfl) ?_
                refine cSv (As := [.ref q, .int 0]) (rest := []) ⟨hx, hb, hml, hown, hts⟩ (c_X10_ring l D ty q 0 r1 (by omega)) (va_cwS 2 hts gX10_minuteOn_X10_ring rfl rfl rfl (by decide +kernel) ⟨Nat.le_of_ble_eq_true rfl, Nat.le_of_ble_eq_true rfl⟩) hK hX hP hD hS hA (pk (bs := [[ia ty q 57 r1], [la ty t9 2 (tw (x + Int32.toInt64 ((pm2 r 4) * 60)) (y + Int32.toInt64 (((pm2 r 3) - (pm2 r 4)) * 60)))]]) (bsc := [[ia ty q 57 r1]]) (bsr := [[la ty t9 2 (tw (x + Int32.toInt64 ((pm2 r 4) * 60)) (y + Int32.toInt64 (((pm2 r 3) - (pm2 r 4)) * 60)))]]) [0] [1] 2 rfl (by decide +kernel) rfl rfl) rfl hl.1 rfl (Nat.le_of_ble_eq_true rfl) dX10_minuteOn_112 ⟨Nat.le_of_ble_eq_true rfl, Nat.le_of_ble_eq_true rfl⟩ (fun u_141 h_143 H locs hP hD hS => ?_)
                have hP : va_P D vwCl (fl [[ia ty q 57 (pring 0 r1)], [la ty t9 2 (tw (x + Int32.toInt64 ((pm2 r 4) * 60)) (y + Int32.toInt64 (((pm2 r 3) - (pm2 r 4)) * 60)))]]) H := P_perm (po (bs := [[ia ty q 57 (pring 0 r1)], [la ty t9 2 (tw (x + Int32.toInt64 ((pm2 r 4) * 60)) (y + Int32.toInt64 (((pm2 r 3) - (pm2 r 4)) * 60)))]]) [0, 1] 2 rfl (by decide +kernel) rfl) hP
                have hD : va_D A (fl [[ia ty q 57 (pring 0 r1)], [la ty t9 2 (tw (x + Int32.toInt64 ((pm2 r 4) * 60)) (y + Int32.toInt64 (((pm2 r 3) - (pm2 r 4)) * 60)))]]) := D_perm (po (bs := [[ia ty q 57 (pring 0 r1)], [la ty t9 2 (tw (x + Int32.toInt64 ((pm2 r 4) * 60)) (y + Int32.toInt64 (((pm2 r 3) - (pm2 r 4)) * 60)))]]) [0, 1] 2 rfl (by decide +kernel) rfl) hD
                refine lv_goto (tgt := 130) hx hb dX10_minuteOn_115 (by decide) ?_
                refine lv_iinc (v := 1) (lv' := [(6, .int 1), (5, .int (acc ||| 1)), (0, .ref q), (1, .ref t9), (2, .int (pdom r)), (3, .int ((pm2 r 1) / 60)), (4, .int ((pclock (pm2 r) 1) / 60))]) hx hb dX10_minuteOn_130 hl (k := 1) rfl (by decide) (by decide) rfl (fun ls hl => ?_)
                refine lv_goto (tgt := 78) hx hb dX10_minuteOn_133 (by decide) ?_
                exact hit78_1 (pring 0 r1) (acc ||| 1) (by rw [← hT]; show pdueFrom _ _ _ _ _ = pdueFrom _ _ _ _ (pdueStep _ _ 0 r1); rw [show pdueStep (pm2 r 1 / 60) (pclock (pm2 r) 1 / 60) 0 r1 = (pring 0 r1) from (if_pos ((due_or _ _ _).resolve_left c_139 : due (pm2 r 1 / 60) (pclock (pm2 r) 1 / 60) (r1 (27 + 3 * 0)) = 1)).trans (if_pos ((dom_iff h6).mp c_140))]) (by rw [← hB]; show duesFrom _ _ _ _ _ _ = duesFrom _ _ _ _ (pdueStep _ _ 0 r1) (if _ then _ else _); rw [show pdueStep (pm2 r 1 / 60) (pclock (pm2 r) 1 / 60) 0 r1 = (pring 0 r1) from (if_pos ((due_or _ _ _).resolve_left c_139 : due (pm2 r 1 / 60) (pclock (pm2 r) 1 / 60) (r1 (27 + 3 * 0)) = 1)).trans (if_pos ((dom_iff h6).mp c_140)), if_pos ((due_or _ _ _).resolve_left c_139 : due (pm2 r 1 / 60) (pclock (pm2 r) 1 / 60) (r1 (27 + 3 * 0)) = 1)]; rfl) (h6) _ _ (show va_P D vwCl (fl [[ia ty q 57 (pring 0 r1)], [la ty t9 2 (tw (x + Int32.toInt64 ((pm2 r 4) * 60)) (y + Int32.toInt64 (((pm2 r 3) - (pm2 r 4)) * 60)))]]) _ from hP) hD hS _ (lv_sub hl [0, 1, 2, 3, 4, 5, 6] rfl)
        exact hit78_0 (pclock (pm2 r)) 0 (rfl) ((if_neg c_103).symm) (pm2_6 r) _ _ (show va_P D vwCl (fl [[ia ty q 57 (pclock (pm2 r))], [la ty t9 2 (tw (x + Int32.toInt64 ((pm2 r 4) * 60)) (y + Int32.toInt64 (((pm2 r 3) - (pm2 r 4)) * 60)))]]) _ from hP) (D_same2 hD [q, t9] rfl rfl) hS _ (lv_sub hl [0, 1, 5, 6, 4, 3, 2] rfl)
      · skip
        refine lv_iconst (v := 0) hx hb dX10_minuteOn_50 (by decide) ?_
        subst hQg
        have hP : va_P D vwCl (fl [[ia ty q 57 (pminute r)], [la ty t9 2 (tw (minX r x) (minY r y))]]) H := by
          rw [show pminute r = pm2 r from if_pos c_103, show minX r x = x from if_pos c_103, show minY r y = y from if_pos c_103]; exact hP
        have hD : va_D A (fl [[ia ty q 57 (pminute r)], [la ty t9 2 (tw (minX r x) (minY r y))]]) := (D_same2 hD [q, t9] rfl rfl)
        exact end_i (bs' := (fun (_ : Unit) => [[ia ty q 57 (pminute r)], [la ty t9 2 (tw (minX r x) (minY r y))]])) () hx hb hr hlocks hP hD hS (if_pos c_103).symm (Nat.le_of_ble_eq_true rfl) (Nat.le_of_ble_eq_true rfl) dX10_minuteOn_51
