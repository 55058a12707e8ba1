set_option maxHeartbeats 4000000 in
set_option maxRecDepth 100000 in
theorem c_X10_clockOn (l : Launch) (D : va_G) (ty : Nat → ClassId) (q t9 : Nat) (r : Nat → Int32) (x y : Int64) : CTv l yX10_clockOn wsX10_clockOn ({ frames := 0, cells := 0, slots := 0, locals := 0 }) D ty [.ref q, .ref t9] [[ia ty q 57 r], [la ty t9 2 (tw x y)]] (fun (_ : Unit) => True) (fun (_ : Unit) => [[ia ty q 57 (pclock r)], [la ty t9 2 (tw (x + Int32.toInt64 ((r 4) * 60)) (y + Int32.toInt64 (((r 3) - (r 4)) * 60)))]]) := by
  refine CTv_of cX10_clockOn 3 none (by decide) rfl (Nat.le_of_ble_eq_true rfl) ?_
  intro p e s m args below meth c A hx hb hr hml hown hlocks hin hts hA hX hK hP hD ls hl
  have hown : s.vm.findClass RX10 = some m.cls := hown
  have hS : va_S A s.heap s.heap [] := va_S.rf
  have hl : lv_has ls 3 [(0, .ref q), (1, .ref t9)] := hl
  generalize hQg : MQ below (va_Qv (fun (_ : Unit) => True) (PostW D (fun (_ : Unit) => [[ia ty q 57 (pclock r)], [la ty t9 2 (tw (x + Int32.toInt64 ((r 4) * 60)) (y + Int32.toInt64 (((r 3) - (r 4)) * 60)))]]) A) A) args s 0 0 A = Qg
  refine lv_aload_n hx hb dX10_clockOn_0 rfl (lv_at hl 0 rfl) ?_
  refine lv_iconst (v := 3) hx hb dX10_clockOn_1 (by decide) ?_
  refine k_iald hx hb hK hP 0 rfl 3 rfl (by decide) (Nat.le_of_ble_eq_true rfl) (v := r 3) rfl dX10_clockOn_2 ?_
  refine lv_aload_n hx hb dX10_clockOn_3 rfl (lv_at hl 0 rfl) ?_
  refine lv_iconst (v := 4) hx hb dX10_clockOn_4 (by decide) ?_
  refine k_iald hx hb hK hP 0 rfl 4 rfl (by decide) (Nat.le_of_ble_eq_true rfl) (v := r 4) rfl dX10_clockOn_5 ?_
  refine k_isub (v := ((r 3) - (r 4))) hx hb dX10_clockOn_6 rfl ?_
  refine lv_bipush (v := 60) hx hb dX10_clockOn_7 (by decide) ?_
  refine k_imul (v := (((r 3) - (r 4)) * 60)) hx hb dX10_clockOn_9 rfl ?_
  refine lv_istore_n (lv' := [(2, .int (((r 3) - (r 4)) * 60)), (0, .ref q), (1, .ref t9)]) hx hb dX10_clockOn_10 rfl hl (by decide) rfl (fun ls hl => ?_)
  refine lv_aload_n hx hb dX10_clockOn_11 rfl (lv_at hl 1 rfl) ?_
  refine lv_iconst (v := 1) hx hb dX10_clockOn_12 (by decide) ?_
  refine lv_dup2_11 hx hb dX10_clockOn_13 rfl rfl ?_
  refine k_iald hx hb hK hP 0 rfl 1 rfl (by decide) (Nat.le_of_ble_eq_true rfl) (v := r 1) rfl dX10_clockOn_14 ?_
  refine lv_bipush (v := 60) hx hb dX10_clockOn_15 (by decide) ?_
  refine k_iadd (v := ((r 1) + 60)) hx hb dX10_clockOn_17 rfl ?_
  refine k_iast hx hb hK hP hD hS 0 rfl 1 rfl (by decide) (Nat.le_of_ble_eq_true rfl) dX10_clockOn_18 (fun H locs hP hD hS => ?_)
  have hP : va_P D vwCl (fl [[ia ty q 57 (upd r 1 ((r 1) + 60))], [la ty t9 2 (tw x y)]]) H := hP
  have hD : va_D A (fl [[ia ty q 57 (upd r 1 ((r 1) + 60))], [la ty t9 2 (tw x y)]]) := hD
  refine lv_aload_n hx hb dX10_clockOn_19 rfl (lv_at hl 1 rfl) ?_
  refine lv_iconst (v := 2) hx hb dX10_clockOn_20 (by decide) ?_
  refine lv_dup2_11 hx hb dX10_clockOn_21 rfl rfl ?_
  refine k_iald hx hb hK hP 0 rfl 2 rfl (by decide) (Nat.le_of_ble_eq_true rfl) (v := r 2) rfl dX10_clockOn_22 ?_
  refine lv_iload_n hx hb dX10_clockOn_23 rfl (lv_at hl 0 rfl) ?_
  refine k_iadd (v := ((r 2) + (((r 3) - (r 4)) * 60))) hx hb dX10_clockOn_24 rfl ?_
  refine k_iast hx hb hK hP hD hS 0 rfl 2 rfl (by decide) (Nat.le_of_ble_eq_true rfl) dX10_clockOn_25 (fun H locs hP hD hS => ?_)
  have hP : va_P D vwCl (fl [[ia ty q 57 (upd (upd r 1 ((r 1) + 60)) 2 ((r 2) + (((r 3) - (r 4)) * 60)))], [la ty t9 2 (tw x y)]]) H := hP
  have hD : va_D A (fl [[ia ty q 57 (upd (upd r 1 ((r 1) + 60)) 2 ((r 2) + (((r 3) - (r 4)) * 60)))], [la ty t9 2 (tw x y)]]) := hD
  refine lv_aload_n hx hb dX10_clockOn_26 rfl (lv_at hl 2 rfl) ?_
  refine lv_iconst (v := 0) hx hb dX10_clockOn_27 (by decide) ?_
  refine lv_dup2_11 hx hb dX10_clockOn_28 rfl rfl ?_
  refine k_lald hx hb hK hP 1 rfl 0 rfl (by decide) (Nat.le_of_ble_eq_true rfl) (v := x) rfl dX10_clockOn_29 ?_
  refine lv_aload_n hx hb dX10_clockOn_30 rfl (lv_at hl 1 rfl) ?_
  refine lv_iconst (v := 4) hx hb dX10_clockOn_31 (by decide) ?_
  refine k_iald hx hb hK hP 0 rfl 4 rfl (by decide) (Nat.le_of_ble_eq_true rfl) (v := r 4) rfl dX10_clockOn_32 ?_
  refine lv_bipush (v := 60) hx hb dX10_clockOn_33 (by decide) ?_
  refine k_imul (v := ((r 4) * 60)) hx hb dX10_clockOn_35 rfl ?_
  refine lv_i2l (v := (Int32.toInt64 ((r 4) * 60))) hx hb dX10_clockOn_36 rfl ?_
  refine k_ladd (v := (x + (Int32.toInt64 ((r 4) * 60)))) hx hb dX10_clockOn_37 rfl ?_
  refine k_last hx hb hK hP hD hS 1 rfl 0 rfl (by decide) (Nat.le_of_ble_eq_true rfl) dX10_clockOn_38 (fun H locs hP hD hS => ?_)
  have hP : va_P D vwCl (fl [[ia ty q 57 (upd (upd r 1 ((r 1) + 60)) 2 ((r 2) + (((r 3) - (r 4)) * 60)))], [la ty t9 2 (vp_updL (tw x y) 0 (x + (Int32.toInt64 ((r 4) * 60))))]]) H := hP
  have hD : va_D A (fl [[ia ty q 57 (upd (upd r 1 ((r 1) + 60)) 2 ((r 2) + (((r 3) - (r 4)) * 60)))], [la ty t9 2 (vp_updL (tw x y) 0 (x + (Int32.toInt64 ((r 4) * 60))))]]) := hD
  refine lv_aload_n hx hb dX10_clockOn_39 rfl (lv_at hl 2 rfl) ?_
  refine lv_iconst (v := 1) hx hb dX10_clockOn_40 (by decide) ?_
  refine lv_dup2_11 hx hb dX10_clockOn_41 rfl rfl ?_
  refine k_lald hx hb hK hP 1 rfl 1 rfl (by decide) (Nat.le_of_ble_eq_true rfl) (v := (tw x y) 1) rfl dX10_clockOn_42 ?_
  refine lv_iload_n hx hb dX10_clockOn_43 rfl (lv_at hl 0 rfl) ?_
  refine lv_i2l (v := (Int32.toInt64 (((r 3) - (r 4)) * 60))) hx hb dX10_clockOn_44 rfl ?_
  refine k_ladd (v := (((tw x y) 1) + (Int32.toInt64 (((r 3) - (r 4)) * 60)))) hx hb dX10_clockOn_45 rfl ?_
  refine k_last hx hb hK hP hD hS 1 rfl 1 rfl (by decide) (Nat.le_of_ble_eq_true rfl) dX10_clockOn_46 (fun H locs hP hD hS => ?_)
  have hP : va_P D vwCl (fl [[ia ty q 57 (upd (upd r 1 ((r 1) + 60)) 2 ((r 2) + (((r 3) - (r 4)) * 60)))], [la ty t9 2 (vp_updL (vp_updL (tw x y) 0 (x + (Int32.toInt64 ((r 4) * 60)))) 1 (((tw x y) 1) + (Int32.toInt64 (((r 3) - (r 4)) * 60))))]]) H := hP
  have hD : va_D A (fl [[ia ty q 57 (upd (upd r 1 ((r 1) + 60)) 2 ((r 2) + (((r 3) - (r 4)) * 60)))], [la ty t9 2 (vp_updL (vp_updL (tw x y) 0 (x + (Int32.toInt64 ((r 4) * 60)))) 1 (((tw x y) 1) + (Int32.toInt64 (((r 3) - (r 4)) * 60))))]]) := hD
  have hl1 : ∀ (n : Nat) (C1 : Int32) (R1 : Int32), (R1.toInt.toNat < n) → (C1 + R1 / 1000000 = r 1 + 60 + ((r 2) + (((r 3) - (r 4)) * 60)) / 1000000) → (R1 - R1 / 1000000 * 1000000 = ((r 2) + (((r 3) - (r 4)) * 60)) - ((r 2) + (((r 3) - (r 4)) * 60)) / 1000000 * 1000000) → ∀ (H : Heap) (locs : List Loc), va_P D vwCl (fl [[ia ty q 57 (upd (upd r 1 C1) 2 R1)], [la ty t9 2 (tw (x + Int32.toInt64 ((r 4) * 60)) (y + Int32.toInt64 (((r 3) - (r 4)) * 60)))]]) H → va_D A (fl [[ia ty q 57 (upd (upd r 1 C1) 2 R1)], [la ty t9 2 (tw (x + Int32.toInt64 ((r 4) * 60)) (y + Int32.toInt64 (((r 3) - (r 4)) * 60)))]]) → va_S A s.heap H locs → ∀ ls : Array Slot, lv_has ls 3 [(2, .int (((r 3) - (r 4)) * 60)), (0, .ref q), (1, .ref t9)] → W p l e ({ frames := 0, cells := 0, slots := 0, locals := 0 } : Room) s m args below meth c H locs 0 0 Qg (F0 m 47 ls []) := by
    intro n
    induction n with
    | zero =>
      intro C1 R1 hk hI1 hI2
      exact absurd hk (Nat.not_lt_zero _)
    | succ n ih =>
      intro C1 R1 hk hI1 hI2 H locs hP hD hS ls hl
      refine lv_aload_n hx hb dX10_clockOn_47 rfl (lv_at hl 1 rfl) ?_
      refine lv_iconst (v := 2) hx hb dX10_clockOn_48 (by decide) ?_
      refine k_iald hx hb hK hP 0 rfl 2 rfl (by decide) (Nat.le_of_ble_eq_true rfl) (v := R1) rfl dX10_clockOn_49 ?_
      refine lv_ldc hx hb hown (hts (Cond.constant RX10 72 (1000000)) (List.mem_of_getElem? (i := 1) rfl)) dX10_clockOn_50 ?_
      refine lv_icmp_lt (tgt := 73) hx hb dX10_clockOn_52 (by decide) (fun c_1 => ?_) (fun c_1 => ?_)
      · skip
        have hl2 : ∀ (n : Nat) (C1 : Int32) (R1 : Int32), ((-R1.toInt).toNat < n) → (R1.toInt < 1000000) → (C1 + R1 / 1000000 = r 1 + 60 + ((r 2) + (((r 3) - (r 4)) * 60)) / 1000000) → (R1 - R1 / 1000000 * 1000000 = ((r 2) + (((r 3) - (r 4)) * 60)) - ((r 2) + (((r 3) - (r 4)) * 60)) / 1000000 * 1000000) → ∀ (H : Heap) (locs : List Loc), va_P D vwCl (fl [[ia ty q 57 (upd (upd r 1 C1) 2 R1)], [la ty t9 2 (tw (x + Int32.toInt64 ((r 4) * 60)) (y + Int32.toInt64 (((r 3) - (r 4)) * 60)))]]) H → va_D A (fl [[ia ty q 57 (upd (upd r 1 C1) 2 R1)], [la ty t9 2 (tw (x + Int32.toInt64 ((r 4) * 60)) (y + Int32.toInt64 (((r 3) - (r 4)) * 60)))]]) → va_S A s.heap H locs → ∀ ls : Array Slot, lv_has ls 3 [(2, .int (((r 3) - (r 4)) * 60)), (0, .ref q), (1, .ref t9)] → W p l e ({ frames := 0, cells := 0, slots := 0, locals := 0 } : Room) s m args below meth c H locs 0 0 Qg (F0 m 73 ls []) := by
          intro n
          induction n with
          | zero =>
            intro C1 R1 hk hlt hI1 hI2
            exact absurd hk (Nat.not_lt_zero _)
          | succ n ih =>
            intro C1 R1 hk hlt hI1 hI2 H locs hP hD hS ls hl
            refine lv_aload_n hx hb dX10_clockOn_73 rfl (lv_at hl 1 rfl) ?_
            refine lv_iconst (v := 2) hx hb dX10_clockOn_74 (by decide) ?_
            refine k_iald hx hb hK hP 0 rfl 2 rfl (by decide) (Nat.le_of_ble_eq_true rfl) (v := R1) rfl dX10_clockOn_75 ?_
            refine lv_ldc hx hb hown (hts (Cond.constant RX10 73 (-1000000)) (List.mem_of_getElem? (i := 2) rfl)) dX10_clockOn_76 ?_
            refine lv_icmp_gt (tgt := 99) hx hb dX10_clockOn_78 (by decide) (fun c_2 => ?_) (fun c_2 => ?_)
            · skip
              subst hQg
              have hgt : -1000000 < R1.toInt := mil_d c_2
              have hz := mil_in hgt hlt
              have e1 : C1 = r 1 + 60 + ((r 2) + (((r 3) - (r 4)) * 60)) / 1000000 := by rw [← hI1, hz]; exact (Int32.add_zero _).symm
              have e2 : R1 = ((r 2) + (((r 3) - (r 4)) * 60)) - ((r 2) + (((r 3) - (r 4)) * 60)) / 1000000 * 1000000 := by rw [← hI2, hz]; exact (ring_z _ _).symm
              have hP : va_P D vwCl (fl [[ia ty q 57 (pclock r)], [la ty t9 2 (tw (x + Int32.toInt64 ((r 4) * 60)) (y + Int32.toInt64 (((r 3) - (r 4)) * 60)))]]) H := by rw [pclock_of e1 e2]; exact hP
              have hD : va_D A (fl [[ia ty q 57 (pclock r)], [la ty t9 2 (tw (x + Int32.toInt64 ((r 4) * 60)) (y + Int32.toInt64 (((r 3) - (r 4)) * 60)))]]) := (D_same2 hD [q, t9] rfl rfl)
              exact end_v (bs' := (fun (_ : Unit) => [[ia ty q 57 (pclock r)], [la ty t9 2 (tw (x + Int32.toInt64 ((r 4) * 60)) (y + Int32.toInt64 (((r 3) - (r 4)) * 60)))]])) () hx hb hr hlocks hP hD hS trivial (Nat.le_of_ble_eq_true rfl) (Nat.le_of_ble_eq_true rfl) dX10_clockOn_99
            · skip
              have hle : R1.toInt ≤ -1000000 := mil_c c_2
              have hdn := mil_dn hle
              refine lv_aload_n hx hb dX10_clockOn_81 rfl (lv_at hl 1 rfl) ?_
              refine lv_iconst (v := 1) hx hb dX10_clockOn_82 (by decide) ?_
              refine lv_dup2_11 hx hb dX10_clockOn_83 rfl rfl ?_
              refine k_iald hx hb hK hP 0 rfl 1 rfl (by decide) (Nat.le_of_ble_eq_true rfl) (v := C1) rfl dX10_clockOn_84 ?_
              refine lv_iconst (v := 1) hx hb dX10_clockOn_85 (by decide) ?_
              refine k_isub (v := (C1 - 1)) hx hb dX10_clockOn_86 rfl ?_
              refine k_iast hx hb hK hP hD hS 0 rfl 1 rfl (by decide) (Nat.le_of_ble_eq_true rfl) dX10_clockOn_87 (fun H locs hP hD hS => ?_)
              have hP : va_P D vwCl (fl [[ia ty q 57 (upd (upd (upd r 1 C1) 2 R1) 1 (C1 - 1))], [la ty t9 2 (tw (x + Int32.toInt64 ((r 4) * 60)) (y + Int32.toInt64 (((r 3) - (r 4)) * 60)))]]) H := hP
              have hD : va_D A (fl [[ia ty q 57 (upd (upd (upd r 1 C1) 2 R1) 1 (C1 - 1))], [la ty t9 2 (tw (x + Int32.toInt64 ((r 4) * 60)) (y + Int32.toInt64 (((r 3) - (r 4)) * 60)))]]) := hD
              refine lv_aload_n hx hb dX10_clockOn_88 rfl (lv_at hl 1 rfl) ?_
              refine lv_iconst (v := 2) hx hb dX10_clockOn_89 (by decide) ?_
              refine lv_dup2_11 hx hb dX10_clockOn_90 rfl rfl ?_
              refine k_iald hx hb hK hP 0 rfl 2 rfl (by decide) (Nat.le_of_ble_eq_true rfl) (v := R1) rfl dX10_clockOn_91 ?_
              refine lv_ldc hx hb hown (hts (Cond.constant RX10 72 (1000000)) (List.mem_of_getElem? (i := 1) rfl)) dX10_clockOn_92 ?_
              refine k_iadd (v := (R1 + 1000000)) hx hb dX10_clockOn_94 rfl ?_
              refine k_iast hx hb hK hP hD hS 0 rfl 2 rfl (by decide) (Nat.le_of_ble_eq_true rfl) dX10_clockOn_95 (fun H locs hP hD hS => ?_)
              have hP : va_P D vwCl (fl [[ia ty q 57 (upd (upd (upd (upd r 1 C1) 2 R1) 1 (C1 - 1)) 2 (R1 + 1000000))], [la ty t9 2 (tw (x + Int32.toInt64 ((r 4) * 60)) (y + Int32.toInt64 (((r 3) - (r 4)) * 60)))]]) H := hP
              have hD : va_D A (fl [[ia ty q 57 (upd (upd (upd (upd r 1 C1) 2 R1) 1 (C1 - 1)) 2 (R1 + 1000000))], [la ty t9 2 (tw (x + Int32.toInt64 ((r 4) * 60)) (y + Int32.toInt64 (((r 3) - (r 4)) * 60)))]]) := hD
              refine lv_goto (tgt := 73) hx hb dX10_clockOn_96 (by decide) ?_
              have hfour := upd_four r C1 R1 (C1 - 1) (R1 + 1000000)
              have hP : va_P D vwCl (fl [[ia ty q 57 (upd (upd r 1 (C1 - 1)) 2 (R1 + 1000000))], [la ty t9 2 (tw (x + Int32.toInt64 ((r 4) * 60)) (y + Int32.toInt64 (((r 3) - (r 4)) * 60)))]]) H := P_at (e1 := ia ty q 57 (upd (upd (upd (upd r 1 C1) 2 R1) 1 (C1 - 1)) 2 (R1 + 1000000))) (e2 := ia ty q 57 (upd (upd r 1 (C1 - 1)) 2 (R1 + 1000000))) 0 (at_ia (fun k _ => hfour k)) rfl rfl hP
              have hD : va_D A (fl [[ia ty q 57 (upd (upd r 1 (C1 - 1)) 2 (R1 + 1000000))], [la ty t9 2 (tw (x + Int32.toInt64 ((r 4) * 60)) (y + Int32.toInt64 (((r 3) - (r 4)) * 60)))]]) := (D_same2 hD [q, t9] rfl rfl)
              exact ih (C1 - 1) (R1 + 1000000) (by rw [hdn.2]; omega) (by rw [hdn.2]; omega) (by rw [hdn.1, ← hI1]; exact ring_dn _ _) (by rw [hdn.1, ← hI2]; exact ring_dn2 _ _ _) _ _ (show va_P D vwCl (fl [[ia ty q 57 (upd (upd r 1 (C1 - 1)) 2 (R1 + 1000000))], [la ty t9 2 (tw (x + Int32.toInt64 ((r 4) * 60)) (y + Int32.toInt64 (((r 3) - (r 4)) * 60)))]]) _ from hP) hD hS _ (lv_sub hl [0, 1, 2] rfl)
        exact hl2 ((-R1.toInt).toNat + 1) C1 R1 (Nat.lt_succ_self _) (mil_b c_1) (hI1) (hI2) _ _ (show va_P D vwCl (fl [[ia ty q 57 (upd (upd r 1 C1) 2 R1)], [la ty t9 2 (tw (x + Int32.toInt64 ((r 4) * 60)) (y + Int32.toInt64 (((r 3) - (r 4)) * 60)))]]) _ from hP) hD hS _ (lv_sub hl [0, 1, 2] rfl)
      · skip
        have hge : 1000000 ≤ R1.toInt := mil_a c_1
        have hup := mil_up hge
        refine lv_aload_n hx hb dX10_clockOn_55 rfl (lv_at hl 1 rfl) ?_
        refine lv_iconst (v := 1) hx hb dX10_clockOn_56 (by decide) ?_
        refine lv_dup2_11 hx hb dX10_clockOn_57 rfl rfl ?_
        refine k_iald hx hb hK hP 0 rfl 1 rfl (by decide) (Nat.le_of_ble_eq_true rfl) (v := C1) rfl dX10_clockOn_58 ?_
        refine lv_iconst (v := 1) hx hb dX10_clockOn_59 (by decide) ?_
        refine k_iadd (v := (C1 + 1)) hx hb dX10_clockOn_60 rfl ?_
        refine k_iast hx hb hK hP hD hS 0 rfl 1 rfl (by decide) (Nat.le_of_ble_eq_true rfl) dX10_clockOn_61 (fun H locs hP hD hS => ?_)
        have hP : va_P D vwCl (fl [[ia ty q 57 (upd (upd (upd r 1 C1) 2 R1) 1 (C1 + 1))], [la ty t9 2 (tw (x + Int32.toInt64 ((r 4) * 60)) (y + Int32.toInt64 (((r 3) - (r 4)) * 60)))]]) H := hP
        have hD : va_D A (fl [[ia ty q 57 (upd (upd (upd r 1 C1) 2 R1) 1 (C1 + 1))], [la ty t9 2 (tw (x + Int32.toInt64 ((r 4) * 60)) (y + Int32.toInt64 (((r 3) - (r 4)) * 60)))]]) := hD
        refine lv_aload_n hx hb dX10_clockOn_62 rfl (lv_at hl 1 rfl) ?_
        refine lv_iconst (v := 2) hx hb dX10_clockOn_63 (by decide) ?_
        refine lv_dup2_11 hx hb dX10_clockOn_64 rfl rfl ?_
        refine k_iald hx hb hK hP 0 rfl 2 rfl (by decide) (Nat.le_of_ble_eq_true rfl) (v := R1) rfl dX10_clockOn_65 ?_
        refine lv_ldc hx hb hown (hts (Cond.constant RX10 72 (1000000)) (List.mem_of_getElem? (i := 1) rfl)) dX10_clockOn_66 ?_
        refine k_isub (v := (R1 - 1000000)) hx hb dX10_clockOn_68 rfl ?_
        refine k_iast hx hb hK hP hD hS 0 rfl 2 rfl (by decide) (Nat.le_of_ble_eq_true rfl) dX10_clockOn_69 (fun H locs hP hD hS => ?_)
        have hP : va_P D vwCl (fl [[ia ty q 57 (upd (upd (upd (upd r 1 C1) 2 R1) 1 (C1 + 1)) 2 (R1 - 1000000))], [la ty t9 2 (tw (x + Int32.toInt64 ((r 4) * 60)) (y + Int32.toInt64 (((r 3) - (r 4)) * 60)))]]) H := hP
        have hD : va_D A (fl [[ia ty q 57 (upd (upd (upd (upd r 1 C1) 2 R1) 1 (C1 + 1)) 2 (R1 - 1000000))], [la ty t9 2 (tw (x + Int32.toInt64 ((r 4) * 60)) (y + Int32.toInt64 (((r 3) - (r 4)) * 60)))]]) := hD
        refine lv_goto (tgt := 47) hx hb dX10_clockOn_70 (by decide) ?_
        have hfour := upd_four r C1 R1 (C1 + 1) (R1 - 1000000)
        have hP : va_P D vwCl (fl [[ia ty q 57 (upd (upd r 1 (C1 + 1)) 2 (R1 - 1000000))], [la ty t9 2 (tw (x + Int32.toInt64 ((r 4) * 60)) (y + Int32.toInt64 (((r 3) - (r 4)) * 60)))]]) H := P_at (e1 := ia ty q 57 (upd (upd (upd (upd r 1 C1) 2 R1) 1 (C1 + 1)) 2 (R1 - 1000000))) (e2 := ia ty q 57 (upd (upd r 1 (C1 + 1)) 2 (R1 - 1000000))) 0 (at_ia (fun k _ => hfour k)) rfl rfl hP
        have hD : va_D A (fl [[ia ty q 57 (upd (upd r 1 (C1 + 1)) 2 (R1 - 1000000))], [la ty t9 2 (tw (x + Int32.toInt64 ((r 4) * 60)) (y + Int32.toInt64 (((r 3) - (r 4)) * 60)))]]) := (D_same2 hD [q, t9] rfl rfl)
        exact ih (C1 + 1) (R1 - 1000000) (by rw [hup.2]; omega) (by rw [hup.1, ← hI1]; exact ring_up _ _) (by rw [hup.1, ← hI2]; exact ring_up2 _ _ _) _ _ (show va_P D vwCl (fl [[ia ty q 57 (upd (upd r 1 (C1 + 1)) 2 (R1 - 1000000))], [la ty t9 2 (tw (x + Int32.toInt64 ((r 4) * 60)) (y + Int32.toInt64 (((r 3) - (r 4)) * 60)))]]) _ from hP) hD hS _ (lv_sub hl [0, 1, 2] rfl)
  have htw := tw_fold x y (x + (Int32.toInt64 ((r 4) * 60))) (((tw x y) 1) + (Int32.toInt64 (((r 3) - (r 4)) * 60)))
  have hP : va_P D vwCl (fl [[ia ty q 57 (upd (upd r 1 ((r 1) + 60)) 2 ((r 2) + (((r 3) - (r 4)) * 60)))], [la ty t9 2 (tw (x + Int32.toInt64 ((r 4) * 60)) (y + Int32.toInt64 (((r 3) - (r 4)) * 60)))]]) H := P_at (e1 := la ty t9 2 (vp_updL (vp_updL (tw x y) 0 (x + (Int32.toInt64 ((r 4) * 60)))) 1 (((tw x y) 1) + (Int32.toInt64 (((r 3) - (r 4)) * 60))))) (e2 := la ty t9 2 (tw (x + Int32.toInt64 ((r 4) * 60)) (y + Int32.toInt64 (((r 3) - (r 4)) * 60)))) 1 (at_la htw) rfl rfl hP
  have hD : va_D A (fl [[ia ty q 57 (upd (upd r 1 ((r 1) + 60)) 2 ((r 2) + (((r 3) - (r 4)) * 60)))], [la ty t9 2 (tw (x + Int32.toInt64 ((r 4) * 60)) (y + Int32.toInt64 (((r 3) - (r 4)) * 60)))]]) := (D_same2 hD [q, t9] rfl rfl)
  exact hl1 ((((r 2) + (((r 3) - (r 4)) * 60))).toInt.toNat + 1) ((r 1) + 60) ((r 2) + (((r 3) - (r 4)) * 60)) (Nat.lt_succ_self _) (rfl) (rfl) _ _ (show va_P D vwCl (fl [[ia ty q 57 (upd (upd r 1 ((r 1) + 60)) 2 ((r 2) + (((r 3) - (r 4)) * 60)))], [la ty t9 2 (tw (x + Int32.toInt64 ((r 4) * 60)) (y + Int32.toInt64 (((r 3) - (r 4)) * 60)))]]) _ from hP) hD hS _ (lv_sub hl [0, 1, 2] rfl)
