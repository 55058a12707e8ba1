set_option maxHeartbeats 4000000 in
set_option maxRecDepth 100000 in
theorem c_X10_begin (l : Launch) (D : va_G) (ty : Nat → ClassId) (q : Nat) (r : Nat → Int32) : CTv l yX10_begin wsX10_begin ({ frames := 0, cells := 0, slots := 0, locals := 0 }) D ty [.ref q] [[ia ty q 57 r]] (fun (_ : Unit) => True) (fun (_ : Unit) => [[ia ty q 57 p0]]) := by
  refine CTv_of cX10_begin 2 none (by decide) rfl (Nat.le_of_ble_eq_true rfl) ?_
  intro p e s m args below meth c A hx hb hr hml hown hlocks hin hts hA hX hK hP hD ls hl
  have hown : s.vm.findClass RX10 = some m.cls := hown
  have hS : va_S A s.heap s.heap [] := va_S.rf
  have hl : lv_has ls 2 [(0, .ref q)] := hl
  generalize hQg : MQ below (va_Qv (fun (_ : Unit) => True) (PostW D (fun (_ : Unit) => [[ia ty q 57 p0]]) A) A) args s 0 0 A = Qg
  refine lv_iconst (v := 0) hx hb dX10_begin_0 (by decide) ?_
  refine lv_istore_n (lv' := [(1, .int 0), (0, .ref q)]) hx hb dX10_begin_1 rfl hl (by decide) rfl (fun ls hl => ?_)
  have hl : lv_has ls 2 [(1, .int (nI 0)), (0, .ref q)] := hl
  have hloop : ∀ (n : Nat) (i : Nat), (58 ≤ i + n) → (i ≤ 57) → ∀ (H : Heap) (locs : List Loc), va_P D vwCl (fl [[ia ty q 57 (zerosTo i r)]]) H → va_D A (fl [[ia ty q 57 (zerosTo i r)]]) → va_S A s.heap H locs → ∀ ls : Array Slot, lv_has ls 2 [(1, .int (nI i)), (0, .ref q)] → W p l e ({ frames := 0, cells := 0, slots := 0, locals := 0 } : Room) s m args below meth c H locs 0 0 Qg (F0 m 2 ls []) := by
    intro n
    induction n with
    | zero =>
      intro i hi hin
      exact absurd hi (by omega)
    | succ n ih =>
      intro i hi hin H locs hP hD hS ls hl
      refine lv_iload_n hx hb dX10_begin_2 rfl (lv_at hl 0 rfl) ?_
      refine lv_bipush (v := 57) hx hb dX10_begin_3 (by decide) ?_
      refine lv_icmp_ge (tgt := 18) hx hb dX10_begin_5 (by decide) (fun c_1 => ?_) (fun c_1 => ?_)
      · skip
        refine lv_aload_n hx hb dX10_begin_18 rfl (lv_at hl 1 rfl) ?_
        refine lv_iconst (v := 3) hx hb dX10_begin_19 (by decide) ?_
        refine lv_bipush (v := 100) hx hb dX10_begin_20 (by decide) ?_
        refine k_iast hx hb hK hP hD hS 0 rfl 3 rfl (by decide) (Nat.le_of_ble_eq_true rfl) dX10_begin_22 (fun H locs hP hD hS => ?_)
        have hP : va_P D vwCl (fl [[ia ty q 57 (upd (zerosTo i r) 3 100)]]) H := hP
        have hD : va_D A (fl [[ia ty q 57 (upd (zerosTo i r) 3 100)]]) := hD
        refine lv_aload_n hx hb dX10_begin_23 rfl (lv_at hl 1 rfl) ?_
        refine lv_bipush (v := 6) hx hb dX10_begin_24 (by decide) ?_
        refine lv_bipush (v := 9) hx hb dX10_begin_26 (by decide) ?_
        refine k_iast hx hb hK hP hD hS 0 rfl 6 rfl (by decide) (Nat.le_of_ble_eq_true rfl) dX10_begin_28 (fun H locs hP hD hS => ?_)
        have hP : va_P D vwCl (fl [[ia ty q 57 (upd (upd (zerosTo i r) 3 100) 6 9)]]) H := hP
        have hD : va_D A (fl [[ia ty q 57 (upd (upd (zerosTo i r) 3 100) 6 9)]]) := hD
        refine lv_aload_n hx hb dX10_begin_29 rfl (lv_at hl 1 rfl) ?_
        refine lv_bipush (v := 7) hx hb dX10_begin_30 (by decide) ?_
        refine lv_sipush (v := 1000) hx hb dX10_begin_32 (by decide) ?_
        refine k_iast hx hb hK hP hD hS 0 rfl 7 rfl (by decide) (Nat.le_of_ble_eq_true rfl) dX10_begin_35 (fun H locs hP hD hS => ?_)
        have hP : va_P D vwCl (fl [[ia ty q 57 (upd (upd (upd (zerosTo i r) 3 100) 6 9) 7 1000)]]) H := hP
        have hD : va_D A (fl [[ia ty q 57 (upd (upd (upd (zerosTo i r) 3 100) 6 9) 7 1000)]]) := hD
        refine lv_iconst (v := 0) hx hb dX10_begin_36 (by decide) ?_
        refine lv_istore_n (lv' := [(1, .int 0), (0, .ref q)]) hx hb dX10_begin_37 rfl hl (by decide) rfl (fun ls hl => ?_)
        refine lv_iload_n hx hb dX10_begin_38 rfl (lv_at hl 0 rfl) ?_
        refine lv_iconst (v := 4) hx hb dX10_begin_39 (by decide) ?_
        refine lv_icmp_ge (tgt := 59) hx hb dX10_begin_40 (by decide) (fun c_2 => ?_) (fun c_2 => ?_)
        · exact absurd c_2 (by decide)
        · skip
          refine lv_aload_n hx hb dX10_begin_43 rfl (lv_at hl 1 rfl) ?_
          refine lv_bipush (v := 27) hx hb dX10_begin_44 (by decide) ?_
          refine lv_iconst (v := 3) hx hb dX10_begin_46 (by decide) ?_
          refine lv_iload_n hx hb dX10_begin_47 rfl (lv_at hl 0 rfl) ?_
          refine k_imul (v := 0) hx hb dX10_begin_48 (by decide) ?_
          refine k_iadd (v := 27) hx hb dX10_begin_49 (by decide) ?_
          refine lv_ldc hx hb hown (hts (Cond.constant RX10 53 (-99999999)) (List.mem_of_getElem? (i := 1) rfl)) dX10_begin_50 ?_
          refine k_iast hx hb hK hP hD hS 0 rfl 27 rfl (by decide) (Nat.le_of_ble_eq_true rfl) dX10_begin_52 (fun H locs hP hD hS => ?_)
          have hP : va_P D vwCl (fl [[ia ty q 57 (upd (upd (upd (upd (zerosTo i r) 3 100) 6 9) 7 1000) 27 (-99999999))]]) H := hP
          have hD : va_D A (fl [[ia ty q 57 (upd (upd (upd (upd (zerosTo i r) 3 100) 6 9) 7 1000) 27 (-99999999))]]) := hD
          refine lv_iinc (v := 1) (lv' := [(1, .int 1), (0, .ref q)]) hx hb dX10_begin_53 hl (k := 0) rfl (by decide) (by decide) rfl (fun ls hl => ?_)
          refine lv_goto (tgt := 38) hx hb dX10_begin_56 (by decide) ?_
          refine lv_iload_n hx hb dX10_begin_38 rfl (lv_at hl 0 rfl) ?_
          refine lv_iconst (v := 4) hx hb dX10_begin_39 (by decide) ?_
          refine lv_icmp_ge (tgt := 59) hx hb dX10_begin_40 (by decide) (fun c_3 => ?_) (fun c_3 => ?_)
          · exact absurd c_3 (by decide)
          · skip
            refine lv_aload_n hx hb dX10_begin_43 rfl (lv_at hl 1 rfl) ?_
            refine lv_bipush (v := 27) hx hb dX10_begin_44 (by decide) ?_
            refine lv_iconst (v := 3) hx hb dX10_begin_46 (by decide) ?_
            refine lv_iload_n hx hb dX10_begin_47 rfl (lv_at hl 0 rfl) ?_
            refine k_imul (v := 3) hx hb dX10_begin_48 (by decide) ?_
            refine k_iadd (v := 30) hx hb dX10_begin_49 (by decide) ?_
            refine lv_ldc hx hb hown (hts (Cond.constant RX10 53 (-99999999)) (List.mem_of_getElem? (i := 1) rfl)) dX10_begin_50 ?_
            refine k_iast hx hb hK hP hD hS 0 rfl 30 rfl (by decide) (Nat.le_of_ble_eq_true rfl) dX10_begin_52 (fun H locs hP hD hS => ?_)
            have hP : va_P D vwCl (fl [[ia ty q 57 (upd (upd (upd (upd (upd (zerosTo i r) 3 100) 6 9) 7 1000) 27 (-99999999)) 30 (-99999999))]]) H := hP
            have hD : va_D A (fl [[ia ty q 57 (upd (upd (upd (upd (upd (zerosTo i r) 3 100) 6 9) 7 1000) 27 (-99999999)) 30 (-99999999))]]) := hD
            refine lv_iinc (v := 2) (lv' := [(1, .int 2), (0, .ref q)]) hx hb dX10_begin_53 hl (k := 0) rfl (by decide) (by decide) rfl (fun ls hl => ?_)
            refine lv_goto (tgt := 38) hx hb dX10_begin_56 (by decide) ?_
            refine lv_iload_n hx hb dX10_begin_38 rfl (lv_at hl 0 rfl) ?_
            refine lv_iconst (v := 4) hx hb dX10_begin_39 (by decide) ?_
            refine lv_icmp_ge (tgt := 59) hx hb dX10_begin_40 (by decide) (fun c_4 => ?_) (fun c_4 => ?_)
            · exact absurd c_4 (by decide)
            · skip
              refine lv_aload_n hx hb dX10_begin_43 rfl (lv_at hl 1 rfl) ?_
              refine lv_bipush (v := 27) hx hb dX10_begin_44 (by decide) ?_
              refine lv_iconst (v := 3) hx hb dX10_begin_46 (by decide) ?_
              refine lv_iload_n hx hb dX10_begin_47 rfl (lv_at hl 0 rfl) ?_
              refine k_imul (v := 6) hx hb dX10_begin_48 (by decide) ?_
              refine k_iadd (v := 33) hx hb dX10_begin_49 (by decide) ?_
              refine lv_ldc hx hb hown (hts (Cond.constant RX10 53 (-99999999)) (List.mem_of_getElem? (i := 1) rfl)) dX10_begin_50 ?_
              refine k_iast hx hb hK hP hD hS 0 rfl 33 rfl (by decide) (Nat.le_of_ble_eq_true rfl) dX10_begin_52 (fun H locs hP hD hS => ?_)
              have hP : va_P D vwCl (fl [[ia ty q 57 (upd (upd (upd (upd (upd (upd (zerosTo i r) 3 100) 6 9) 7 1000) 27 (-99999999)) 30 (-99999999)) 33 (-99999999))]]) H := hP
              have hD : va_D A (fl [[ia ty q 57 (upd (upd (upd (upd (upd (upd (zerosTo i r) 3 100) 6 9) 7 1000) 27 (-99999999)) 30 (-99999999)) 33 (-99999999))]]) := hD
              refine lv_iinc (v := 3) (lv' := [(1, .int 3), (0, .ref q)]) hx hb dX10_begin_53 hl (k := 0) rfl (by decide) (by decide) rfl (fun ls hl => ?_)
              refine lv_goto (tgt := 38) hx hb dX10_begin_56 (by decide) ?_
              refine lv_iload_n hx hb dX10_begin_38 rfl (lv_at hl 0 rfl) ?_
              refine lv_iconst (v := 4) hx hb dX10_begin_39 (by decide) ?_
              refine lv_icmp_ge (tgt := 59) hx hb dX10_begin_40 (by decide) (fun c_5 => ?_) (fun c_5 => ?_)
              · exact absurd c_5 (by decide)
              · skip
                refine lv_aload_n hx hb dX10_begin_43 rfl (lv_at hl 1 rfl) ?_
                refine lv_bipush (v := 27) hx hb dX10_begin_44 (by decide) ?_
                refine lv_iconst (v := 3) hx hb dX10_begin_46 (by decide) ?_
                refine lv_iload_n hx hb dX10_begin_47 rfl (lv_at hl 0 rfl) ?_
                refine k_imul (v := 9) hx hb dX10_begin_48 (by decide) ?_
                refine k_iadd (v := 36) hx hb dX10_begin_49 (by decide) ?_
                refine lv_ldc hx hb hown (hts (Cond.constant RX10 53 (-99999999)) (List.mem_of_getElem? (i := 1) rfl)) dX10_begin_50 ?_
                refine k_iast hx hb hK hP hD hS 0 rfl 36 rfl (by decide) (Nat.le_of_ble_eq_true rfl) dX10_begin_52 (fun H locs hP hD hS => ?_)
                have hP : va_P D vwCl (fl [[ia ty q 57 (upd (upd (upd (upd (upd (upd (upd (zerosTo i r) 3 100) 6 9) 7 1000) 27 (-99999999)) 30 (-99999999)) 33 (-99999999)) 36 (-99999999))]]) H := hP
                have hD : va_D A (fl [[ia ty q 57 (upd (upd (upd (upd (upd (upd (upd (zerosTo i r) 3 100) 6 9) 7 1000) 27 (-99999999)) 30 (-99999999)) 33 (-99999999)) 36 (-99999999))]]) := hD
                refine lv_iinc (v := 4) (lv' := [(1, .int 4), (0, .ref q)]) hx hb dX10_begin_53 hl (k := 0) rfl (by decide) (by decide) rfl (fun ls hl => ?_)
                refine lv_goto (tgt := 38) hx hb dX10_begin_56 (by decide) ?_
                refine lv_iload_n hx hb dX10_begin_38 rfl (lv_at hl 0 rfl) ?_
                refine lv_iconst (v := 4) hx hb dX10_begin_39 (by decide) ?_
                refine lv_icmp_ge (tgt := 59) hx hb dX10_begin_40 (by decide) (fun c_6 => ?_) (fun c_6 => ?_)
                · skip
                  subst hQg
                  have hz : i = 57 := by have q0 := (nI_leI (a := 57) (b := i) (by omega) (by omega)).mp c_1; omega
                  subst hz
                  have hP : va_P D vwCl (fl [[ia ty q 57 p0]]) H := P_at 0 (at_ia (fun k hk => by
                    by_cases h3 : k = 3
                    · subst h3; rfl
                    by_cases h6 : k = 6
                    · subst h6; rfl
                    by_cases h7 : k = 7
                    · subst h7; rfl
                    by_cases h27 : k = 27
                    · subst h27; rfl
                    by_cases h30 : k = 30
                    · subst h30; rfl
                    by_cases h33 : k = 33
                    · subst h33; rfl
                    by_cases h36 : k = 36
                    · subst h36; rfl
                    have hz : zerosTo 57 r k = 0 := if_pos hk
                    simp [upd, p0, hz, h3, h6, h7, h27, h30, h33, h36])) rfl rfl hP
                  have hD : va_D A (fl [[ia ty q 57 p0]]) := (D_same2 hD [q] rfl rfl)
                  exact end_v (bs' := (fun (_ : Unit) => [[ia ty q 57 p0]])) () hx hb hr hlocks hP hD hS trivial (Nat.le_of_ble_eq_true rfl) (Nat.le_of_ble_eq_true rfl) dX10_begin_59
                · exact absurd (by decide) c_6
      · skip
        have hlt : i < 57 := Nat.lt_of_not_le (fun z => c_1 ((nI_leI (a := 57) (b := i) (by omega) (by omega)).mpr z))
        refine lv_aload_n hx hb dX10_begin_8 rfl (lv_at hl 1 rfl) ?_
        refine lv_iload_n hx hb dX10_begin_9 rfl (lv_at hl 0 rfl) ?_
        refine lv_iconst (v := 0) hx hb dX10_begin_10 (by decide) ?_
        refine k_iast hx hb hK hP hD hS 0 rfl i rfl (by omega) (Nat.le_of_ble_eq_true rfl) dX10_begin_11 (fun H locs hP hD hS => ?_)
        have hP : va_P D vwCl (fl [[ia ty q 57 (upd (zerosTo i r) i 0)]]) H := hP
        have hD : va_D A (fl [[ia ty q 57 (upd (zerosTo i r) i 0)]]) := hD
        refine lv_iinc (v := (nI (i + 1))) (lv' := [(1, .int (nI (i + 1))), (0, .ref q)]) hx hb dX10_begin_12 hl (k := 0) rfl (nI_1 i) (by decide) rfl (fun ls hl => ?_)
        refine lv_goto (tgt := 2) hx hb dX10_begin_15 (by decide) ?_
        have hP : va_P D vwCl (fl [[ia ty q 57 (zerosTo (i + 1) r)]]) H := by rw [← zerosTo_succ]; exact hP
        have hD : va_D A (fl [[ia ty q 57 (zerosTo (i + 1) r)]]) := by rw [← zerosTo_succ]; exact hD
        exact ih (i + 1) (by omega) (by omega) _ _ (show va_P D vwCl (fl [[ia ty q 57 (zerosTo (i + 1) r)]]) _ from hP) hD hS _ (lv_sub hl [0, 1] rfl)
  have hP : va_P D vwCl (fl [[ia ty q 57 (zerosTo 0 r)]]) s.heap := by rw [zerosTo_0]; exact hP
  have hD : va_D A (fl [[ia ty q 57 (zerosTo 0 r)]]) := by rw [zerosTo_0]; exact hD
  exact hloop 58 0 (by omega) (Nat.zero_le _) _ _ (show va_P D vwCl (fl [[ia ty q 57 (zerosTo 0 r)]]) _ from hP) hD hS _ (lv_sub hl [0, 1] rfl)
