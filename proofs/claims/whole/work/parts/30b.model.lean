set_option maxHeartbeats 4000000 in
set_option maxRecDepth 100000 in
theorem c_X10_change (l : Launch) (D : va_G) (ty : Nat → ClassId) (q : Nat) (b : Int32) (r : Nat → Int32) : CTv l yX10_change wsX10_change ({ frames := 1, cells := 0, slots := 0, locals := 21 }) D ty [.ref q, .int b] [[ia ty q 57 r]] (fun (_ : Unit) => True) (fun (_ : Unit) => [[ia ty q 57 (psettle b r)]]) := by
  refine CTv_of cX10_change 4 none (by decide) rfl (Nat.le_of_ble_eq_true rfl) ?_
  intro p e s m args below meth c A hx hb hr hml hown hlocks hin hts hA hX hK hP hD ls hl
  have hown : s.vm.findClass RX10 = some m.cls := hown
  have hS : va_S A s.heap s.heap [] := va_S.rf
  have hl : lv_has ls 4 [(0, .ref q), (1, .int b)] := hl
  generalize hQg : MQ below (va_Qv (fun (_ : Unit) => True) (PostW D (fun (_ : Unit) => [[ia ty q 57 (psettle b r)]]) A) A) args s 0 0 A = Qg
  refine lv_aload_n hx hb dX10_change_0 rfl (lv_at hl 0 rfl) ?_
  refine cSi (As := [.ref q]) (rest := []) ⟨hx, hb, hml, hown, hts⟩ (c_X10_domainOf l D ty q r) (va_cwS 1 hts gX10_change_X10_domainOf rfl rfl rfl (by decide +kernel) ⟨Nat.le_of_ble_eq_true rfl, Nat.le_of_ble_eq_true rfl⟩) hK hX hP hD hS hA (pk (bs := [[ia ty q 57 r]]) (bsc := [[ia ty q 57 r]]) (bsr := []) [0] [] 1 rfl (by decide +kernel) rfl rfl) rfl hl.1 rfl (Nat.le_of_ble_eq_true rfl) dX10_change_1 ⟨Nat.le_of_ble_eq_true rfl, Nat.le_of_ble_eq_true rfl⟩ (fun r_2 u_1 h_3 H locs hP hD hS => ?_)
  have h_3 : r_2 = (pdom r) := h_3
  subst h_3
  have hP : va_P D vwCl (fl [[ia ty q 57 r]]) H := P_perm (po (bs := [[ia ty q 57 r]]) [0] 1 rfl (by decide +kernel) rfl) hP
  have hD : va_D A (fl [[ia ty q 57 r]]) := D_perm (po (bs := [[ia ty q 57 r]]) [0] 1 rfl (by decide +kernel) rfl) hD
  refine lv_istore_n (lv' := [(2, .int (pdom r)), (0, .ref q), (1, .int b)]) hx hb dX10_change_4 rfl hl (by decide) rfl (fun ls hl => ?_)
  refine lv_iload_n hx hb dX10_change_5 rfl (lv_at hl 0 rfl) ?_
  refine lv_iload_n hx hb dX10_change_6 rfl (lv_at hl 2 rfl) ?_
  refine lv_icmp_ne (tgt := 11) hx hb dX10_change_7 (by decide) (fun c_4 => ?_) (fun c_4 => ?_)
  · skip
    refine lv_iload_n hx hb dX10_change_11 rfl (lv_at hl 0 rfl) ?_
    refine lv_iconst (v := 3) hx hb dX10_change_12 (by decide) ?_
    refine lv_icmp_ne (tgt := 20) hx hb dX10_change_13 (by decide) (fun c_5 => ?_) (fun c_5 => ?_)
    · skip
      refine lv_iconst (v := 0) hx hb dX10_change_20 (by decide) ?_
      refine lv_istore_n (lv' := [(3, .int 0), (2, .int (pdom r)), (0, .ref q), (1, .int b)]) hx hb dX10_change_21 rfl hl (by decide) rfl (fun ls hl => ?_)
      rcases Classical.em (pdom r = 0) with h0 | h0
      · skip
        have hit22_4 : ∀ (r1 : Nat → Int32), (pringFrom 0 4 r1 = pringFrom 4 0 r) → ∀ (H : Heap) (locs : List Loc), va_P D vwCl (fl [[ia ty q 57 r1]]) H → va_D A (fl [[ia ty q 57 r1]]) → va_S A s.heap H locs → ∀ ls : Array Slot, lv_has ls 4 [(3, .int 4), (0, .ref q), (1, .int b), (2, .int (pdom r))] → W p l e ({ frames := 1, cells := 0, slots := 0, locals := 21 } : Room) s m args below meth c H locs 0 0 Qg (F0 m 22 ls []) := by
          intro r1 hT H locs hP hD hS ls hl
          refine lv_iload_n hx hb dX10_change_22 rfl (lv_at hl 0 rfl) ?_
          refine lv_iconst (v := 4) hx hb dX10_change_23 (by decide) ?_
          refine lv_icmp_ge (tgt := 56) hx hb dX10_change_24 (by decide) (fun c_6 => ?_) (fun c_6 => ?_)
          · skip
            subst hQg
            have hT : r1 = pringFrom 4 0 r := hT
            have hP : va_P D vwCl (fl [[ia ty q 57 (psettle b r)]]) H := by rw [psettle, if_neg c_4, if_neg c_5, if_pos h0, ← hT]; exact hP
            have hD : va_D A (fl [[ia ty q 57 (psettle b r)]]) := (D_same2 hD [q] rfl rfl)
            exact end_v (bs' := (fun (_ : Unit) => [[ia ty q 57 (psettle b r)]])) () hx hb hr hlocks hP hD hS trivial (Nat.le_of_ble_eq_true rfl) (Nat.le_of_ble_eq_true rfl) dX10_change_56
          · exact absurd (by decide) c_6
        have hit22_3 : ∀ (r1 : Nat → Int32), (pringFrom 1 3 r1 = pringFrom 4 0 r) → ∀ (H : Heap) (locs : List Loc), va_P D vwCl (fl [[ia ty q 57 r1]]) H → va_D A (fl [[ia ty q 57 r1]]) → va_S A s.heap H locs → ∀ ls : Array Slot, lv_has ls 4 [(3, .int 3), (0, .ref q), (1, .int b), (2, .int (pdom r))] → W p l e ({ frames := 1, cells := 0, slots := 0, locals := 21 } : Room) s m args below meth c H locs 0 0 Qg (F0 m 22 ls []) := by
          intro r1 hT H locs hP hD hS ls hl
          refine lv_iload_n hx hb dX10_change_22 rfl (lv_at hl 0 rfl) ?_
          refine lv_iconst (v := 4) hx hb dX10_change_23 (by decide) ?_
          refine lv_icmp_ge (tgt := 56) hx hb dX10_change_24 (by decide) (fun c_7 => ?_) (fun c_7 => ?_)
          · exact absurd c_7 (by decide)
          · skip
            refine lv_iload_n hx hb dX10_change_27 rfl (lv_at hl 3 rfl) ?_
            refine lv_if_ne (tgt := 56) hx hb dX10_change_28 (by decide) (fun c_8 => ?_) (fun c_8 => ?_)
            · first | exact absurd c_8 h0 | exact absurd h0 c_8
            · skip
              refine lv_aload_n hx hb dX10_change_31 rfl (lv_at hl 1 rfl) ?_
              refine lv_bipush (v := 27) hx hb dX10_change_32 (by decide) ?_
              refine lv_iconst (v := 3) hx hb dX10_change_34 (by decide) ?_
              refine lv_iload_n hx hb dX10_change_35 rfl (lv_at hl 0 rfl) ?_
              refine k_imul (v := 9) hx hb dX10_change_36 (by decide) ?_
              refine k_iadd (v := 36) hx hb dX10_change_37 (by decide) ?_
              refine lv_iconst (v := 1) hx hb dX10_change_38 (by decide) ?_
              refine k_iadd (v := 37) hx hb dX10_change_39 (by decide) ?_
              refine k_iald hx hb hK hP 0 rfl 37 rfl (by decide) (Nat.le_of_ble_eq_true rfl) (v := r1 37) rfl dX10_change_40 ?_
              refine lv_iconst (v := 1) hx hb dX10_change_41 (by decide) ?_
              refine lv_icmp_ne (tgt := 50) hx hb dX10_change_42 (by decide) (fun c_9 => ?_) (fun c_9 => ?_)
              · skip
                refine lv_iinc (v := 4) (lv' := [(3, .int 4), (0, .ref q), (1, .int b), (2, .int (pdom r))]) hx hb dX10_change_50 hl (k := 0) rfl (by decide) (by decide) rfl (fun ls hl => ?_)
                refine lv_goto (tgt := 22) hx hb dX10_change_53 (by decide) ?_
                exact hit22_4 r1 (by rw [← hT]; show pringFrom _ _ r1 = pringFrom _ _ (pringIf 3 r1); rw [show pringIf 3 r1 = r1 from if_neg c_9]) _ _ (show va_P D vwCl (fl [[ia ty q 57 r1]]) _ from hP) hD hS _ (lv_sub hl [0, 1, 2, 3] rfl)
              · skip
                refine lv_aload_n hx hb dX10_change_45 rfl (lv_at hl 1 rfl) ?_
                refine lv_iload_n hx hb dX10_change_46 rfl (lv_at hl 0 rfl) ?_
                refine cSv (As := [.ref q, .int 3]) (rest := []) ⟨hx, hb, hml, hown, hts⟩ (c_X10_ring l D ty q 3 r1 (by omega)) (va_cwS 2 hts gX10_change_X10_ring rfl rfl rfl (by decide +kernel) ⟨Nat.le_of_ble_eq_true rfl, Nat.le_of_ble_eq_true rfl⟩) hK hX hP hD hS hA (pk (bs := [[ia ty q 57 r1]]) (bsc := [[ia ty q 57 r1]]) (bsr := []) [0] [] 1 rfl (by decide +kernel) rfl rfl) rfl hl.1 rfl (Nat.le_of_ble_eq_true rfl) dX10_change_47 ⟨Nat.le_of_ble_eq_true rfl, Nat.le_of_ble_eq_true rfl⟩ (fun u_10 h_12 H locs hP hD hS => ?_)
                have hP : va_P D vwCl (fl [[ia ty q 57 (pring 3 r1)]]) H := P_perm (po (bs := [[ia ty q 57 (pring 3 r1)]]) [0] 1 rfl (by decide +kernel) rfl) hP
                have hD : va_D A (fl [[ia ty q 57 (pring 3 r1)]]) := D_perm (po (bs := [[ia ty q 57 (pring 3 r1)]]) [0] 1 rfl (by decide +kernel) rfl) hD
                refine lv_iinc (v := 4) (lv' := [(3, .int 4), (0, .ref q), (1, .int b), (2, .int (pdom r))]) hx hb dX10_change_50 hl (k := 0) rfl (by decide) (by decide) rfl (fun ls hl => ?_)
                refine lv_goto (tgt := 22) hx hb dX10_change_53 (by decide) ?_
                exact hit22_4 (pring 3 r1) (by rw [← hT]; show pringFrom _ _ _ = pringFrom _ _ (pringIf 3 r1); rw [show pringIf 3 r1 = pring 3 r1 from if_pos c_9]) _ _ (show va_P D vwCl (fl [[ia ty q 57 (pring 3 r1)]]) _ from hP) hD hS _ (lv_sub hl [0, 1, 2, 3] rfl)
        have hit22_2 : ∀ (r1 : Nat → Int32), (pringFrom 2 2 r1 = pringFrom 4 0 r) → ∀ (H : Heap) (locs : List Loc), va_P D vwCl (fl [[ia ty q 57 r1]]) H → va_D A (fl [[ia ty q 57 r1]]) → va_S A s.heap H locs → ∀ ls : Array Slot, lv_has ls 4 [(3, .int 2), (0, .ref q), (1, .int b), (2, .int (pdom r))] → W p l e ({ frames := 1, cells := 0, slots := 0, locals := 21 } : Room) s m args below meth c H locs 0 0 Qg (F0 m 22 ls []) := by
          intro r1 hT H locs hP hD hS ls hl
          refine lv_iload_n hx hb dX10_change_22 rfl (lv_at hl 0 rfl) ?_
          refine lv_iconst (v := 4) hx hb dX10_change_23 (by decide) ?_
          refine lv_icmp_ge (tgt := 56) hx hb dX10_change_24 (by decide) (fun c_13 => ?_) (fun c_13 => ?_)
          · exact absurd c_13 (by decide)
          · skip
            refine lv_iload_n hx hb dX10_change_27 rfl (lv_at hl 3 rfl) ?_
            refine lv_if_ne (tgt := 56) hx hb dX10_change_28 (by decide) (fun c_14 => ?_) (fun c_14 => ?_)
            · first | exact absurd c_14 h0 | exact absurd h0 c_14
            · skip
              refine lv_aload_n hx hb dX10_change_31 rfl (lv_at hl 1 rfl) ?_
              refine lv_bipush (v := 27) hx hb dX10_change_32 (by decide) ?_
              refine lv_iconst (v := 3) hx hb dX10_change_34 (by decide) ?_
              refine lv_iload_n hx hb dX10_change_35 rfl (lv_at hl 0 rfl) ?_
              refine k_imul (v := 6) hx hb dX10_change_36 (by decide) ?_
              refine k_iadd (v := 33) hx hb dX10_change_37 (by decide) ?_
              refine lv_iconst (v := 1) hx hb dX10_change_38 (by decide) ?_
              refine k_iadd (v := 34) hx hb dX10_change_39 (by decide) ?_
              refine k_iald hx hb hK hP 0 rfl 34 rfl (by decide) (Nat.le_of_ble_eq_true rfl) (v := r1 34) rfl dX10_change_40 ?_
              refine lv_iconst (v := 1) hx hb dX10_change_41 (by decide) ?_
              refine lv_icmp_ne (tgt := 50) hx hb dX10_change_42 (by decide) (fun c_15 => ?_) (fun c_15 => ?_)
              · skip
                refine lv_iinc (v := 3) (lv' := [(3, .int 3), (0, .ref q), (1, .int b), (2, .int (pdom r))]) hx hb dX10_change_50 hl (k := 0) rfl (by decide) (by decide) rfl (fun ls hl => ?_)
                refine lv_goto (tgt := 22) hx hb dX10_change_53 (by decide) ?_
                exact hit22_3 r1 (by rw [← hT]; show pringFrom _ _ r1 = pringFrom _ _ (pringIf 2 r1); rw [show pringIf 2 r1 = r1 from if_neg c_15]) _ _ (show va_P D vwCl (fl [[ia ty q 57 r1]]) _ from hP) hD hS _ (lv_sub hl [0, 1, 2, 3] rfl)
              · skip
                refine lv_aload_n hx hb dX10_change_45 rfl (lv_at hl 1 rfl) ?_
                refine lv_iload_n hx hb dX10_change_46 rfl (lv_at hl 0 rfl) ?_
                refine cSv (As := [.ref q, .int 2]) (rest := []) ⟨hx, hb, hml, hown, hts⟩ (c_X10_ring l D ty q 2 r1 (by omega)) (va_cwS 2 hts gX10_change_X10_ring rfl rfl rfl (by decide +kernel) ⟨Nat.le_of_ble_eq_true rfl, Nat.le_of_ble_eq_true rfl⟩) hK hX hP hD hS hA (pk (bs := [[ia ty q 57 r1]]) (bsc := [[ia ty q 57 r1]]) (bsr := []) [0] [] 1 rfl (by decide +kernel) rfl rfl) rfl hl.1 rfl (Nat.le_of_ble_eq_true rfl) dX10_change_47 ⟨Nat.le_of_ble_eq_true rfl, Nat.le_of_ble_eq_true rfl⟩ (fun u_16 h_18 H locs hP hD hS => ?_)
                have hP : va_P D vwCl (fl [[ia ty q 57 (pring 2 r1)]]) H := P_perm (po (bs := [[ia ty q 57 (pring 2 r1)]]) [0] 1 rfl (by decide +kernel) rfl) hP
                have hD : va_D A (fl [[ia ty q 57 (pring 2 r1)]]) := D_perm (po (bs := [[ia ty q 57 (pring 2 r1)]]) [0] 1 rfl (by decide +kernel) rfl) hD
                refine lv_iinc (v := 3) (lv' := [(3, .int 3), (0, .ref q), (1, .int b), (2, .int (pdom r))]) hx hb dX10_change_50 hl (k := 0) rfl (by decide) (by decide) rfl (fun ls hl => ?_)
                refine lv_goto (tgt := 22) hx hb dX10_change_53 (by decide) ?_
                exact hit22_3 (pring 2 r1) (by rw [← hT]; show pringFrom _ _ _ = pringFrom _ _ (pringIf 2 r1); rw [show pringIf 2 r1 = pring 2 r1 from if_pos c_15]) _ _ (show va_P D vwCl (fl [[ia ty q 57 (pring 2 r1)]]) _ from hP) hD hS _ (lv_sub hl [0, 1, 2, 3] rfl)
        have hit22_1 : ∀ (r1 : Nat → Int32), (pringFrom 3 1 r1 = pringFrom 4 0 r) → ∀ (H : Heap) (locs : List Loc), va_P D vwCl (fl [[ia ty q 57 r1]]) H → va_D A (fl [[ia ty q 57 r1]]) → va_S A s.heap H locs → ∀ ls : Array Slot, lv_has ls 4 [(3, .int 1), (0, .ref q), (1, .int b), (2, .int (pdom r))] → W p l e ({ frames := 1, cells := 0, slots := 0, locals := 21 } : Room) s m args below meth c H locs 0 0 Qg (F0 m 22 ls []) := by
          intro r1 hT H locs hP hD hS ls hl
          refine lv_iload_n hx hb dX10_change_22 rfl (lv_at hl 0 rfl) ?_
          refine lv_iconst (v := 4) hx hb dX10_change_23 (by decide) ?_
          refine lv_icmp_ge (tgt := 56) hx hb dX10_change_24 (by decide) (fun c_19 => ?_) (fun c_19 => ?_)
          · exact absurd c_19 (by decide)
          · skip
            refine lv_iload_n hx hb dX10_change_27 rfl (lv_at hl 3 rfl) ?_
            refine lv_if_ne (tgt := 56) hx hb dX10_change_28 (by decide) (fun c_20 => ?_) (fun c_20 => ?_)
            · first | exact absurd c_20 h0 | exact absurd h0 c_20
            · skip
              refine lv_aload_n hx hb dX10_change_31 rfl (lv_at hl 1 rfl) ?_
              refine lv_bipush (v := 27) hx hb dX10_change_32 (by decide) ?_
              refine lv_iconst (v := 3) hx hb dX10_change_34 (by decide) ?_
              refine lv_iload_n hx hb dX10_change_35 rfl (lv_at hl 0 rfl) ?_
              refine k_imul (v := 3) hx hb dX10_change_36 (by decide) ?_
              refine k_iadd (v := 30) hx hb dX10_change_37 (by decide) ?_
              refine lv_iconst (v := 1) hx hb dX10_change_38 (by decide) ?_
              refine k_iadd (v := 31) hx hb dX10_change_39 (by decide) ?_
              refine k_iald hx hb hK hP 0 rfl 31 rfl (by decide) (Nat.le_of_ble_eq_true rfl) (v := r1 31) rfl dX10_change_40 ?_
              refine lv_iconst (v := 1) hx hb dX10_change_41 (by decide) ?_
              refine lv_icmp_ne (tgt := 50) hx hb dX10_change_42 (by decide) (fun c_21 => ?_) (fun c_21 => ?_)
              · skip
                refine lv_iinc (v := 2) (lv' := [(3, .int 2), (0, .ref q), (1, .int b), (2, .int (pdom r))]) hx hb dX10_change_50 hl (k := 0) rfl (by decide) (by decide) rfl (fun ls hl => ?_)
                refine lv_goto (tgt := 22) hx hb dX10_change_53 (by decide) ?_
                exact hit22_2 r1 (by rw [← hT]; show pringFrom _ _ r1 = pringFrom _ _ (pringIf 1 r1); rw [show pringIf 1 r1 = r1 from if_neg c_21]) _ _ (show va_P D vwCl (fl [[ia ty q 57 r1]]) _ from hP) hD hS _ (lv_sub hl [0, 1, 2, 3] rfl)
              · skip
                refine lv_aload_n hx hb dX10_change_45 rfl (lv_at hl 1 rfl) ?_
                refine lv_iload_n hx hb dX10_change_46 rfl (lv_at hl 0 rfl) ?_
                refine cSv (As := [.ref q, .int 1]) (rest := []) ⟨hx, hb, hml, hown, hts⟩ (c_X10_ring l D ty q 1 r1 (by omega)) (va_cwS 2 hts gX10_change_X10_ring rfl rfl rfl (by decide +kernel) ⟨Nat.le_of_ble_eq_true rfl, Nat.le_of_ble_eq_true rfl⟩) hK hX hP hD hS hA (pk (bs := [[ia ty q 57 r1]]) (bsc := [[ia ty q 57 r1]]) (bsr := []) [0] [] 1 rfl (by decide +kernel) rfl rfl) rfl hl.1 rfl (Nat.le_of_ble_eq_true rfl) dX10_change_47 ⟨Nat.le_of_ble_eq_true rfl, Nat.le_of_ble_eq_true rfl⟩ (fun u_22 h_24 H locs hP hD hS => ?_)
                have hP : va_P D vwCl (fl [[ia ty q 57 (pring 1 r1)]]) H := P_perm (po (bs := [[ia ty q 57 (pring 1 r1)]]) [0] 1 rfl (by decide +kernel) rfl) hP
                have hD : va_D A (fl [[ia ty q 57 (pring 1 r1)]]) := D_perm (po (bs := [[ia ty q 57 (pring 1 r1)]]) [0] 1 rfl (by decide +kernel) rfl) hD
                refine lv_iinc (v := 2) (lv' := [(3, .int 2), (0, .ref q), (1, .int b), (2, .int (pdom r))]) hx hb dX10_change_50 hl (k := 0) rfl (by decide) (by decide) rfl (fun ls hl => ?_)
                refine lv_goto (tgt := 22) hx hb dX10_change_53 (by decide) ?_
                exact hit22_2 (pring 1 r1) (by rw [← hT]; show pringFrom _ _ _ = pringFrom _ _ (pringIf 1 r1); rw [show pringIf 1 r1 = pring 1 r1 from if_pos c_21]) _ _ (show va_P D vwCl (fl [[ia ty q 57 (pring 1 r1)]]) _ from hP) hD hS _ (lv_sub hl [0, 1, 2, 3] rfl)
        have hit22_0 : ∀ (r1 : Nat → Int32), (pringFrom 4 0 r1 = pringFrom 4 0 r) → ∀ (H : Heap) (locs : List Loc), va_P D vwCl (fl [[ia ty q 57 r1]]) H → va_D A (fl [[ia ty q 57 r1]]) → va_S A s.heap H locs → ∀ ls : Array Slot, lv_has ls 4 [(3, .int 0), (0, .ref q), (1, .int b), (2, .int (pdom r))] → W p l e ({ frames := 1, cells := 0, slots := 0, locals := 21 } : Room) s m args below meth c H locs 0 0 Qg (F0 m 22 ls []) := by
          intro r1 hT H locs hP hD hS ls hl
          refine lv_iload_n hx hb dX10_change_22 rfl (lv_at hl 0 rfl) ?_
          refine lv_iconst (v := 4) hx hb dX10_change_23 (by decide) ?_
          refine lv_icmp_ge (tgt := 56) hx hb dX10_change_24 (by decide) (fun c_25 => ?_) (fun c_25 => ?_)
          · exact absurd c_25 (by decide)
          · skip
            refine lv_iload_n hx hb dX10_change_27 rfl (lv_at hl 3 rfl) ?_
            refine lv_if_ne (tgt := 56) hx hb dX10_change_28 (by decide) (fun c_26 => ?_) (fun c_26 => ?_)
            · first | exact absurd c_26 h0 | exact absurd h0 c_26
            · skip
              refine lv_aload_n hx hb dX10_change_31 rfl (lv_at hl 1 rfl) ?_
              refine lv_bipush (v := 27) hx hb dX10_change_32 (by decide) ?_
              refine lv_iconst (v := 3) hx hb dX10_change_34 (by decide) ?_
              refine lv_iload_n hx hb dX10_change_35 rfl (lv_at hl 0 rfl) ?_
              refine k_imul (v := 0) hx hb dX10_change_36 (by decide) ?_
              refine k_iadd (v := 27) hx hb dX10_change_37 (by decide) ?_
              refine lv_iconst (v := 1) hx hb dX10_change_38 (by decide) ?_
              refine k_iadd (v := 28) hx hb dX10_change_39 (by decide) ?_
              refine k_iald hx hb hK hP 0 rfl 28 rfl (by decide) (Nat.le_of_ble_eq_true rfl) (v := r1 28) rfl dX10_change_40 ?_
              refine lv_iconst (v := 1) hx hb dX10_change_41 (by decide) ?_
              refine lv_icmp_ne (tgt := 50) hx hb dX10_change_42 (by decide) (fun c_27 => ?_) (fun c_27 => ?_)
              · skip
                refine lv_iinc (v := 1) (lv' := [(3, .int 1), (0, .ref q), (1, .int b), (2, .int (pdom r))]) hx hb dX10_change_50 hl (k := 0) rfl (by decide) (by decide) rfl (fun ls hl => ?_)
                refine lv_goto (tgt := 22) hx hb dX10_change_53 (by decide) ?_
                exact hit22_1 r1 (by rw [← hT]; show pringFrom _ _ r1 = pringFrom _ _ (pringIf 0 r1); rw [show pringIf 0 r1 = r1 from if_neg c_27]) _ _ (show va_P D vwCl (fl [[ia ty q 57 r1]]) _ from hP) hD hS _ (lv_sub hl [0, 1, 2, 3] rfl)
              · skip
                refine lv_aload_n hx hb dX10_change_45 rfl (lv_at hl 1 rfl) ?_
                refine lv_iload_n hx hb dX10_change_46 rfl (lv_at hl 0 rfl) ?_
                refine cSv (As := [.ref q, .int 0]) (rest := []) ⟨hx, hb, hml, hown, hts⟩ (c_X10_ring l D ty q 0 r1 (by omega)) (va_cwS 2 hts gX10_change_X10_ring rfl rfl rfl (by decide +kernel) ⟨Nat.le_of_ble_eq_true rfl, Nat.le_of_ble_eq_true rfl⟩) hK hX hP hD hS hA (pk (bs := [[ia ty q 57 r1]]) (bsc := [[ia ty q 57 r1]]) (bsr := []) [0] [] 1 rfl (by decide +kernel) rfl rfl) rfl hl.1 rfl (Nat.le_of_ble_eq_true rfl) dX10_change_47 ⟨Nat.le_of_ble_eq_true rfl, Nat.le_of_ble_eq_true rfl⟩ (fun u_28 h_30 H locs hP hD hS => ?_)
                have hP : va_P D vwCl (fl [[ia ty q 57 (pring 0 r1)]]) H := P_perm (po (bs := [[ia ty q 57 (pring 0 r1)]]) [0] 1 rfl (by decide +kernel) rfl) hP
                have hD : va_D A (fl [[ia ty q 57 (pring 0 r1)]]) := D_perm (po (bs := [[ia ty q 57 (pring 0 r1)]]) [0] 1 rfl (by decide +kernel) rfl) hD
                refine lv_iinc (v := 1) (lv' := [(3, .int 1), (0, .ref q), (1, .int b), (2, .int (pdom r))]) hx hb dX10_change_50 hl (k := 0) rfl (by decide) (by decide) rfl (fun ls hl => ?_)
                refine lv_goto (tgt := 22) hx hb dX10_change_53 (by decide) ?_
                exact hit22_1 (pring 0 r1) (by rw [← hT]; show pringFrom _ _ _ = pringFrom _ _ (pringIf 0 r1); rw [show pringIf 0 r1 = pring 0 r1 from if_pos c_27]) _ _ (show va_P D vwCl (fl [[ia ty q 57 (pring 0 r1)]]) _ from hP) hD hS _ (lv_sub hl [0, 1, 2, 3] rfl)
        exact hit22_0 r (rfl) _ _ (show va_P D vwCl (fl [[ia ty q 57 r]]) _ from hP) hD hS _ (lv_sub hl [0, 2, 3, 1] rfl)
      · skip
        refine lv_iload_n hx hb dX10_change_22 rfl (lv_at hl 0 rfl) ?_
        refine lv_iconst (v := 4) hx hb dX10_change_23 (by decide) ?_
        refine lv_icmp_ge (tgt := 56) hx hb dX10_change_24 (by decide) (fun c_31 => ?_) (fun c_31 => ?_)
        · exact absurd c_31 (by decide)
        · skip
          refine lv_iload_n hx hb dX10_change_27 rfl (lv_at hl 1 rfl) ?_
          refine lv_if_ne (tgt := 56) hx hb dX10_change_28 (by decide) (fun c_32 => ?_) (fun c_32 => ?_)
          · skip
            subst hQg
            have hP : va_P D vwCl (fl [[ia ty q 57 (psettle b r)]]) H := by rw [psettle, if_neg c_4, if_neg c_5, if_neg h0]; exact hP
            have hD : va_D A (fl [[ia ty q 57 (psettle b r)]]) := (D_same2 hD [q] rfl rfl)
            exact end_v (bs' := (fun (_ : Unit) => [[ia ty q 57 (psettle b r)]])) () hx hb hr hlocks hP hD hS trivial (Nat.le_of_ble_eq_true rfl) (Nat.le_of_ble_eq_true rfl) dX10_change_56
          · first | exact absurd c_32 h0 | exact absurd h0 c_32
    · skip
      refine lv_aload_n hx hb dX10_change_16 rfl (lv_at hl 1 rfl) ?_
      refine cSv (As := [.ref q]) (rest := []) ⟨hx, hb, hml, hown, hts⟩ (c_X10_lose l D ty q r) (va_cwS 1 hts gX10_change_X10_lose rfl rfl rfl (by decide +kernel) ⟨Nat.le_of_ble_eq_true rfl, Nat.le_of_ble_eq_true rfl⟩) hK hX hP hD hS hA (pk (bs := [[ia ty q 57 r]]) (bsc := [[ia ty q 57 r]]) (bsr := []) [0] [] 1 rfl (by decide +kernel) rfl rfl) rfl hl.1 rfl (Nat.le_of_ble_eq_true rfl) dX10_change_17 ⟨Nat.le_of_ble_eq_true rfl, Nat.le_of_ble_eq_true rfl⟩ (fun u_33 h_35 H locs hP hD hS => ?_)
      have hP : va_P D vwCl (fl [[ia ty q 57 (plose r)]]) H := P_perm (po (bs := [[ia ty q 57 (plose r)]]) [0] 1 rfl (by decide +kernel) rfl) hP
      have hD : va_D A (fl [[ia ty q 57 (plose r)]]) := D_perm (po (bs := [[ia ty q 57 (plose r)]]) [0] 1 rfl (by decide +kernel) rfl) hD
      refine lv_iconst (v := 0) hx hb dX10_change_20 (by decide) ?_
      refine lv_istore_n (lv' := [(3, .int 0), (2, .int (pdom r)), (0, .ref q), (1, .int b)]) hx hb dX10_change_21 rfl hl (by decide) rfl (fun ls hl => ?_)
      refine lv_iload_n hx hb dX10_change_22 rfl (lv_at hl 0 rfl) ?_
      refine lv_iconst (v := 4) hx hb dX10_change_23 (by decide) ?_
      refine lv_icmp_ge (tgt := 56) hx hb dX10_change_24 (by decide) (fun c_36 => ?_) (fun c_36 => ?_)
      · exact absurd c_36 (by decide)
      · skip
        refine lv_iload_n hx hb dX10_change_27 rfl (lv_at hl 1 rfl) ?_
        refine lv_if_ne (tgt := 56) hx hb dX10_change_28 (by decide) (fun c_37 => ?_) (fun c_37 => ?_)
        · skip
          subst hQg
          have hP : va_P D vwCl (fl [[ia ty q 57 (psettle b r)]]) H := by rw [psettle, if_neg c_4, if_pos c_5]; exact hP
          have hD : va_D A (fl [[ia ty q 57 (psettle b r)]]) := (D_same2 hD [q] rfl rfl)
          exact end_v (bs' := (fun (_ : Unit) => [[ia ty q 57 (psettle b r)]])) () hx hb hr hlocks hP hD hS trivial (Nat.le_of_ble_eq_true rfl) (Nat.le_of_ble_eq_true rfl) dX10_change_56
        · first | exact absurd c_37 (show ¬ pdom r = 0 from fun q0 => absurd (q0.symm.trans c_5) (by decide)) | exact absurd (show ¬ pdom r = 0 from fun q0 => absurd (q0.symm.trans c_5) (by decide)) c_37
  · skip
    subst hQg
    have hP : va_P D vwCl (fl [[ia ty q 57 (psettle b r)]]) H := by rw [psettle, if_pos c_4]; exact hP
    have hD : va_D A (fl [[ia ty q 57 (psettle b r)]]) := (D_same2 hD [q] rfl rfl)
    exact end_v (bs' := (fun (_ : Unit) => [[ia ty q 57 (psettle b r)]])) () hx hb hr hlocks hP hD hS trivial (Nat.le_of_ble_eq_true rfl) (Nat.le_of_ble_eq_true rfl) dX10_change_10
set_option maxHeartbeats 4000000 in
set_option maxRecDepth 100000 in
theorem c_X10_levelOn (l : Launch) (D : va_G) (ty : Nat → ClassId) (q : Nat) (v : Int32) (r : Nat → Int32) : CTv l yX10_levelOn wsX10_levelOn ({ frames := 2, cells := 0, slots := 0, locals := 44 }) D ty [.ref q, .int v] [[ia ty q 57 r]] (fun (_ : Unit) => True) (fun (_ : Unit) => [[ia ty q 57 (plevel v r)]]) := by
  refine CTv_of cX10_levelOn 3 none (by decide) rfl (Nat.le_of_ble_eq_true rfl) ?_
  intro p e s m args below meth c A hx hb hr hml hown hlocks hin hts hA hX hK hP hD ls hl
  have hown : s.vm.findClass RX10 = some m.cls := hown
  have hS : va_S A s.heap s.heap [] := va_S.rf
  have hl : lv_has ls 3 [(0, .ref q), (1, .int v)] := hl
  refine lv_aload_n hx hb dX10_levelOn_0 rfl (lv_at hl 0 rfl) ?_
  refine cSi (As := [.ref q]) (rest := []) ⟨hx, hb, hml, hown, hts⟩ (c_X10_domainOf l D ty q r) (va_cwS 1 hts gX10_levelOn_X10_domainOf rfl rfl rfl (by decide +kernel) ⟨Nat.le_of_ble_eq_true rfl, Nat.le_of_ble_eq_true rfl⟩) hK hX hP hD hS hA (pk (bs := [[ia ty q 57 r]]) (bsc := [[ia ty q 57 r]]) (bsr := []) [0] [] 1 rfl (by decide +kernel) rfl rfl) rfl hl.1 rfl (Nat.le_of_ble_eq_true rfl) dX10_levelOn_1 ⟨Nat.le_of_ble_eq_true rfl, Nat.le_of_ble_eq_true rfl⟩ (fun r_2 u_1 h_3 H locs hP hD hS => ?_)
  have h_3 : r_2 = (pdom r) := h_3
  subst h_3
  have hP : va_P D vwCl (fl [[ia ty q 57 r]]) H := P_perm (po (bs := [[ia ty q 57 r]]) [0] 1 rfl (by decide +kernel) rfl) hP
  have hD : va_D A (fl [[ia ty q 57 r]]) := D_perm (po (bs := [[ia ty q 57 r]]) [0] 1 rfl (by decide +kernel) rfl) hD
  refine lv_istore_n (lv' := [(2, .int (pdom r)), (0, .ref q), (1, .int v)]) hx hb dX10_levelOn_4 rfl hl (by decide) rfl (fun ls hl => ?_)
  refine lv_aload_n hx hb dX10_levelOn_5 rfl (lv_at hl 1 rfl) ?_
  refine lv_bipush (v := 6) hx hb dX10_levelOn_6 (by decide) ?_
  refine lv_iload_n hx hb dX10_levelOn_8 rfl (lv_at hl 2 rfl) ?_
  refine k_iast hx hb hK hP hD hS 0 rfl 6 rfl (by decide) (Nat.le_of_ble_eq_true rfl) dX10_levelOn_9 (fun H locs hP hD hS => ?_)
  have hP : va_P D vwCl (fl [[ia ty q 57 (upd r 6 v)]]) H := hP
  have hD : va_D A (fl [[ia ty q 57 (upd r 6 v)]]) := hD
  refine lv_aload_n hx hb dX10_levelOn_10 rfl (lv_at hl 1 rfl) ?_
  refine lv_iload_n hx hb dX10_levelOn_11 rfl (lv_at hl 0 rfl) ?_
  refine cSv (As := [.ref q, .int (pdom r)]) (rest := []) ⟨hx, hb, hml, hown, hts⟩ (c_X10_change l D ty q (pdom r) (upd r 6 v)) (va_cwS 2 hts gX10_levelOn_X10_change rfl rfl rfl (by decide +kernel) ⟨Nat.le_of_ble_eq_true rfl, Nat.le_of_ble_eq_true rfl⟩) hK hX hP hD hS hA (pk (bs := [[ia ty q 57 (upd r 6 v)]]) (bsc := [[ia ty q 57 (upd r 6 v)]]) (bsr := []) [0] [] 1 rfl (by decide +kernel) rfl rfl) rfl hl.1 rfl (Nat.le_of_ble_eq_true rfl) dX10_levelOn_12 ⟨Nat.le_of_ble_eq_true rfl, Nat.le_of_ble_eq_true rfl⟩ (fun u_4 h_6 H locs hP hD hS => ?_)
  have hP : va_P D vwCl (fl [[ia ty q 57 (psettle (pdom r) (upd r 6 v))]]) H := P_perm (po (bs := [[ia ty q 57 (psettle (pdom r) (upd r 6 v))]]) [0] 1 rfl (by decide +kernel) rfl) hP
  have hD : va_D A (fl [[ia ty q 57 (psettle (pdom r) (upd r 6 v))]]) := D_perm (po (bs := [[ia ty q 57 (psettle (pdom r) (upd r 6 v))]]) [0] 1 rfl (by decide +kernel) rfl) hD
  have hP : va_P D vwCl (fl [[ia ty q 57 (plevel v r)]]) H := hP
  have hD : va_D A (fl [[ia ty q 57 (plevel v r)]]) := (D_same2 hD [q] rfl rfl)
  exact end_v (bs' := (fun (_ : Unit) => [[ia ty q 57 (plevel v r)]])) () hx hb hr hlocks hP hD hS trivial (Nat.le_of_ble_eq_true rfl) (Nat.le_of_ble_eq_true rfl) dX10_levelOn_15
set_option maxHeartbeats 4000000 in
set_option maxRecDepth 100000 in
theorem c_X10_chargeOn (l : Launch) (D : va_G) (ty : Nat → ClassId) (q : Nat) (v : Int32) (r : Nat → Int32) : CTv l yX10_chargeOn wsX10_chargeOn ({ frames := 2, cells := 0, slots := 0, locals := 44 }) D ty [.ref q, .int v] [[ia ty q 57 r]] (fun (_ : Unit) => True) (fun (_ : Unit) => [[ia ty q 57 (pcharge v r)]]) := by
  refine CTv_of cX10_chargeOn 3 none (by decide) rfl (Nat.le_of_ble_eq_true rfl) ?_
  intro p e s m args below meth c A hx hb hr hml hown hlocks hin hts hA hX hK hP hD ls hl
  have hown : s.vm.findClass RX10 = some m.cls := hown
  have hS : va_S A s.heap s.heap [] := va_S.rf
  have hl : lv_has ls 3 [(0, .ref q), (1, .int v)] := hl
  refine lv_aload_n hx hb dX10_chargeOn_0 rfl (lv_at hl 0 rfl) ?_
  refine cSi (As := [.ref q]) (rest := []) ⟨hx, hb, hml, hown, hts⟩ (c_X10_domainOf l D ty q r) (va_cwS 1 hts gX10_chargeOn_X10_domainOf rfl rfl rfl (by decide +kernel) ⟨Nat.le_of_ble_eq_true rfl, Nat.le_of_ble_eq_true rfl⟩) hK hX hP hD hS hA (pk (bs := [[ia ty q 57 r]]) (bsc := [[ia ty q 57 r]]) (bsr := []) [0] [] 1 rfl (by decide +kernel) rfl rfl) rfl hl.1 rfl (Nat.le_of_ble_eq_true rfl) dX10_chargeOn_1 ⟨Nat.le_of_ble_eq_true rfl, Nat.le_of_ble_eq_true rfl⟩ (fun r_2 u_1 h_3 H locs hP hD hS => ?_)
  have h_3 : r_2 = (pdom r) := h_3
  subst h_3
  have hP : va_P D vwCl (fl [[ia ty q 57 r]]) H := P_perm (po (bs := [[ia ty q 57 r]]) [0] 1 rfl (by decide +kernel) rfl) hP
  have hD : va_D A (fl [[ia ty q 57 r]]) := D_perm (po (bs := [[ia ty q 57 r]]) [0] 1 rfl (by decide +kernel) rfl) hD
  refine lv_istore_n (lv' := [(2, .int (pdom r)), (0, .ref q), (1, .int v)]) hx hb dX10_chargeOn_4 rfl hl (by decide) rfl (fun ls hl => ?_)
  refine lv_aload_n hx hb dX10_chargeOn_5 rfl (lv_at hl 1 rfl) ?_
  refine lv_bipush (v := 7) hx hb dX10_chargeOn_6 (by decide) ?_
  refine lv_iload_n hx hb dX10_chargeOn_8 rfl (lv_at hl 2 rfl) ?_
  refine k_iast hx hb hK hP hD hS 0 rfl 7 rfl (by decide) (Nat.le_of_ble_eq_true rfl) dX10_chargeOn_9 (fun H locs hP hD hS => ?_)
  have hP : va_P D vwCl (fl [[ia ty q 57 (upd r 7 v)]]) H := hP
  have hD : va_D A (fl [[ia ty q 57 (upd r 7 v)]]) := hD
  refine lv_aload_n hx hb dX10_chargeOn_10 rfl (lv_at hl 1 rfl) ?_
  refine lv_iload_n hx hb dX10_chargeOn_11 rfl (lv_at hl 0 rfl) ?_
  refine cSv (As := [.ref q, .int (pdom r)]) (rest := []) ⟨hx, hb, hml, hown, hts⟩ (c_X10_change l D ty q (pdom r) (upd r 7 v)) (va_cwS 2 hts gX10_chargeOn_X10_change rfl rfl rfl (by decide +kernel) ⟨Nat.le_of_ble_eq_true rfl, Nat.le_of_ble_eq_true rfl⟩) hK hX hP hD hS hA (pk (bs := [[ia ty q 57 (upd r 7 v)]]) (bsc := [[ia ty q 57 (upd r 7 v)]]) (bsr := []) [0] [] 1 rfl (by decide +kernel) rfl rfl) rfl hl.1 rfl (Nat.le_of_ble_eq_true rfl) dX10_chargeOn_12 ⟨Nat.le_of_ble_eq_true rfl, Nat.le_of_ble_eq_true rfl⟩ (fun u_4 h_6 H locs hP hD hS => ?_)
  have hP : va_P D vwCl (fl [[ia ty q 57 (psettle (pdom r) (upd r 7 v))]]) H := P_perm (po (bs := [[ia ty q 57 (psettle (pdom r) (upd r 7 v))]]) [0] 1 rfl (by decide +kernel) rfl) hP
  have hD : va_D A (fl [[ia ty q 57 (psettle (pdom r) (upd r 7 v))]]) := D_perm (po (bs := [[ia ty q 57 (psettle (pdom r) (upd r 7 v))]]) [0] 1 rfl (by decide +kernel) rfl) hD
  have hP : va_P D vwCl (fl [[ia ty q 57 (pcharge v r)]]) H := hP
  have hD : va_D A (fl [[ia ty q 57 (pcharge v r)]]) := (D_same2 hD [q] rfl rfl)
  exact end_v (bs' := (fun (_ : Unit) => [[ia ty q 57 (pcharge v r)]])) () hx hb hr hlocks hP hD hS trivial (Nat.le_of_ble_eq_true rfl) (Nat.le_of_ble_eq_true rfl) dX10_chargeOn_15
