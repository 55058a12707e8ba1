set_option maxHeartbeats 4000000 in
set_option maxRecDepth 100000 in
theorem c_X10_tamperOn (l : Launch) (D : va_G) (ty : Nat → ClassId) (q : Nat) (p9 : Int32) (r : Nat → Int32) (hp0 : ¬ p9 < 0) (hp3 : p9 < 3) (h0 : ¬ r 11 < 0) (hpin : r (24 + p9.toNatClampNeg) = 0 ∨ r (24 + p9.toNatClampNeg) = 1) : CTv l yX10_tamperOn wsX10_tamperOn ({ frames := 1, cells := 0, slots := 0, locals := 20 }) D ty [.ref q, .int p9] [[ia ty q 57 r]] (fun (_ : Unit) => True) (fun (_ : Unit) => [[ia ty q 57 (ptamper p9 r)]]) := by
  refine CTv_of cX10_tamperOn 4 none (by decide) rfl (Nat.le_of_ble_eq_true rfl) ?_
  intro p e s m args below meth c A hx hb hr hml hown hlocks hin hts hA hX hK hP hD ls hl
  have hown : s.vm.findClass RX10 = some m.cls := hown
  have hS : va_S A s.heap s.heap [] := va_S.rf
  have hl : lv_has ls 4 [(0, .ref q), (1, .int p9)] := hl
  refine lv_aload_n hx hb dX10_tamperOn_0 rfl (lv_at hl 0 rfl) ?_
  refine cSi (As := [.ref q]) (rest := []) ⟨hx, hb, hml, hown, hts⟩ (c_X10_domainOf l D ty q r) (va_cwS 1 hts gX10_tamperOn_X10_domainOf rfl rfl rfl (by decide +kernel) ⟨Nat.le_of_ble_eq_true rfl, Nat.le_of_ble_eq_true rfl⟩) hK hX hP hD hS hA (pk (bs := [[ia ty q 57 r]]) (bsc := [[ia ty q 57 r]]) (bsr := []) [0] [] 1 rfl (by decide +kernel) rfl rfl) rfl hl.1 rfl (Nat.le_of_ble_eq_true rfl) dX10_tamperOn_1 ⟨Nat.le_of_ble_eq_true rfl, Nat.le_of_ble_eq_true rfl⟩ (fun r_2 u_1 h_3 H locs hP hD hS => ?_)
  have h_3 : r_2 = (pdom r) := h_3
  subst h_3
  have hP : va_P D vwCl (fl [[ia ty q 57 r]]) H := P_perm (po (bs := [[ia ty q 57 r]]) [0] 1 rfl (by decide +kernel) rfl) hP
  have hD : va_D A (fl [[ia ty q 57 r]]) := D_perm (po (bs := [[ia ty q 57 r]]) [0] 1 rfl (by decide +kernel) rfl) hD
  refine lv_istore_n (lv' := [(2, .int (pdom r)), (0, .ref q), (1, .int p9)]) hx hb dX10_tamperOn_4 rfl hl (by decide) rfl (fun ls hl => ?_)
  refine lv_aload_n hx hb dX10_tamperOn_5 rfl (lv_at hl 1 rfl) ?_
  refine lv_bipush (v := 24) hx hb dX10_tamperOn_6 (by decide) ?_
  refine lv_iload_n hx hb dX10_tamperOn_8 rfl (lv_at hl 2 rfl) ?_
  refine k_iadd (v := (24 + p9)) hx hb dX10_tamperOn_9 rfl ?_
  refine k_iald hx hb hK hP 0 rfl (24 + p9.toNatClampNeg) (ix_add 24 hp0) (by have := nI_ltn hp0 (n := 3) (by decide) hp3; omega) (Nat.le_of_ble_eq_true rfl) (v := r (24 + p9.toNatClampNeg)) rfl dX10_tamperOn_10 ?_
  refine lv_if_eq (tgt := 19) hx hb dX10_tamperOn_11 (by decide) (fun c_4 => ?_) (fun c_4 => ?_)
  · skip
    have hP : va_P D vwCl (fl [[ia ty q 57 (ptamper p9 r)]]) H := by
      rw [show ptamper p9 r = r from if_neg (fun q0 => absurd (q0.symm.trans c_4) (by decide))]; exact hP
    have hD : va_D A (fl [[ia ty q 57 (ptamper p9 r)]]) := (D_same2 hD [q] rfl rfl)
    exact end_v (bs' := (fun (_ : Unit) => [[ia ty q 57 (ptamper p9 r)]])) () hx hb hr hlocks hP hD hS trivial (Nat.le_of_ble_eq_true rfl) (Nat.le_of_ble_eq_true rfl) dX10_tamperOn_19
  · skip
    refine lv_iload_n hx hb dX10_tamperOn_14 rfl (lv_at hl 0 rfl) ?_
    refine lv_iconst (v := 3) hx hb dX10_tamperOn_15 (by decide) ?_
    refine lv_icmp_ne (tgt := 20) hx hb dX10_tamperOn_16 (by decide) (fun c_5 => ?_) (fun c_5 => ?_)
    · skip
      refine lv_iconst (v := 0) hx hb dX10_tamperOn_20 (by decide) ?_
      refine lv_istore_n (lv' := [(3, .int 0), (2, .int (pdom r)), (0, .ref q), (1, .int p9)]) hx hb dX10_tamperOn_21 rfl hl (by decide) rfl (fun ls hl => ?_)
      refine lv_iload_n hx hb dX10_tamperOn_22 rfl (lv_at hl 0 rfl) ?_
      refine lv_bipush (v := 8) hx hb dX10_tamperOn_23 (by decide) ?_
      refine lv_icmp_ge (tgt := 41) hx hb dX10_tamperOn_25 (by decide) (fun c_6 => ?_) (fun c_6 => ?_)
      · exact absurd c_6 (by decide)
      · skip
        refine lv_aload_n hx hb dX10_tamperOn_28 rfl (lv_at hl 2 rfl) ?_
        refine lv_bipush (v := 16) hx hb dX10_tamperOn_29 (by decide) ?_
        refine lv_iload_n hx hb dX10_tamperOn_31 rfl (lv_at hl 0 rfl) ?_
        refine k_iadd (v := 16) hx hb dX10_tamperOn_32 (by decide) ?_
        refine lv_iconst (v := 0) hx hb dX10_tamperOn_33 (by decide) ?_
        refine k_iast hx hb hK hP hD hS 0 rfl 16 rfl (by decide) (Nat.le_of_ble_eq_true rfl) dX10_tamperOn_34 (fun H locs hP hD hS => ?_)
        have hP : va_P D vwCl (fl [[ia ty q 57 (upd r 16 0)]]) H := hP
        have hD : va_D A (fl [[ia ty q 57 (upd r 16 0)]]) := hD
        refine lv_iinc (v := 1) (lv' := [(3, .int 1), (2, .int (pdom r)), (0, .ref q), (1, .int p9)]) hx hb dX10_tamperOn_35 hl (k := 0) rfl (by decide) (by decide) rfl (fun ls hl => ?_)
        refine lv_goto (tgt := 22) hx hb dX10_tamperOn_38 (by decide) ?_
        refine lv_iload_n hx hb dX10_tamperOn_22 rfl (lv_at hl 0 rfl) ?_
        refine lv_bipush (v := 8) hx hb dX10_tamperOn_23 (by decide) ?_
        refine lv_icmp_ge (tgt := 41) hx hb dX10_tamperOn_25 (by decide) (fun c_7 => ?_) (fun c_7 => ?_)
        · exact absurd c_7 (by decide)
        · skip
          refine lv_aload_n hx hb dX10_tamperOn_28 rfl (lv_at hl 2 rfl) ?_
          refine lv_bipush (v := 16) hx hb dX10_tamperOn_29 (by decide) ?_
          refine lv_iload_n hx hb dX10_tamperOn_31 rfl (lv_at hl 0 rfl) ?_
          refine k_iadd (v := 17) hx hb dX10_tamperOn_32 (by decide) ?_
          refine lv_iconst (v := 0) hx hb dX10_tamperOn_33 (by decide) ?_
          refine k_iast hx hb hK hP hD hS 0 rfl 17 rfl (by decide) (Nat.le_of_ble_eq_true rfl) dX10_tamperOn_34 (fun H locs hP hD hS => ?_)
          have hP : va_P D vwCl (fl [[ia ty q 57 (upd (upd r 16 0) 17 0)]]) H := hP
          have hD : va_D A (fl [[ia ty q 57 (upd (upd r 16 0) 17 0)]]) := hD
          refine lv_iinc (v := 2) (lv' := [(3, .int 2), (2, .int (pdom r)), (0, .ref q), (1, .int p9)]) hx hb dX10_tamperOn_35 hl (k := 0) rfl (by decide) (by decide) rfl (fun ls hl => ?_)
          refine lv_goto (tgt := 22) hx hb dX10_tamperOn_38 (by decide) ?_
          refine lv_iload_n hx hb dX10_tamperOn_22 rfl (lv_at hl 0 rfl) ?_
          refine lv_bipush (v := 8) hx hb dX10_tamperOn_23 (by decide) ?_
          refine lv_icmp_ge (tgt := 41) hx hb dX10_tamperOn_25 (by decide) (fun c_8 => ?_) (fun c_8 => ?_)
          · exact absurd c_8 (by decide)
          · skip
            refine lv_aload_n hx hb dX10_tamperOn_28 rfl (lv_at hl 2 rfl) ?_
            refine lv_bipush (v := 16) hx hb dX10_tamperOn_29 (by decide) ?_
            refine lv_iload_n hx hb dX10_tamperOn_31 rfl (lv_at hl 0 rfl) ?_
            refine k_iadd (v := 18) hx hb dX10_tamperOn_32 (by decide) ?_
            refine lv_iconst (v := 0) hx hb dX10_tamperOn_33 (by decide) ?_
            refine k_iast hx hb hK hP hD hS 0 rfl 18 rfl (by decide) (Nat.le_of_ble_eq_true rfl) dX10_tamperOn_34 (fun H locs hP hD hS => ?_)
            have hP : va_P D vwCl (fl [[ia ty q 57 (upd (upd (upd r 16 0) 17 0) 18 0)]]) H := hP
            have hD : va_D A (fl [[ia ty q 57 (upd (upd (upd r 16 0) 17 0) 18 0)]]) := hD
            refine lv_iinc (v := 3) (lv' := [(3, .int 3), (2, .int (pdom r)), (0, .ref q), (1, .int p9)]) hx hb dX10_tamperOn_35 hl (k := 0) rfl (by decide) (by decide) rfl (fun ls hl => ?_)
            refine lv_goto (tgt := 22) hx hb dX10_tamperOn_38 (by decide) ?_
            refine lv_iload_n hx hb dX10_tamperOn_22 rfl (lv_at hl 0 rfl) ?_
            refine lv_bipush (v := 8) hx hb dX10_tamperOn_23 (by decide) ?_
            refine lv_icmp_ge (tgt := 41) hx hb dX10_tamperOn_25 (by decide) (fun c_9 => ?_) (fun c_9 => ?_)
            · exact absurd c_9 (by decide)
            · skip
              refine lv_aload_n hx hb dX10_tamperOn_28 rfl (lv_at hl 2 rfl) ?_
              refine lv_bipush (v := 16) hx hb dX10_tamperOn_29 (by decide) ?_
              refine lv_iload_n hx hb dX10_tamperOn_31 rfl (lv_at hl 0 rfl) ?_
              refine k_iadd (v := 19) hx hb dX10_tamperOn_32 (by decide) ?_
              refine lv_iconst (v := 0) hx hb dX10_tamperOn_33 (by decide) ?_
              refine k_iast hx hb hK hP hD hS 0 rfl 19 rfl (by decide) (Nat.le_of_ble_eq_true rfl) dX10_tamperOn_34 (fun H locs hP hD hS => ?_)
              have hP : va_P D vwCl (fl [[ia ty q 57 (upd (upd (upd (upd r 16 0) 17 0) 18 0) 19 0)]]) H := hP
              have hD : va_D A (fl [[ia ty q 57 (upd (upd (upd (upd r 16 0) 17 0) 18 0) 19 0)]]) := hD
              refine lv_iinc (v := 4) (lv' := [(3, .int 4), (2, .int (pdom r)), (0, .ref q), (1, .int p9)]) hx hb dX10_tamperOn_35 hl (k := 0) rfl (by decide) (by decide) rfl (fun ls hl => ?_)
              refine lv_goto (tgt := 22) hx hb dX10_tamperOn_38 (by decide) ?_
              refine lv_iload_n hx hb dX10_tamperOn_22 rfl (lv_at hl 0 rfl) ?_
              refine lv_bipush (v := 8) hx hb dX10_tamperOn_23 (by decide) ?_
              refine lv_icmp_ge (tgt := 41) hx hb dX10_tamperOn_25 (by decide) (fun c_10 => ?_) (fun c_10 => ?_)
              · exact absurd c_10 (by decide)
              · skip
                refine lv_aload_n hx hb dX10_tamperOn_28 rfl (lv_at hl 2 rfl) ?_
                refine lv_bipush (v := 16) hx hb dX10_tamperOn_29 (by decide) ?_
                refine lv_iload_n hx hb dX10_tamperOn_31 rfl (lv_at hl 0 rfl) ?_
                refine k_iadd (v := 20) hx hb dX10_tamperOn_32 (by decide) ?_
                refine lv_iconst (v := 0) hx hb dX10_tamperOn_33 (by decide) ?_
                refine k_iast hx hb hK hP hD hS 0 rfl 20 rfl (by decide) (Nat.le_of_ble_eq_true rfl) dX10_tamperOn_34 (fun H locs hP hD hS => ?_)
                have hP : va_P D vwCl (fl [[ia ty q 57 (upd (upd (upd (upd (upd r 16 0) 17 0) 18 0) 19 0) 20 0)]]) H := hP
                have hD : va_D A (fl [[ia ty q 57 (upd (upd (upd (upd (upd r 16 0) 17 0) 18 0) 19 0) 20 0)]]) := hD
                refine lv_iinc (v := 5) (lv' := [(3, .int 5), (2, .int (pdom r)), (0, .ref q), (1, .int p9)]) hx hb dX10_tamperOn_35 hl (k := 0) rfl (by decide) (by decide) rfl (fun ls hl => ?_)
                refine lv_goto (tgt := 22) hx hb dX10_tamperOn_38 (by decide) ?_
                refine lv_iload_n hx hb dX10_tamperOn_22 rfl (lv_at hl 0 rfl) ?_
                refine lv_bipush (v := 8) hx hb dX10_tamperOn_23 (by decide) ?_
                refine lv_icmp_ge (tgt := 41) hx hb dX10_tamperOn_25 (by decide) (fun c_11 => ?_) (fun c_11 => ?_)
                · exact absurd c_11 (by decide)
                · skip
                  refine lv_aload_n hx hb dX10_tamperOn_28 rfl (lv_at hl 2 rfl) ?_
                  refine lv_bipush (v := 16) hx hb dX10_tamperOn_29 (by decide) ?_
                  refine lv_iload_n hx hb dX10_tamperOn_31 rfl (lv_at hl 0 rfl) ?_
                  refine k_iadd (v := 21) hx hb dX10_tamperOn_32 (by decide) ?_
                  refine lv_iconst (v := 0) hx hb dX10_tamperOn_33 (by decide) ?_
                  refine k_iast hx hb hK hP hD hS 0 rfl 21 rfl (by decide) (Nat.le_of_ble_eq_true rfl) dX10_tamperOn_34 (fun H locs hP hD hS => ?_)
                  have hP : va_P D vwCl (fl [[ia ty q 57 (upd (upd (upd (upd (upd (upd r 16 0) 17 0) 18 0) 19 0) 20 0) 21 0)]]) H := hP
                  have hD : va_D A (fl [[ia ty q 57 (upd (upd (upd (upd (upd (upd r 16 0) 17 0) 18 0) 19 0) 20 0) 21 0)]]) := hD
                  refine lv_iinc (v := 6) (lv' := [(3, .int 6), (2, .int (pdom r)), (0, .ref q), (1, .int p9)]) hx hb dX10_tamperOn_35 hl (k := 0) rfl (by decide) (by decide) rfl (fun ls hl => ?_)
                  refine lv_goto (tgt := 22) hx hb dX10_tamperOn_38 (by decide) ?_
                  refine lv_iload_n hx hb dX10_tamperOn_22 rfl (lv_at hl 0 rfl) ?_
                  refine lv_bipush (v := 8) hx hb dX10_tamperOn_23 (by decide) ?_
                  refine lv_icmp_ge (tgt := 41) hx hb dX10_tamperOn_25 (by decide) (fun c_12 => ?_) (fun c_12 => ?_)
                  · exact absurd c_12 (by decide)
                  · skip
                    refine lv_aload_n hx hb dX10_tamperOn_28 rfl (lv_at hl 2 rfl) ?_
                    refine lv_bipush (v := 16) hx hb dX10_tamperOn_29 (by decide) ?_
                    refine lv_iload_n hx hb dX10_tamperOn_31 rfl (lv_at hl 0 rfl) ?_
                    refine k_iadd (v := 22) hx hb dX10_tamperOn_32 (by decide) ?_
                    refine lv_iconst (v := 0) hx hb dX10_tamperOn_33 (by decide) ?_
                    refine k_iast hx hb hK hP hD hS 0 rfl 22 rfl (by decide) (Nat.le_of_ble_eq_true rfl) dX10_tamperOn_34 (fun H locs hP hD hS => ?_)
                    have hP : va_P D vwCl (fl [[ia ty q 57 (upd (upd (upd (upd (upd (upd (upd r 16 0) 17 0) 18 0) 19 0) 20 0) 21 0) 22 0)]]) H := hP
                    have hD : va_D A (fl [[ia ty q 57 (upd (upd (upd (upd (upd (upd (upd r 16 0) 17 0) 18 0) 19 0) 20 0) 21 0) 22 0)]]) := hD
                    refine lv_iinc (v := 7) (lv' := [(3, .int 7), (2, .int (pdom r)), (0, .ref q), (1, .int p9)]) hx hb dX10_tamperOn_35 hl (k := 0) rfl (by decide) (by decide) rfl (fun ls hl => ?_)
                    refine lv_goto (tgt := 22) hx hb dX10_tamperOn_38 (by decide) ?_
                    refine lv_iload_n hx hb dX10_tamperOn_22 rfl (lv_at hl 0 rfl) ?_
                    refine lv_bipush (v := 8) hx hb dX10_tamperOn_23 (by decide) ?_
                    refine lv_icmp_ge (tgt := 41) hx hb dX10_tamperOn_25 (by decide) (fun c_13 => ?_) (fun c_13 => ?_)
                    · exact absurd c_13 (by decide)
                    · skip
                      refine lv_aload_n hx hb dX10_tamperOn_28 rfl (lv_at hl 2 rfl) ?_
                      refine lv_bipush (v := 16) hx hb dX10_tamperOn_29 (by decide) ?_
                      refine lv_iload_n hx hb dX10_tamperOn_31 rfl (lv_at hl 0 rfl) ?_
                      refine k_iadd (v := 23) hx hb dX10_tamperOn_32 (by decide) ?_
                      refine lv_iconst (v := 0) hx hb dX10_tamperOn_33 (by decide) ?_
                      refine k_iast hx hb hK hP hD hS 0 rfl 23 rfl (by decide) (Nat.le_of_ble_eq_true rfl) dX10_tamperOn_34 (fun H locs hP hD hS => ?_)
                      have hP : va_P D vwCl (fl [[ia ty q 57 (upd (upd (upd (upd (upd (upd (upd (upd r 16 0) 17 0) 18 0) 19 0) 20 0) 21 0) 22 0) 23 0)]]) H := hP
                      have hD : va_D A (fl [[ia ty q 57 (upd (upd (upd (upd (upd (upd (upd (upd r 16 0) 17 0) 18 0) 19 0) 20 0) 21 0) 22 0) 23 0)]]) := hD
                      refine lv_iinc (v := 8) (lv' := [(3, .int 8), (2, .int (pdom r)), (0, .ref q), (1, .int p9)]) hx hb dX10_tamperOn_35 hl (k := 0) rfl (by decide) (by decide) rfl (fun ls hl => ?_)
                      refine lv_goto (tgt := 22) hx hb dX10_tamperOn_38 (by decide) ?_
                      refine lv_iload_n hx hb dX10_tamperOn_22 rfl (lv_at hl 0 rfl) ?_
                      refine lv_bipush (v := 8) hx hb dX10_tamperOn_23 (by decide) ?_
                      refine lv_icmp_ge (tgt := 41) hx hb dX10_tamperOn_25 (by decide) (fun c_14 => ?_) (fun c_14 => ?_)
                      · skip
                        have hP : va_P D vwCl (fl [[ia ty q 57 (perase r)]]) H := P_at 0 (at_ia (fun k _ => by
                          by_cases h16 : k = 16
                          · subst h16; rfl
                          by_cases h17 : k = 17
                          · subst h17; rfl
                          by_cases h18 : k = 18
                          · subst h18; rfl
                          by_cases h19 : k = 19
                          · subst h19; rfl
                          by_cases h20 : k = 20
                          · subst h20; rfl
                          by_cases h21 : k = 21
                          · subst h21; rfl
                          by_cases h22 : k = 22
                          · subst h22; rfl
                          by_cases h23 : k = 23
                          · subst h23; rfl
                          have hn : ¬ (16 ≤ k ∧ k < 24) := by omega
                          simp [hn, upd, perase, h16, h17, h18, h19, h20, h21, h22, h23])) rfl rfl hP
                        have hD : va_D A (fl [[ia ty q 57 (perase r)]]) := (D_same2 hD [q] rfl rfl)
                        refine lv_aload_n hx hb dX10_tamperOn_41 rfl (lv_at hl 2 rfl) ?_
                        refine lv_bipush (v := 8) hx hb dX10_tamperOn_42 (by decide) ?_
                        refine lv_dup2_11 hx hb dX10_tamperOn_44 rfl rfl ?_
                        refine k_iald hx hb hK hP 0 rfl 8 rfl (by decide) (Nat.le_of_ble_eq_true rfl) (v := (r 8)) rfl dX10_tamperOn_45 ?_
                        refine lv_iconst (v := 1) hx hb dX10_tamperOn_46 (by decide) ?_
                        refine k_iadd (v := ((r 8) + 1)) hx hb dX10_tamperOn_47 rfl ?_
                        refine k_iast hx hb hK hP hD hS 0 rfl 8 rfl (by decide) (Nat.le_of_ble_eq_true rfl) dX10_tamperOn_48 (fun H locs hP hD hS => ?_)
                        have hP : va_P D vwCl (fl [[ia ty q 57 (upd (perase r) 8 ((r 8) + 1))]]) H := hP
                        have hD : va_D A (fl [[ia ty q 57 (upd (perase r) 8 ((r 8) + 1))]]) := hD
                        refine lv_aload_n hx hb dX10_tamperOn_49 rfl (lv_at hl 2 rfl) ?_
                        refine lv_bipush (v := 11) hx hb dX10_tamperOn_50 (by decide) ?_
                        refine k_iald hx hb hK hP 0 rfl 11 rfl (by decide) (Nat.le_of_ble_eq_true rfl) (v := (r 11)) (by simp only [upd]; (repeat rw [if_neg (by omega)]); first | rfl | exact perase_ne r (by decide)) dX10_tamperOn_52 ?_
                        refine lv_bipush (v := 6) hx hb dX10_tamperOn_53 (by decide) ?_
                        refine lv_icmp_ge (tgt := 94) hx hb dX10_tamperOn_55 (by decide) (fun c_15 => ?_) (fun c_15 => ?_)
                        · skip
                          have hP : va_P D vwCl (fl [[ia ty q 57 (ptamper p9 r)]]) H := by
                            rw [show ptamper p9 r = ptamR p9 r from (if_pos (hpin.resolve_left c_4)).trans (if_neg c_5), ptamR, if_neg (Int32.not_lt.mpr c_15)]; exact hP
                          have hD : va_D A (fl [[ia ty q 57 (ptamper p9 r)]]) := (D_same2 hD [q] rfl rfl)
                          exact end_v (bs' := (fun (_ : Unit) => [[ia ty q 57 (ptamper p9 r)]])) () hx hb hr hlocks hP hD hS trivial (Nat.le_of_ble_eq_true rfl) (Nat.le_of_ble_eq_true rfl) dX10_tamperOn_94
                        · skip
                          refine lv_bipush (v := 39) hx hb dX10_tamperOn_58 (by decide) ?_
                          refine lv_iconst (v := 3) hx hb dX10_tamperOn_60 (by decide) ?_
                          refine lv_aload_n hx hb dX10_tamperOn_61 rfl (lv_at hl 2 rfl) ?_
                          refine lv_bipush (v := 11) hx hb dX10_tamperOn_62 (by decide) ?_
                          refine k_iald hx hb hK hP 0 rfl 11 rfl (by decide) (Nat.le_of_ble_eq_true rfl) (v := (r 11)) (by simp only [upd]; (repeat rw [if_neg (by omega)]); first | rfl | exact perase_ne r (by decide)) dX10_tamperOn_64 ?_
                          refine k_imul (v := (3 * (r 11))) hx hb dX10_tamperOn_65 rfl ?_
                          refine k_iadd (v := (39 + (3 * (r 11)))) hx hb dX10_tamperOn_66 rfl ?_
                          refine lv_istore_n (lv' := [(3, .int (39 + (3 * (r 11)))), (2, .int (pdom r)), (0, .ref q), (1, .int p9)]) hx hb dX10_tamperOn_67 rfl hl (by decide) rfl (fun ls hl => ?_)
                          refine lv_aload_n hx hb dX10_tamperOn_68 rfl (lv_at hl 2 rfl) ?_
                          refine lv_iload_n hx hb dX10_tamperOn_69 rfl (lv_at hl 0 rfl) ?_
                          refine lv_iload_n hx hb dX10_tamperOn_70 rfl (lv_at hl 3 rfl) ?_
                          refine k_iast hx hb hK hP hD hS 0 rfl (39 + 3 * (r 11).toNatClampNeg) (ix_row39 h0) (by have := nI_ltn h0 (n := 6) (by decide) (fa_of_nle c_15); omega) (Nat.le_of_ble_eq_true rfl) dX10_tamperOn_71 (fun H locs hP hD hS => ?_)
                          have hP : va_P D vwCl (fl [[ia ty q 57 (upd (upd (perase r) 8 ((r 8) + 1)) (39 + 3 * (r 11).toNatClampNeg) p9)]]) H := hP
                          have hD : va_D A (fl [[ia ty q 57 (upd (upd (perase r) 8 ((r 8) + 1)) (39 + 3 * (r 11).toNatClampNeg) p9)]]) := hD
                          refine lv_aload_n hx hb dX10_tamperOn_72 rfl (lv_at hl 2 rfl) ?_
                          refine lv_iload_n hx hb dX10_tamperOn_73 rfl (lv_at hl 0 rfl) ?_
                          refine lv_iconst (v := 1) hx hb dX10_tamperOn_74 (by decide) ?_
                          refine k_iadd (v := ((39 + (3 * (r 11))) + 1)) hx hb dX10_tamperOn_75 rfl ?_
                          refine lv_aload_n hx hb dX10_tamperOn_76 rfl (lv_at hl 2 rfl) ?_
                          refine lv_iconst (v := 1) hx hb dX10_tamperOn_77 (by decide) ?_
                          refine k_iald hx hb hK hP 0 rfl 1 rfl (by decide) (Nat.le_of_ble_eq_true rfl) (v := (r 1)) (by simp only [upd]; (repeat rw [if_neg (by omega)]); first | rfl | exact perase_ne r (by decide)) dX10_tamperOn_78 ?_
                          refine k_iast hx hb hK hP hD hS 0 rfl (40 + 3 * (r 11).toNatClampNeg) (ix_row40 h0) (by have := nI_ltn h0 (n := 6) (by decide) (fa_of_nle c_15); omega) (Nat.le_of_ble_eq_true rfl) dX10_tamperOn_79 (fun H locs hP hD hS => ?_)
                          have hP : va_P D vwCl (fl [[ia ty q 57 (upd (upd (upd (perase r) 8 ((r 8) + 1)) (39 + 3 * (r 11).toNatClampNeg) p9) (40 + 3 * (r 11).toNatClampNeg) (r 1))]]) H := hP
                          have hD : va_D A (fl [[ia ty q 57 (upd (upd (upd (perase r) 8 ((r 8) + 1)) (39 + 3 * (r 11).toNatClampNeg) p9) (40 + 3 * (r 11).toNatClampNeg) (r 1))]]) := hD
                          refine lv_aload_n hx hb dX10_tamperOn_80 rfl (lv_at hl 2 rfl) ?_
                          refine lv_iload_n hx hb dX10_tamperOn_81 rfl (lv_at hl 0 rfl) ?_
                          refine lv_iconst (v := 2) hx hb dX10_tamperOn_82 (by decide) ?_
                          refine k_iadd (v := ((39 + (3 * (r 11))) + 2)) hx hb dX10_tamperOn_83 rfl ?_
                          refine lv_iload_n hx hb dX10_tamperOn_84 rfl (lv_at hl 1 rfl) ?_
                          refine k_iast hx hb hK hP hD hS 0 rfl (41 + 3 * (r 11).toNatClampNeg) (ix_row41 h0) (by have := nI_ltn h0 (n := 6) (by decide) (fa_of_nle c_15); omega) (Nat.le_of_ble_eq_true rfl) dX10_tamperOn_85 (fun H locs hP hD hS => ?_)
                          have hP : va_P D vwCl (fl [[ia ty q 57 (upd (upd (upd (upd (perase r) 8 ((r 8) + 1)) (39 + 3 * (r 11).toNatClampNeg) p9) (40 + 3 * (r 11).toNatClampNeg) (r 1)) (41 + 3 * (r 11).toNatClampNeg) (pdom r))]]) H := hP
                          have hD : va_D A (fl [[ia ty q 57 (upd (upd (upd (upd (perase r) 8 ((r 8) + 1)) (39 + 3 * (r 11).toNatClampNeg) p9) (40 + 3 * (r 11).toNatClampNeg) (r 1)) (41 + 3 * (r 11).toNatClampNeg) (pdom r))]]) := hD
                          refine lv_aload_n hx hb dX10_tamperOn_86 rfl (lv_at hl 2 rfl) ?_
                          refine lv_bipush (v := 11) hx hb dX10_tamperOn_87 (by decide) ?_
                          refine lv_dup2_11 hx hb dX10_tamperOn_89 rfl rfl ?_
                          refine k_iald hx hb hK hP 0 rfl 11 rfl (by decide) (Nat.le_of_ble_eq_true rfl) (v := (r 11)) (by simp only [upd]; (repeat rw [if_neg (by omega)]); first | rfl | exact perase_ne r (by decide)) dX10_tamperOn_90 ?_
                          refine lv_iconst (v := 1) hx hb dX10_tamperOn_91 (by decide) ?_
                          refine k_iadd (v := ((r 11) + 1)) hx hb dX10_tamperOn_92 rfl ?_
                          refine k_iast hx hb hK hP hD hS 0 rfl 11 rfl (by decide) (Nat.le_of_ble_eq_true rfl) dX10_tamperOn_93 (fun H locs hP hD hS => ?_)
                          have hP : va_P D vwCl (fl [[ia ty q 57 (upd (upd (upd (upd (upd (perase r) 8 ((r 8) + 1)) (39 + 3 * (r 11).toNatClampNeg) p9) (40 + 3 * (r 11).toNatClampNeg) (r 1)) (41 + 3 * (r 11).toNatClampNeg) (pdom r)) 11 ((r 11) + 1))]]) H := hP
                          have hD : va_D A (fl [[ia ty q 57 (upd (upd (upd (upd (upd (perase r) 8 ((r 8) + 1)) (39 + 3 * (r 11).toNatClampNeg) p9) (40 + 3 * (r 11).toNatClampNeg) (r 1)) (41 + 3 * (r 11).toNatClampNeg) (pdom r)) 11 ((r 11) + 1))]]) := hD
                          have hP : va_P D vwCl (fl [[ia ty q 57 (ptamper p9 r)]]) H := by
                            rw [show ptamper p9 r = ptamR p9 r from (if_pos (hpin.resolve_left c_4)).trans (if_neg c_5), ptamR, if_pos (fa_of_nle c_15)]; exact hP
                          have hD : va_D A (fl [[ia ty q 57 (ptamper p9 r)]]) := (D_same2 hD [q] rfl rfl)
                          exact end_v (bs' := (fun (_ : Unit) => [[ia ty q 57 (ptamper p9 r)]])) () hx hb hr hlocks hP hD hS trivial (Nat.le_of_ble_eq_true rfl) (Nat.le_of_ble_eq_true rfl) dX10_tamperOn_94
                      · exact absurd (by decide) c_14
    · skip
      have hP : va_P D vwCl (fl [[ia ty q 57 (ptamper p9 r)]]) H := by
        rw [show ptamper p9 r = r from (if_pos (hpin.resolve_left c_4)).trans (if_pos c_5)]; exact hP
      have hD : va_D A (fl [[ia ty q 57 (ptamper p9 r)]]) := (D_same2 hD [q] rfl rfl)
      exact end_v (bs' := (fun (_ : Unit) => [[ia ty q 57 (ptamper p9 r)]])) () hx hb hr hlocks hP hD hS trivial (Nat.le_of_ble_eq_true rfl) (Nat.le_of_ble_eq_true rfl) dX10_tamperOn_19
set_option maxHeartbeats 4000000 in
set_option maxRecDepth 100000 in
theorem c_X10_setMany (l : Launch) (D : va_G) (ty : Nat → ClassId) (q : Nat) (r : Nat → Int32) : CTi l yX10_setMany wsX10_setMany ({ frames := 0, cells := 0, slots := 0, locals := 0 }) D ty [.ref q] [[ia ty q 57 r]] (fun (RET : Int32) (_ : Unit) => RET = (setN r 4)) (fun (_ : Unit) => [[ia ty q 57 r]]) := by
  refine CTi_of cX10_setMany 3 (some .int) (by decide) rfl (Nat.le_of_ble_eq_true rfl) ?_
  intro p e s m args below meth c A hx hb hr hml hown hlocks hin hts hA hX hK hP hD ls hl
  have hown : s.vm.findClass RX10 = some m.cls := hown
  have hS : va_S A s.heap s.heap [] := va_S.rf
  have hl : lv_has ls 3 [(0, .ref q)] := hl
  generalize hQg : MQ below (va_Qi (fun (RET : Int32) (_ : Unit) => RET = (setN r 4)) (PostW D (fun (_ : Unit) => [[ia ty q 57 r]]) A) A) args s 0 0 A = Qg
  refine lv_iconst (v := 0) hx hb dX10_setMany_0 (by decide) ?_
  refine lv_istore_n (lv' := [(1, .int 0), (0, .ref q)]) hx hb dX10_setMany_1 rfl hl (by decide) rfl (fun ls hl => ?_)
  refine lv_iconst (v := 0) hx hb dX10_setMany_2 (by decide) ?_
  refine lv_istore_n (lv' := [(2, .int 0), (1, .int 0), (0, .ref q)]) hx hb dX10_setMany_3 rfl hl (by decide) rfl (fun ls hl => ?_)
  have hit4_4 : ∀ (n : Int32), (n = setN r 4) → ∀ (H : Heap) (locs : List Loc), va_P D vwCl (fl [[ia ty q 57 r]]) H → va_D A (fl [[ia ty q 57 r]]) → va_S A s.heap H locs → ∀ ls : Array Slot, lv_has ls 3 [(2, .int 4), (1, .int n), (0, .ref q)] → W p l e ({ frames := 0, cells := 0, slots := 0, locals := 0 } : Room) s m args below meth c H locs 0 0 Qg (F0 m 4 ls []) := by
    intro n hn H locs hP hD hS ls hl
    refine lv_iload_n hx hb dX10_setMany_4 rfl (lv_at hl 0 rfl) ?_
    refine lv_iconst (v := 4) hx hb dX10_setMany_5 (by decide) ?_
    refine lv_icmp_ge (tgt := 36) hx hb dX10_setMany_6 (by decide) (fun c_1 => ?_) (fun c_1 => ?_)
    · skip
      refine lv_iload_n hx hb dX10_setMany_36 rfl (lv_at hl 1 rfl) ?_
      subst hQg
      have hP : va_P D vwCl (fl [[ia ty q 57 r]]) H := hP
      have hD : va_D A (fl [[ia ty q 57 r]]) := hD
      exact end_i (bs' := (fun (_ : Unit) => [[ia ty q 57 r]])) () hx hb hr hlocks hP hD hS hn (Nat.le_of_ble_eq_true rfl) (Nat.le_of_ble_eq_true rfl) dX10_setMany_37
    · exact absurd (by decide) c_1
  have hit4_3 : ∀ (n : Int32), (n = setN r 3) → ∀ (H : Heap) (locs : List Loc), va_P D vwCl (fl [[ia ty q 57 r]]) H → va_D A (fl [[ia ty q 57 r]]) → va_S A s.heap H locs → ∀ ls : Array Slot, lv_has ls 3 [(2, .int 3), (1, .int n), (0, .ref q)] → W p l e ({ frames := 0, cells := 0, slots := 0, locals := 0 } : Room) s m args below meth c H locs 0 0 Qg (F0 m 4 ls []) := by
    intro n hn H locs hP hD hS ls hl
    refine lv_iload_n hx hb dX10_setMany_4 rfl (lv_at hl 0 rfl) ?_
    refine lv_iconst (v := 4) hx hb dX10_setMany_5 (by decide) ?_
    refine lv_icmp_ge (tgt := 36) hx hb dX10_setMany_6 (by decide) (fun c_2 => ?_) (fun c_2 => ?_)
    · exact absurd c_2 (by decide)
    · skip
      refine lv_iload_n hx hb dX10_setMany_9 rfl (lv_at hl 1 rfl) ?_
      refine lv_aload_n hx hb dX10_setMany_10 rfl (lv_at hl 2 rfl) ?_
      refine lv_bipush (v := 27) hx hb dX10_setMany_11 (by decide) ?_
      refine lv_iconst (v := 3) hx hb dX10_setMany_13 (by decide) ?_
      refine lv_iload_n hx hb dX10_setMany_14 rfl (lv_at hl 0 rfl) ?_
      refine k_imul (v := 9) hx hb dX10_setMany_15 (by decide) ?_
      refine k_iadd (v := 36) hx hb dX10_setMany_16 (by decide) ?_
      refine k_iald hx hb hK hP 0 rfl 36 rfl (by decide) (Nat.le_of_ble_eq_true rfl) (v := r 36) rfl dX10_setMany_17 ?_
      refine lv_ldc hx hb hown (hts (Cond.constant RX10 53 (-99999999)) (List.mem_of_getElem? (i := 1) rfl)) dX10_setMany_18 ?_
      refine lv_icmp_ne (tgt := 27) hx hb dX10_setMany_20 (by decide) (fun c_3 => ?_) (fun c_3 => ?_)
      · skip
        refine lv_iconst (v := 1) hx hb dX10_setMany_27 (by decide) ?_
        refine k_iadd (v := (n + 1)) hx hb dX10_setMany_28 rfl ?_
        refine lv_istore_n (lv' := [(1, .int (n + 1)), (2, .int 3), (0, .ref q)]) hx hb dX10_setMany_29 rfl hl (by decide) rfl (fun ls hl => ?_)
        refine lv_iinc (v := 4) (lv' := [(2, .int 4), (1, .int (n + 1)), (0, .ref q)]) hx hb dX10_setMany_30 hl (k := 1) rfl (by decide) (by decide) rfl (fun ls hl => ?_)
        refine lv_goto (tgt := 4) hx hb dX10_setMany_33 (by decide) ?_
        exact hit4_4 (n + 1) (by rw [hn]; show _ = setN r 3 + _; rw [if_neg c_3]) _ _ (show va_P D vwCl (fl [[ia ty q 57 r]]) _ from hP) hD hS _ (lv_sub hl [0, 1, 2] rfl)
      · skip
        refine lv_iconst (v := 0) hx hb dX10_setMany_23 (by decide) ?_
        refine lv_goto (tgt := 28) hx hb dX10_setMany_24 (by decide) ?_
        refine k_iadd (v := (n + 0)) hx hb dX10_setMany_28 rfl ?_
        refine lv_istore_n (lv' := [(1, .int (n + 0)), (2, .int 3), (0, .ref q)]) hx hb dX10_setMany_29 rfl hl (by decide) rfl (fun ls hl => ?_)
        refine lv_iinc (v := 4) (lv' := [(2, .int 4), (1, .int (n + 0)), (0, .ref q)]) hx hb dX10_setMany_30 hl (k := 1) rfl (by decide) (by decide) rfl (fun ls hl => ?_)
        refine lv_goto (tgt := 4) hx hb dX10_setMany_33 (by decide) ?_
        exact hit4_4 (n + 0) (by rw [hn]; show _ = setN r 3 + _; rw [if_pos c_3]) _ _ (show va_P D vwCl (fl [[ia ty q 57 r]]) _ from hP) hD hS _ (lv_sub hl [0, 1, 2] rfl)
  have hit4_2 : ∀ (n : Int32), (n = setN r 2) → ∀ (H : Heap) (locs : List Loc), va_P D vwCl (fl [[ia ty q 57 r]]) H → va_D A (fl [[ia ty q 57 r]]) → va_S A s.heap H locs → ∀ ls : Array Slot, lv_has ls 3 [(2, .int 2), (1, .int n), (0, .ref q)] → W p l e ({ frames := 0, cells := 0, slots := 0, locals := 0 } : Room) s m args below meth c H locs 0 0 Qg (F0 m 4 ls []) := by
    intro n hn H locs hP hD hS ls hl
    refine lv_iload_n hx hb dX10_setMany_4 rfl (lv_at hl 0 rfl) ?_
    refine lv_iconst (v := 4) hx hb dX10_setMany_5 (by decide) ?_
    refine lv_icmp_ge (tgt := 36) hx hb dX10_setMany_6 (by decide) (fun c_4 => ?_) (fun c_4 => ?_)
    · exact absurd c_4 (by decide)
    · skip
      refine lv_iload_n hx hb dX10_setMany_9 rfl (lv_at hl 1 rfl) ?_
      refine lv_aload_n hx hb dX10_setMany_10 rfl (lv_at hl 2 rfl) ?_
      refine lv_bipush (v := 27) hx hb dX10_setMany_11 (by decide) ?_
      refine lv_iconst (v := 3) hx hb dX10_setMany_13 (by decide) ?_
      refine lv_iload_n hx hb dX10_setMany_14 rfl (lv_at hl 0 rfl) ?_
      refine k_imul (v := 6) hx hb dX10_setMany_15 (by decide) ?_
      refine k_iadd (v := 33) hx hb dX10_setMany_16 (by decide) ?_
      refine k_iald hx hb hK hP 0 rfl 33 rfl (by decide) (Nat.le_of_ble_eq_true rfl) (v := r 33) rfl dX10_setMany_17 ?_
      refine lv_ldc hx hb hown (hts (Cond.constant RX10 53 (-99999999)) (List.mem_of_getElem? (i := 1) rfl)) dX10_setMany_18 ?_
      refine lv_icmp_ne (tgt := 27) hx hb dX10_setMany_20 (by decide) (fun c_5 => ?_) (fun c_5 => ?_)
      · skip
        refine lv_iconst (v := 1) hx hb dX10_setMany_27 (by decide) ?_
        refine k_iadd (v := (n + 1)) hx hb dX10_setMany_28 rfl ?_
        refine lv_istore_n (lv' := [(1, .int (n + 1)), (2, .int 2), (0, .ref q)]) hx hb dX10_setMany_29 rfl hl (by decide) rfl (fun ls hl => ?_)
        refine lv_iinc (v := 3) (lv' := [(2, .int 3), (1, .int (n + 1)), (0, .ref q)]) hx hb dX10_setMany_30 hl (k := 1) rfl (by decide) (by decide) rfl (fun ls hl => ?_)
        refine lv_goto (tgt := 4) hx hb dX10_setMany_33 (by decide) ?_
        exact hit4_3 (n + 1) (by rw [hn]; show _ = setN r 2 + _; rw [if_neg c_5]) _ _ (show va_P D vwCl (fl [[ia ty q 57 r]]) _ from hP) hD hS _ (lv_sub hl [0, 1, 2] rfl)
      · skip
        refine lv_iconst (v := 0) hx hb dX10_setMany_23 (by decide) ?_
        refine lv_goto (tgt := 28) hx hb dX10_setMany_24 (by decide) ?_
        refine k_iadd (v := (n + 0)) hx hb dX10_setMany_28 rfl ?_
        refine lv_istore_n (lv' := [(1, .int (n + 0)), (2, .int 2), (0, .ref q)]) hx hb dX10_setMany_29 rfl hl (by decide) rfl (fun ls hl => ?_)
        refine lv_iinc (v := 3) (lv' := [(2, .int 3), (1, .int (n + 0)), (0, .ref q)]) hx hb dX10_setMany_30 hl (k := 1) rfl (by decide) (by decide) rfl (fun ls hl => ?_)
        refine lv_goto (tgt := 4) hx hb dX10_setMany_33 (by decide) ?_
        exact hit4_3 (n + 0) (by rw [hn]; show _ = setN r 2 + _; rw [if_pos c_5]) _ _ (show va_P D vwCl (fl [[ia ty q 57 r]]) _ from hP) hD hS _ (lv_sub hl [0, 1, 2] rfl)
  have hit4_1 : ∀ (n : Int32), (n = setN r 1) → ∀ (H : Heap) (locs : List Loc), va_P D vwCl (fl [[ia ty q 57 r]]) H → va_D A (fl [[ia ty q 57 r]]) → va_S A s.heap H locs → ∀ ls : Array Slot, lv_has ls 3 [(2, .int 1), (1, .int n), (0, .ref q)] → W p l e ({ frames := 0, cells := 0, slots := 0, locals := 0 } : Room) s m args below meth c H locs 0 0 Qg (F0 m 4 ls []) := by
    intro n hn H locs hP hD hS ls hl
    refine lv_iload_n hx hb dX10_setMany_4 rfl (lv_at hl 0 rfl) ?_
    refine lv_iconst (v := 4) hx hb dX10_setMany_5 (by decide) ?_
    refine lv_icmp_ge (tgt := 36) hx hb dX10_setMany_6 (by decide) (fun c_6 => ?_) (fun c_6 => ?_)
    · exact absurd c_6 (by decide)
    · skip
      refine lv_iload_n hx hb dX10_setMany_9 rfl (lv_at hl 1 rfl) ?_
      refine lv_aload_n hx hb dX10_setMany_10 rfl (lv_at hl 2 rfl) ?_
      refine lv_bipush (v := 27) hx hb dX10_setMany_11 (by decide) ?_
      refine lv_iconst (v := 3) hx hb dX10_setMany_13 (by decide) ?_
      refine lv_iload_n hx hb dX10_setMany_14 rfl (lv_at hl 0 rfl) ?_
      refine k_imul (v := 3) hx hb dX10_setMany_15 (by decide) ?_
      refine k_iadd (v := 30) hx hb dX10_setMany_16 (by decide) ?_
      refine k_iald hx hb hK hP 0 rfl 30 rfl (by decide) (Nat.le_of_ble_eq_true rfl) (v := r 30) rfl dX10_setMany_17 ?_
      refine lv_ldc hx hb hown (hts (Cond.constant RX10 53 (-99999999)) (List.mem_of_getElem? (i := 1) rfl)) dX10_setMany_18 ?_
      refine lv_icmp_ne (tgt := 27) hx hb dX10_setMany_20 (by decide) (fun c_7 => ?_) (fun c_7 => ?_)
      · skip
        refine lv_iconst (v := 1) hx hb dX10_setMany_27 (by decide) ?_
        refine k_iadd (v := (n + 1)) hx hb dX10_setMany_28 rfl ?_
        refine lv_istore_n (lv' := [(1, .int (n + 1)), (2, .int 1), (0, .ref q)]) hx hb dX10_setMany_29 rfl hl (by decide) rfl (fun ls hl => ?_)
        refine lv_iinc (v := 2) (lv' := [(2, .int 2), (1, .int (n + 1)), (0, .ref q)]) hx hb dX10_setMany_30 hl (k := 1) rfl (by decide) (by decide) rfl (fun ls hl => ?_)
        refine lv_goto (tgt := 4) hx hb dX10_setMany_33 (by decide) ?_
        exact hit4_2 (n + 1) (by rw [hn]; show _ = setN r 1 + _; rw [if_neg c_7]) _ _ (show va_P D vwCl (fl [[ia ty q 57 r]]) _ from hP) hD hS _ (lv_sub hl [0, 1, 2] rfl)
      · skip
        refine lv_iconst (v := 0) hx hb dX10_setMany_23 (by decide) ?_
        refine lv_goto (tgt := 28) hx hb dX10_setMany_24 (by decide) ?_
        refine k_iadd (v := (n + 0)) hx hb dX10_setMany_28 rfl ?_
        refine lv_istore_n (lv' := [(1, .int (n + 0)), (2, .int 1), (0, .ref q)]) hx hb dX10_setMany_29 rfl hl (by decide) rfl (fun ls hl => ?_)
        refine lv_iinc (v := 2) (lv' := [(2, .int 2), (1, .int (n + 0)), (0, .ref q)]) hx hb dX10_setMany_30 hl (k := 1) rfl (by decide) (by decide) rfl (fun ls hl => ?_)
        refine lv_goto (tgt := 4) hx hb dX10_setMany_33 (by decide) ?_
        exact hit4_2 (n + 0) (by rw [hn]; show _ = setN r 1 + _; rw [if_pos c_7]) _ _ (show va_P D vwCl (fl [[ia ty q 57 r]]) _ from hP) hD hS _ (lv_sub hl [0, 1, 2] rfl)
  have hit4_0 : ∀ (n : Int32), (n = setN r 0) → ∀ (H : Heap) (locs : List Loc), va_P D vwCl (fl [[ia ty q 57 r]]) H → va_D A (fl [[ia ty q 57 r]]) → va_S A s.heap H locs → ∀ ls : Array Slot, lv_has ls 3 [(2, .int 0), (1, .int n), (0, .ref q)] → W p l e ({ frames := 0, cells := 0, slots := 0, locals := 0 } : Room) s m args below meth c H locs 0 0 Qg (F0 m 4 ls []) := by
    intro n hn H locs hP hD hS ls hl
    refine lv_iload_n hx hb dX10_setMany_4 rfl (lv_at hl 0 rfl) ?_
    refine lv_iconst (v := 4) hx hb dX10_setMany_5 (by decide) ?_
    refine lv_icmp_ge (tgt := 36) hx hb dX10_setMany_6 (by decide) (fun c_8 => ?_) (fun c_8 => ?_)
    · exact absurd c_8 (by decide)
    · skip
      refine lv_iload_n hx hb dX10_setMany_9 rfl (lv_at hl 1 rfl) ?_
      refine lv_aload_n hx hb dX10_setMany_10 rfl (lv_at hl 2 rfl) ?_
      refine lv_bipush (v := 27) hx hb dX10_setMany_11 (by decide) ?_
      refine lv_iconst (v := 3) hx hb dX10_setMany_13 (by decide) ?_
      refine lv_iload_n hx hb dX10_setMany_14 rfl (lv_at hl 0 rfl) ?_
      refine k_imul (v := 0) hx hb dX10_setMany_15 (by decide) ?_
      refine k_iadd (v := 27) hx hb dX10_setMany_16 (by decide) ?_
      refine k_iald hx hb hK hP 0 rfl 27 rfl (by decide) (Nat.le_of_ble_eq_true rfl) (v := r 27) rfl dX10_setMany_17 ?_
      refine lv_ldc hx hb hown (hts (Cond.constant RX10 53 (-99999999)) (List.mem_of_getElem? (i := 1) rfl)) dX10_setMany_18 ?_
      refine lv_icmp_ne (tgt := 27) hx hb dX10_setMany_20 (by decide) (fun c_9 => ?_) (fun c_9 => ?_)
      · skip
        refine lv_iconst (v := 1) hx hb dX10_setMany_27 (by decide) ?_
        refine k_iadd (v := (n + 1)) hx hb dX10_setMany_28 rfl ?_
        refine lv_istore_n (lv' := [(1, .int (n + 1)), (2, .int 0), (0, .ref q)]) hx hb dX10_setMany_29 rfl hl (by decide) rfl (fun ls hl => ?_)
        refine lv_iinc (v := 1) (lv' := [(2, .int 1), (1, .int (n + 1)), (0, .ref q)]) hx hb dX10_setMany_30 hl (k := 1) rfl (by decide) (by decide) rfl (fun ls hl => ?_)
        refine lv_goto (tgt := 4) hx hb dX10_setMany_33 (by decide) ?_
        exact hit4_1 (n + 1) (by rw [hn]; show _ = setN r 0 + _; rw [if_neg c_9]) _ _ (show va_P D vwCl (fl [[ia ty q 57 r]]) _ from hP) hD hS _ (lv_sub hl [0, 1, 2] rfl)
      · skip
        refine lv_iconst (v := 0) hx hb dX10_setMany_23 (by decide) ?_
        refine lv_goto (tgt := 28) hx hb dX10_setMany_24 (by decide) ?_
        refine k_iadd (v := (n + 0)) hx hb dX10_setMany_28 rfl ?_
        refine lv_istore_n (lv' := [(1, .int (n + 0)), (2, .int 0), (0, .ref q)]) hx hb dX10_setMany_29 rfl hl (by decide) rfl (fun ls hl => ?_)
        refine lv_iinc (v := 1) (lv' := [(2, .int 1), (1, .int (n + 0)), (0, .ref q)]) hx hb dX10_setMany_30 hl (k := 1) rfl (by decide) (by decide) rfl (fun ls hl => ?_)
        refine lv_goto (tgt := 4) hx hb dX10_setMany_33 (by decide) ?_
        exact hit4_1 (n + 0) (by rw [hn]; show _ = setN r 0 + _; rw [if_pos c_9]) _ _ (show va_P D vwCl (fl [[ia ty q 57 r]]) _ from hP) hD hS _ (lv_sub hl [0, 1, 2] rfl)
  exact hit4_0 0 (rfl) _ _ (show va_P D vwCl (fl [[ia ty q 57 r]]) _ from hP) hD hS _ (lv_sub hl [0, 1, 2] rfl)
set_option maxHeartbeats 4000000 in
set_option maxRecDepth 100000 in
theorem c_X10_waiting (l : Launch) (D : va_G) (ty : Nat → ClassId) (q : Nat) (r : Nat → Int32) : CTi l yX10_waiting wsX10_waiting ({ frames := 0, cells := 0, slots := 0, locals := 0 }) D ty [.ref q] [[ia ty q 57 r]] (fun (RET : Int32) (_ : Unit) => RET = (0 + r 28 + r 31 + r 34 + r 37)) (fun (_ : Unit) => [[ia ty q 57 r]]) := by
  refine CTi_of cX10_waiting 3 (some .int) (by decide) rfl (Nat.le_of_ble_eq_true rfl) ?_
  intro p e s m args below meth c A hx hb hr hml hown hlocks hin hts hA hX hK hP hD ls hl
  have hown : s.vm.findClass RX10 = some m.cls := hown
  have hS : va_S A s.heap s.heap [] := va_S.rf
  have hl : lv_has ls 3 [(0, .ref q)] := hl
  refine lv_iconst (v := 0) hx hb dX10_waiting_0 (by decide) ?_
  refine lv_istore_n (lv' := [(1, .int 0), (0, .ref q)]) hx hb dX10_waiting_1 rfl hl (by decide) rfl (fun ls hl => ?_)
  refine lv_iconst (v := 0) hx hb dX10_waiting_2 (by decide) ?_
  refine lv_istore_n (lv' := [(2, .int 0), (1, .int 0), (0, .ref q)]) hx hb dX10_waiting_3 rfl hl (by decide) rfl (fun ls hl => ?_)
  refine lv_iload_n hx hb dX10_waiting_4 rfl (lv_at hl 0 rfl) ?_
  refine lv_iconst (v := 4) hx hb dX10_waiting_5 (by decide) ?_
  refine lv_icmp_ge (tgt := 28) hx hb dX10_waiting_6 (by decide) (fun c_1 => ?_) (fun c_1 => ?_)
  · exact absurd c_1 (by decide)
  · skip
    refine lv_iload_n hx hb dX10_waiting_9 rfl (lv_at hl 1 rfl) ?_
    refine lv_aload_n hx hb dX10_waiting_10 rfl (lv_at hl 2 rfl) ?_
    refine lv_bipush (v := 27) hx hb dX10_waiting_11 (by decide) ?_
    refine lv_iconst (v := 3) hx hb dX10_waiting_13 (by decide) ?_
    refine lv_iload_n hx hb dX10_waiting_14 rfl (lv_at hl 0 rfl) ?_
    refine k_imul (v := 0) hx hb dX10_waiting_15 (by decide) ?_
    refine k_iadd (v := 27) hx hb dX10_waiting_16 (by decide) ?_
    refine lv_iconst (v := 1) hx hb dX10_waiting_17 (by decide) ?_
    refine k_iadd (v := 28) hx hb dX10_waiting_18 (by decide) ?_
    refine k_iald hx hb hK hP 0 rfl 28 rfl (by decide) (Nat.le_of_ble_eq_true rfl) (v := r 28) rfl dX10_waiting_19 ?_
    refine k_iadd (v := (0 + (r 28))) hx hb dX10_waiting_20 rfl ?_
    refine lv_istore_n (lv' := [(1, .int (0 + (r 28))), (2, .int 0), (0, .ref q)]) hx hb dX10_waiting_21 rfl hl (by decide) rfl (fun ls hl => ?_)
    refine lv_iinc (v := 1) (lv' := [(2, .int 1), (1, .int (0 + (r 28))), (0, .ref q)]) hx hb dX10_waiting_22 hl (k := 1) rfl (by decide) (by decide) rfl (fun ls hl => ?_)
    refine lv_goto (tgt := 4) hx hb dX10_waiting_25 (by decide) ?_
    refine lv_iload_n hx hb dX10_waiting_4 rfl (lv_at hl 0 rfl) ?_
    refine lv_iconst (v := 4) hx hb dX10_waiting_5 (by decide) ?_
    refine lv_icmp_ge (tgt := 28) hx hb dX10_waiting_6 (by decide) (fun c_2 => ?_) (fun c_2 => ?_)
    · exact absurd c_2 (by decide)
    · skip
      refine lv_iload_n hx hb dX10_waiting_9 rfl (lv_at hl 1 rfl) ?_
      refine lv_aload_n hx hb dX10_waiting_10 rfl (lv_at hl 2 rfl) ?_
      refine lv_bipush (v := 27) hx hb dX10_waiting_11 (by decide) ?_
      refine lv_iconst (v := 3) hx hb dX10_waiting_13 (by decide) ?_
      refine lv_iload_n hx hb dX10_waiting_14 rfl (lv_at hl 0 rfl) ?_
      refine k_imul (v := 3) hx hb dX10_waiting_15 (by decide) ?_
      refine k_iadd (v := 30) hx hb dX10_waiting_16 (by decide) ?_
      refine lv_iconst (v := 1) hx hb dX10_waiting_17 (by decide) ?_
      refine k_iadd (v := 31) hx hb dX10_waiting_18 (by decide) ?_
      refine k_iald hx hb hK hP 0 rfl 31 rfl (by decide) (Nat.le_of_ble_eq_true rfl) (v := r 31) rfl dX10_waiting_19 ?_
      refine k_iadd (v := ((0 + (r 28)) + (r 31))) hx hb dX10_waiting_20 rfl ?_
      refine lv_istore_n (lv' := [(1, .int ((0 + (r 28)) + (r 31))), (2, .int 1), (0, .ref q)]) hx hb dX10_waiting_21 rfl hl (by decide) rfl (fun ls hl => ?_)
      refine lv_iinc (v := 2) (lv' := [(2, .int 2), (1, .int ((0 + (r 28)) + (r 31))), (0, .ref q)]) hx hb dX10_waiting_22 hl (k := 1) rfl (by decide) (by decide) rfl (fun ls hl => ?_)
      refine lv_goto (tgt := 4) hx hb dX10_waiting_25 (by decide) ?_
      refine lv_iload_n hx hb dX10_waiting_4 rfl (lv_at hl 0 rfl) ?_
      refine lv_iconst (v := 4) hx hb dX10_waiting_5 (by decide) ?_
      refine lv_icmp_ge (tgt := 28) hx hb dX10_waiting_6 (by decide) (fun c_3 => ?_) (fun c_3 => ?_)
      · exact absurd c_3 (by decide)
      · skip
        refine lv_iload_n hx hb dX10_waiting_9 rfl (lv_at hl 1 rfl) ?_
        refine lv_aload_n hx hb dX10_waiting_10 rfl (lv_at hl 2 rfl) ?_
        refine lv_bipush (v := 27) hx hb dX10_waiting_11 (by decide) ?_
        refine lv_iconst (v := 3) hx hb dX10_waiting_13 (by decide) ?_
        refine lv_iload_n hx hb dX10_waiting_14 rfl (lv_at hl 0 rfl) ?_
        refine k_imul (v := 6) hx hb dX10_waiting_15 (by decide) ?_
        refine k_iadd (v := 33) hx hb dX10_waiting_16 (by decide) ?_
        refine lv_iconst (v := 1) hx hb dX10_waiting_17 (by decide) ?_
        refine k_iadd (v := 34) hx hb dX10_waiting_18 (by decide) ?_
        refine k_iald hx hb hK hP 0 rfl 34 rfl (by decide) (Nat.le_of_ble_eq_true rfl) (v := r 34) rfl dX10_waiting_19 ?_
        refine k_iadd (v := (((0 + (r 28)) + (r 31)) + (r 34))) hx hb dX10_waiting_20 rfl ?_
        refine lv_istore_n (lv' := [(1, .int (((0 + (r 28)) + (r 31)) + (r 34))), (2, .int 2), (0, .ref q)]) hx hb dX10_waiting_21 rfl hl (by decide) rfl (fun ls hl => ?_)
        refine lv_iinc (v := 3) (lv' := [(2, .int 3), (1, .int (((0 + (r 28)) + (r 31)) + (r 34))), (0, .ref q)]) hx hb dX10_waiting_22 hl (k := 1) rfl (by decide) (by decide) rfl (fun ls hl => ?_)
        refine lv_goto (tgt := 4) hx hb dX10_waiting_25 (by decide) ?_
        refine lv_iload_n hx hb dX10_waiting_4 rfl (lv_at hl 0 rfl) ?_
        refine lv_iconst (v := 4) hx hb dX10_waiting_5 (by decide) ?_
        refine lv_icmp_ge (tgt := 28) hx hb dX10_waiting_6 (by decide) (fun c_4 => ?_) (fun c_4 => ?_)
        · exact absurd c_4 (by decide)
        · skip
          refine lv_iload_n hx hb dX10_waiting_9 rfl (lv_at hl 1 rfl) ?_
          refine lv_aload_n hx hb dX10_waiting_10 rfl (lv_at hl 2 rfl) ?_
          refine lv_bipush (v := 27) hx hb dX10_waiting_11 (by decide) ?_
          refine lv_iconst (v := 3) hx hb dX10_waiting_13 (by decide) ?_
          refine lv_iload_n hx hb dX10_waiting_14 rfl (lv_at hl 0 rfl) ?_
          refine k_imul (v := 9) hx hb dX10_waiting_15 (by decide) ?_
          refine k_iadd (v := 36) hx hb dX10_waiting_16 (by decide) ?_
          refine lv_iconst (v := 1) hx hb dX10_waiting_17 (by decide) ?_
          refine k_iadd (v := 37) hx hb dX10_waiting_18 (by decide) ?_
          refine k_iald hx hb hK hP 0 rfl 37 rfl (by decide) (Nat.le_of_ble_eq_true rfl) (v := r 37) rfl dX10_waiting_19 ?_
          refine k_iadd (v := ((((0 + (r 28)) + (r 31)) + (r 34)) + (r 37))) hx hb dX10_waiting_20 rfl ?_
          refine lv_istore_n (lv' := [(1, .int ((((0 + (r 28)) + (r 31)) + (r 34)) + (r 37))), (2, .int 3), (0, .ref q)]) hx hb dX10_waiting_21 rfl hl (by decide) rfl (fun ls hl => ?_)
          refine lv_iinc (v := 4) (lv' := [(2, .int 4), (1, .int ((((0 + (r 28)) + (r 31)) + (r 34)) + (r 37))), (0, .ref q)]) hx hb dX10_waiting_22 hl (k := 1) rfl (by decide) (by decide) rfl (fun ls hl => ?_)
          refine lv_goto (tgt := 4) hx hb dX10_waiting_25 (by decide) ?_
          refine lv_iload_n hx hb dX10_waiting_4 rfl (lv_at hl 0 rfl) ?_
          refine lv_iconst (v := 4) hx hb dX10_waiting_5 (by decide) ?_
          refine lv_icmp_ge (tgt := 28) hx hb dX10_waiting_6 (by decide) (fun c_5 => ?_) (fun c_5 => ?_)
          · skip
            refine lv_iload_n hx hb dX10_waiting_28 rfl (lv_at hl 1 rfl) ?_
            have hP : va_P D vwCl (fl [[ia ty q 57 r]]) s.heap := hP
            have hD : va_D A (fl [[ia ty q 57 r]]) := hD
            exact end_i (bs' := (fun (_ : Unit) => [[ia ty q 57 r]])) () hx hb hr hlocks hP hD hS rfl (Nat.le_of_ble_eq_true rfl) (Nat.le_of_ble_eq_true rfl) dX10_waiting_29
          · exact absurd (by decide) c_5
set_option maxHeartbeats 4000000 in
set_option maxRecDepth 100000 in
theorem c_X10_setAlarmOn (l : Launch) (D : va_G) (ty : Nat → ClassId) (q i : Nat) (v : Int32) (r : Nat → Int32) (hi : i < 4) : CTv l yX10_setAlarmOn wsX10_setAlarmOn ({ frames := 0, cells := 0, slots := 0, locals := 0 }) D ty [.ref q, .int (nI i), .int v] [[ia ty q 57 r]] (fun (_ : Unit) => True) (fun (_ : Unit) => [[ia ty q 57 (psetAl i v r)]]) := by
  refine CTv_of cX10_setAlarmOn 3 none (by decide) rfl (Nat.le_of_ble_eq_true rfl) ?_
  intro p e s m args below meth c A hx hb hr hml hown hlocks hin hts hA hX hK hP hD ls hl
  have hown : s.vm.findClass RX10 = some m.cls := hown
  have hS : va_S A s.heap s.heap [] := va_S.rf
  have hl : lv_has ls 3 [(0, .ref q), (1, .int (nI i)), (2, .int v)] := hl
  refine lv_aload_n hx hb dX10_setAlarmOn_0 rfl (lv_at hl 0 rfl) ?_
  refine lv_bipush (v := 27) hx hb dX10_setAlarmOn_1 (by decide) ?_
  refine lv_iconst (v := 3) hx hb dX10_setAlarmOn_3 (by decide) ?_
  refine lv_iload_n hx hb dX10_setAlarmOn_4 rfl (lv_at hl 1 rfl) ?_
  refine k_imul (v := (nI (3 * i))) hx hb dX10_setAlarmOn_5 ((nI_mul (3) (i)).trans (congrArg nI (by omega))) ?_
  refine k_iadd (v := (nI (27 + 3 * i))) hx hb dX10_setAlarmOn_6 ((nI_add (27) (3 * i)).trans (congrArg nI (by omega))) ?_
  refine lv_iload_n hx hb dX10_setAlarmOn_7 rfl (lv_at hl 2 rfl) ?_
  refine lv_sipush (v := 1440) hx hb dX10_setAlarmOn_8 (by decide) ?_
  refine lv_icmp_ne (tgt := 19) hx hb dX10_setAlarmOn_11 (by decide) (fun c_1 => ?_) (fun c_1 => ?_)
  · skip
    refine lv_iload_n hx hb dX10_setAlarmOn_19 rfl (lv_at hl 2 rfl) ?_
    refine k_iast hx hb hK hP hD hS 0 rfl (27 + 3 * i) rfl (by omega) (Nat.le_of_ble_eq_true rfl) dX10_setAlarmOn_20 (fun H locs hP hD hS => ?_)
    have hP : va_P D vwCl (fl [[ia ty q 57 (upd r (27 + 3 * i) v)]]) H := hP
    have hD : va_D A (fl [[ia ty q 57 (upd r (27 + 3 * i) v)]]) := hD
    refine lv_aload_n hx hb dX10_setAlarmOn_21 rfl (lv_at hl 0 rfl) ?_
    refine lv_bipush (v := 27) hx hb dX10_setAlarmOn_22 (by decide) ?_
    refine lv_iconst (v := 3) hx hb dX10_setAlarmOn_24 (by decide) ?_
    refine lv_iload_n hx hb dX10_setAlarmOn_25 rfl (lv_at hl 1 rfl) ?_
    refine k_imul (v := (nI (3 * i))) hx hb dX10_setAlarmOn_26 ((nI_mul (3) (i)).trans (congrArg nI (by omega))) ?_
    refine k_iadd (v := (nI (27 + 3 * i))) hx hb dX10_setAlarmOn_27 ((nI_add (27) (3 * i)).trans (congrArg nI (by omega))) ?_
    refine lv_iconst (v := 1) hx hb dX10_setAlarmOn_28 (by decide) ?_
    refine k_iadd (v := (nI (28 + 3 * i))) hx hb dX10_setAlarmOn_29 ((nI_add (27 + 3 * i) (1)).trans (congrArg nI (by omega))) ?_
    refine lv_iconst (v := 0) hx hb dX10_setAlarmOn_30 (by decide) ?_
    refine k_iast hx hb hK hP hD hS 0 rfl (28 + 3 * i) rfl (by omega) (Nat.le_of_ble_eq_true rfl) dX10_setAlarmOn_31 (fun H locs hP hD hS => ?_)
    have hP : va_P D vwCl (fl [[ia ty q 57 (upd (upd r (27 + 3 * i) v) (28 + 3 * i) 0)]]) H := hP
    have hD : va_D A (fl [[ia ty q 57 (upd (upd r (27 + 3 * i) v) (28 + 3 * i) 0)]]) := hD
    have hP : va_P D vwCl (fl [[ia ty q 57 (psetAl i v r)]]) H := by rw [psetAl, if_neg c_1]; exact hP
    have hD : va_D A (fl [[ia ty q 57 (psetAl i v r)]]) := (D_same2 hD [q] rfl rfl)
    exact end_v (bs' := (fun (_ : Unit) => [[ia ty q 57 (psetAl i v r)]])) () hx hb hr hlocks hP hD hS trivial (Nat.le_of_ble_eq_true rfl) (Nat.le_of_ble_eq_true rfl) dX10_setAlarmOn_32
  · skip
    refine lv_ldc hx hb hown (hts (Cond.constant RX10 53 (-99999999)) (List.mem_of_getElem? (i := 1) rfl)) dX10_setAlarmOn_14 ?_
    refine lv_goto (tgt := 20) hx hb dX10_setAlarmOn_16 (by decide) ?_
    refine k_iast hx hb hK hP hD hS 0 rfl (27 + 3 * i) rfl (by omega) (Nat.le_of_ble_eq_true rfl) dX10_setAlarmOn_20 (fun H locs hP hD hS => ?_)
    have hP : va_P D vwCl (fl [[ia ty q 57 (upd r (27 + 3 * i) (-99999999))]]) H := hP
    have hD : va_D A (fl [[ia ty q 57 (upd r (27 + 3 * i) (-99999999))]]) := hD
    refine lv_aload_n hx hb dX10_setAlarmOn_21 rfl (lv_at hl 0 rfl) ?_
    refine lv_bipush (v := 27) hx hb dX10_setAlarmOn_22 (by decide) ?_
    refine lv_iconst (v := 3) hx hb dX10_setAlarmOn_24 (by decide) ?_
    refine lv_iload_n hx hb dX10_setAlarmOn_25 rfl (lv_at hl 1 rfl) ?_
    refine k_imul (v := (nI (3 * i))) hx hb dX10_setAlarmOn_26 ((nI_mul (3) (i)).trans (congrArg nI (by omega))) ?_
    refine k_iadd (v := (nI (27 + 3 * i))) hx hb dX10_setAlarmOn_27 ((nI_add (27) (3 * i)).trans (congrArg nI (by omega))) ?_
    refine lv_iconst (v := 1) hx hb dX10_setAlarmOn_28 (by decide) ?_
    refine k_iadd (v := (nI (28 + 3 * i))) hx hb dX10_setAlarmOn_29 ((nI_add (27 + 3 * i) (1)).trans (congrArg nI (by omega))) ?_
    refine lv_iconst (v := 0) hx hb dX10_setAlarmOn_30 (by decide) ?_
    refine k_iast hx hb hK hP hD hS 0 rfl (28 + 3 * i) rfl (by omega) (Nat.le_of_ble_eq_true rfl) dX10_setAlarmOn_31 (fun H locs hP hD hS => ?_)
    have hP : va_P D vwCl (fl [[ia ty q 57 (upd (upd r (27 + 3 * i) (-99999999)) (28 + 3 * i) 0)]]) H := hP
    have hD : va_D A (fl [[ia ty q 57 (upd (upd r (27 + 3 * i) (-99999999)) (28 + 3 * i) 0)]]) := hD
    have hP : va_P D vwCl (fl [[ia ty q 57 (psetAl i v r)]]) H := by rw [psetAl, if_pos c_1]; exact hP
    have hD : va_D A (fl [[ia ty q 57 (psetAl i v r)]]) := (D_same2 hD [q] rfl rfl)
    exact end_v (bs' := (fun (_ : Unit) => [[ia ty q 57 (psetAl i v r)]])) () hx hb hr hlocks hP hD hS trivial (Nat.le_of_ble_eq_true rfl) (Nat.le_of_ble_eq_true rfl) dX10_setAlarmOn_32
set_option maxHeartbeats 4000000 in
set_option maxRecDepth 100000 in
theorem c_X10_size (l : Launch) (D : va_G) (ty : Nat → ClassId) (v : Int32) : CTi l yX10_size wsX10_size ({ frames := 0, cells := 0, slots := 0, locals := 0 }) D ty [.int v] [] (fun (RET : Int32) (_ : Unit) => RET = (if v < 0 then -v else v)) (fun (_ : Unit) => []) := by
  refine CTi_of cX10_size 1 (some .int) (by decide) rfl (Nat.le_of_ble_eq_true rfl) ?_
  intro p e s m args below meth c A hx hb hr hml hown hlocks hin hts hA hX hK hP hD ls hl
  have hown : s.vm.findClass RX10 = some m.cls := hown
  have hS : va_S A s.heap s.heap [] := va_S.rf
  have hl : lv_has ls 1 [(0, .int v)] := hl
  refine lv_iload_n hx hb dX10_size_0 rfl (lv_at hl 0 rfl) ?_
  refine lv_if_ge (tgt := 9) hx hb dX10_size_1 (by decide) (fun c_1 => ?_) (fun c_1 => ?_)
  · skip
    refine lv_iload_n hx hb dX10_size_9 rfl (lv_at hl 0 rfl) ?_
    have hP : va_P D vwCl (fl []) s.heap := hP
    have hD : va_D A (fl []) := hD
    exact end_i (bs' := (fun (_ : Unit) => [])) () hx hb hr hlocks hP hD hS (by have hc := c_1; simp only [ge_iff_le, fa_le] at hc; rw [if_neg (by rw [fa_lt]; omega)]) (Nat.le_of_ble_eq_true rfl) (Nat.le_of_ble_eq_true rfl) dX10_size_10
  · skip
    refine lv_iload_n hx hb dX10_size_4 rfl (lv_at hl 0 rfl) ?_
    refine k_ineg (v := (-v)) hx hb dX10_size_5 rfl ?_
    refine lv_goto (tgt := 10) hx hb dX10_size_6 (by decide) ?_
    have hP : va_P D vwCl (fl []) s.heap := hP
    have hD : va_D A (fl []) := hD
    exact end_i (bs' := (fun (_ : Unit) => [])) () hx hb hr hlocks hP hD hS (by have hc := c_1; simp only [ge_iff_le, fa_le] at hc; rw [if_pos (by rw [fa_lt]; omega)]) (Nat.le_of_ble_eq_true rfl) (Nat.le_of_ble_eq_true rfl) dX10_size_10
