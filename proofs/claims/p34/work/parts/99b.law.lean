set_option maxHeartbeats 8000000 in
set_option maxRecDepth 100000 in
theorem k_digits1000 (l : Launch) (D : va_G) (ty : Nat → ClassId) (n9 : Nat) (aC : CA) (tC : CTx) (pC : CPg) (hC : CHs) (kC : CKs) (sC : CSc) (aE : CA) (tE : CTx) (pE : CPg) (hE : CHs) (kE : CKs) (sE : CSc) (hst : l.stackTraces = false) (hn9 : n9 < 10000) (hl1 : tC.1 + 4 ≤ 60) (hl2 : tE.1 + 4 ≤ 60) : CTi l yL_digits wsL_digits ({ frames := 10, cells := 16, slots := 96, locals := 169 }) D ty [.ref (aC.1 0), .ref (aE.1 0), .int (nI n9), .int 1000] [(CLK ty aC tC pC hC kC sC), (CLK ty aE tE pE hE kE sE)] (fun (RET : Int32) (_ : Unit) => RET = 1) (fun (_ : Unit) => [(CLK ty aC (((((tC.1 + 1) + 1) + 1) + 1), (upd (upd (upd (upd tC.2 tC.1 (nI (48 + n9 / 1000 % 10))) (tC.1 + 1) (nI (48 + n9 / 100 % 10))) ((tC.1 + 1) + 1) (nI (48 + n9 / 10 % 10))) (((tC.1 + 1) + 1) + 1) (nI (48 + n9 / 1 % 10)))) pC hC kC sC), (CLK ty aE (((((tE.1 + 1) + 1) + 1) + 1), (upd (upd (upd (upd tE.2 tE.1 (nI (48 + n9 / 1000 % 10))) (tE.1 + 1) (nI (48 + n9 / 100 % 10))) ((tE.1 + 1) + 1) (nI (48 + n9 / 10 % 10))) (((tE.1 + 1) + 1) + 1) (nI (48 + n9 / 1 % 10)))) pE hE kE sE)]) := by
  refine CTi_of cL_digits 6 (some .boolean) (by decide) rfl (Nat.le_of_ble_eq_true rfl) ?_
  intro p e s m args below meth c A hx hb hr hml hown hlocks hin hts hA hX hK hP hD ls hl
  have hown : s.vm.findClass RL = some m.cls := hown
  have hS : va_S A s.heap s.heap [] := va_S.rf
  have hl : lv_has ls 6 [(0, .ref (aC.1 0)), (1, .ref (aE.1 0)), (2, .int (nI n9)), (3, .int 1000)] := hl
  generalize hQg : MQ below (va_Qi (fun (RET : Int32) (_ : Unit) => RET = 1) (PostW D (fun (_ : Unit) => [(CLK ty aC (((((tC.1 + 1) + 1) + 1) + 1), (upd (upd (upd (upd tC.2 tC.1 (nI (48 + n9 / 1000 % 10))) (tC.1 + 1) (nI (48 + n9 / 100 % 10))) ((tC.1 + 1) + 1) (nI (48 + n9 / 10 % 10))) (((tC.1 + 1) + 1) + 1) (nI (48 + n9 / 1 % 10)))) pC hC kC sC), (CLK ty aE (((((tE.1 + 1) + 1) + 1) + 1), (upd (upd (upd (upd tE.2 tE.1 (nI (48 + n9 / 1000 % 10))) (tE.1 + 1) (nI (48 + n9 / 100 % 10))) ((tE.1 + 1) + 1) (nI (48 + n9 / 10 % 10))) (((tE.1 + 1) + 1) + 1) (nI (48 + n9 / 1 % 10)))) pE hE kE sE)]) A) A) args s 16 96 A = Qg
  refine lv_iconst (v := 1) hx hb dL_digits_0 (by decide) ?_
  refine lv_istore (lv' := [(4, .int 1), (0, .ref (aC.1 0)), (1, .ref (aE.1 0)), (2, .int (nI n9)), (3, .int 1000)]) hx hb dL_digits_1 hl (by decide) rfl (fun ls hl => ?_)
  refine lv_iload_n hx hb dL_digits_3 rfl (lv_at hl 4 rfl) ?_
  refine lv_istore (lv' := [(5, .int 1000), (4, .int 1), (0, .ref (aC.1 0)), (1, .ref (aE.1 0)), (2, .int (nI n9)), (3, .int 1000)]) hx hb dL_digits_4 hl (by decide) rfl (fun ls hl => ?_)
  refine lv_iload hx hb dL_digits_6 (lv_at hl 0 rfl) ?_
  refine lv_if_le (tgt := 51) hx hb dL_digits_8 (by decide) (fun c_1 => ?_) (fun c_1 => ?_)
  · exact absurd c_1 (by decide)
  · skip
    refine lv_iload hx hb dL_digits_11 (lv_at hl 1 rfl) ?_
    refine lv_if_eq (tgt := 38) hx hb dL_digits_13 (by decide) (fun c_2 => ?_) (fun c_2 => ?_)
    · exact absurd c_2 (by decide)
    · skip
      refine lv_aload_n hx hb dL_digits_16 rfl (lv_at hl 2 rfl) ?_
      refine lv_aload_n hx hb dL_digits_17 rfl (lv_at hl 3 rfl) ?_
      refine lv_bipush (v := 48) hx hb dL_digits_18 (by decide) ?_
      refine lv_iload_n hx hb dL_digits_20 rfl (lv_at hl 4 rfl) ?_
      refine lv_iload hx hb dL_digits_21 (lv_at hl 0 rfl) ?_
      refine k_idiv (v := (nI (n9 / 1000))) hx hb dL_digits_23 (by decide) (pk_div (a := n9) (d := 1000) (by omega) (by decide) (by decide)) ?_
      refine lv_bipush (v := 10) hx hb dL_digits_24 (by decide) ?_
      refine k_irem (v := (nI (n9 / 1000 % 10))) hx hb dL_digits_26 (by decide) (pk_rem (a := n9 / 1000) (d := 10) (by omega) (by decide) (by decide)) ?_
      refine k_iadd (v := (nI (48 + (n9 / 1000 % 10)))) hx hb dL_digits_27 (nI_add 48 (n9 / 1000 % 10)) ?_
      refine cSi (As := [.ref (aC.1 0), .ref (aE.1 0), .int (nI (48 + (n9 / 1000 % 10)))]) (rest := []) ⟨hx, hb, hml, hown, hts⟩ (k_put l D ty (nI (48 + (n9 / 1000 % 10))) aC tC pC hC kC sC aE tE pE hE kE sE hst ((inR0 (n := 48 + (n9 / 1000 % 10)) (h := 255) (by omega) (by decide))) ((by omega)) ((by omega))) (va_cwS 3 hts gL_digits_L_put rfl rfl rfl (by decide +kernel) ⟨Nat.le_of_ble_eq_true rfl, Nat.le_of_ble_eq_true rfl⟩) hK hX hP hD hS hA (pk (bs := [(CLK ty aC tC pC hC kC sC), (CLK ty aE tE pE hE kE sE)]) (bsc := [(CLK ty aC tC pC hC kC sC), (CLK ty aE tE pE hE kE sE)]) (bsr := []) [0, 1] [] 2 rfl (by decide +kernel) rfl rfl) rfl hl.1 rfl (Nat.le_of_ble_eq_true rfl) dL_digits_28 ⟨Nat.le_of_ble_eq_true rfl, Nat.le_of_ble_eq_true rfl⟩ (fun r_4 u_3 h_5 H locs hP hD hS => ?_)
      have h_r_4 : r_4 = 1 := h_5
      subst h_r_4
      have hP : va_P D vwCl (fl [(CLK ty aC ((tC.1 + 1), (upd tC.2 tC.1 (nI (48 + (n9 / 1000 % 10))))) pC hC kC sC), (CLK ty aE ((tE.1 + 1), (upd tE.2 tE.1 (nI (48 + (n9 / 1000 % 10))))) pE hE kE sE)]) H := hP
      have hD : va_D A (fl [(CLK ty aC ((tC.1 + 1), (upd tC.2 tC.1 (nI (48 + (n9 / 1000 % 10))))) pC hC kC sC), (CLK ty aE ((tE.1 + 1), (upd tE.2 tE.1 (nI (48 + (n9 / 1000 % 10))))) pE hE kE sE)]) := hD
      refine lv_if_eq (tgt := 38) hx hb dL_digits_31 (by decide) (fun c_6 => ?_) (fun c_6 => ?_)
      · exact absurd c_6 (by decide)
      · skip
        refine lv_iconst (v := 1) hx hb dL_digits_34 (by decide) ?_
        refine lv_goto (tgt := 39) hx hb dL_digits_35 (by decide) ?_
        refine lv_istore (lv' := [(4, .int 1), (5, .int 1000), (0, .ref (aC.1 0)), (1, .ref (aE.1 0)), (2, .int (nI n9)), (3, .int 1000)]) hx hb dL_digits_39 hl (by decide) rfl (fun ls hl => ?_)
        refine lv_iload hx hb dL_digits_41 (lv_at hl 1 rfl) ?_
        refine lv_bipush (v := 10) hx hb dL_digits_43 (by decide) ?_
        refine k_idiv (v := 100) hx hb dL_digits_45 (by decide) (by decide) ?_
        refine lv_istore (lv' := [(5, .int 100), (4, .int 1), (0, .ref (aC.1 0)), (1, .ref (aE.1 0)), (2, .int (nI n9)), (3, .int 1000)]) hx hb dL_digits_46 hl (by decide) rfl (fun ls hl => ?_)
        refine lv_goto (tgt := 6) hx hb dL_digits_48 (by decide) ?_
        refine lv_iload hx hb dL_digits_6 (lv_at hl 0 rfl) ?_
        refine lv_if_le (tgt := 51) hx hb dL_digits_8 (by decide) (fun c_7 => ?_) (fun c_7 => ?_)
        · exact absurd c_7 (by decide)
        · skip
          refine lv_iload hx hb dL_digits_11 (lv_at hl 1 rfl) ?_
          refine lv_if_eq (tgt := 38) hx hb dL_digits_13 (by decide) (fun c_8 => ?_) (fun c_8 => ?_)
          · exact absurd c_8 (by decide)
          · skip
            refine lv_aload_n hx hb dL_digits_16 rfl (lv_at hl 2 rfl) ?_
            refine lv_aload_n hx hb dL_digits_17 rfl (lv_at hl 3 rfl) ?_
            refine lv_bipush (v := 48) hx hb dL_digits_18 (by decide) ?_
            refine lv_iload_n hx hb dL_digits_20 rfl (lv_at hl 4 rfl) ?_
            refine lv_iload hx hb dL_digits_21 (lv_at hl 0 rfl) ?_
            refine k_idiv (v := (nI (n9 / 100))) hx hb dL_digits_23 (by decide) (pk_div (a := n9) (d := 100) (by omega) (by decide) (by decide)) ?_
            refine lv_bipush (v := 10) hx hb dL_digits_24 (by decide) ?_
            refine k_irem (v := (nI (n9 / 100 % 10))) hx hb dL_digits_26 (by decide) (pk_rem (a := n9 / 100) (d := 10) (by omega) (by decide) (by decide)) ?_
            refine k_iadd (v := (nI (48 + (n9 / 100 % 10)))) hx hb dL_digits_27 (nI_add 48 (n9 / 100 % 10)) ?_
            refine cSi (As := [.ref (aC.1 0), .ref (aE.1 0), .int (nI (48 + (n9 / 100 % 10)))]) (rest := []) ⟨hx, hb, hml, hown, hts⟩ (k_put l D ty (nI (48 + (n9 / 100 % 10))) aC ((tC.1 + 1), (upd tC.2 tC.1 (nI (48 + (n9 / 1000 % 10))))) pC hC kC sC aE ((tE.1 + 1), (upd tE.2 tE.1 (nI (48 + (n9 / 1000 % 10))))) pE hE kE sE hst ((inR0 (n := 48 + (n9 / 100 % 10)) (h := 255) (by omega) (by decide))) ((by omega)) ((by omega))) (va_cwS 3 hts gL_digits_L_put rfl rfl rfl (by decide +kernel) ⟨Nat.le_of_ble_eq_true rfl, Nat.le_of_ble_eq_true rfl⟩) hK hX hP hD hS hA (pk (bs := [(CLK ty aC ((tC.1 + 1), (upd tC.2 tC.1 (nI (48 + (n9 / 1000 % 10))))) pC hC kC sC), (CLK ty aE ((tE.1 + 1), (upd tE.2 tE.1 (nI (48 + (n9 / 1000 % 10))))) pE hE kE sE)]) (bsc := [(CLK ty aC ((tC.1 + 1), (upd tC.2 tC.1 (nI (48 + (n9 / 1000 % 10))))) pC hC kC sC), (CLK ty aE ((tE.1 + 1), (upd tE.2 tE.1 (nI (48 + (n9 / 1000 % 10))))) pE hE kE sE)]) (bsr := []) [0, 1] [] 2 rfl (by decide +kernel) rfl rfl) rfl hl.1 rfl (Nat.le_of_ble_eq_true rfl) dL_digits_28 ⟨Nat.le_of_ble_eq_true rfl, Nat.le_of_ble_eq_true rfl⟩ (fun r_10 u_9 h_11 H locs hP hD hS => ?_)
            have h_r_10 : r_10 = 1 := h_11
            subst h_r_10
            have hP : va_P D vwCl (fl [(CLK ty aC (((tC.1 + 1) + 1), (upd (upd tC.2 tC.1 (nI (48 + (n9 / 1000 % 10)))) (tC.1 + 1) (nI (48 + (n9 / 100 % 10))))) pC hC kC sC), (CLK ty aE (((tE.1 + 1) + 1), (upd (upd tE.2 tE.1 (nI (48 + (n9 / 1000 % 10)))) (tE.1 + 1) (nI (48 + (n9 / 100 % 10))))) pE hE kE sE)]) H := hP
            have hD : va_D A (fl [(CLK ty aC (((tC.1 + 1) + 1), (upd (upd tC.2 tC.1 (nI (48 + (n9 / 1000 % 10)))) (tC.1 + 1) (nI (48 + (n9 / 100 % 10))))) pC hC kC sC), (CLK ty aE (((tE.1 + 1) + 1), (upd (upd tE.2 tE.1 (nI (48 + (n9 / 1000 % 10)))) (tE.1 + 1) (nI (48 + (n9 / 100 % 10))))) pE hE kE sE)]) := hD
            refine lv_if_eq (tgt := 38) hx hb dL_digits_31 (by decide) (fun c_12 => ?_) (fun c_12 => ?_)
            · exact absurd c_12 (by decide)
            · skip
              refine lv_iconst (v := 1) hx hb dL_digits_34 (by decide) ?_
              refine lv_goto (tgt := 39) hx hb dL_digits_35 (by decide) ?_
              refine lv_istore (lv' := [(4, .int 1), (5, .int 100), (0, .ref (aC.1 0)), (1, .ref (aE.1 0)), (2, .int (nI n9)), (3, .int 1000)]) hx hb dL_digits_39 hl (by decide) rfl (fun ls hl => ?_)
              refine lv_iload hx hb dL_digits_41 (lv_at hl 1 rfl) ?_
              refine lv_bipush (v := 10) hx hb dL_digits_43 (by decide) ?_
              refine k_idiv (v := 10) hx hb dL_digits_45 (by decide) (by decide) ?_
              refine lv_istore (lv' := [(5, .int 10), (4, .int 1), (0, .ref (aC.1 0)), (1, .ref (aE.1 0)), (2, .int (nI n9)), (3, .int 1000)]) hx hb dL_digits_46 hl (by decide) rfl (fun ls hl => ?_)
              refine lv_goto (tgt := 6) hx hb dL_digits_48 (by decide) ?_
              refine lv_iload hx hb dL_digits_6 (lv_at hl 0 rfl) ?_
              refine lv_if_le (tgt := 51) hx hb dL_digits_8 (by decide) (fun c_13 => ?_) (fun c_13 => ?_)
              · exact absurd c_13 (by decide)
              · skip
                refine lv_iload hx hb dL_digits_11 (lv_at hl 1 rfl) ?_
                refine lv_if_eq (tgt := 38) hx hb dL_digits_13 (by decide) (fun c_14 => ?_) (fun c_14 => ?_)
                · exact absurd c_14 (by decide)
                · skip
                  refine lv_aload_n hx hb dL_digits_16 rfl (lv_at hl 2 rfl) ?_
                  refine lv_aload_n hx hb dL_digits_17 rfl (lv_at hl 3 rfl) ?_
                  refine lv_bipush (v := 48) hx hb dL_digits_18 (by decide) ?_
                  refine lv_iload_n hx hb dL_digits_20 rfl (lv_at hl 4 rfl) ?_
                  refine lv_iload hx hb dL_digits_21 (lv_at hl 0 rfl) ?_
                  refine k_idiv (v := (nI (n9 / 10))) hx hb dL_digits_23 (by decide) (pk_div (a := n9) (d := 10) (by omega) (by decide) (by decide)) ?_
                  refine lv_bipush (v := 10) hx hb dL_digits_24 (by decide) ?_
                  refine k_irem (v := (nI (n9 / 10 % 10))) hx hb dL_digits_26 (by decide) (pk_rem (a := n9 / 10) (d := 10) (by omega) (by decide) (by decide)) ?_
                  refine k_iadd (v := (nI (48 + (n9 / 10 % 10)))) hx hb dL_digits_27 (nI_add 48 (n9 / 10 % 10)) ?_
                  refine cSi (As := [.ref (aC.1 0), .ref (aE.1 0), .int (nI (48 + (n9 / 10 % 10)))]) (rest := []) ⟨hx, hb, hml, hown, hts⟩ (k_put l D ty (nI (48 + (n9 / 10 % 10))) aC (((tC.1 + 1) + 1), (upd (upd tC.2 tC.1 (nI (48 + (n9 / 1000 % 10)))) (tC.1 + 1) (nI (48 + (n9 / 100 % 10))))) pC hC kC sC aE (((tE.1 + 1) + 1), (upd (upd tE.2 tE.1 (nI (48 + (n9 / 1000 % 10)))) (tE.1 + 1) (nI (48 + (n9 / 100 % 10))))) pE hE kE sE hst ((inR0 (n := 48 + (n9 / 10 % 10)) (h := 255) (by omega) (by decide))) ((by omega)) ((by omega))) (va_cwS 3 hts gL_digits_L_put rfl rfl rfl (by decide +kernel) ⟨Nat.le_of_ble_eq_true rfl, Nat.le_of_ble_eq_true rfl⟩) hK hX hP hD hS hA (pk (bs := [(CLK ty aC (((tC.1 + 1) + 1), (upd (upd tC.2 tC.1 (nI (48 + (n9 / 1000 % 10)))) (tC.1 + 1) (nI (48 + (n9 / 100 % 10))))) pC hC kC sC), (CLK ty aE (((tE.1 + 1) + 1), (upd (upd tE.2 tE.1 (nI (48 + (n9 / 1000 % 10)))) (tE.1 + 1) (nI (48 + (n9 / 100 % 10))))) pE hE kE sE)]) (bsc := [(CLK ty aC (((tC.1 + 1) + 1), (upd (upd tC.2 tC.1 (nI (48 + (n9 / 1000 % 10)))) (tC.1 + 1) (nI (48 + (n9 / 100 % 10))))) pC hC kC sC), (CLK ty aE (((tE.1 + 1) + 1), (upd (upd tE.2 tE.1 (nI (48 + (n9 / 1000 % 10)))) (tE.1 + 1) (nI (48 + (n9 / 100 % 10))))) pE hE kE sE)]) (bsr := []) [0, 1] [] 2 rfl (by decide +kernel) rfl rfl) rfl hl.1 rfl (Nat.le_of_ble_eq_true rfl) dL_digits_28 ⟨Nat.le_of_ble_eq_true rfl, Nat.le_of_ble_eq_true rfl⟩ (fun r_16 u_15 h_17 H locs hP hD hS => ?_)
                  have h_r_16 : r_16 = 1 := h_17
                  subst h_r_16
                  have hP : va_P D vwCl (fl [(CLK ty aC ((((tC.1 + 1) + 1) + 1), (upd (upd (upd tC.2 tC.1 (nI (48 + (n9 / 1000 % 10)))) (tC.1 + 1) (nI (48 + (n9 / 100 % 10)))) ((tC.1 + 1) + 1) (nI (48 + (n9 / 10 % 10))))) pC hC kC sC), (CLK ty aE ((((tE.1 + 1) + 1) + 1), (upd (upd (upd tE.2 tE.1 (nI (48 + (n9 / 1000 % 10)))) (tE.1 + 1) (nI (48 + (n9 / 100 % 10)))) ((tE.1 + 1) + 1) (nI (48 + (n9 / 10 % 10))))) pE hE kE sE)]) H := hP
                  have hD : va_D A (fl [(CLK ty aC ((((tC.1 + 1) + 1) + 1), (upd (upd (upd tC.2 tC.1 (nI (48 + (n9 / 1000 % 10)))) (tC.1 + 1) (nI (48 + (n9 / 100 % 10)))) ((tC.1 + 1) + 1) (nI (48 + (n9 / 10 % 10))))) pC hC kC sC), (CLK ty aE ((((tE.1 + 1) + 1) + 1), (upd (upd (upd tE.2 tE.1 (nI (48 + (n9 / 1000 % 10)))) (tE.1 + 1) (nI (48 + (n9 / 100 % 10)))) ((tE.1 + 1) + 1) (nI (48 + (n9 / 10 % 10))))) pE hE kE sE)]) := hD
                  refine lv_if_eq (tgt := 38) hx hb dL_digits_31 (by decide) (fun c_18 => ?_) (fun c_18 => ?_)
                  · exact absurd c_18 (by decide)
                  · skip
                    refine lv_iconst (v := 1) hx hb dL_digits_34 (by decide) ?_
                    refine lv_goto (tgt := 39) hx hb dL_digits_35 (by decide) ?_
                    refine lv_istore (lv' := [(4, .int 1), (5, .int 10), (0, .ref (aC.1 0)), (1, .ref (aE.1 0)), (2, .int (nI n9)), (3, .int 1000)]) hx hb dL_digits_39 hl (by decide) rfl (fun ls hl => ?_)
                    refine lv_iload hx hb dL_digits_41 (lv_at hl 1 rfl) ?_
                    refine lv_bipush (v := 10) hx hb dL_digits_43 (by decide) ?_
                    refine k_idiv (v := 1) hx hb dL_digits_45 (by decide) (by decide) ?_
                    refine lv_istore (lv' := [(5, .int 1), (4, .int 1), (0, .ref (aC.1 0)), (1, .ref (aE.1 0)), (2, .int (nI n9)), (3, .int 1000)]) hx hb dL_digits_46 hl (by decide) rfl (fun ls hl => ?_)
                    refine lv_goto (tgt := 6) hx hb dL_digits_48 (by decide) ?_
                    refine lv_iload hx hb dL_digits_6 (lv_at hl 0 rfl) ?_
                    refine lv_if_le (tgt := 51) hx hb dL_digits_8 (by decide) (fun c_19 => ?_) (fun c_19 => ?_)
                    · exact absurd c_19 (by decide)
                    · skip
                      refine lv_iload hx hb dL_digits_11 (lv_at hl 1 rfl) ?_
                      refine lv_if_eq (tgt := 38) hx hb dL_digits_13 (by decide) (fun c_20 => ?_) (fun c_20 => ?_)
                      · exact absurd c_20 (by decide)
                      · skip
                        refine lv_aload_n hx hb dL_digits_16 rfl (lv_at hl 2 rfl) ?_
                        refine lv_aload_n hx hb dL_digits_17 rfl (lv_at hl 3 rfl) ?_
                        refine lv_bipush (v := 48) hx hb dL_digits_18 (by decide) ?_
                        refine lv_iload_n hx hb dL_digits_20 rfl (lv_at hl 4 rfl) ?_
                        refine lv_iload hx hb dL_digits_21 (lv_at hl 0 rfl) ?_
                        refine k_idiv (v := (nI (n9 / 1))) hx hb dL_digits_23 (by decide) (pk_div (a := n9) (d := 1) (by omega) (by decide) (by decide)) ?_
                        refine lv_bipush (v := 10) hx hb dL_digits_24 (by decide) ?_
                        refine k_irem (v := (nI (n9 / 1 % 10))) hx hb dL_digits_26 (by decide) (pk_rem (a := n9 / 1) (d := 10) (by omega) (by decide) (by decide)) ?_
                        refine k_iadd (v := (nI (48 + (n9 / 1 % 10)))) hx hb dL_digits_27 (nI_add 48 (n9 / 1 % 10)) ?_
                        refine cSi (As := [.ref (aC.1 0), .ref (aE.1 0), .int (nI (48 + (n9 / 1 % 10)))]) (rest := []) ⟨hx, hb, hml, hown, hts⟩ (k_put l D ty (nI (48 + (n9 / 1 % 10))) aC ((((tC.1 + 1) + 1) + 1), (upd (upd (upd tC.2 tC.1 (nI (48 + (n9 / 1000 % 10)))) (tC.1 + 1) (nI (48 + (n9 / 100 % 10)))) ((tC.1 + 1) + 1) (nI (48 + (n9 / 10 % 10))))) pC hC kC sC aE ((((tE.1 + 1) + 1) + 1), (upd (upd (upd tE.2 tE.1 (nI (48 + (n9 / 1000 % 10)))) (tE.1 + 1) (nI (48 + (n9 / 100 % 10)))) ((tE.1 + 1) + 1) (nI (48 + (n9 / 10 % 10))))) pE hE kE sE hst ((inR0 (n := 48 + (n9 / 1 % 10)) (h := 255) (by omega) (by decide))) ((by omega)) ((by omega))) (va_cwS 3 hts gL_digits_L_put rfl rfl rfl (by decide +kernel) ⟨Nat.le_of_ble_eq_true rfl, Nat.le_of_ble_eq_true rfl⟩) hK hX hP hD hS hA (pk (bs := [(CLK ty aC ((((tC.1 + 1) + 1) + 1), (upd (upd (upd tC.2 tC.1 (nI (48 + (n9 / 1000 % 10)))) (tC.1 + 1) (nI (48 + (n9 / 100 % 10)))) ((tC.1 + 1) + 1) (nI (48 + (n9 / 10 % 10))))) pC hC kC sC), (CLK ty aE ((((tE.1 + 1) + 1) + 1), (upd (upd (upd tE.2 tE.1 (nI (48 + (n9 / 1000 % 10)))) (tE.1 + 1) (nI (48 + (n9 / 100 % 10)))) ((tE.1 + 1) + 1) (nI (48 + (n9 / 10 % 10))))) pE hE kE sE)]) (bsc := [(CLK ty aC ((((tC.1 + 1) + 1) + 1), (upd (upd (upd tC.2 tC.1 (nI (48 + (n9 / 1000 % 10)))) (tC.1 + 1) (nI (48 + (n9 / 100 % 10)))) ((tC.1 + 1) + 1) (nI (48 + (n9 / 10 % 10))))) pC hC kC sC), (CLK ty aE ((((tE.1 + 1) + 1) + 1), (upd (upd (upd tE.2 tE.1 (nI (48 + (n9 / 1000 % 10)))) (tE.1 + 1) (nI (48 + (n9 / 100 % 10)))) ((tE.1 + 1) + 1) (nI (48 + (n9 / 10 % 10))))) pE hE kE sE)]) (bsr := []) [0, 1] [] 2 rfl (by decide +kernel) rfl rfl) rfl hl.1 rfl (Nat.le_of_ble_eq_true rfl) dL_digits_28 ⟨Nat.le_of_ble_eq_true rfl, Nat.le_of_ble_eq_true rfl⟩ (fun r_22 u_21 h_23 H locs hP hD hS => ?_)
                        have h_r_22 : r_22 = 1 := h_23
                        subst h_r_22
                        have hP : va_P D vwCl (fl [(CLK ty aC (((((tC.1 + 1) + 1) + 1) + 1), (upd (upd (upd (upd tC.2 tC.1 (nI (48 + (n9 / 1000 % 10)))) (tC.1 + 1) (nI (48 + (n9 / 100 % 10)))) ((tC.1 + 1) + 1) (nI (48 + (n9 / 10 % 10)))) (((tC.1 + 1) + 1) + 1) (nI (48 + (n9 / 1 % 10))))) pC hC kC sC), (CLK ty aE (((((tE.1 + 1) + 1) + 1) + 1), (upd (upd (upd (upd tE.2 tE.1 (nI (48 + (n9 / 1000 % 10)))) (tE.1 + 1) (nI (48 + (n9 / 100 % 10)))) ((tE.1 + 1) + 1) (nI (48 + (n9 / 10 % 10)))) (((tE.1 + 1) + 1) + 1) (nI (48 + (n9 / 1 % 10))))) pE hE kE sE)]) H := hP
                        have hD : va_D A (fl [(CLK ty aC (((((tC.1 + 1) + 1) + 1) + 1), (upd (upd (upd (upd tC.2 tC.1 (nI (48 + (n9 / 1000 % 10)))) (tC.1 + 1) (nI (48 + (n9 / 100 % 10)))) ((tC.1 + 1) + 1) (nI (48 + (n9 / 10 % 10)))) (((tC.1 + 1) + 1) + 1) (nI (48 + (n9 / 1 % 10))))) pC hC kC sC), (CLK ty aE (((((tE.1 + 1) + 1) + 1) + 1), (upd (upd (upd (upd tE.2 tE.1 (nI (48 + (n9 / 1000 % 10)))) (tE.1 + 1) (nI (48 + (n9 / 100 % 10)))) ((tE.1 + 1) + 1) (nI (48 + (n9 / 10 % 10)))) (((tE.1 + 1) + 1) + 1) (nI (48 + (n9 / 1 % 10))))) pE hE kE sE)]) := hD
                        refine lv_if_eq (tgt := 38) hx hb dL_digits_31 (by decide) (fun c_24 => ?_) (fun c_24 => ?_)
                        · exact absurd c_24 (by decide)
                        · skip
                          refine lv_iconst (v := 1) hx hb dL_digits_34 (by decide) ?_
                          refine lv_goto (tgt := 39) hx hb dL_digits_35 (by decide) ?_
                          refine lv_istore (lv' := [(4, .int 1), (5, .int 1), (0, .ref (aC.1 0)), (1, .ref (aE.1 0)), (2, .int (nI n9)), (3, .int 1000)]) hx hb dL_digits_39 hl (by decide) rfl (fun ls hl => ?_)
                          refine lv_iload hx hb dL_digits_41 (lv_at hl 1 rfl) ?_
                          refine lv_bipush (v := 10) hx hb dL_digits_43 (by decide) ?_
                          refine k_idiv (v := 0) hx hb dL_digits_45 (by decide) (by decide) ?_
                          refine lv_istore (lv' := [(5, .int 0), (4, .int 1), (0, .ref (aC.1 0)), (1, .ref (aE.1 0)), (2, .int (nI n9)), (3, .int 1000)]) hx hb dL_digits_46 hl (by decide) rfl (fun ls hl => ?_)
                          refine lv_goto (tgt := 6) hx hb dL_digits_48 (by decide) ?_
                          refine lv_iload hx hb dL_digits_6 (lv_at hl 0 rfl) ?_
                          refine lv_if_le (tgt := 51) hx hb dL_digits_8 (by decide) (fun c_25 => ?_) (fun c_25 => ?_)
                          · skip
                            refine lv_iload hx hb dL_digits_51 (lv_at hl 1 rfl) ?_
                            subst hQg
                            have hP : va_P D vwCl (fl [(CLK ty aC (((((tC.1 + 1) + 1) + 1) + 1), (upd (upd (upd (upd tC.2 tC.1 (nI (48 + n9 / 1000 % 10))) (tC.1 + 1) (nI (48 + n9 / 100 % 10))) ((tC.1 + 1) + 1) (nI (48 + n9 / 10 % 10))) (((tC.1 + 1) + 1) + 1) (nI (48 + n9 / 1 % 10)))) pC hC kC sC), (CLK ty aE (((((tE.1 + 1) + 1) + 1) + 1), (upd (upd (upd (upd tE.2 tE.1 (nI (48 + n9 / 1000 % 10))) (tE.1 + 1) (nI (48 + n9 / 100 % 10))) ((tE.1 + 1) + 1) (nI (48 + n9 / 10 % 10))) (((tE.1 + 1) + 1) + 1) (nI (48 + n9 / 1 % 10)))) pE hE kE sE)]) H := hP
                            have hD : va_D A (fl [(CLK ty aC (((((tC.1 + 1) + 1) + 1) + 1), (upd (upd (upd (upd tC.2 tC.1 (nI (48 + n9 / 1000 % 10))) (tC.1 + 1) (nI (48 + n9 / 100 % 10))) ((tC.1 + 1) + 1) (nI (48 + n9 / 10 % 10))) (((tC.1 + 1) + 1) + 1) (nI (48 + n9 / 1 % 10)))) pC hC kC sC), (CLK ty aE (((((tE.1 + 1) + 1) + 1) + 1), (upd (upd (upd (upd tE.2 tE.1 (nI (48 + n9 / 1000 % 10))) (tE.1 + 1) (nI (48 + n9 / 100 % 10))) ((tE.1 + 1) + 1) (nI (48 + n9 / 10 % 10))) (((tE.1 + 1) + 1) + 1) (nI (48 + n9 / 1 % 10)))) pE hE kE sE)]) := hD
                            exact end_z (bs' := (fun (_ : Unit) => [(CLK ty aC (((((tC.1 + 1) + 1) + 1) + 1), (upd (upd (upd (upd tC.2 tC.1 (nI (48 + n9 / 1000 % 10))) (tC.1 + 1) (nI (48 + n9 / 100 % 10))) ((tC.1 + 1) + 1) (nI (48 + n9 / 10 % 10))) (((tC.1 + 1) + 1) + 1) (nI (48 + n9 / 1 % 10)))) pC hC kC sC), (CLK ty aE (((((tE.1 + 1) + 1) + 1) + 1), (upd (upd (upd (upd tE.2 tE.1 (nI (48 + n9 / 1000 % 10))) (tE.1 + 1) (nI (48 + n9 / 100 % 10))) ((tE.1 + 1) + 1) (nI (48 + n9 / 10 % 10))) (((tE.1 + 1) + 1) + 1) (nI (48 + n9 / 1 % 10)))) pE hE kE sE)])) () hx hb hr hlocks rfl hP hD hS rfl (Nat.le_of_ble_eq_true rfl) (Nat.le_of_ble_eq_true rfl) dL_digits_53
                          · exact absurd (by decide) c_25
