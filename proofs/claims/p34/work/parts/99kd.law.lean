set_option maxHeartbeats 8000000 in
set_option maxRecDepth 100000 in
theorem k_alike (l : Launch) (D : va_G) (ty : Nat → ClassId) (B M B2 M2 : Int) (aC : CA) (tC : CTx) (pC : CPg) (hC : CHs) (kC : CKs) (sC : CSc) (aE : CA) (tE : CTx) (pE : CPg) (hE : CHs) (kE : CKs) (sE : CSc) (hst : l.stackTraces = false) (hG : SG B M pC) (hG2 : SG B2 M2 pE) (h1 : pE.1 = pC.1) (h2 : pE.2.1 = pC.2.1) (h3 : pE.2.2.1 = pC.2.2.1) : CTi l yL_alike wsL_alike ({ frames := 9, cells := 280, slots := 1680, locals := 149 }) D ty [.ref (aC.1 0), .ref (aE.1 0)] [(CLK ty aC tC pC hC kC sC), (CLK ty aE tE pE hE kE sE)] (fun (RET : Int32) (_ : Unit) => RET = 1) (fun (_ : Unit) => [(CLK ty aC tC pC hC kC sC), (CLK ty aE tE pE hE kE sE)]) := by
  refine CTi_of cL_alike 4 (some .boolean) (by decide) rfl (Nat.le_of_ble_eq_true rfl) ?_
  intro p e s m args below meth c A hx hb hr hml hown hlocks hin hts hA hX hK hP hD ls hl
  have hown : s.vm.findClass RL = some m.cls := hown
  have hS : va_S A s.heap s.heap [] := va_S.rf
  have hl : lv_has ls 4 [(0, .ref (aC.1 0)), (1, .ref (aE.1 0))] := hl
  generalize hQg : MQ below (va_Qi (fun (RET : Int32) (_ : Unit) => RET = 1) (PostW D (fun (_ : Unit) => [(CLK ty aC tC pC hC kC sC), (CLK ty aE tE pE hE kE sE)]) A) A) args s 280 1680 A = Qg
  refine lv_iconst (v := 1) hx hb dL_alike_0 (by decide) ?_
  refine lv_istore_n (lv' := [(2, .int 1), (0, .ref (aC.1 0)), (1, .ref (aE.1 0))]) hx hb dL_alike_1 rfl hl (by decide) rfl (fun ls hl => ?_)
  refine lv_iconst (v := 0) hx hb dL_alike_2 (by decide) ?_
  refine lv_istore_n (lv' := [(3, .int 0), (2, .int 1), (0, .ref (aC.1 0)), (1, .ref (aE.1 0))]) hx hb dL_alike_3 rfl hl (by decide) rfl (fun ls hl => ?_)
  have hL4 : ∀ (n : Nat) (j9 : Nat), (j9 + n = 15) → ∀ (H : Heap) (locs : List Loc), va_P D vwCl (fl [(CLK ty aC tC pC hC kC sC), (CLK ty aE tE pE hE kE sE)]) H → va_D A (fl [(CLK ty aC tC pC hC kC sC), (CLK ty aE tE pE hE kE sE)]) → va_S A s.heap H locs → ∀ ls : Array Slot, lv_has ls 4 [(3, .int (nI j9)), (2, .int 1), (0, .ref (aC.1 0)), (1, .ref (aE.1 0))] → W p l e ({ frames := 9, cells := 280, slots := 1680, locals := 149 } : Room) s m args below meth c H locs (0 + 12 * j9) (0 + 72 * j9) Qg (F0 m 4 ls []) := by
    intro n
    induction n with
    | zero =>
      intro j9 hj9 H locs hP hD hS ls hl
      refine lv_iload_n hx hb dL_alike_4 rfl (lv_at hl 0 rfl) ?_
      refine lv_bipush (v := 15) hx hb dL_alike_5 (by decide) ?_
      refine lv_icmp_ge (tgt := 124) hx hb dL_alike_7 (by decide) (fun c_1 => ?_) (fun c_1 => ?_)
      · skip
        obtain ⟨w9, hw9, hw9e⟩ := row_n (SG_Rw hG)
        refine lv_iconst (v := 0) hx hb dL_alike_124 (by decide) ?_
        refine lv_istore_n (lv' := [(3, .int 0), (2, .int 1), (0, .ref (aC.1 0)), (1, .ref (aE.1 0))]) hx hb dL_alike_125 rfl hl (by decide) rfl (fun ls hl => ?_)
        have hL126 : ∀ (n : Nat) (j9 : Nat), (j9 + n = 3 * w9) → ∀ (H : Heap) (locs : List Loc), va_P D vwCl (fl [(CLK ty aC tC pC hC kC sC), (CLK ty aE tE pE hE kE sE)]) H → va_D A (fl [(CLK ty aC tC pC hC kC sC), (CLK ty aE tE pE hE kE sE)]) → va_S A s.heap H locs → ∀ ls : Array Slot, lv_has ls 4 [(3, .int (nI j9)), (2, .int 1), (0, .ref (aC.1 0)), (1, .ref (aE.1 0))] → W p l e ({ frames := 9, cells := 280, slots := 1680, locals := 149 } : Room) s m args below meth c H locs (180 + 5 * j9) (1080 + 30 * j9) Qg (F0 m 126 ls []) := by
          intro n
          induction n with
          | zero =>
            intro j9 hj9 H locs hP hD hS ls hl
            refine lv_iload_n hx hb dL_alike_126 rfl (lv_at hl 0 rfl) ?_
            refine lv_iconst (v := 3) hx hb dL_alike_127 (by decide) ?_
            refine lv_aload_n hx hb dL_alike_128 rfl (lv_at hl 2 rfl) ?_
            refine lv_bipush (v := 10) hx hb dL_alike_129 (by decide) ?_
            refine cSWi (As := [.ref (aC.1 0), .int 10]) (rest := [.int 3, .int (nI j9)]) ⟨hx, hb, hml, hown, hts⟩ (k_about l D ty 10 aC tC pC hC kC sC hst ((inR_d (by decide +kernel)))) (vx_cwSW 2 hts gL_alike_L_tryAbout rfl rfl rfl (by decide +kernel) ⟨Nat.le_of_ble_eq_true rfl, Nat.le_of_ble_eq_true rfl⟩) hK hX hP hD hS hA (pk (bs := [(CLK ty aC tC pC hC kC sC), (CLK ty aE tE pE hE kE sE)]) (bsc := [(CLK ty aC tC pC hC kC sC)]) (bsr := [(CLK ty aE tE pE hE kE sE)]) [0] [1] 2 rfl (by decide +kernel) rfl rfl) rfl hl.1 rfl (Nat.le_of_ble_eq_true rfl) dL_alike_131 ⟨(by show 180 + 5 * j9 + 1 ≤ 280; omega), (by show 1080 + 30 * j9 + 6 ≤ 1680; omega)⟩ (fun r_3 u_2 h_4 H locs hP hD hS => ?_)
            have h_r_3 : r_3 = (nI w9) := h_4.trans hw9e
            subst h_r_3
            have hP : va_P D vwCl (fl [(CLK ty aC tC pC hC kC sC), (CLK ty aE tE pE hE kE sE)]) H := hP
            have hD : va_D A (fl [(CLK ty aC tC pC hC kC sC), (CLK ty aE tE pE hE kE sE)]) := hD
            refine k_imul (v := (nI (3 * w9))) hx hb dL_alike_134 (nI_mul (3) (w9)) ?_
            refine lv_icmp_ge (tgt := 177) hx hb dL_alike_135 (by decide) (fun c_5 => ?_) (fun c_5 => ?_)
            · skip
              refine lv_iload_n hx hb dL_alike_177 rfl (lv_at hl 1 rfl) ?_
              subst hQg
              have hP : va_P D vwCl (fl [(CLK ty aC tC pC hC kC sC), (CLK ty aE tE pE hE kE sE)]) H := hP
              have hD : va_D A (fl [(CLK ty aC tC pC hC kC sC), (CLK ty aE tE pE hE kE sE)]) := hD
              exact end_z (bs' := (fun (_ : Unit) => [(CLK ty aC tC pC hC kC sC), (CLK ty aE tE pE hE kE sE)])) () hx hb hr hlocks rfl hP hD hS rfl (by show 180 + 5 * j9 + 1 ≤ 280; omega) (by show 1080 + 30 * j9 + 6 ≤ 1680; omega) dL_alike_178
            · first | exact absurd c_5 (nI_le (by omega) (by omega)) | exact absurd (nI_le (by omega) (by omega)) c_5
          | succ n ih =>
            intro j9 hj9 H locs hP hD hS ls hl
            refine lv_iload_n hx hb dL_alike_126 rfl (lv_at hl 0 rfl) ?_
            refine lv_iconst (v := 3) hx hb dL_alike_127 (by decide) ?_
            refine lv_aload_n hx hb dL_alike_128 rfl (lv_at hl 2 rfl) ?_
            refine lv_bipush (v := 10) hx hb dL_alike_129 (by decide) ?_
            refine cSWi (As := [.ref (aC.1 0), .int 10]) (rest := [.int 3, .int (nI j9)]) ⟨hx, hb, hml, hown, hts⟩ (k_about l D ty 10 aC tC pC hC kC sC hst ((inR_d (by decide +kernel)))) (vx_cwSW 2 hts gL_alike_L_tryAbout rfl rfl rfl (by decide +kernel) ⟨Nat.le_of_ble_eq_true rfl, Nat.le_of_ble_eq_true rfl⟩) hK hX hP hD hS hA (pk (bs := [(CLK ty aC tC pC hC kC sC), (CLK ty aE tE pE hE kE sE)]) (bsc := [(CLK ty aC tC pC hC kC sC)]) (bsr := [(CLK ty aE tE pE hE kE sE)]) [0] [1] 2 rfl (by decide +kernel) rfl rfl) rfl hl.1 rfl (Nat.le_of_ble_eq_true rfl) dL_alike_131 ⟨(by show 180 + 5 * j9 + 1 ≤ 280; omega), (by show 1080 + 30 * j9 + 6 ≤ 1680; omega)⟩ (fun r_7 u_6 h_8 H locs hP hD hS => ?_)
            have h_r_7 : r_7 = (nI w9) := h_8.trans hw9e
            subst h_r_7
            have hP : va_P D vwCl (fl [(CLK ty aC tC pC hC kC sC), (CLK ty aE tE pE hE kE sE)]) H := hP
            have hD : va_D A (fl [(CLK ty aC tC pC hC kC sC), (CLK ty aE tE pE hE kE sE)]) := hD
            refine k_imul (v := (nI (3 * w9))) hx hb dL_alike_134 (nI_mul (3) (w9)) ?_
            refine lv_icmp_ge (tgt := 177) hx hb dL_alike_135 (by decide) (fun c_9 => ?_) (fun c_9 => ?_)
            · first | exact absurd c_9 (nI_ge (by omega) (by omega)) | exact absurd (nI_ge (by omega) (by omega)) c_9
            · skip
              refine lv_iload_n hx hb dL_alike_138 rfl (lv_at hl 1 rfl) ?_
              refine lv_if_eq (tgt := 177) hx hb dL_alike_139 (by decide) (fun c_10 => ?_) (fun c_10 => ?_)
              · exact absurd c_10 (by decide)
              · skip
                refine lv_aload_n hx hb dL_alike_142 rfl (lv_at hl 2 rfl) ?_
                refine lv_iload_n hx hb dL_alike_143 rfl (lv_at hl 0 rfl) ?_
                refine lv_iconst (v := 3) hx hb dL_alike_144 (by decide) ?_
                refine k_idiv (v := (nI (j9 / 3))) hx hb dL_alike_145 (by decide) (pk_div (a := j9) (d := 3) (by omega) (by decide) (by decide)) ?_
                refine lv_iload_n hx hb dL_alike_146 rfl (lv_at hl 0 rfl) ?_
                refine lv_iconst (v := 3) hx hb dL_alike_147 (by decide) ?_
                refine k_irem (v := (nI (j9 % 3))) hx hb dL_alike_148 (by decide) (pk_rem (a := j9) (d := 3) (by omega) (by decide) (by decide)) ?_
                refine cSWi (As := [.ref (aC.1 0), .int (nI (j9 / 3)), .int (nI (j9 % 3))]) (rest := []) ⟨hx, hb, hml, hown, hts⟩ (k_row l D ty (nI (j9 / 3)) (nI (j9 % 3)) aC tC pC hC kC sC hst ((SG_Rw hG).2) ((by rw [hw9e]; exact inI0 (by omega) (by omega))) ((inR0 (n := (j9 % 3)) (h := 2) (by omega) (by decide)))) (vx_cwSW 3 hts gL_alike_L_tryRow rfl rfl rfl (by decide +kernel) ⟨Nat.le_of_ble_eq_true rfl, Nat.le_of_ble_eq_true rfl⟩) hK hX hP hD hS hA (pk (bs := [(CLK ty aC tC pC hC kC sC), (CLK ty aE tE pE hE kE sE)]) (bsc := [(CLK ty aC tC pC hC kC sC)]) (bsr := [(CLK ty aE tE pE hE kE sE)]) [0] [1] 2 rfl (by decide +kernel) rfl rfl) rfl hl.1 rfl (Nat.le_of_ble_eq_true rfl) dL_alike_149 ⟨(by show 180 + 5 * j9 + 1 + 2 ≤ 280; omega), (by show 1080 + 30 * j9 + 6 + 12 ≤ 1680; omega)⟩ (fun r_12 u_11 h_13 H locs hP hD hS => ?_)
                have h_r_12 : r_12 = (if (nI (j9 % 3)) = 0 then pC.2.2.2 0 (nI (j9 / 3)).toNatClampNeg else if (nI (j9 % 3)) = 1 then pC.2.2.2 1 (nI (j9 / 3)).toNatClampNeg else pC.2.2.2 2 (nI (j9 / 3)).toNatClampNeg) := h_13
                subst h_r_12
                have hP : va_P D vwCl (fl [(CLK ty aC tC pC hC kC sC), (CLK ty aE tE pE hE kE sE)]) H := hP
                have hD : va_D A (fl [(CLK ty aC tC pC hC kC sC), (CLK ty aE tE pE hE kE sE)]) := hD
                refine lv_aload_n hx hb dL_alike_152 rfl (lv_at hl 3 rfl) ?_
                refine lv_iload_n hx hb dL_alike_153 rfl (lv_at hl 0 rfl) ?_
                refine lv_iconst (v := 3) hx hb dL_alike_154 (by decide) ?_
                refine k_idiv (v := (nI (j9 / 3))) hx hb dL_alike_155 (by decide) (pk_div (a := j9) (d := 3) (by omega) (by decide) (by decide)) ?_
                refine lv_iload_n hx hb dL_alike_156 rfl (lv_at hl 0 rfl) ?_
                refine lv_iconst (v := 3) hx hb dL_alike_157 (by decide) ?_
                refine k_irem (v := (nI (j9 % 3))) hx hb dL_alike_158 (by decide) (pk_rem (a := j9) (d := 3) (by omega) (by decide) (by decide)) ?_
                refine cSWi (As := [.ref (aE.1 0), .int (nI (j9 / 3)), .int (nI (j9 % 3))]) (rest := [.int (if (nI (j9 % 3)) = 0 then pC.2.2.2 0 (nI (j9 / 3)).toNatClampNeg else if (nI (j9 % 3)) = 1 then pC.2.2.2 1 (nI (j9 / 3)).toNatClampNeg else pC.2.2.2 2 (nI (j9 / 3)).toNatClampNeg)]) ⟨hx, hb, hml, hown, hts⟩ (k_row l D ty (nI (j9 / 3)) (nI (j9 % 3)) aE tE pE hE kE sE hst ((SG_Rw hG2).2) ((by rw [h1, hw9e]; exact inI0 (by omega) (by omega))) ((inR0 (n := (j9 % 3)) (h := 2) (by omega) (by decide)))) (vx_cwSW 3 hts gL_alike_L_tryRow rfl rfl rfl (by decide +kernel) ⟨Nat.le_of_ble_eq_true rfl, Nat.le_of_ble_eq_true rfl⟩) hK hX hP hD hS hA (pk (bs := [(CLK ty aC tC pC hC kC sC), (CLK ty aE tE pE hE kE sE)]) (bsc := [(CLK ty aE tE pE hE kE sE)]) (bsr := [(CLK ty aC tC pC hC kC sC)]) [1] [0] 2 rfl (by decide +kernel) rfl rfl) rfl hl.1 rfl (Nat.le_of_ble_eq_true rfl) dL_alike_159 ⟨(by show 180 + 5 * j9 + 1 + 2 + 2 ≤ 280; omega), (by show 1080 + 30 * j9 + 6 + 12 + 12 ≤ 1680; omega)⟩ (fun r_15 u_14 h_16 H locs hP hD hS => ?_)
                have h_r_15 : r_15 = (if (nI (j9 % 3)) = 0 then pE.2.2.2 0 (nI (j9 / 3)).toNatClampNeg else if (nI (j9 % 3)) = 1 then pE.2.2.2 1 (nI (j9 / 3)).toNatClampNeg else pE.2.2.2 2 (nI (j9 / 3)).toNatClampNeg) := h_16
                subst h_r_15
                have hP : va_P D vwCl (fl [(CLK ty aC tC pC hC kC sC), (CLK ty aE tE pE hE kE sE)]) H := P_perm (po (bs := [(CLK ty aE tE pE hE kE sE), (CLK ty aC tC pC hC kC sC)]) [1, 0] 2 rfl (by decide +kernel) rfl) hP
                have hD : va_D A (fl [(CLK ty aC tC pC hC kC sC), (CLK ty aE tE pE hE kE sE)]) := D_perm (po (bs := [(CLK ty aE tE pE hE kE sE), (CLK ty aC tC pC hC kC sC)]) [1, 0] 2 rfl (by decide +kernel) rfl) hD
                refine lv_icmp_ne (tgt := 169) hx hb dL_alike_162 (by decide) (fun c_17 => ?_) (fun c_17 => ?_)
                · first | exact absurd c_17 ((show (if (nI (j9 % 3)) = 0 then pC.2.2.2 0 (nI (j9 / 3)).toNatClampNeg else if (nI (j9 % 3)) = 1 then pC.2.2.2 1 (nI (j9 / 3)).toNatClampNeg else pC.2.2.2 2 (nI (j9 / 3)).toNatClampNeg) = (if (nI (j9 % 3)) = 0 then pE.2.2.2 0 (nI (j9 / 3)).toNatClampNeg else if (nI (j9 % 3)) = 1 then pE.2.2.2 1 (nI (j9 / 3)).toNatClampNeg else pE.2.2.2 2 (nI (j9 / 3)).toNatClampNeg) from row_same hG hG2 h1 (by rw [hw9e]; exact inI0 (by omega) (by omega)) (inR0 (n := j9 % 3) (h := 2) (by omega) (by decide)))) | exact absurd ((show (if (nI (j9 % 3)) = 0 then pC.2.2.2 0 (nI (j9 / 3)).toNatClampNeg else if (nI (j9 % 3)) = 1 then pC.2.2.2 1 (nI (j9 / 3)).toNatClampNeg else pC.2.2.2 2 (nI (j9 / 3)).toNatClampNeg) = (if (nI (j9 % 3)) = 0 then pE.2.2.2 0 (nI (j9 / 3)).toNatClampNeg else if (nI (j9 % 3)) = 1 then pE.2.2.2 1 (nI (j9 / 3)).toNatClampNeg else pE.2.2.2 2 (nI (j9 / 3)).toNatClampNeg) from row_same hG hG2 h1 (by rw [hw9e]; exact inI0 (by omega) (by omega)) (inR0 (n := j9 % 3) (h := 2) (by omega) (by decide)))) c_17
                · skip
                  refine lv_iconst (v := 1) hx hb dL_alike_165 (by decide) ?_
                  refine lv_goto (tgt := 170) hx hb dL_alike_166 (by decide) ?_
                  refine lv_istore_n (lv' := [(2, .int 1), (3, .int (nI j9)), (0, .ref (aC.1 0)), (1, .ref (aE.1 0))]) hx hb dL_alike_170 rfl hl (by decide) rfl (fun ls hl => ?_)
                  refine lv_iinc (v := (nI (j9 + 1))) (lv' := [(3, .int (nI (j9 + 1))), (2, .int 1), (0, .ref (aC.1 0)), (1, .ref (aE.1 0))]) hx hb dL_alike_171 hl (k := 1) rfl (nI_add (j9) (1)) (by decide) rfl (fun ls hl => ?_)
                  refine lv_goto (tgt := 126) hx hb dL_alike_174 (by decide) ?_
                  refine W.widen (k := 180 + 5 * (j9 + 1)) (n := 1080 + 30 * (j9 + 1)) (by show 180 + 5 * j9 + 1 + 2 + 2 ≤ 180 + 5 * (j9 + 1); omega) (by show 1080 + 30 * j9 + 6 + 12 + 12 ≤ 1080 + 30 * (j9 + 1); omega) ?_
                  exact ih (j9 + 1) (by omega) _ _ (show va_P D vwCl (fl [(CLK ty aC tC pC hC kC sC), (CLK ty aE tE pE hE kE sE)]) _ from hP) hD hS _ (lv_sub hl [0, 1, 2, 3] rfl)
        refine W.widen (k := 180 + 5 * 0) (n := 1080 + 30 * 0) (by show 0 + 12 * j9 ≤ 180 + 5 * 0; omega) (by show 0 + 72 * j9 ≤ 1080 + 30 * 0; omega) ?_
        exact hL126 (3 * w9) 0 (by omega) _ _ (show va_P D vwCl (fl [(CLK ty aC tC pC hC kC sC), (CLK ty aE tE pE hE kE sE)]) _ from hP) hD hS _ (lv_sub hl [0, 1, 2, 3] rfl)
      · first | exact absurd c_1 (show (15 : Int32) ≤ nI j9 by rw [show j9 = 15 by omega]; decide) | exact absurd (show (15 : Int32) ≤ nI j9 by rw [show j9 = 15 by omega]; decide) c_1
    | succ n ih =>
      intro j9 hj9 H locs hP hD hS ls hl
      refine lv_iload_n hx hb dL_alike_4 rfl (lv_at hl 0 rfl) ?_
      refine lv_bipush (v := 15) hx hb dL_alike_5 (by decide) ?_
      refine lv_icmp_ge (tgt := 124) hx hb dL_alike_7 (by decide) (fun c_18 => ?_) (fun c_18 => ?_)
      · first | exact absurd c_18 (show ¬ (15 : Int32) ≤ nI j9 from nI_ge (b := 15) (by omega) (by decide)) | exact absurd (show ¬ (15 : Int32) ≤ nI j9 from nI_ge (b := 15) (by omega) (by decide)) c_18
      · skip
        refine lv_iload_n hx hb dL_alike_10 rfl (lv_at hl 1 rfl) ?_
        refine lv_if_eq (tgt := 116) hx hb dL_alike_11 (by decide) (fun c_19 => ?_) (fun c_19 => ?_)
        · exact absurd c_19 (by decide)
        · skip
          refine lv_aload_n hx hb dL_alike_14 rfl (lv_at hl 2 rfl) ?_
          refine lv_iload_n hx hb dL_alike_15 rfl (lv_at hl 0 rfl) ?_
          refine cSWi (As := [.ref (aC.1 0), .int (nI j9)]) (rest := []) ⟨hx, hb, hml, hown, hts⟩ (k_about l D ty (nI j9) aC tC pC hC kC sC hst ((inR0 (n := j9) (h := 14) (by omega) (by decide)))) (vx_cwSW 2 hts gL_alike_L_tryAbout rfl rfl rfl (by decide +kernel) ⟨Nat.le_of_ble_eq_true rfl, Nat.le_of_ble_eq_true rfl⟩) hK hX hP hD hS hA (pk (bs := [(CLK ty aC tC pC hC kC sC), (CLK ty aE tE pE hE kE sE)]) (bsc := [(CLK ty aC tC pC hC kC sC)]) (bsr := [(CLK ty aE tE pE hE kE sE)]) [0] [1] 2 rfl (by decide +kernel) rfl rfl) rfl hl.1 rfl (Nat.le_of_ble_eq_true rfl) dL_alike_16 ⟨(by show 0 + 12 * j9 + 1 ≤ 280; omega), (by show 0 + 72 * j9 + 6 ≤ 1680; omega)⟩ (fun r_21 u_20 h_22 H locs hP hD hS => ?_)
          have h_r_21 : r_21 = (ptell pC.1 (nI j9)) := h_22
          subst h_r_21
          have hP : va_P D vwCl (fl [(CLK ty aC tC pC hC kC sC), (CLK ty aE tE pE hE kE sE)]) H := hP
          have hD : va_D A (fl [(CLK ty aC tC pC hC kC sC), (CLK ty aE tE pE hE kE sE)]) := hD
          refine lv_aload_n hx hb dL_alike_19 rfl (lv_at hl 3 rfl) ?_
          refine lv_iload_n hx hb dL_alike_20 rfl (lv_at hl 0 rfl) ?_
          refine cSWi (As := [.ref (aE.1 0), .int (nI j9)]) (rest := [.int (ptell pC.1 (nI j9))]) ⟨hx, hb, hml, hown, hts⟩ (k_about l D ty (nI j9) aE tE pE hE kE sE hst ((inR0 (n := j9) (h := 14) (by omega) (by decide)))) (vx_cwSW 2 hts gL_alike_L_tryAbout rfl rfl rfl (by decide +kernel) ⟨Nat.le_of_ble_eq_true rfl, Nat.le_of_ble_eq_true rfl⟩) hK hX hP hD hS hA (pk (bs := [(CLK ty aC tC pC hC kC sC), (CLK ty aE tE pE hE kE sE)]) (bsc := [(CLK ty aE tE pE hE kE sE)]) (bsr := [(CLK ty aC tC pC hC kC sC)]) [1] [0] 2 rfl (by decide +kernel) rfl rfl) rfl hl.1 rfl (Nat.le_of_ble_eq_true rfl) dL_alike_21 ⟨(by show 0 + 12 * j9 + 1 + 1 ≤ 280; omega), (by show 0 + 72 * j9 + 6 + 6 ≤ 1680; omega)⟩ (fun r_24 u_23 h_25 H locs hP hD hS => ?_)
          have h_r_24 : r_24 = (ptell pE.1 (nI j9)) := h_25
          subst h_r_24
          have hP : va_P D vwCl (fl [(CLK ty aC tC pC hC kC sC), (CLK ty aE tE pE hE kE sE)]) H := P_perm (po (bs := [(CLK ty aE tE pE hE kE sE), (CLK ty aC tC pC hC kC sC)]) [1, 0] 2 rfl (by decide +kernel) rfl) hP
          have hD : va_D A (fl [(CLK ty aC tC pC hC kC sC), (CLK ty aE tE pE hE kE sE)]) := D_perm (po (bs := [(CLK ty aE tE pE hE kE sE), (CLK ty aC tC pC hC kC sC)]) [1, 0] 2 rfl (by decide +kernel) rfl) hD
          refine lv_icmp_ne (tgt := 116) hx hb dL_alike_24 (by decide) (fun c_26 => ?_) (fun c_26 => ?_)
          · first | exact absurd c_26 ((show (ptell pC.1 (nI j9)) = (ptell pE.1 (nI j9)) from by rw [h1])) | exact absurd ((show (ptell pC.1 (nI j9)) = (ptell pE.1 (nI j9)) from by rw [h1])) c_26
          · skip
            have hJ46_26 : ∀ (H : Heap) (locs : List Loc), va_P D vwCl (fl [(CLK ty aC tC pC hC kC sC), (CLK ty aE tE pE hE kE sE)]) H → va_D A (fl [(CLK ty aC tC pC hC kC sC), (CLK ty aE tE pE hE kE sE)]) → va_S A s.heap H locs → ∀ ls : Array Slot, lv_has ls 4 [(3, .int (nI j9)), (2, .int 1), (0, .ref (aC.1 0)), (1, .ref (aE.1 0))] → W p l e ({ frames := 9, cells := 280, slots := 1680, locals := 149 } : Room) s m args below meth c H locs (0 + 12 * j9 + 1 + 1 + 1 + 1) (0 + 72 * j9 + 6 + 6 + 6 + 6) Qg (F0 m 46 ls []) := by
              intro H locs hP hD hS ls hl
              refine lv_iload_n hx hb dL_alike_46 rfl (lv_at hl 0 rfl) ?_
              refine lv_bipush (v := 7) hx hb dL_alike_47 (by decide) ?_
              refine lv_icmp_gt (tgt := 65) hx hb dL_alike_49 (by decide) (fun c_28 => ?_) (fun c_28 => ?_)
              · skip
                have hJ94_28 : ∀ (H : Heap) (locs : List Loc), va_P D vwCl (fl [(CLK ty aC tC pC hC kC sC), (CLK ty aE tE pE hE kE sE)]) H → va_D A (fl [(CLK ty aC tC pC hC kC sC), (CLK ty aE tE pE hE kE sE)]) → va_S A s.heap H locs → ∀ ls : Array Slot, lv_has ls 4 [(3, .int (nI j9)), (2, .int 1), (0, .ref (aC.1 0)), (1, .ref (aE.1 0))] → W p l e ({ frames := 9, cells := 280, slots := 1680, locals := 149 } : Room) s m args below meth c H locs (0 + 12 * j9 + 1 + 1 + 1 + 1 + 2 + 2) (0 + 72 * j9 + 6 + 6 + 6 + 6 + 12 + 12) Qg (F0 m 94 ls []) := by
                  intro H locs hP hD hS ls hl
                  refine lv_iload_n hx hb dL_alike_94 rfl (lv_at hl 0 rfl) ?_
                  refine lv_iconst (v := 2) hx hb dL_alike_95 (by decide) ?_
                  refine lv_icmp_gt (tgt := 112) hx hb dL_alike_96 (by decide) (fun c_30 => ?_) (fun c_30 => ?_)
                  · skip
                    refine lv_iconst (v := 1) hx hb dL_alike_112 (by decide) ?_
                    refine lv_goto (tgt := 117) hx hb dL_alike_113 (by decide) ?_
                    refine lv_istore_n (lv' := [(2, .int 1), (3, .int (nI j9)), (0, .ref (aC.1 0)), (1, .ref (aE.1 0))]) hx hb dL_alike_117 rfl hl (by decide) rfl (fun ls hl => ?_)
                    refine lv_iinc (v := (nI (j9 + 1))) (lv' := [(3, .int (nI (j9 + 1))), (2, .int 1), (0, .ref (aC.1 0)), (1, .ref (aE.1 0))]) hx hb dL_alike_118 hl (k := 1) rfl (nI_add (j9) (1)) (by decide) rfl (fun ls hl => ?_)
                    refine lv_goto (tgt := 4) hx hb dL_alike_121 (by decide) ?_
                    refine W.widen (k := 0 + 12 * (j9 + 1)) (n := 0 + 72 * (j9 + 1)) (by show 0 + 12 * j9 + 1 + 1 + 1 + 1 + 2 + 2 ≤ 0 + 12 * (j9 + 1); omega) (by show 0 + 72 * j9 + 6 + 6 + 6 + 6 + 12 + 12 ≤ 0 + 72 * (j9 + 1); omega) ?_
                    exact ih (j9 + 1) (by omega) _ _ (show va_P D vwCl (fl [(CLK ty aC tC pC hC kC sC), (CLK ty aE tE pE hE kE sE)]) _ from hP) hD hS _ (lv_sub hl [0, 1, 2, 3] rfl)
                  · skip
                    have q2 : ¬ 2 < j9 := fun q => c_30 ((nI_ltI (a := 2) (by decide) (by omega)).mpr q)
                    refine lv_aload_n hx hb dL_alike_99 rfl (lv_at hl 2 rfl) ?_
                    refine lv_iload_n hx hb dL_alike_100 rfl (lv_at hl 0 rfl) ?_
                    refine cSWi (As := [.ref (aC.1 0), .int (nI j9)]) (rest := []) ⟨hx, hb, hml, hown, hts⟩ (k_isGuarded l D ty (nI j9) aC tC pC hC kC sC hst ((inI0 (n := j9) (h := 3) (by omega) (by decide)))) (vx_cwSW 2 hts gL_alike_L_tryIsGuarded rfl rfl rfl (by decide +kernel) ⟨Nat.le_of_ble_eq_true rfl, Nat.le_of_ble_eq_true rfl⟩) hK hX hP hD hS hA (pk (bs := [(CLK ty aC tC pC hC kC sC), (CLK ty aE tE pE hE kE sE)]) (bsc := [(CLK ty aC tC pC hC kC sC)]) (bsr := [(CLK ty aE tE pE hE kE sE)]) [0] [1] 2 rfl (by decide +kernel) rfl rfl) rfl hl.1 rfl (Nat.le_of_ble_eq_true rfl) dL_alike_101 ⟨(by show 0 + 12 * j9 + 1 + 1 + 1 + 1 + 2 + 2 + 1 ≤ 280; omega), (by show 0 + 72 * j9 + 6 + 6 + 6 + 6 + 12 + 12 + 6 ≤ 1680; omega)⟩ (fun r_32 u_31 h_33 H locs hP hD hS => ?_)
                    have h_r_32 : r_32 = (bz (pC.1 (24 + j9))) := h_33.trans (by first | rfl | (rw [nI_clamp (by omega)]; try rfl))
                    subst h_r_32
                    have hP : va_P D vwCl (fl [(CLK ty aC tC pC hC kC sC), (CLK ty aE tE pE hE kE sE)]) H := hP
                    have hD : va_D A (fl [(CLK ty aC tC pC hC kC sC), (CLK ty aE tE pE hE kE sE)]) := hD
                    refine lv_aload_n hx hb dL_alike_104 rfl (lv_at hl 3 rfl) ?_
                    refine lv_iload_n hx hb dL_alike_105 rfl (lv_at hl 0 rfl) ?_
                    refine cSWi (As := [.ref (aE.1 0), .int (nI j9)]) (rest := [.int (bz (pC.1 (24 + j9)))]) ⟨hx, hb, hml, hown, hts⟩ (k_isGuarded l D ty (nI j9) aE tE pE hE kE sE hst ((inI0 (n := j9) (h := 3) (by omega) (by decide)))) (vx_cwSW 2 hts gL_alike_L_tryIsGuarded rfl rfl rfl (by decide +kernel) ⟨Nat.le_of_ble_eq_true rfl, Nat.le_of_ble_eq_true rfl⟩) hK hX hP hD hS hA (pk (bs := [(CLK ty aC tC pC hC kC sC), (CLK ty aE tE pE hE kE sE)]) (bsc := [(CLK ty aE tE pE hE kE sE)]) (bsr := [(CLK ty aC tC pC hC kC sC)]) [1] [0] 2 rfl (by decide +kernel) rfl rfl) rfl hl.1 rfl (Nat.le_of_ble_eq_true rfl) dL_alike_106 ⟨(by show 0 + 12 * j9 + 1 + 1 + 1 + 1 + 2 + 2 + 1 + 1 ≤ 280; omega), (by show 0 + 72 * j9 + 6 + 6 + 6 + 6 + 12 + 12 + 6 + 6 ≤ 1680; omega)⟩ (fun r_35 u_34 h_36 H locs hP hD hS => ?_)
                    have h_r_35 : r_35 = (bz (pE.1 (24 + j9))) := h_36.trans (by first | rfl | (rw [nI_clamp (by omega)]; try rfl))
                    subst h_r_35
                    have hP : va_P D vwCl (fl [(CLK ty aC tC pC hC kC sC), (CLK ty aE tE pE hE kE sE)]) H := P_perm (po (bs := [(CLK ty aE tE pE hE kE sE), (CLK ty aC tC pC hC kC sC)]) [1, 0] 2 rfl (by decide +kernel) rfl) hP
                    have hD : va_D A (fl [(CLK ty aC tC pC hC kC sC), (CLK ty aE tE pE hE kE sE)]) := D_perm (po (bs := [(CLK ty aE tE pE hE kE sE), (CLK ty aC tC pC hC kC sC)]) [1, 0] 2 rfl (by decide +kernel) rfl) hD
                    refine lv_icmp_ne (tgt := 116) hx hb dL_alike_109 (by decide) (fun c_37 => ?_) (fun c_37 => ?_)
                    · first | exact absurd c_37 ((show (bz (pC.1 (24 + j9))) = (bz (pE.1 (24 + j9))) from by rw [h1])) | exact absurd ((show (bz (pC.1 (24 + j9))) = (bz (pE.1 (24 + j9))) from by rw [h1])) c_37
                    · skip
                      refine lv_iconst (v := 1) hx hb dL_alike_112 (by decide) ?_
                      refine lv_goto (tgt := 117) hx hb dL_alike_113 (by decide) ?_
                      refine lv_istore_n (lv' := [(2, .int 1), (3, .int (nI j9)), (0, .ref (aC.1 0)), (1, .ref (aE.1 0))]) hx hb dL_alike_117 rfl hl (by decide) rfl (fun ls hl => ?_)
                      refine lv_iinc (v := (nI (j9 + 1))) (lv' := [(3, .int (nI (j9 + 1))), (2, .int 1), (0, .ref (aC.1 0)), (1, .ref (aE.1 0))]) hx hb dL_alike_118 hl (k := 1) rfl (nI_add (j9) (1)) (by decide) rfl (fun ls hl => ?_)
                      refine lv_goto (tgt := 4) hx hb dL_alike_121 (by decide) ?_
                      refine W.widen (k := 0 + 12 * (j9 + 1)) (n := 0 + 72 * (j9 + 1)) (by show 0 + 12 * j9 + 1 + 1 + 1 + 1 + 2 + 2 + 1 + 1 ≤ 0 + 12 * (j9 + 1); omega) (by show 0 + 72 * j9 + 6 + 6 + 6 + 6 + 12 + 12 + 6 + 6 ≤ 0 + 72 * (j9 + 1); omega) ?_
                      exact ih (j9 + 1) (by omega) _ _ (show va_P D vwCl (fl [(CLK ty aC tC pC hC kC sC), (CLK ty aE tE pE hE kE sE)]) _ from hP) hD hS _ (lv_sub hl [0, 1, 2, 3] rfl)
                refine lv_iload_n hx hb dL_alike_65 rfl (lv_at hl 0 rfl) ?_
                refine lv_bipush (v := 11) hx hb dL_alike_66 (by decide) ?_
                refine lv_icmp_gt (tgt := 94) hx hb dL_alike_68 (by decide) (fun c_38 => ?_) (fun c_38 => ?_)
                · skip
                  refine W.widen (k := 0 + 12 * j9 + 1 + 1 + 1 + 1 + 2 + 2) (n := 0 + 72 * j9 + 6 + 6 + 6 + 6 + 12 + 12) (by show 0 + 12 * j9 + 1 + 1 + 1 + 1 ≤ 0 + 12 * j9 + 1 + 1 + 1 + 1 + 2 + 2; omega) (by show 0 + 72 * j9 + 6 + 6 + 6 + 6 ≤ 0 + 72 * j9 + 6 + 6 + 6 + 6 + 12 + 12; omega) ?_
                  exact hJ94_28 _ _ hP hD hS _ (lv_sub hl [0, 1, 2, 3] rfl)
                · skip
                  have q11 : ¬ 11 < j9 := fun q => c_38 ((nI_ltI (a := 11) (by decide) (by omega)).mpr q)
                  refine lv_aload_n hx hb dL_alike_71 rfl (lv_at hl 2 rfl) ?_
                  refine lv_iload_n hx hb dL_alike_72 rfl (lv_at hl 0 rfl) ?_
                  refine lv_iconst (v := 3) hx hb dL_alike_73 (by decide) ?_
                  refine k_idiv (v := (nI (j9 / 3))) hx hb dL_alike_74 (by decide) (pk_div (a := j9) (d := 3) (by omega) (by decide) (by decide)) ?_
                  refine lv_iload_n hx hb dL_alike_75 rfl (lv_at hl 0 rfl) ?_
                  refine lv_iconst (v := 3) hx hb dL_alike_76 (by decide) ?_
                  refine k_irem (v := (nI (j9 % 3))) hx hb dL_alike_77 (by decide) (pk_rem (a := j9) (d := 3) (by omega) (by decide) (by decide)) ?_
                  refine cSWi (As := [.ref (aC.1 0), .int (nI (j9 / 3)), .int (nI (j9 % 3))]) (rest := []) ⟨hx, hb, hml, hown, hts⟩ (k_alarm l D ty (nI (j9 / 3)) (nI (j9 % 3)) aC tC pC hC kC sC hst ((inI0 (n := (j9 / 3)) (h := 4) (by omega) (by decide))) ((inR0 (n := (j9 % 3)) (h := 2) (by omega) (by decide)))) (vx_cwSW 3 hts gL_alike_L_tryAlarm rfl rfl rfl (by decide +kernel) ⟨Nat.le_of_ble_eq_true rfl, Nat.le_of_ble_eq_true rfl⟩) hK hX hP hD hS hA (pk (bs := [(CLK ty aC tC pC hC kC sC), (CLK ty aE tE pE hE kE sE)]) (bsc := [(CLK ty aC tC pC hC kC sC)]) (bsr := [(CLK ty aE tE pE hE kE sE)]) [0] [1] 2 rfl (by decide +kernel) rfl rfl) rfl hl.1 rfl (Nat.le_of_ble_eq_true rfl) dL_alike_78 ⟨(by show 0 + 12 * j9 + 1 + 1 + 1 + 1 + 2 ≤ 280; omega), (by show 0 + 72 * j9 + 6 + 6 + 6 + 6 + 12 ≤ 1680; omega)⟩ (fun r_40 u_39 h_41 H locs hP hD hS => ?_)
                  have h_r_40 : r_40 = (if (nI (j9 % 3)) = 0 then pC.1 (27 + 3 * (nI (j9 / 3)).toNatClampNeg) else if (nI (j9 % 3)) = 1 then bz (pC.1 (28 + 3 * (nI (j9 / 3)).toNatClampNeg)) else pC.1 (29 + 3 * (nI (j9 / 3)).toNatClampNeg)) := h_41
                  subst h_r_40
                  have hP : va_P D vwCl (fl [(CLK ty aC tC pC hC kC sC), (CLK ty aE tE pE hE kE sE)]) H := hP
                  have hD : va_D A (fl [(CLK ty aC tC pC hC kC sC), (CLK ty aE tE pE hE kE sE)]) := hD
                  refine lv_aload_n hx hb dL_alike_81 rfl (lv_at hl 3 rfl) ?_
                  refine lv_iload_n hx hb dL_alike_82 rfl (lv_at hl 0 rfl) ?_
                  refine lv_iconst (v := 3) hx hb dL_alike_83 (by decide) ?_
                  refine k_idiv (v := (nI (j9 / 3))) hx hb dL_alike_84 (by decide) (pk_div (a := j9) (d := 3) (by omega) (by decide) (by decide)) ?_
                  refine lv_iload_n hx hb dL_alike_85 rfl (lv_at hl 0 rfl) ?_
                  refine lv_iconst (v := 3) hx hb dL_alike_86 (by decide) ?_
                  refine k_irem (v := (nI (j9 % 3))) hx hb dL_alike_87 (by decide) (pk_rem (a := j9) (d := 3) (by omega) (by decide) (by decide)) ?_
                  refine cSWi (As := [.ref (aE.1 0), .int (nI (j9 / 3)), .int (nI (j9 % 3))]) (rest := [.int (if (nI (j9 % 3)) = 0 then pC.1 (27 + 3 * (nI (j9 / 3)).toNatClampNeg) else if (nI (j9 % 3)) = 1 then bz (pC.1 (28 + 3 * (nI (j9 / 3)).toNatClampNeg)) else pC.1 (29 + 3 * (nI (j9 / 3)).toNatClampNeg))]) ⟨hx, hb, hml, hown, hts⟩ (k_alarm l D ty (nI (j9 / 3)) (nI (j9 % 3)) aE tE pE hE kE sE hst ((inI0 (n := (j9 / 3)) (h := 4) (by omega) (by decide))) ((inR0 (n := (j9 % 3)) (h := 2) (by omega) (by decide)))) (vx_cwSW 3 hts gL_alike_L_tryAlarm rfl rfl rfl (by decide +kernel) ⟨Nat.le_of_ble_eq_true rfl, Nat.le_of_ble_eq_true rfl⟩) hK hX hP hD hS hA (pk (bs := [(CLK ty aC tC pC hC kC sC), (CLK ty aE tE pE hE kE sE)]) (bsc := [(CLK ty aE tE pE hE kE sE)]) (bsr := [(CLK ty aC tC pC hC kC sC)]) [1] [0] 2 rfl (by decide +kernel) rfl rfl) rfl hl.1 rfl (Nat.le_of_ble_eq_true rfl) dL_alike_88 ⟨(by show 0 + 12 * j9 + 1 + 1 + 1 + 1 + 2 + 2 ≤ 280; omega), (by show 0 + 72 * j9 + 6 + 6 + 6 + 6 + 12 + 12 ≤ 1680; omega)⟩ (fun r_43 u_42 h_44 H locs hP hD hS => ?_)
                  have h_r_43 : r_43 = (if (nI (j9 % 3)) = 0 then pE.1 (27 + 3 * (nI (j9 / 3)).toNatClampNeg) else if (nI (j9 % 3)) = 1 then bz (pE.1 (28 + 3 * (nI (j9 / 3)).toNatClampNeg)) else pE.1 (29 + 3 * (nI (j9 / 3)).toNatClampNeg)) := h_44
                  subst h_r_43
                  have hP : va_P D vwCl (fl [(CLK ty aC tC pC hC kC sC), (CLK ty aE tE pE hE kE sE)]) H := P_perm (po (bs := [(CLK ty aE tE pE hE kE sE), (CLK ty aC tC pC hC kC sC)]) [1, 0] 2 rfl (by decide +kernel) rfl) hP
                  have hD : va_D A (fl [(CLK ty aC tC pC hC kC sC), (CLK ty aE tE pE hE kE sE)]) := D_perm (po (bs := [(CLK ty aE tE pE hE kE sE), (CLK ty aC tC pC hC kC sC)]) [1, 0] 2 rfl (by decide +kernel) rfl) hD
                  refine lv_icmp_ne (tgt := 116) hx hb dL_alike_91 (by decide) (fun c_45 => ?_) (fun c_45 => ?_)
                  · first | exact absurd c_45 ((show (if (nI (j9 % 3)) = 0 then pC.1 (27 + 3 * (nI (j9 / 3)).toNatClampNeg) else if (nI (j9 % 3)) = 1 then bz (pC.1 (28 + 3 * (nI (j9 / 3)).toNatClampNeg)) else pC.1 (29 + 3 * (nI (j9 / 3)).toNatClampNeg)) = (if (nI (j9 % 3)) = 0 then pE.1 (27 + 3 * (nI (j9 / 3)).toNatClampNeg) else if (nI (j9 % 3)) = 1 then bz (pE.1 (28 + 3 * (nI (j9 / 3)).toNatClampNeg)) else pE.1 (29 + 3 * (nI (j9 / 3)).toNatClampNeg)) from by rw [h1])) | exact absurd ((show (if (nI (j9 % 3)) = 0 then pC.1 (27 + 3 * (nI (j9 / 3)).toNatClampNeg) else if (nI (j9 % 3)) = 1 then bz (pC.1 (28 + 3 * (nI (j9 / 3)).toNatClampNeg)) else pC.1 (29 + 3 * (nI (j9 / 3)).toNatClampNeg)) = (if (nI (j9 % 3)) = 0 then pE.1 (27 + 3 * (nI (j9 / 3)).toNatClampNeg) else if (nI (j9 % 3)) = 1 then bz (pE.1 (28 + 3 * (nI (j9 / 3)).toNatClampNeg)) else pE.1 (29 + 3 * (nI (j9 / 3)).toNatClampNeg)) from by rw [h1])) c_45
                  · skip
                    refine W.widen (k := 0 + 12 * j9 + 1 + 1 + 1 + 1 + 2 + 2) (n := 0 + 72 * j9 + 6 + 6 + 6 + 6 + 12 + 12) (by show 0 + 12 * j9 + 1 + 1 + 1 + 1 + 2 + 2 ≤ 0 + 12 * j9 + 1 + 1 + 1 + 1 + 2 + 2; omega) (by show 0 + 72 * j9 + 6 + 6 + 6 + 6 + 12 + 12 ≤ 0 + 72 * j9 + 6 + 6 + 6 + 6 + 12 + 12; omega) ?_
                    exact hJ94_28 _ _ hP hD hS _ (lv_sub hl [0, 1, 2, 3] rfl)
              · skip
                have q7 : ¬ 7 < j9 := fun q => c_28 ((nI_ltI (a := 7) (by decide) (by omega)).mpr q)
                refine lv_aload_n hx hb dL_alike_52 rfl (lv_at hl 2 rfl) ?_
                refine lv_iload_n hx hb dL_alike_53 rfl (lv_at hl 0 rfl) ?_
                refine cSWi (As := [.ref (aC.1 0), .int (nI j9)]) (rest := []) ⟨hx, hb, hml, hown, hts⟩ (k_register l D ty (nI j9) aC tC pC hC kC sC hst ((inI0 (n := j9) (h := 8) (by omega) (by decide)))) (vx_cwSW 2 hts gL_alike_L_tryRegister rfl rfl rfl (by decide +kernel) ⟨Nat.le_of_ble_eq_true rfl, Nat.le_of_ble_eq_true rfl⟩) hK hX hP hD hS hA (pk (bs := [(CLK ty aC tC pC hC kC sC), (CLK ty aE tE pE hE kE sE)]) (bsc := [(CLK ty aC tC pC hC kC sC)]) (bsr := [(CLK ty aE tE pE hE kE sE)]) [0] [1] 2 rfl (by decide +kernel) rfl rfl) rfl hl.1 rfl (Nat.le_of_ble_eq_true rfl) dL_alike_54 ⟨(by show 0 + 12 * j9 + 1 + 1 + 1 + 1 + 1 ≤ 280; omega), (by show 0 + 72 * j9 + 6 + 6 + 6 + 6 + 6 ≤ 1680; omega)⟩ (fun r_47 u_46 h_48 H locs hP hD hS => ?_)
                have h_r_47 : r_47 = (pC.1 (16 + (nI j9).toNatClampNeg)) := h_48
                subst h_r_47
                have hP : va_P D vwCl (fl [(CLK ty aC tC pC hC kC sC), (CLK ty aE tE pE hE kE sE)]) H := hP
                have hD : va_D A (fl [(CLK ty aC tC pC hC kC sC), (CLK ty aE tE pE hE kE sE)]) := hD
                refine lv_aload_n hx hb dL_alike_57 rfl (lv_at hl 3 rfl) ?_
                refine lv_iload_n hx hb dL_alike_58 rfl (lv_at hl 0 rfl) ?_
                refine cSWi (As := [.ref (aE.1 0), .int (nI j9)]) (rest := [.int (pC.1 (16 + (nI j9).toNatClampNeg))]) ⟨hx, hb, hml, hown, hts⟩ (k_register l D ty (nI j9) aE tE pE hE kE sE hst ((inI0 (n := j9) (h := 8) (by omega) (by decide)))) (vx_cwSW 2 hts gL_alike_L_tryRegister rfl rfl rfl (by decide +kernel) ⟨Nat.le_of_ble_eq_true rfl, Nat.le_of_ble_eq_true rfl⟩) hK hX hP hD hS hA (pk (bs := [(CLK ty aC tC pC hC kC sC), (CLK ty aE tE pE hE kE sE)]) (bsc := [(CLK ty aE tE pE hE kE sE)]) (bsr := [(CLK ty aC tC pC hC kC sC)]) [1] [0] 2 rfl (by decide +kernel) rfl rfl) rfl hl.1 rfl (Nat.le_of_ble_eq_true rfl) dL_alike_59 ⟨(by show 0 + 12 * j9 + 1 + 1 + 1 + 1 + 1 + 1 ≤ 280; omega), (by show 0 + 72 * j9 + 6 + 6 + 6 + 6 + 6 + 6 ≤ 1680; omega)⟩ (fun r_50 u_49 h_51 H locs hP hD hS => ?_)
                have h_r_50 : r_50 = (pE.1 (16 + (nI j9).toNatClampNeg)) := h_51
                subst h_r_50
                have hP : va_P D vwCl (fl [(CLK ty aC tC pC hC kC sC), (CLK ty aE tE pE hE kE sE)]) H := P_perm (po (bs := [(CLK ty aE tE pE hE kE sE), (CLK ty aC tC pC hC kC sC)]) [1, 0] 2 rfl (by decide +kernel) rfl) hP
                have hD : va_D A (fl [(CLK ty aC tC pC hC kC sC), (CLK ty aE tE pE hE kE sE)]) := D_perm (po (bs := [(CLK ty aE tE pE hE kE sE), (CLK ty aC tC pC hC kC sC)]) [1, 0] 2 rfl (by decide +kernel) rfl) hD
                refine lv_icmp_ne (tgt := 116) hx hb dL_alike_62 (by decide) (fun c_52 => ?_) (fun c_52 => ?_)
                · first | exact absurd c_52 ((show (pC.1 (16 + (nI j9).toNatClampNeg)) = (pE.1 (16 + (nI j9).toNatClampNeg)) from by rw [h1])) | exact absurd ((show (pC.1 (16 + (nI j9).toNatClampNeg)) = (pE.1 (16 + (nI j9).toNatClampNeg)) from by rw [h1])) c_52
                · skip
                  have hJ94_52 : ∀ (H : Heap) (locs : List Loc), va_P D vwCl (fl [(CLK ty aC tC pC hC kC sC), (CLK ty aE tE pE hE kE sE)]) H → va_D A (fl [(CLK ty aC tC pC hC kC sC), (CLK ty aE tE pE hE kE sE)]) → va_S A s.heap H locs → ∀ ls : Array Slot, lv_has ls 4 [(3, .int (nI j9)), (2, .int 1), (0, .ref (aC.1 0)), (1, .ref (aE.1 0))] → W p l e ({ frames := 9, cells := 280, slots := 1680, locals := 149 } : Room) s m args below meth c H locs (0 + 12 * j9 + 1 + 1 + 1 + 1 + 1 + 1 + 2 + 2) (0 + 72 * j9 + 6 + 6 + 6 + 6 + 6 + 6 + 12 + 12) Qg (F0 m 94 ls []) := by
                    intro H locs hP hD hS ls hl
                    refine lv_iload_n hx hb dL_alike_94 rfl (lv_at hl 0 rfl) ?_
                    refine lv_iconst (v := 2) hx hb dL_alike_95 (by decide) ?_
                    refine lv_icmp_gt (tgt := 112) hx hb dL_alike_96 (by decide) (fun c_54 => ?_) (fun c_54 => ?_)
                    · skip
                      refine lv_iconst (v := 1) hx hb dL_alike_112 (by decide) ?_
                      refine lv_goto (tgt := 117) hx hb dL_alike_113 (by decide) ?_
                      refine lv_istore_n (lv' := [(2, .int 1), (3, .int (nI j9)), (0, .ref (aC.1 0)), (1, .ref (aE.1 0))]) hx hb dL_alike_117 rfl hl (by decide) rfl (fun ls hl => ?_)
                      refine lv_iinc (v := (nI (j9 + 1))) (lv' := [(3, .int (nI (j9 + 1))), (2, .int 1), (0, .ref (aC.1 0)), (1, .ref (aE.1 0))]) hx hb dL_alike_118 hl (k := 1) rfl (nI_add (j9) (1)) (by decide) rfl (fun ls hl => ?_)
                      refine lv_goto (tgt := 4) hx hb dL_alike_121 (by decide) ?_
                      refine W.widen (k := 0 + 12 * (j9 + 1)) (n := 0 + 72 * (j9 + 1)) (by show 0 + 12 * j9 + 1 + 1 + 1 + 1 + 1 + 1 + 2 + 2 ≤ 0 + 12 * (j9 + 1); omega) (by show 0 + 72 * j9 + 6 + 6 + 6 + 6 + 6 + 6 + 12 + 12 ≤ 0 + 72 * (j9 + 1); omega) ?_
                      exact ih (j9 + 1) (by omega) _ _ (show va_P D vwCl (fl [(CLK ty aC tC pC hC kC sC), (CLK ty aE tE pE hE kE sE)]) _ from hP) hD hS _ (lv_sub hl [0, 1, 2, 3] rfl)
                    · skip
                      have q2 : ¬ 2 < j9 := fun q => c_54 ((nI_ltI (a := 2) (by decide) (by omega)).mpr q)
                      refine lv_aload_n hx hb dL_alike_99 rfl (lv_at hl 2 rfl) ?_
                      refine lv_iload_n hx hb dL_alike_100 rfl (lv_at hl 0 rfl) ?_
                      refine cSWi (As := [.ref (aC.1 0), .int (nI j9)]) (rest := []) ⟨hx, hb, hml, hown, hts⟩ (k_isGuarded l D ty (nI j9) aC tC pC hC kC sC hst ((inI0 (n := j9) (h := 3) (by omega) (by decide)))) (vx_cwSW 2 hts gL_alike_L_tryIsGuarded rfl rfl rfl (by decide +kernel) ⟨Nat.le_of_ble_eq_true rfl, Nat.le_of_ble_eq_true rfl⟩) hK hX hP hD hS hA (pk (bs := [(CLK ty aC tC pC hC kC sC), (CLK ty aE tE pE hE kE sE)]) (bsc := [(CLK ty aC tC pC hC kC sC)]) (bsr := [(CLK ty aE tE pE hE kE sE)]) [0] [1] 2 rfl (by decide +kernel) rfl rfl) rfl hl.1 rfl (Nat.le_of_ble_eq_true rfl) dL_alike_101 ⟨(by show 0 + 12 * j9 + 1 + 1 + 1 + 1 + 1 + 1 + 2 + 2 + 1 ≤ 280; omega), (by show 0 + 72 * j9 + 6 + 6 + 6 + 6 + 6 + 6 + 12 + 12 + 6 ≤ 1680; omega)⟩ (fun r_56 u_55 h_57 H locs hP hD hS => ?_)
                      have h_r_56 : r_56 = (bz (pC.1 (24 + j9))) := h_57.trans (by first | rfl | (rw [nI_clamp (by omega)]; try rfl))
                      subst h_r_56
                      have hP : va_P D vwCl (fl [(CLK ty aC tC pC hC kC sC), (CLK ty aE tE pE hE kE sE)]) H := hP
                      have hD : va_D A (fl [(CLK ty aC tC pC hC kC sC), (CLK ty aE tE pE hE kE sE)]) := hD
                      refine lv_aload_n hx hb dL_alike_104 rfl (lv_at hl 3 rfl) ?_
                      refine lv_iload_n hx hb dL_alike_105 rfl (lv_at hl 0 rfl) ?_
                      refine cSWi (As := [.ref (aE.1 0), .int (nI j9)]) (rest := [.int (bz (pC.1 (24 + j9)))]) ⟨hx, hb, hml, hown, hts⟩ (k_isGuarded l D ty (nI j9) aE tE pE hE kE sE hst ((inI0 (n := j9) (h := 3) (by omega) (by decide)))) (vx_cwSW 2 hts gL_alike_L_tryIsGuarded rfl rfl rfl (by decide +kernel) ⟨Nat.le_of_ble_eq_true rfl, Nat.le_of_ble_eq_true rfl⟩) hK hX hP hD hS hA (pk (bs := [(CLK ty aC tC pC hC kC sC), (CLK ty aE tE pE hE kE sE)]) (bsc := [(CLK ty aE tE pE hE kE sE)]) (bsr := [(CLK ty aC tC pC hC kC sC)]) [1] [0] 2 rfl (by decide +kernel) rfl rfl) rfl hl.1 rfl (Nat.le_of_ble_eq_true rfl) dL_alike_106 ⟨(by show 0 + 12 * j9 + 1 + 1 + 1 + 1 + 1 + 1 + 2 + 2 + 1 + 1 ≤ 280; omega), (by show 0 + 72 * j9 + 6 + 6 + 6 + 6 + 6 + 6 + 12 + 12 + 6 + 6 ≤ 1680; omega)⟩ (fun r_59 u_58 h_60 H locs hP hD hS => ?_)
                      have h_r_59 : r_59 = (bz (pE.1 (24 + j9))) := h_60.trans (by first | rfl | (rw [nI_clamp (by omega)]; try rfl))
                      subst h_r_59
                      have hP : va_P D vwCl (fl [(CLK ty aC tC pC hC kC sC), (CLK ty aE tE pE hE kE sE)]) H := P_perm (po (bs := [(CLK ty aE tE pE hE kE sE), (CLK ty aC tC pC hC kC sC)]) [1, 0] 2 rfl (by decide +kernel) rfl) hP
                      have hD : va_D A (fl [(CLK ty aC tC pC hC kC sC), (CLK ty aE tE pE hE kE sE)]) := D_perm (po (bs := [(CLK ty aE tE pE hE kE sE), (CLK ty aC tC pC hC kC sC)]) [1, 0] 2 rfl (by decide +kernel) rfl) hD
                      refine lv_icmp_ne (tgt := 116) hx hb dL_alike_109 (by decide) (fun c_61 => ?_) (fun c_61 => ?_)
                      · first | exact absurd c_61 ((show (bz (pC.1 (24 + j9))) = (bz (pE.1 (24 + j9))) from by rw [h1])) | exact absurd ((show (bz (pC.1 (24 + j9))) = (bz (pE.1 (24 + j9))) from by rw [h1])) c_61
                      · skip
                        refine lv_iconst (v := 1) hx hb dL_alike_112 (by decide) ?_
                        refine lv_goto (tgt := 117) hx hb dL_alike_113 (by decide) ?_
                        refine lv_istore_n (lv' := [(2, .int 1), (3, .int (nI j9)), (0, .ref (aC.1 0)), (1, .ref (aE.1 0))]) hx hb dL_alike_117 rfl hl (by decide) rfl (fun ls hl => ?_)
                        refine lv_iinc (v := (nI (j9 + 1))) (lv' := [(3, .int (nI (j9 + 1))), (2, .int 1), (0, .ref (aC.1 0)), (1, .ref (aE.1 0))]) hx hb dL_alike_118 hl (k := 1) rfl (nI_add (j9) (1)) (by decide) rfl (fun ls hl => ?_)
                        refine lv_goto (tgt := 4) hx hb dL_alike_121 (by decide) ?_
                        refine W.widen (k := 0 + 12 * (j9 + 1)) (n := 0 + 72 * (j9 + 1)) (by show 0 + 12 * j9 + 1 + 1 + 1 + 1 + 1 + 1 + 2 + 2 + 1 + 1 ≤ 0 + 12 * (j9 + 1); omega) (by show 0 + 72 * j9 + 6 + 6 + 6 + 6 + 6 + 6 + 12 + 12 + 6 + 6 ≤ 0 + 72 * (j9 + 1); omega) ?_
                        exact ih (j9 + 1) (by omega) _ _ (show va_P D vwCl (fl [(CLK ty aC tC pC hC kC sC), (CLK ty aE tE pE hE kE sE)]) _ from hP) hD hS _ (lv_sub hl [0, 1, 2, 3] rfl)
                  refine lv_iload_n hx hb dL_alike_65 rfl (lv_at hl 0 rfl) ?_
                  refine lv_bipush (v := 11) hx hb dL_alike_66 (by decide) ?_
                  refine lv_icmp_gt (tgt := 94) hx hb dL_alike_68 (by decide) (fun c_62 => ?_) (fun c_62 => ?_)
                  · skip
                    refine W.widen (k := 0 + 12 * j9 + 1 + 1 + 1 + 1 + 1 + 1 + 2 + 2) (n := 0 + 72 * j9 + 6 + 6 + 6 + 6 + 6 + 6 + 12 + 12) (by show 0 + 12 * j9 + 1 + 1 + 1 + 1 + 1 + 1 ≤ 0 + 12 * j9 + 1 + 1 + 1 + 1 + 1 + 1 + 2 + 2; omega) (by show 0 + 72 * j9 + 6 + 6 + 6 + 6 + 6 + 6 ≤ 0 + 72 * j9 + 6 + 6 + 6 + 6 + 6 + 6 + 12 + 12; omega) ?_
                    exact hJ94_52 _ _ hP hD hS _ (lv_sub hl [0, 1, 2, 3] rfl)
                  · skip
                    have q11 : ¬ 11 < j9 := fun q => c_62 ((nI_ltI (a := 11) (by decide) (by omega)).mpr q)
                    refine lv_aload_n hx hb dL_alike_71 rfl (lv_at hl 2 rfl) ?_
                    refine lv_iload_n hx hb dL_alike_72 rfl (lv_at hl 0 rfl) ?_
                    refine lv_iconst (v := 3) hx hb dL_alike_73 (by decide) ?_
                    refine k_idiv (v := (nI (j9 / 3))) hx hb dL_alike_74 (by decide) (pk_div (a := j9) (d := 3) (by omega) (by decide) (by decide)) ?_
                    refine lv_iload_n hx hb dL_alike_75 rfl (lv_at hl 0 rfl) ?_
                    refine lv_iconst (v := 3) hx hb dL_alike_76 (by decide) ?_
                    refine k_irem (v := (nI (j9 % 3))) hx hb dL_alike_77 (by decide) (pk_rem (a := j9) (d := 3) (by omega) (by decide) (by decide)) ?_
                    refine cSWi (As := [.ref (aC.1 0), .int (nI (j9 / 3)), .int (nI (j9 % 3))]) (rest := []) ⟨hx, hb, hml, hown, hts⟩ (k_alarm l D ty (nI (j9 / 3)) (nI (j9 % 3)) aC tC pC hC kC sC hst ((inI0 (n := (j9 / 3)) (h := 4) (by omega) (by decide))) ((inR0 (n := (j9 % 3)) (h := 2) (by omega) (by decide)))) (vx_cwSW 3 hts gL_alike_L_tryAlarm rfl rfl rfl (by decide +kernel) ⟨Nat.le_of_ble_eq_true rfl, Nat.le_of_ble_eq_true rfl⟩) hK hX hP hD hS hA (pk (bs := [(CLK ty aC tC pC hC kC sC), (CLK ty aE tE pE hE kE sE)]) (bsc := [(CLK ty aC tC pC hC kC sC)]) (bsr := [(CLK ty aE tE pE hE kE sE)]) [0] [1] 2 rfl (by decide +kernel) rfl rfl) rfl hl.1 rfl (Nat.le_of_ble_eq_true rfl) dL_alike_78 ⟨(by show 0 + 12 * j9 + 1 + 1 + 1 + 1 + 1 + 1 + 2 ≤ 280; omega), (by show 0 + 72 * j9 + 6 + 6 + 6 + 6 + 6 + 6 + 12 ≤ 1680; omega)⟩ (fun r_64 u_63 h_65 H locs hP hD hS => ?_)
                    have h_r_64 : r_64 = (if (nI (j9 % 3)) = 0 then pC.1 (27 + 3 * (nI (j9 / 3)).toNatClampNeg) else if (nI (j9 % 3)) = 1 then bz (pC.1 (28 + 3 * (nI (j9 / 3)).toNatClampNeg)) else pC.1 (29 + 3 * (nI (j9 / 3)).toNatClampNeg)) := h_65
                    subst h_r_64
                    have hP : va_P D vwCl (fl [(CLK ty aC tC pC hC kC sC), (CLK ty aE tE pE hE kE sE)]) H := hP
                    have hD : va_D A (fl [(CLK ty aC tC pC hC kC sC), (CLK ty aE tE pE hE kE sE)]) := hD
                    refine lv_aload_n hx hb dL_alike_81 rfl (lv_at hl 3 rfl) ?_
                    refine lv_iload_n hx hb dL_alike_82 rfl (lv_at hl 0 rfl) ?_
                    refine lv_iconst (v := 3) hx hb dL_alike_83 (by decide) ?_
                    refine k_idiv (v := (nI (j9 / 3))) hx hb dL_alike_84 (by decide) (pk_div (a := j9) (d := 3) (by omega) (by decide) (by decide)) ?_
                    refine lv_iload_n hx hb dL_alike_85 rfl (lv_at hl 0 rfl) ?_
                    refine lv_iconst (v := 3) hx hb dL_alike_86 (by decide) ?_
                    refine k_irem (v := (nI (j9 % 3))) hx hb dL_alike_87 (by decide) (pk_rem (a := j9) (d := 3) (by omega) (by decide) (by decide)) ?_
                    refine cSWi (As := [.ref (aE.1 0), .int (nI (j9 / 3)), .int (nI (j9 % 3))]) (rest := [.int (if (nI (j9 % 3)) = 0 then pC.1 (27 + 3 * (nI (j9 / 3)).toNatClampNeg) else if (nI (j9 % 3)) = 1 then bz (pC.1 (28 + 3 * (nI (j9 / 3)).toNatClampNeg)) else pC.1 (29 + 3 * (nI (j9 / 3)).toNatClampNeg))]) ⟨hx, hb, hml, hown, hts⟩ (k_alarm l D ty (nI (j9 / 3)) (nI (j9 % 3)) aE tE pE hE kE sE hst ((inI0 (n := (j9 / 3)) (h := 4) (by omega) (by decide))) ((inR0 (n := (j9 % 3)) (h := 2) (by omega) (by decide)))) (vx_cwSW 3 hts gL_alike_L_tryAlarm rfl rfl rfl (by decide +kernel) ⟨Nat.le_of_ble_eq_true rfl, Nat.le_of_ble_eq_true rfl⟩) hK hX hP hD hS hA (pk (bs := [(CLK ty aC tC pC hC kC sC), (CLK ty aE tE pE hE kE sE)]) (bsc := [(CLK ty aE tE pE hE kE sE)]) (bsr := [(CLK ty aC tC pC hC kC sC)]) [1] [0] 2 rfl (by decide +kernel) rfl rfl) rfl hl.1 rfl (Nat.le_of_ble_eq_true rfl) dL_alike_88 ⟨(by show 0 + 12 * j9 + 1 + 1 + 1 + 1 + 1 + 1 + 2 + 2 ≤ 280; omega), (by show 0 + 72 * j9 + 6 + 6 + 6 + 6 + 6 + 6 + 12 + 12 ≤ 1680; omega)⟩ (fun r_67 u_66 h_68 H locs hP hD hS => ?_)
                    have h_r_67 : r_67 = (if (nI (j9 % 3)) = 0 then pE.1 (27 + 3 * (nI (j9 / 3)).toNatClampNeg) else if (nI (j9 % 3)) = 1 then bz (pE.1 (28 + 3 * (nI (j9 / 3)).toNatClampNeg)) else pE.1 (29 + 3 * (nI (j9 / 3)).toNatClampNeg)) := h_68
                    subst h_r_67
                    have hP : va_P D vwCl (fl [(CLK ty aC tC pC hC kC sC), (CLK ty aE tE pE hE kE sE)]) H := P_perm (po (bs := [(CLK ty aE tE pE hE kE sE), (CLK ty aC tC pC hC kC sC)]) [1, 0] 2 rfl (by decide +kernel) rfl) hP
                    have hD : va_D A (fl [(CLK ty aC tC pC hC kC sC), (CLK ty aE tE pE hE kE sE)]) := D_perm (po (bs := [(CLK ty aE tE pE hE kE sE), (CLK ty aC tC pC hC kC sC)]) [1, 0] 2 rfl (by decide +kernel) rfl) hD
                    refine lv_icmp_ne (tgt := 116) hx hb dL_alike_91 (by decide) (fun c_69 => ?_) (fun c_69 => ?_)
                    · first | exact absurd c_69 ((show (if (nI (j9 % 3)) = 0 then pC.1 (27 + 3 * (nI (j9 / 3)).toNatClampNeg) else if (nI (j9 % 3)) = 1 then bz (pC.1 (28 + 3 * (nI (j9 / 3)).toNatClampNeg)) else pC.1 (29 + 3 * (nI (j9 / 3)).toNatClampNeg)) = (if (nI (j9 % 3)) = 0 then pE.1 (27 + 3 * (nI (j9 / 3)).toNatClampNeg) else if (nI (j9 % 3)) = 1 then bz (pE.1 (28 + 3 * (nI (j9 / 3)).toNatClampNeg)) else pE.1 (29 + 3 * (nI (j9 / 3)).toNatClampNeg)) from by rw [h1])) | exact absurd ((show (if (nI (j9 % 3)) = 0 then pC.1 (27 + 3 * (nI (j9 / 3)).toNatClampNeg) else if (nI (j9 % 3)) = 1 then bz (pC.1 (28 + 3 * (nI (j9 / 3)).toNatClampNeg)) else pC.1 (29 + 3 * (nI (j9 / 3)).toNatClampNeg)) = (if (nI (j9 % 3)) = 0 then pE.1 (27 + 3 * (nI (j9 / 3)).toNatClampNeg) else if (nI (j9 % 3)) = 1 then bz (pE.1 (28 + 3 * (nI (j9 / 3)).toNatClampNeg)) else pE.1 (29 + 3 * (nI (j9 / 3)).toNatClampNeg)) from by rw [h1])) c_69
                    · skip
                      refine W.widen (k := 0 + 12 * j9 + 1 + 1 + 1 + 1 + 1 + 1 + 2 + 2) (n := 0 + 72 * j9 + 6 + 6 + 6 + 6 + 6 + 6 + 12 + 12) (by show 0 + 12 * j9 + 1 + 1 + 1 + 1 + 1 + 1 + 2 + 2 ≤ 0 + 12 * j9 + 1 + 1 + 1 + 1 + 1 + 1 + 2 + 2; omega) (by show 0 + 72 * j9 + 6 + 6 + 6 + 6 + 6 + 6 + 12 + 12 ≤ 0 + 72 * j9 + 6 + 6 + 6 + 6 + 6 + 6 + 12 + 12; omega) ?_
                      exact hJ94_52 _ _ hP hD hS _ (lv_sub hl [0, 1, 2, 3] rfl)
            refine lv_iload_n hx hb dL_alike_27 rfl (lv_at hl 0 rfl) ?_
            refine lv_iconst (v := 5) hx hb dL_alike_28 (by decide) ?_
            refine lv_icmp_gt (tgt := 46) hx hb dL_alike_29 (by decide) (fun c_70 => ?_) (fun c_70 => ?_)
            · skip
              refine W.widen (k := 0 + 12 * j9 + 1 + 1 + 1 + 1) (n := 0 + 72 * j9 + 6 + 6 + 6 + 6) (by show 0 + 12 * j9 + 1 + 1 ≤ 0 + 12 * j9 + 1 + 1 + 1 + 1; omega) (by show 0 + 72 * j9 + 6 + 6 ≤ 0 + 72 * j9 + 6 + 6 + 6 + 6; omega) ?_
              exact hJ46_26 _ _ hP hD hS _ (lv_sub hl [0, 1, 2, 3] rfl)
            · skip
              have q5 : ¬ 5 < j9 := fun q => c_70 ((nI_ltI (a := 5) (by decide) (by omega)).mpr q)
              refine lv_aload_n hx hb dL_alike_32 rfl (lv_at hl 2 rfl) ?_
              refine lv_iload_n hx hb dL_alike_33 rfl (lv_at hl 0 rfl) ?_
              refine cSWl (As := [.ref (aC.1 0), .int (nI j9)]) (rest := []) ⟨hx, hb, hml, hown, hts⟩ (k_account l D ty (nI j9) aC tC pC hC kC sC hst ((inR0 (n := j9) (h := 5) (by omega) (by decide)))) (vx_cwSW 2 hts gL_alike_L_account rfl rfl rfl (by decide +kernel) ⟨Nat.le_of_ble_eq_true rfl, Nat.le_of_ble_eq_true rfl⟩) hK hX hP hD hS hA (pk (bs := [(CLK ty aC tC pC hC kC sC), (CLK ty aE tE pE hE kE sE)]) (bsc := [(CLK ty aC tC pC hC kC sC)]) (bsr := [(CLK ty aE tE pE hE kE sE)]) [0] [1] 2 rfl (by decide +kernel) rfl rfl) rfl hl.1 rfl (Nat.le_of_ble_eq_true rfl) dL_alike_34 ⟨(by show 0 + 12 * j9 + 1 + 1 + 1 ≤ 280; omega), (by show 0 + 72 * j9 + 6 + 6 + 6 ≤ 1680; omega)⟩ (fun r_72 u_71 h_73 H locs hP hD hS => ?_)
              have h_r_72 : r_72 = (if (nI j9) < 4 then Int32.toInt64 (pC.1 (12 + (nI j9).toNatClampNeg)) else if (nI j9) = 4 then pC.2.1 else pC.2.2.1) := h_73
              subst h_r_72
              have hP : va_P D vwCl (fl [(CLK ty aC tC pC hC kC sC), (CLK ty aE tE pE hE kE sE)]) H := hP
              have hD : va_D A (fl [(CLK ty aC tC pC hC kC sC), (CLK ty aE tE pE hE kE sE)]) := hD
              refine lv_aload_n hx hb dL_alike_37 rfl (lv_at hl 3 rfl) ?_
              refine lv_iload_n hx hb dL_alike_38 rfl (lv_at hl 0 rfl) ?_
              refine cSWl (As := [.ref (aE.1 0), .int (nI j9)]) (rest := [.long (if (nI j9) < 4 then Int32.toInt64 (pC.1 (12 + (nI j9).toNatClampNeg)) else if (nI j9) = 4 then pC.2.1 else pC.2.2.1)]) ⟨hx, hb, hml, hown, hts⟩ (k_account l D ty (nI j9) aE tE pE hE kE sE hst ((inR0 (n := j9) (h := 5) (by omega) (by decide)))) (vx_cwSW 2 hts gL_alike_L_account rfl rfl rfl (by decide +kernel) ⟨Nat.le_of_ble_eq_true rfl, Nat.le_of_ble_eq_true rfl⟩) hK hX hP hD hS hA (pk (bs := [(CLK ty aC tC pC hC kC sC), (CLK ty aE tE pE hE kE sE)]) (bsc := [(CLK ty aE tE pE hE kE sE)]) (bsr := [(CLK ty aC tC pC hC kC sC)]) [1] [0] 2 rfl (by decide +kernel) rfl rfl) rfl hl.1 rfl (Nat.le_of_ble_eq_true rfl) dL_alike_39 ⟨(by show 0 + 12 * j9 + 1 + 1 + 1 + 1 ≤ 280; omega), (by show 0 + 72 * j9 + 6 + 6 + 6 + 6 ≤ 1680; omega)⟩ (fun r_75 u_74 h_76 H locs hP hD hS => ?_)
              have h_r_75 : r_75 = (if (nI j9) < 4 then Int32.toInt64 (pE.1 (12 + (nI j9).toNatClampNeg)) else if (nI j9) = 4 then pE.2.1 else pE.2.2.1) := h_76
              subst h_r_75
              have hP : va_P D vwCl (fl [(CLK ty aC tC pC hC kC sC), (CLK ty aE tE pE hE kE sE)]) H := P_perm (po (bs := [(CLK ty aE tE pE hE kE sE), (CLK ty aC tC pC hC kC sC)]) [1, 0] 2 rfl (by decide +kernel) rfl) hP
              have hD : va_D A (fl [(CLK ty aC tC pC hC kC sC), (CLK ty aE tE pE hE kE sE)]) := D_perm (po (bs := [(CLK ty aE tE pE hE kE sE), (CLK ty aC tC pC hC kC sC)]) [1, 0] 2 rfl (by decide +kernel) rfl) hD
              refine W.lcmp hx hb dL_alike_42 ?_
              refine lv_if_ne (tgt := 116) hx hb dL_alike_43 (by decide) (fun c_77 => ?_) (fun c_77 => ?_)
              · first | exact absurd c_77 ((show (lg_cmp (if (nI j9) < 4 then Int32.toInt64 (pC.1 (12 + (nI j9).toNatClampNeg)) else if (nI j9) = 4 then pC.2.1 else pC.2.2.1) (if (nI j9) < 4 then Int32.toInt64 (pE.1 (12 + (nI j9).toNatClampNeg)) else if (nI j9) = 4 then pE.2.1 else pE.2.2.1)) = 0 from (lg_cmp_eq _ _).mpr (by rw [h1, h2, h3]))) | exact absurd ((show (lg_cmp (if (nI j9) < 4 then Int32.toInt64 (pC.1 (12 + (nI j9).toNatClampNeg)) else if (nI j9) = 4 then pC.2.1 else pC.2.2.1) (if (nI j9) < 4 then Int32.toInt64 (pE.1 (12 + (nI j9).toNatClampNeg)) else if (nI j9) = 4 then pE.2.1 else pE.2.2.1)) = 0 from (lg_cmp_eq _ _).mpr (by rw [h1, h2, h3]))) c_77
              · skip
                refine W.widen (k := 0 + 12 * j9 + 1 + 1 + 1 + 1) (n := 0 + 72 * j9 + 6 + 6 + 6 + 6) (by show 0 + 12 * j9 + 1 + 1 + 1 + 1 ≤ 0 + 12 * j9 + 1 + 1 + 1 + 1; omega) (by show 0 + 72 * j9 + 6 + 6 + 6 + 6 ≤ 0 + 72 * j9 + 6 + 6 + 6 + 6; omega) ?_
                exact hJ46_26 _ _ hP hD hS _ (lv_sub hl [0, 1, 2, 3] rfl)
  refine W.widen (k := 0 + 12 * 0) (n := 0 + 72 * 0) (by show 0 ≤ 0 + 12 * 0; omega) (by show 0 ≤ 0 + 72 * 0; omega) ?_
  exact hL4 15 0 (by omega) _ _ (show va_P D vwCl (fl [(CLK ty aC tC pC hC kC sC), (CLK ty aE tE pE hE kE sE)]) _ from hP) hD hS _ (lv_sub hl [0, 1, 2, 3] rfl)
