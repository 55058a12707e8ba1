set_option maxHeartbeats 8000000 in
set_option maxRecDepth 100000 in
theorem k_nears (l : Launch) (D : va_G) (ty : Nat → ClassId) (B M : Int) (c9 : Int32) (m9 : Nat) (aC : CA) (tC : CTx) (pC : CPg) (hC : CHs) (kC : CKs) (sC : CSc) (hst : l.stackTraces = false) (hG : SG B M pC) (hc : hC.1 ≤ 14) (h0 : pdom pC.1 = 0) (hc9 : inR c9 (-500) 500) (hm9 : m9 ≤ 1440) : CTi l yL_nears wsL_nears ({ frames := 9, cells := 6, slots := 36, locals := 152 }) D ty [.ref (aC.1 0), .int c9, .int (nI m9), .int (pC.1 0)] [(CLK ty aC tC pC hC (saveK 0 pC kC) sC)] (fun (RET : Int32) (u : CHr × CSc) => match u with | (hu9, sN) => RET = (farv m9 pC.1 c9)) (fun (u : CHr × CSc) => match u with | (hu9, sN) => [(CLK ty aC tC pC (0, hu9) (saveK 0 pC kC) sN)]) := by
  refine CTi_of cL_nears 6 (some .int) (by decide) rfl (Nat.le_of_ble_eq_true rfl) ?_
  intro p e s m args below meth c A hx hb hr hml hown hlocks hin hts hA hX hK hP hD ls hl
  have hown : s.vm.findClass RL = some m.cls := hown
  have hS : va_S A s.heap s.heap [] := va_S.rf
  have hl : lv_has ls 6 [(0, .ref (aC.1 0)), (1, .int c9), (2, .int (nI m9)), (3, .int (pC.1 0))] := hl
  generalize hQg : MQ below (va_Qi (fun (RET : Int32) (u : CHr × CSc) => match u with | (hu9, sN) => RET = (farv m9 pC.1 c9)) (PostW D (fun (u : CHr × CSc) => match u with | (hu9, sN) => [(CLK ty aC tC pC (0, hu9) (saveK 0 pC kC) sN)]) A) A) args s 6 36 A = Qg
  refine lv_aload_n hx hb dL_nears_0 rfl (lv_at hl 0 rfl) ?_
  refine lv_iload_n hx hb dL_nears_1 rfl (lv_at hl 1 rfl) ?_
  refine cSWi (As := [.ref (aC.1 0), .int c9]) (rest := []) ⟨hx, hb, hml, hown, hts⟩ (k_correct l D ty c9 aC tC pC hC (saveK 0 pC kC) sC hst hc hc9 h0) (vx_cwSW 2 hts gL_nears_L_tryCorrect rfl rfl rfl (by decide +kernel) ⟨Nat.le_of_ble_eq_true rfl, Nat.le_of_ble_eq_true rfl⟩) hK hX hP hD hS hA (pk (bs := [(CLK ty aC tC pC hC (saveK 0 pC kC) sC)]) (bsc := [(CLK ty aC tC pC hC (saveK 0 pC kC) sC)]) (bsr := []) [0] [] 1 rfl (by decide +kernel) rfl rfl) rfl hl.1 rfl (Nat.le_of_ble_eq_true rfl) dL_nears_2 ⟨Nat.le_of_ble_eq_true rfl, Nat.le_of_ble_eq_true rfl⟩ (fun r_2 u_1 h_3 H locs hP hD hS => ?_)
  have h_r_2 : r_2 = (pC.1 4) := h_3
  subst h_r_2
  have hP : va_P D vwCl (fl [(CLK ty aC tC ((upd pC.1 4 c9), pC.2) (noteH pC hC) (saveK 0 pC kC) u_1)]) H := hP
  have hD : va_D A (fl [(CLK ty aC tC ((upd pC.1 4 c9), pC.2) (noteH pC hC) (saveK 0 pC kC) u_1)]) := hD
  refine lv_istore (lv' := [(4, .int (pC.1 4)), (0, .ref (aC.1 0)), (1, .int c9), (2, .int (nI m9)), (3, .int (pC.1 0))]) hx hb dL_nears_5 hl (by decide) rfl (fun ls hl => ?_)
  refine lv_aload_n hx hb dL_nears_7 rfl (lv_at hl 1 rfl) ?_
  refine lv_iload_n hx hb dL_nears_8 rfl (lv_at hl 3 rfl) ?_
  refine lv_iconst (v := 2) hx hb dL_nears_9 (by decide) ?_
  refine cSWi (As := [.ref (aC.1 0), .int (nI m9), .int 2]) (rest := []) ⟨hx, hb, hml, hown, hts⟩ (k_ahead l D ty (nI m9) 2 aC tC ((upd pC.1 4 c9), pC.2) (noteH pC hC) (saveK 0 pC kC) u_1 hst ((SG_Iw (SG_cor hG hc9))) ((inR0 (n := m9) (h := 1440) (by omega) (by decide))) ((inR_d (by decide +kernel)))) (vx_cwSW 3 hts gL_nears_L_tryAhead rfl rfl rfl (by decide +kernel) ⟨Nat.le_of_ble_eq_true rfl, Nat.le_of_ble_eq_true rfl⟩) hK hX hP hD hS hA (pk (bs := [(CLK ty aC tC ((upd pC.1 4 c9), pC.2) (noteH pC hC) (saveK 0 pC kC) u_1)]) (bsc := [(CLK ty aC tC ((upd pC.1 4 c9), pC.2) (noteH pC hC) (saveK 0 pC kC) u_1)]) (bsr := []) [0] [] 1 rfl (by decide +kernel) rfl rfl) rfl hl.1 rfl (Nat.le_of_ble_eq_true rfl) dL_nears_10 ⟨Nat.le_of_ble_eq_true rfl, Nat.le_of_ble_eq_true rfl⟩ (fun r_6 u_5 h_7 H locs hP hD hS => ?_)
  have h_r_6 : r_6 = poff (minsR m9 (upd pC.1 4 c9)) := h_7.trans (ahead_2 _ (by omega))
  subst h_r_6
  have hP : va_P D vwCl (fl [(CLK ty aC tC ((upd pC.1 4 c9), pC.2) (noteH pC hC) (saveK 0 pC kC) u_5)]) H := hP
  have hD : va_D A (fl [(CLK ty aC tC ((upd pC.1 4 c9), pC.2) (noteH pC hC) (saveK 0 pC kC) u_5)]) := hD
  refine cSi (As := [.int (poff (minsR m9 (upd pC.1 4 c9)))]) (rest := []) ⟨hx, hb, hml, hown, hts⟩ (k_size l D ty (poff (minsR m9 (upd pC.1 4 c9)))) (va_cwS 1 hts gL_nears_L_size rfl rfl rfl (by decide +kernel) ⟨Nat.le_of_ble_eq_true rfl, Nat.le_of_ble_eq_true rfl⟩) hK hX hP hD hS hA (pk (bs := [(CLK ty aC tC ((upd pC.1 4 c9), pC.2) (noteH pC hC) (saveK 0 pC kC) u_5)]) (bsc := []) (bsr := [(CLK ty aC tC ((upd pC.1 4 c9), pC.2) (noteH pC hC) (saveK 0 pC kC) u_5)]) [] [0] 1 rfl (by decide +kernel) rfl rfl) rfl hl.1 rfl (Nat.le_of_ble_eq_true rfl) dL_nears_13 ⟨Nat.le_of_ble_eq_true rfl, Nat.le_of_ble_eq_true rfl⟩ (fun r_10 u_9 h_11 H locs hP hD hS => ?_)
  have h_r_10 : r_10 = (if (poff (minsR m9 (upd pC.1 4 c9))) < 0 then -(poff (minsR m9 (upd pC.1 4 c9))) else (poff (minsR m9 (upd pC.1 4 c9)))) := h_11
  subst h_r_10
  have hP : va_P D vwCl (fl [(CLK ty aC tC ((upd pC.1 4 c9), pC.2) (noteH pC hC) (saveK 0 pC kC) u_5)]) H := hP
  have hD : va_D A (fl [(CLK ty aC tC ((upd pC.1 4 c9), pC.2) (noteH pC hC) (saveK 0 pC kC) u_5)]) := hD
  refine lv_istore (lv' := [(5, .int (if (poff (minsR m9 (upd pC.1 4 c9))) < 0 then -(poff (minsR m9 (upd pC.1 4 c9))) else (poff (minsR m9 (upd pC.1 4 c9))))), (4, .int (pC.1 4)), (0, .ref (aC.1 0)), (1, .int c9), (2, .int (nI m9)), (3, .int (pC.1 0))]) hx hb dL_nears_16 hl (by decide) rfl (fun ls hl => ?_)
  refine lv_iload hx hb dL_nears_18 (lv_at hl 1 rfl) ?_
  refine lv_sipush (v := (-500)) hx hb dL_nears_20 (by decide) ?_
  refine lv_icmp_lt (tgt := 40) hx hb dL_nears_23 (by decide) (fun c_12 => ?_) (fun c_12 => ?_)
  · first | exact absurd c_12 (SG_c4 hG) | exact absurd (SG_c4 hG) c_12
  · skip
    refine lv_aload_n hx hb dL_nears_26 rfl (lv_at hl 2 rfl) ?_
    refine lv_iconst (v := 0) hx hb dL_nears_27 (by decide) ?_
    refine cSWi (As := [.ref (aC.1 0), .int 0]) (rest := []) ⟨hx, hb, hml, hown, hts⟩ (k_restore l D ty 0 aC tC ((upd pC.1 4 c9), pC.2) (noteH pC hC) (saveK 0 pC kC) u_5 hst ((inI_d (by decide +kernel))) ((show ¬ (1 : Int32) = 0 by decide))) (vx_cwSW 2 hts gL_nears_L_tryRestore rfl rfl rfl (by decide +kernel) ⟨Nat.le_of_ble_eq_true rfl, Nat.le_of_ble_eq_true rfl⟩) hK hX hP hD hS hA (pk (bs := [(CLK ty aC tC ((upd pC.1 4 c9), pC.2) (noteH pC hC) (saveK 0 pC kC) u_5)]) (bsc := [(CLK ty aC tC ((upd pC.1 4 c9), pC.2) (noteH pC hC) (saveK 0 pC kC) u_5)]) (bsr := []) [0] [] 1 rfl (by decide +kernel) rfl rfl) rfl hl.1 rfl (Nat.le_of_ble_eq_true rfl) dL_nears_28 ⟨Nat.le_of_ble_eq_true rfl, Nat.le_of_ble_eq_true rfl⟩ (fun r_14 u_13 h_15 H locs hP hD hS => ?_)
    have h_r_14 : r_14 = pC.1 0 := h_15.trans rfl
    subst h_r_14
    have hP : va_P D vwCl (fl [(CLK ty aC tC pC (0, (noteH pC hC).2) (saveK 0 pC kC) u_5)]) H := hP
    have hD : va_D A (fl [(CLK ty aC tC pC (0, (noteH pC hC).2) (saveK 0 pC kC) u_5)]) := hD
    obtain ⟨hu_16, hu_16e⟩ : ∃ z : CHr, z = (noteH pC hC).2 := ⟨_, rfl⟩
    have hP : va_P D vwCl (fl [(CLK ty aC tC pC (0, hu_16) (saveK 0 pC kC) u_5)]) H := by rw [hu_16e]; exact hP
    have hD : va_D A (fl [(CLK ty aC tC pC (0, hu_16) (saveK 0 pC kC) u_5)]) := by rw [hu_16e]; exact hD
    refine lv_iload_n hx hb dL_nears_31 rfl (lv_at hl 5 rfl) ?_
    refine lv_icmp_ne (tgt := 40) hx hb dL_nears_32 (by decide) (fun c_17 => ?_) (fun c_17 => ?_)
    · first | exact absurd c_17 ((show (pC.1 0) = (pC.1 0) from rfl)) | exact absurd ((show (pC.1 0) = (pC.1 0) from rfl)) c_17
    · skip
      refine lv_iload hx hb dL_nears_35 (lv_at hl 0 rfl) ?_
      refine lv_goto (tgt := 41) hx hb dL_nears_37 (by decide) ?_
      subst hQg
      have hP : va_P D vwCl (fl [(CLK ty aC tC pC (0, hu_16) (saveK 0 pC kC) u_5)]) H := hP
      have hD : va_D A (fl [(CLK ty aC tC pC (0, hu_16) (saveK 0 pC kC) u_5)]) := hD
      exact end_i (bs' := (fun (u : CHr × CSc) => match u with | (hu9, sN) => [(CLK ty aC tC pC (0, hu9) (saveK 0 pC kC) sN)])) (hu_16, u_5) hx hb hr hlocks hP hD hS rfl (Nat.le_of_ble_eq_true rfl) (Nat.le_of_ble_eq_true rfl) dL_nears_41
