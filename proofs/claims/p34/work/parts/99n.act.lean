set_option maxHeartbeats 4000000 in
set_option maxRecDepth 100000 in
theorem k_act (l : Launch) (D : va_G) (ty : Nat → ClassId) (B M : Int) (x9 y9 : Nat) (aC : CA) (tC : CTx) (pC : CPg) (hC : CHs) (kC : CKs) (sC : CSc) (hst : l.stackTraces = false) (hG : SG B M pC) (hc : hC.1 ≤ 14) (hx9 : x9 < 2 ^ 31) (hy9 : y9 < 2 ^ 31) : CTi l yL_act wsL_act ({ frames := 9, cells := 3, slots := 18, locals := 150 }) D ty [.ref (aC.1 0), .int (nI x9), .int (nI y9)] [(CLK ty aC tC pC hC kC sC)] (fun (RET : Int32) (u : Int32 × CPg × CHs × CKs × CSc) => match u with | (r9, pF, hF, kF, sN) => RET = r9 ∧ actF x9 y9 pC hC kC = (r9, pF, hF, kF)) (fun (u : Int32 × CPg × CHs × CKs × CSc) => match u with | (r9, pF, hF, kF, sN) => [(CLK ty aC tC pF hF kF sN)]) := by
  refine CTi_of cL_act 3 (some .int) (by decide) rfl (Nat.le_of_ble_eq_true rfl) ?_
  intro p e s m args below meth c A hx hb hr hml hown hlocks hin hts hA hX hK hP hD ls hl
  have hown : s.vm.findClass RL = some m.cls := hown
  have hS : va_S A s.heap s.heap [] := va_S.rf
  have hl : lv_has ls 3 [(0, .ref (aC.1 0)), (1, .int (nI x9)), (2, .int (nI y9))] := hl
  generalize hQg : MQ below (va_Qi (fun (RET : Int32) (u : Int32 × CPg × CHs × CKs × CSc) => match u with | (r9, pF, hF, kF, sN) => RET = r9 ∧ actF x9 y9 pC hC kC = (r9, pF, hF, kF)) (PostW D (fun (u : Int32 × CPg × CHs × CKs × CSc) => match u with | (r9, pF, hF, kF, sN) => [(CLK ty aC tC pF hF kF sN)]) A) A) args s 3 18 A = Qg
  refine lv_iload_n hx hb dL_act_0 rfl (lv_at hl 1 rfl) ?_
  refine lv_bipush (v := 16) hx hb dL_act_1 (by decide) ?_
  refine k_irem (v := (nI (x9 % 16))) hx hb dL_act_3 (by decide) (pk_rem (a := x9) (d := 16) (by omega) (by decide) (by decide)) ?_
  rcases Classical.em ((nI (x9 % 16)) = 0) with c_1 | c_1
  · refine lv_tableIn (tgt := 80) (off := 76) hx hb dL_act_4 (by first | (rw [c_1]; done) | (rw [c_1]; decide)) (by first | (rw [c_1]; done) | (rw [c_1]; decide)) (by first | (rw [c_1]; done) | (rw [c_1]; rfl)) (by decide) ?_
    refine lv_aload_n hx hb dL_act_80 rfl (lv_at hl 0 rfl) ?_
    refine lv_iconst (v := 1) hx hb dL_act_81 (by decide) ?_
    refine lv_iload_n hx hb dL_act_82 rfl (lv_at hl 2 rfl) ?_
    refine lv_iload_n hx hb dL_act_83 rfl (lv_at hl 1 rfl) ?_
    refine lv_bipush (v := 16) hx hb dL_act_84 (by decide) ?_
    refine k_irem (v := (nI (x9 % 16))) hx hb dL_act_86 (by decide) (pk_rem (a := x9) (d := 16) (by omega) (by decide) (by decide)) ?_
    refine lv_iconst (v := 2) hx hb dL_act_87 (by decide) ?_
    refine lv_icmp_ge (tgt := 96) hx hb dL_act_88 (by decide) (fun c_2 => ?_) (fun c_2 => ?_)
    · first | exact absurd c_2 (by rw [c_1]; decide) | exact absurd (by rw [c_1]; decide) c_2
    · skip
      refine lv_bipush (v := 60) hx hb dL_act_91 (by decide) ?_
      refine lv_goto (tgt := 99) hx hb dL_act_93 (by decide) ?_
      refine k_irem (v := (nI (y9 % 60))) hx hb dL_act_99 (by decide) (pk_rem (a := y9) (d := 60) (by omega) (by decide) (by decide)) ?_
      refine k_iadd (v := (nI (1 + y9 % 60))) hx hb dL_act_100 (nI_add (1) (y9 % 60)) ?_
      refine cSWi (As := [.ref (aC.1 0), .int (nI (1 + y9 % 60))]) (rest := []) ⟨hx, hb, hml, hown, hts⟩ (k_pass l D ty (nI (1 + y9 % 60)) aC tC pC hC kC sC hst hc ((SG_Iw (P := pC) hG)) ((inR1 (n := (1 + y9 % 60)) (h := 1440) (by omega) (by omega) (by decide)))) (vx_cwSW 2 hts gL_act_L_tryPass rfl rfl rfl (by decide +kernel) ⟨Nat.le_of_ble_eq_true rfl, Nat.le_of_ble_eq_true rfl⟩) hK hX hP hD hS hA (pk (bs := [(CLK ty aC tC pC hC kC sC)]) (bsc := [(CLK ty aC tC pC hC kC sC)]) (bsr := []) [0] [] 1 rfl (by decide +kernel) rfl rfl) rfl hl.1 rfl (Nat.le_of_ble_eq_true rfl) dL_act_101 ⟨Nat.le_of_ble_eq_true rfl, Nat.le_of_ble_eq_true rfl⟩ (fun r_4 u_3 h_5 H locs hP hD hS => ?_)
      rw [nI_clamp (show (1 + y9 % 60) < 2 ^ 31 by omega)] at hP hD
      have h_r_4 : (minsR (1 + y9 % 60) pC.1 1) = r_4 := (h_5.trans (by rw [nI_clamp (show (1 + y9 % 60) < 2 ^ 31 by omega)])).symm
      subst h_r_4
      have hP : va_P D vwCl (fl [(CLK ty aC tC (passP (1 + y9 % 60) pC) (noteH pC hC) kC u_3)]) H := hP
      have hD : va_D A (fl [(CLK ty aC tC (passP (1 + y9 % 60) pC) (noteH pC hC) kC u_3)]) := hD
      subst hQg
      have hP : va_P D vwCl (fl [(CLK ty aC tC (passP (1 + y9 % 60) pC) (noteH pC hC) kC u_3)]) H := hP
      have hD : va_D A (fl [(CLK ty aC tC (passP (1 + y9 % 60) pC) (noteH pC hC) kC u_3)]) := hD
      exact end_i (bs' := (fun (u : Int32 × CPg × CHs × CKs × CSc) => match u with | (r9, pF, hF, kF, sN) => [(CLK ty aC tC pF hF kF sN)])) ((minsR (1 + y9 % 60) pC.1 1), (passP (1 + y9 % 60) pC), (noteH pC hC), kC, u_3) hx hb hr hlocks hP hD hS (⟨rfl, (act_0 (x := x9) (y := y9) (by have q := (nI_eq (a := x9 % 16) (b := 0) (by omega) (by decide)).mp c_1; omega))⟩) (Nat.le_of_ble_eq_true rfl) (Nat.le_of_ble_eq_true rfl) dL_act_104
  rcases Classical.em ((nI (x9 % 16)) = 1) with c_7 | c_7
  · refine lv_tableIn (tgt := 80) (off := 76) hx hb dL_act_4 (by first | (rw [c_7]; done) | (rw [c_7]; decide)) (by first | (rw [c_7]; done) | (rw [c_7]; decide)) (by first | (rw [c_7]; done) | (rw [c_7]; rfl)) (by decide) ?_
    refine lv_aload_n hx hb dL_act_80 rfl (lv_at hl 0 rfl) ?_
    refine lv_iconst (v := 1) hx hb dL_act_81 (by decide) ?_
    refine lv_iload_n hx hb dL_act_82 rfl (lv_at hl 2 rfl) ?_
    refine lv_iload_n hx hb dL_act_83 rfl (lv_at hl 1 rfl) ?_
    refine lv_bipush (v := 16) hx hb dL_act_84 (by decide) ?_
    refine k_irem (v := (nI (x9 % 16))) hx hb dL_act_86 (by decide) (pk_rem (a := x9) (d := 16) (by omega) (by decide) (by decide)) ?_
    refine lv_iconst (v := 2) hx hb dL_act_87 (by decide) ?_
    refine lv_icmp_ge (tgt := 96) hx hb dL_act_88 (by decide) (fun c_8 => ?_) (fun c_8 => ?_)
    · first | exact absurd c_8 (by rw [c_7]; decide) | exact absurd (by rw [c_7]; decide) c_8
    · skip
      refine lv_bipush (v := 60) hx hb dL_act_91 (by decide) ?_
      refine lv_goto (tgt := 99) hx hb dL_act_93 (by decide) ?_
      refine k_irem (v := (nI (y9 % 60))) hx hb dL_act_99 (by decide) (pk_rem (a := y9) (d := 60) (by omega) (by decide) (by decide)) ?_
      refine k_iadd (v := (nI (1 + y9 % 60))) hx hb dL_act_100 (nI_add (1) (y9 % 60)) ?_
      refine cSWi (As := [.ref (aC.1 0), .int (nI (1 + y9 % 60))]) (rest := []) ⟨hx, hb, hml, hown, hts⟩ (k_pass l D ty (nI (1 + y9 % 60)) aC tC pC hC kC sC hst hc ((SG_Iw (P := pC) hG)) ((inR1 (n := (1 + y9 % 60)) (h := 1440) (by omega) (by omega) (by decide)))) (vx_cwSW 2 hts gL_act_L_tryPass rfl rfl rfl (by decide +kernel) ⟨Nat.le_of_ble_eq_true rfl, Nat.le_of_ble_eq_true rfl⟩) hK hX hP hD hS hA (pk (bs := [(CLK ty aC tC pC hC kC sC)]) (bsc := [(CLK ty aC tC pC hC kC sC)]) (bsr := []) [0] [] 1 rfl (by decide +kernel) rfl rfl) rfl hl.1 rfl (Nat.le_of_ble_eq_true rfl) dL_act_101 ⟨Nat.le_of_ble_eq_true rfl, Nat.le_of_ble_eq_true rfl⟩ (fun r_10 u_9 h_11 H locs hP hD hS => ?_)
      rw [nI_clamp (show (1 + y9 % 60) < 2 ^ 31 by omega)] at hP hD
      have h_r_10 : (minsR (1 + y9 % 60) pC.1 1) = r_10 := (h_11.trans (by rw [nI_clamp (show (1 + y9 % 60) < 2 ^ 31 by omega)])).symm
      subst h_r_10
      have hP : va_P D vwCl (fl [(CLK ty aC tC (passP (1 + y9 % 60) pC) (noteH pC hC) kC u_9)]) H := hP
      have hD : va_D A (fl [(CLK ty aC tC (passP (1 + y9 % 60) pC) (noteH pC hC) kC u_9)]) := hD
      subst hQg
      have hP : va_P D vwCl (fl [(CLK ty aC tC (passP (1 + y9 % 60) pC) (noteH pC hC) kC u_9)]) H := hP
      have hD : va_D A (fl [(CLK ty aC tC (passP (1 + y9 % 60) pC) (noteH pC hC) kC u_9)]) := hD
      exact end_i (bs' := (fun (u : Int32 × CPg × CHs × CKs × CSc) => match u with | (r9, pF, hF, kF, sN) => [(CLK ty aC tC pF hF kF sN)])) ((minsR (1 + y9 % 60) pC.1 1), (passP (1 + y9 % 60) pC), (noteH pC hC), kC, u_9) hx hb hr hlocks hP hD hS (⟨rfl, (act_0 (x := x9) (y := y9) (by have q := (nI_eq (a := x9 % 16) (b := 1) (by omega) (by decide)).mp c_7; omega))⟩) (Nat.le_of_ble_eq_true rfl) (Nat.le_of_ble_eq_true rfl) dL_act_104
  rcases Classical.em ((nI (x9 % 16)) = 2) with c_13 | c_13
  · refine lv_tableIn (tgt := 80) (off := 76) hx hb dL_act_4 (by first | (rw [c_13]; done) | (rw [c_13]; decide)) (by first | (rw [c_13]; done) | (rw [c_13]; decide)) (by first | (rw [c_13]; done) | (rw [c_13]; rfl)) (by decide) ?_
    refine lv_aload_n hx hb dL_act_80 rfl (lv_at hl 0 rfl) ?_
    refine lv_iconst (v := 1) hx hb dL_act_81 (by decide) ?_
    refine lv_iload_n hx hb dL_act_82 rfl (lv_at hl 2 rfl) ?_
    refine lv_iload_n hx hb dL_act_83 rfl (lv_at hl 1 rfl) ?_
    refine lv_bipush (v := 16) hx hb dL_act_84 (by decide) ?_
    refine k_irem (v := (nI (x9 % 16))) hx hb dL_act_86 (by decide) (pk_rem (a := x9) (d := 16) (by omega) (by decide) (by decide)) ?_
    refine lv_iconst (v := 2) hx hb dL_act_87 (by decide) ?_
    refine lv_icmp_ge (tgt := 96) hx hb dL_act_88 (by decide) (fun c_14 => ?_) (fun c_14 => ?_)
    · skip
      refine lv_sipush (v := 1440) hx hb dL_act_96 (by decide) ?_
      refine k_irem (v := (nI (y9 % 1440))) hx hb dL_act_99 (by decide) (pk_rem (a := y9) (d := 1440) (by omega) (by decide) (by decide)) ?_
      refine k_iadd (v := (nI (1 + y9 % 1440))) hx hb dL_act_100 (nI_add (1) (y9 % 1440)) ?_
      refine cSWi (As := [.ref (aC.1 0), .int (nI (1 + y9 % 1440))]) (rest := []) ⟨hx, hb, hml, hown, hts⟩ (k_pass l D ty (nI (1 + y9 % 1440)) aC tC pC hC kC sC hst hc ((SG_Iw (P := pC) hG)) ((inR1 (n := (1 + y9 % 1440)) (h := 1440) (by omega) (by omega) (by decide)))) (vx_cwSW 2 hts gL_act_L_tryPass rfl rfl rfl (by decide +kernel) ⟨Nat.le_of_ble_eq_true rfl, Nat.le_of_ble_eq_true rfl⟩) hK hX hP hD hS hA (pk (bs := [(CLK ty aC tC pC hC kC sC)]) (bsc := [(CLK ty aC tC pC hC kC sC)]) (bsr := []) [0] [] 1 rfl (by decide +kernel) rfl rfl) rfl hl.1 rfl (Nat.le_of_ble_eq_true rfl) dL_act_101 ⟨Nat.le_of_ble_eq_true rfl, Nat.le_of_ble_eq_true rfl⟩ (fun r_16 u_15 h_17 H locs hP hD hS => ?_)
      rw [nI_clamp (show (1 + y9 % 1440) < 2 ^ 31 by omega)] at hP hD
      have h_r_16 : (minsR (1 + y9 % 1440) pC.1 1) = r_16 := (h_17.trans (by rw [nI_clamp (show (1 + y9 % 1440) < 2 ^ 31 by omega)])).symm
      subst h_r_16
      have hP : va_P D vwCl (fl [(CLK ty aC tC (passP (1 + y9 % 1440) pC) (noteH pC hC) kC u_15)]) H := hP
      have hD : va_D A (fl [(CLK ty aC tC (passP (1 + y9 % 1440) pC) (noteH pC hC) kC u_15)]) := hD
      subst hQg
      have hP : va_P D vwCl (fl [(CLK ty aC tC (passP (1 + y9 % 1440) pC) (noteH pC hC) kC u_15)]) H := hP
      have hD : va_D A (fl [(CLK ty aC tC (passP (1 + y9 % 1440) pC) (noteH pC hC) kC u_15)]) := hD
      exact end_i (bs' := (fun (u : Int32 × CPg × CHs × CKs × CSc) => match u with | (r9, pF, hF, kF, sN) => [(CLK ty aC tC pF hF kF sN)])) ((minsR (1 + y9 % 1440) pC.1 1), (passP (1 + y9 % 1440) pC), (noteH pC hC), kC, u_15) hx hb hr hlocks hP hD hS (⟨rfl, (act_2 (x := x9) (y := y9) (by have q := (nI_eq (a := x9 % 16) (b := 2) (by omega) (by decide)).mp c_13; omega))⟩) (Nat.le_of_ble_eq_true rfl) (Nat.le_of_ble_eq_true rfl) dL_act_104
    · first | exact absurd c_14 (by rw [c_13]; decide) | exact absurd (by rw [c_13]; decide) c_14
  rcases Classical.em ((nI (x9 % 16)) = 3) with c_19 | c_19
  · refine lv_tableIn (tgt := 80) (off := 76) hx hb dL_act_4 (by first | (rw [c_19]; done) | (rw [c_19]; decide)) (by first | (rw [c_19]; done) | (rw [c_19]; decide)) (by first | (rw [c_19]; done) | (rw [c_19]; rfl)) (by decide) ?_
    refine lv_aload_n hx hb dL_act_80 rfl (lv_at hl 0 rfl) ?_
    refine lv_iconst (v := 1) hx hb dL_act_81 (by decide) ?_
    refine lv_iload_n hx hb dL_act_82 rfl (lv_at hl 2 rfl) ?_
    refine lv_iload_n hx hb dL_act_83 rfl (lv_at hl 1 rfl) ?_
    refine lv_bipush (v := 16) hx hb dL_act_84 (by decide) ?_
    refine k_irem (v := (nI (x9 % 16))) hx hb dL_act_86 (by decide) (pk_rem (a := x9) (d := 16) (by omega) (by decide) (by decide)) ?_
    refine lv_iconst (v := 2) hx hb dL_act_87 (by decide) ?_
    refine lv_icmp_ge (tgt := 96) hx hb dL_act_88 (by decide) (fun c_20 => ?_) (fun c_20 => ?_)
    · skip
      refine lv_sipush (v := 1440) hx hb dL_act_96 (by decide) ?_
      refine k_irem (v := (nI (y9 % 1440))) hx hb dL_act_99 (by decide) (pk_rem (a := y9) (d := 1440) (by omega) (by decide) (by decide)) ?_
      refine k_iadd (v := (nI (1 + y9 % 1440))) hx hb dL_act_100 (nI_add (1) (y9 % 1440)) ?_
      refine cSWi (As := [.ref (aC.1 0), .int (nI (1 + y9 % 1440))]) (rest := []) ⟨hx, hb, hml, hown, hts⟩ (k_pass l D ty (nI (1 + y9 % 1440)) aC tC pC hC kC sC hst hc ((SG_Iw (P := pC) hG)) ((inR1 (n := (1 + y9 % 1440)) (h := 1440) (by omega) (by omega) (by decide)))) (vx_cwSW 2 hts gL_act_L_tryPass rfl rfl rfl (by decide +kernel) ⟨Nat.le_of_ble_eq_true rfl, Nat.le_of_ble_eq_true rfl⟩) hK hX hP hD hS hA (pk (bs := [(CLK ty aC tC pC hC kC sC)]) (bsc := [(CLK ty aC tC pC hC kC sC)]) (bsr := []) [0] [] 1 rfl (by decide +kernel) rfl rfl) rfl hl.1 rfl (Nat.le_of_ble_eq_true rfl) dL_act_101 ⟨Nat.le_of_ble_eq_true rfl, Nat.le_of_ble_eq_true rfl⟩ (fun r_22 u_21 h_23 H locs hP hD hS => ?_)
      rw [nI_clamp (show (1 + y9 % 1440) < 2 ^ 31 by omega)] at hP hD
      have h_r_22 : (minsR (1 + y9 % 1440) pC.1 1) = r_22 := (h_23.trans (by rw [nI_clamp (show (1 + y9 % 1440) < 2 ^ 31 by omega)])).symm
      subst h_r_22
      have hP : va_P D vwCl (fl [(CLK ty aC tC (passP (1 + y9 % 1440) pC) (noteH pC hC) kC u_21)]) H := hP
      have hD : va_D A (fl [(CLK ty aC tC (passP (1 + y9 % 1440) pC) (noteH pC hC) kC u_21)]) := hD
      subst hQg
      have hP : va_P D vwCl (fl [(CLK ty aC tC (passP (1 + y9 % 1440) pC) (noteH pC hC) kC u_21)]) H := hP
      have hD : va_D A (fl [(CLK ty aC tC (passP (1 + y9 % 1440) pC) (noteH pC hC) kC u_21)]) := hD
      exact end_i (bs' := (fun (u : Int32 × CPg × CHs × CKs × CSc) => match u with | (r9, pF, hF, kF, sN) => [(CLK ty aC tC pF hF kF sN)])) ((minsR (1 + y9 % 1440) pC.1 1), (passP (1 + y9 % 1440) pC), (noteH pC hC), kC, u_21) hx hb hr hlocks hP hD hS (⟨rfl, (act_2 (x := x9) (y := y9) (by have q := (nI_eq (a := x9 % 16) (b := 3) (by omega) (by decide)).mp c_19; omega))⟩) (Nat.le_of_ble_eq_true rfl) (Nat.le_of_ble_eq_true rfl) dL_act_104
    · first | exact absurd c_20 (by rw [c_19]; decide) | exact absurd (by rw [c_19]; decide) c_20
  rcases Classical.em ((nI (x9 % 16)) = 4) with c_25 | c_25
  · refine lv_tableIn (tgt := 105) (off := 101) hx hb dL_act_4 (by first | (rw [c_25]; done) | (rw [c_25]; decide)) (by first | (rw [c_25]; done) | (rw [c_25]; decide)) (by first | (rw [c_25]; done) | (rw [c_25]; rfl)) (by decide) ?_
    refine lv_aload_n hx hb dL_act_105 rfl (lv_at hl 0 rfl) ?_
    refine lv_iload_n hx hb dL_act_106 rfl (lv_at hl 2 rfl) ?_
    refine lv_bipush (v := 10) hx hb dL_act_107 (by decide) ?_
    refine k_irem (v := (nI (y9 % 10))) hx hb dL_act_109 (by decide) (pk_rem (a := y9) (d := 10) (by omega) (by decide) (by decide)) ?_
    refine cSWi (As := [.ref (aC.1 0), .int (nI (y9 % 10))]) (rest := []) ⟨hx, hb, hml, hown, hts⟩ (k_level l D ty (nI (y9 % 10)) aC tC pC hC kC sC hst hc ((inR0 (n := (y9 % 10)) (h := 9) (by omega) (by decide)))) (vx_cwSW 2 hts gL_act_L_tryLevel rfl rfl rfl (by decide +kernel) ⟨Nat.le_of_ble_eq_true rfl, Nat.le_of_ble_eq_true rfl⟩) hK hX hP hD hS hA (pk (bs := [(CLK ty aC tC pC hC kC sC)]) (bsc := [(CLK ty aC tC pC hC kC sC)]) (bsr := []) [0] [] 1 rfl (by decide +kernel) rfl rfl) rfl hl.1 rfl (Nat.le_of_ble_eq_true rfl) dL_act_110 ⟨Nat.le_of_ble_eq_true rfl, Nat.le_of_ble_eq_true rfl⟩ (fun r_27 u_26 h_28 H locs hP hD hS => ?_)
    have h_r_27 : (pdom (plevel (nI (y9 % 10)) pC.1)) = r_27 := h_28.symm
    subst h_r_27
    have hP : va_P D vwCl (fl [(CLK ty aC tC ((plevel (nI (y9 % 10)) pC.1), pC.2) (noteH pC hC) kC u_26)]) H := hP
    have hD : va_D A (fl [(CLK ty aC tC ((plevel (nI (y9 % 10)) pC.1), pC.2) (noteH pC hC) kC u_26)]) := hD
    subst hQg
    have hP : va_P D vwCl (fl [(CLK ty aC tC ((plevel (nI (y9 % 10)) pC.1), pC.2) (noteH pC hC) kC u_26)]) H := hP
    have hD : va_D A (fl [(CLK ty aC tC ((plevel (nI (y9 % 10)) pC.1), pC.2) (noteH pC hC) kC u_26)]) := hD
    exact end_i (bs' := (fun (u : Int32 × CPg × CHs × CKs × CSc) => match u with | (r9, pF, hF, kF, sN) => [(CLK ty aC tC pF hF kF sN)])) ((pdom (plevel (nI (y9 % 10)) pC.1)), ((plevel (nI (y9 % 10)) pC.1), pC.2), (noteH pC hC), kC, u_26) hx hb hr hlocks hP hD hS (⟨rfl, (act_4 (x := x9) (y := y9) (by have q := (nI_eq (a := x9 % 16) (b := 4) (by omega) (by decide)).mp c_25; omega))⟩) (Nat.le_of_ble_eq_true rfl) (Nat.le_of_ble_eq_true rfl) dL_act_113
  rcases Classical.em ((nI (x9 % 16)) = 5) with c_30 | c_30
  · refine lv_tableIn (tgt := 105) (off := 101) hx hb dL_act_4 (by first | (rw [c_30]; done) | (rw [c_30]; decide)) (by first | (rw [c_30]; done) | (rw [c_30]; decide)) (by first | (rw [c_30]; done) | (rw [c_30]; rfl)) (by decide) ?_
    refine lv_aload_n hx hb dL_act_105 rfl (lv_at hl 0 rfl) ?_
    refine lv_iload_n hx hb dL_act_106 rfl (lv_at hl 2 rfl) ?_
    refine lv_bipush (v := 10) hx hb dL_act_107 (by decide) ?_
    refine k_irem (v := (nI (y9 % 10))) hx hb dL_act_109 (by decide) (pk_rem (a := y9) (d := 10) (by omega) (by decide) (by decide)) ?_
    refine cSWi (As := [.ref (aC.1 0), .int (nI (y9 % 10))]) (rest := []) ⟨hx, hb, hml, hown, hts⟩ (k_level l D ty (nI (y9 % 10)) aC tC pC hC kC sC hst hc ((inR0 (n := (y9 % 10)) (h := 9) (by omega) (by decide)))) (vx_cwSW 2 hts gL_act_L_tryLevel rfl rfl rfl (by decide +kernel) ⟨Nat.le_of_ble_eq_true rfl, Nat.le_of_ble_eq_true rfl⟩) hK hX hP hD hS hA (pk (bs := [(CLK ty aC tC pC hC kC sC)]) (bsc := [(CLK ty aC tC pC hC kC sC)]) (bsr := []) [0] [] 1 rfl (by decide +kernel) rfl rfl) rfl hl.1 rfl (Nat.le_of_ble_eq_true rfl) dL_act_110 ⟨Nat.le_of_ble_eq_true rfl, Nat.le_of_ble_eq_true rfl⟩ (fun r_32 u_31 h_33 H locs hP hD hS => ?_)
    have h_r_32 : (pdom (plevel (nI (y9 % 10)) pC.1)) = r_32 := h_33.symm
    subst h_r_32
    have hP : va_P D vwCl (fl [(CLK ty aC tC ((plevel (nI (y9 % 10)) pC.1), pC.2) (noteH pC hC) kC u_31)]) H := hP
    have hD : va_D A (fl [(CLK ty aC tC ((plevel (nI (y9 % 10)) pC.1), pC.2) (noteH pC hC) kC u_31)]) := hD
    subst hQg
    have hP : va_P D vwCl (fl [(CLK ty aC tC ((plevel (nI (y9 % 10)) pC.1), pC.2) (noteH pC hC) kC u_31)]) H := hP
    have hD : va_D A (fl [(CLK ty aC tC ((plevel (nI (y9 % 10)) pC.1), pC.2) (noteH pC hC) kC u_31)]) := hD
    exact end_i (bs' := (fun (u : Int32 × CPg × CHs × CKs × CSc) => match u with | (r9, pF, hF, kF, sN) => [(CLK ty aC tC pF hF kF sN)])) ((pdom (plevel (nI (y9 % 10)) pC.1)), ((plevel (nI (y9 % 10)) pC.1), pC.2), (noteH pC hC), kC, u_31) hx hb hr hlocks hP hD hS (⟨rfl, (act_4 (x := x9) (y := y9) (by have q := (nI_eq (a := x9 % 16) (b := 5) (by omega) (by decide)).mp c_30; omega))⟩) (Nat.le_of_ble_eq_true rfl) (Nat.le_of_ble_eq_true rfl) dL_act_113
  rcases Classical.em ((nI (x9 % 16)) = 6) with c_35 | c_35
  · refine lv_tableIn (tgt := 114) (off := 110) hx hb dL_act_4 (by first | (rw [c_35]; done) | (rw [c_35]; decide)) (by first | (rw [c_35]; done) | (rw [c_35]; decide)) (by first | (rw [c_35]; done) | (rw [c_35]; rfl)) (by decide) ?_
    refine lv_aload_n hx hb dL_act_114 rfl (lv_at hl 0 rfl) ?_
    refine lv_iload_n hx hb dL_act_115 rfl (lv_at hl 2 rfl) ?_
    refine lv_iload_n hx hb dL_act_116 rfl (lv_at hl 2 rfl) ?_
    refine lv_iconst (v := 2) hx hb dL_act_117 (by decide) ?_
    refine k_irem (v := (nI (y9 % 2))) hx hb dL_act_118 (by decide) (pk_rem (a := y9) (d := 2) (by omega) (by decide) (by decide)) ?_
    refine lv_if_ne (tgt := 127) hx hb dL_act_119 (by decide) (fun c_36 => ?_) (fun c_36 => ?_)
    · skip
      have y21 : ¬ y9 % 2 = 0 := fun e => c_36 (congrArg nI e)
      refine lv_ldcw hx hb hown (hts (Cond.constant RL 295 (90000)) (List.mem_of_getElem? (i := 2) rfl)) dL_act_127 ?_
      refine k_irem (v := (nI (y9 % 90000))) hx hb dL_act_130 (by decide) (pk_rem (a := y9) (d := 90000) (by omega) (by decide) (by decide)) ?_
      rcases Classical.em (pdom pC.1 = 0) with hd0 | hd1
      · have hsp9 := hd0
        refine cSWi (As := [.ref (aC.1 0), .int (nI (y9 % 90000))]) (rest := []) ⟨hx, hb, hml, hown, hts⟩ (k_setTime l D ty (nI (y9 % 90000)) aC tC pC hC kC sC hst hc ((inR0 (n := (y9 % 90000)) (h := 99999999) (by omega) (by decide))) hd0) (vx_cwSW 2 hts gL_act_L_trySetTime rfl rfl rfl (by decide +kernel) ⟨Nat.le_of_ble_eq_true rfl, Nat.le_of_ble_eq_true rfl⟩) hK hX hP hD hS hA (pk (bs := [(CLK ty aC tC pC hC kC sC)]) (bsc := [(CLK ty aC tC pC hC kC sC)]) (bsr := []) [0] [] 1 rfl (by decide +kernel) rfl rfl) rfl hl.1 rfl (Nat.le_of_ble_eq_true rfl) dL_act_131 ⟨Nat.le_of_ble_eq_true rfl, Nat.le_of_ble_eq_true rfl⟩ (fun r_38 u_37 h_39 H locs hP hD hS => ?_)
        have h_r_38 : (pC.1 1) = r_38 := h_39.symm
        subst h_r_38
        have hP : va_P D vwCl (fl [(CLK ty aC tC ((upd (upd (upd pC.1 1 (nI (y9 % 90000))) 2 0) 5 1), pC.2) (noteH pC hC) kC u_37)]) H := hP
        have hD : va_D A (fl [(CLK ty aC tC ((upd (upd (upd pC.1 1 (nI (y9 % 90000))) 2 0) 5 1), pC.2) (noteH pC hC) kC u_37)]) := hD
        subst hQg
        have hP : va_P D vwCl (fl [(CLK ty aC tC ((upd (upd (upd pC.1 1 (nI (y9 % 90000))) 2 0) 5 1), pC.2) (noteH pC hC) kC u_37)]) H := hP
        have hD : va_D A (fl [(CLK ty aC tC ((upd (upd (upd pC.1 1 (nI (y9 % 90000))) 2 0) 5 1), pC.2) (noteH pC hC) kC u_37)]) := hD
        exact end_i (bs' := (fun (u : Int32 × CPg × CHs × CKs × CSc) => match u with | (r9, pF, hF, kF, sN) => [(CLK ty aC tC pF hF kF sN)])) ((pC.1 1), ((upd (upd (upd pC.1 1 (nI (y9 % 90000))) 2 0) 5 1), pC.2), (noteH pC hC), kC, u_37) hx hb hr hlocks hP hD hS (⟨rfl, (((act_6 (x := x9) (y := y9) (by have q := (nI_eq (a := x9 % 16) (b := 6) (by omega) (by decide)).mp c_35; omega)).trans (if_neg y21)).trans (if_pos hd0))⟩) (Nat.le_of_ble_eq_true rfl) (Nat.le_of_ble_eq_true rfl) dL_act_134
      · have hsp9 := hd1
        refine cSWi (As := [.ref (aC.1 0), .int (nI (y9 % 90000))]) (rest := []) ⟨hx, hb, hml, hown, hts⟩ (k_setTime_n1 l D ty (nI (y9 % 90000)) aC tC pC hC kC sC hst hc ((inR0 (n := (y9 % 90000)) (h := 99999999) (by omega) (by decide))) hd1) (vx_cwSW 2 hts gL_act_L_trySetTime rfl rfl rfl (by decide +kernel) ⟨Nat.le_of_ble_eq_true rfl, Nat.le_of_ble_eq_true rfl⟩) hK hX hP hD hS hA (pk (bs := [(CLK ty aC tC pC hC kC sC)]) (bsc := [(CLK ty aC tC pC hC kC sC)]) (bsr := []) [0] [] 1 rfl (by decide +kernel) rfl rfl) rfl hl.1 rfl (Nat.le_of_ble_eq_true rfl) dL_act_131 ⟨Nat.le_of_ble_eq_true rfl, Nat.le_of_ble_eq_true rfl⟩ (fun r_42 u_41 h_43 H locs hP hD hS => ?_)
        have h_r_42 : (-999999003) = r_42 := h_43.symm
        subst h_r_42
        have hP : va_P D vwCl (fl [(CLK ty aC tC pC hC kC sC)]) H := hP
        have hD : va_D A (fl [(CLK ty aC tC pC hC kC sC)]) := hD
        subst hQg
        have hP : va_P D vwCl (fl [(CLK ty aC tC pC hC kC sC)]) H := hP
        have hD : va_D A (fl [(CLK ty aC tC pC hC kC sC)]) := hD
        exact end_i (bs' := (fun (u : Int32 × CPg × CHs × CKs × CSc) => match u with | (r9, pF, hF, kF, sN) => [(CLK ty aC tC pF hF kF sN)])) ((-999999003), pC, hC, kC, sC) hx hb hr hlocks hP hD hS (⟨rfl, (((act_6 (x := x9) (y := y9) (by have q := (nI_eq (a := x9 % 16) (b := 6) (by omega) (by decide)).mp c_35; omega)).trans (if_neg y21)).trans (if_neg hd1))⟩) (Nat.le_of_ble_eq_true rfl) (Nat.le_of_ble_eq_true rfl) dL_act_134
    · skip
      have y20 : y9 % 2 = 0 := (nI_eq (a := y9 % 2) (b := 0) (by omega) (by decide)).mp c_36
      refine lv_ldc hx hb hown (hts (Cond.constant RL 177 (100000000)) (List.mem_of_getElem? (i := 1) rfl)) dL_act_122 ?_
      refine lv_goto (tgt := 130) hx hb dL_act_124 (by decide) ?_
      refine k_irem (v := (nI (y9 % 100000000))) hx hb dL_act_130 (by decide) (pk_rem (a := y9) (d := 100000000) (by omega) (by decide) (by decide)) ?_
      rcases Classical.em (pdom pC.1 = 0) with hd0 | hd1
      · have hsp9 := hd0
        refine cSWi (As := [.ref (aC.1 0), .int (nI (y9 % 100000000))]) (rest := []) ⟨hx, hb, hml, hown, hts⟩ (k_setTime l D ty (nI (y9 % 100000000)) aC tC pC hC kC sC hst hc ((inR0 (n := (y9 % 100000000)) (h := 99999999) (by omega) (by decide))) hd0) (vx_cwSW 2 hts gL_act_L_trySetTime rfl rfl rfl (by decide +kernel) ⟨Nat.le_of_ble_eq_true rfl, Nat.le_of_ble_eq_true rfl⟩) hK hX hP hD hS hA (pk (bs := [(CLK ty aC tC pC hC kC sC)]) (bsc := [(CLK ty aC tC pC hC kC sC)]) (bsr := []) [0] [] 1 rfl (by decide +kernel) rfl rfl) rfl hl.1 rfl (Nat.le_of_ble_eq_true rfl) dL_act_131 ⟨Nat.le_of_ble_eq_true rfl, Nat.le_of_ble_eq_true rfl⟩ (fun r_45 u_44 h_46 H locs hP hD hS => ?_)
        have h_r_45 : (pC.1 1) = r_45 := h_46.symm
        subst h_r_45
        have hP : va_P D vwCl (fl [(CLK ty aC tC ((upd (upd (upd pC.1 1 (nI (y9 % 100000000))) 2 0) 5 1), pC.2) (noteH pC hC) kC u_44)]) H := hP
        have hD : va_D A (fl [(CLK ty aC tC ((upd (upd (upd pC.1 1 (nI (y9 % 100000000))) 2 0) 5 1), pC.2) (noteH pC hC) kC u_44)]) := hD
        subst hQg
        have hP : va_P D vwCl (fl [(CLK ty aC tC ((upd (upd (upd pC.1 1 (nI (y9 % 100000000))) 2 0) 5 1), pC.2) (noteH pC hC) kC u_44)]) H := hP
        have hD : va_D A (fl [(CLK ty aC tC ((upd (upd (upd pC.1 1 (nI (y9 % 100000000))) 2 0) 5 1), pC.2) (noteH pC hC) kC u_44)]) := hD
        exact end_i (bs' := (fun (u : Int32 × CPg × CHs × CKs × CSc) => match u with | (r9, pF, hF, kF, sN) => [(CLK ty aC tC pF hF kF sN)])) ((pC.1 1), ((upd (upd (upd pC.1 1 (nI (y9 % 100000000))) 2 0) 5 1), pC.2), (noteH pC hC), kC, u_44) hx hb hr hlocks hP hD hS (⟨rfl, (((act_6 (x := x9) (y := y9) (by have q := (nI_eq (a := x9 % 16) (b := 6) (by omega) (by decide)).mp c_35; omega)).trans (if_pos y20)).trans (if_pos hd0))⟩) (Nat.le_of_ble_eq_true rfl) (Nat.le_of_ble_eq_true rfl) dL_act_134
      · have hsp9 := hd1
        refine cSWi (As := [.ref (aC.1 0), .int (nI (y9 % 100000000))]) (rest := []) ⟨hx, hb, hml, hown, hts⟩ (k_setTime_n1 l D ty (nI (y9 % 100000000)) aC tC pC hC kC sC hst hc ((inR0 (n := (y9 % 100000000)) (h := 99999999) (by omega) (by decide))) hd1) (vx_cwSW 2 hts gL_act_L_trySetTime rfl rfl rfl (by decide +kernel) ⟨Nat.le_of_ble_eq_true rfl, Nat.le_of_ble_eq_true rfl⟩) hK hX hP hD hS hA (pk (bs := [(CLK ty aC tC pC hC kC sC)]) (bsc := [(CLK ty aC tC pC hC kC sC)]) (bsr := []) [0] [] 1 rfl (by decide +kernel) rfl rfl) rfl hl.1 rfl (Nat.le_of_ble_eq_true rfl) dL_act_131 ⟨Nat.le_of_ble_eq_true rfl, Nat.le_of_ble_eq_true rfl⟩ (fun r_49 u_48 h_50 H locs hP hD hS => ?_)
        have h_r_49 : (-999999003) = r_49 := h_50.symm
        subst h_r_49
        have hP : va_P D vwCl (fl [(CLK ty aC tC pC hC kC sC)]) H := hP
        have hD : va_D A (fl [(CLK ty aC tC pC hC kC sC)]) := hD
        subst hQg
        have hP : va_P D vwCl (fl [(CLK ty aC tC pC hC kC sC)]) H := hP
        have hD : va_D A (fl [(CLK ty aC tC pC hC kC sC)]) := hD
        exact end_i (bs' := (fun (u : Int32 × CPg × CHs × CKs × CSc) => match u with | (r9, pF, hF, kF, sN) => [(CLK ty aC tC pF hF kF sN)])) ((-999999003), pC, hC, kC, sC) hx hb hr hlocks hP hD hS (⟨rfl, (((act_6 (x := x9) (y := y9) (by have q := (nI_eq (a := x9 % 16) (b := 6) (by omega) (by decide)).mp c_35; omega)).trans (if_pos y20)).trans (if_neg hd1))⟩) (Nat.le_of_ble_eq_true rfl) (Nat.le_of_ble_eq_true rfl) dL_act_134
  rcases Classical.em ((nI (x9 % 16)) = 7) with c_51 | c_51
  · refine lv_tableIn (tgt := 135) (off := 131) hx hb dL_act_4 (by first | (rw [c_51]; done) | (rw [c_51]; decide)) (by first | (rw [c_51]; done) | (rw [c_51]; decide)) (by first | (rw [c_51]; done) | (rw [c_51]; rfl)) (by decide) ?_
    refine lv_iload_n hx hb dL_act_135 rfl (lv_at hl 2 rfl) ?_
    refine lv_iconst (v := 2) hx hb dL_act_136 (by decide) ?_
    refine k_irem (v := (nI (y9 % 2))) hx hb dL_act_137 (by decide) (pk_rem (a := y9) (d := 2) (by omega) (by decide) (by decide)) ?_
    refine lv_if_ne (tgt := 159) hx hb dL_act_138 (by decide) (fun c_52 => ?_) (fun c_52 => ?_)
    · skip
      have y21 : ¬ y9 % 2 = 0 := fun e => c_52 (congrArg nI e)
      refine lv_aload_n hx hb dL_act_159 rfl (lv_at hl 0 rfl) ?_
      refine lv_iload_n hx hb dL_act_160 rfl (lv_at hl 2 rfl) ?_
      refine lv_iconst (v := 2) hx hb dL_act_161 (by decide) ?_
      refine k_idiv (v := (nI (y9 / 2))) hx hb dL_act_162 (by decide) (pk_div (a := y9) (d := 2) (by omega) (by decide) (by decide)) ?_
      refine lv_sipush (v := 1001) hx hb dL_act_163 (by decide) ?_
      refine k_irem (v := (nI (y9 / 2 % 1001))) hx hb dL_act_166 (by decide) (pk_rem (a := y9 / 2) (d := 1001) (by omega) (by decide) (by decide)) ?_
      refine lv_sipush (v := 500) hx hb dL_act_167 (by decide) ?_
      refine k_isub (v := ((nI (y9 / 2 % 1001)) - 500)) hx hb dL_act_170 rfl ?_
      refine cSWi (As := [.ref (aC.1 0), .int ((nI (y9 / 2 % 1001)) - 500)]) (rest := []) ⟨hx, hb, hml, hown, hts⟩ (k_age l D ty ((nI (y9 / 2 % 1001)) - 500) aC tC pC hC kC sC hst hc ((inR_500 (by omega)))) (vx_cwSW 2 hts gL_act_L_tryAge rfl rfl rfl (by decide +kernel) ⟨Nat.le_of_ble_eq_true rfl, Nat.le_of_ble_eq_true rfl⟩) hK hX hP hD hS hA (pk (bs := [(CLK ty aC tC pC hC kC sC)]) (bsc := [(CLK ty aC tC pC hC kC sC)]) (bsr := []) [0] [] 1 rfl (by decide +kernel) rfl rfl) rfl hl.1 rfl (Nat.le_of_ble_eq_true rfl) dL_act_171 ⟨Nat.le_of_ble_eq_true rfl, Nat.le_of_ble_eq_true rfl⟩ (fun r_54 u_53 h_55 H locs hP hD hS => ?_)
      have h_r_54 : (pC.1 3) = r_54 := h_55.symm
      subst h_r_54
      have hP : va_P D vwCl (fl [(CLK ty aC tC ((upd pC.1 3 ((nI (y9 / 2 % 1001)) - 500)), pC.2) (noteH pC hC) kC u_53)]) H := hP
      have hD : va_D A (fl [(CLK ty aC tC ((upd pC.1 3 ((nI (y9 / 2 % 1001)) - 500)), pC.2) (noteH pC hC) kC u_53)]) := hD
      subst hQg
      have hP : va_P D vwCl (fl [(CLK ty aC tC ((upd pC.1 3 ((nI (y9 / 2 % 1001)) - 500)), pC.2) (noteH pC hC) kC u_53)]) H := hP
      have hD : va_D A (fl [(CLK ty aC tC ((upd pC.1 3 ((nI (y9 / 2 % 1001)) - 500)), pC.2) (noteH pC hC) kC u_53)]) := hD
      exact end_i (bs' := (fun (u : Int32 × CPg × CHs × CKs × CSc) => match u with | (r9, pF, hF, kF, sN) => [(CLK ty aC tC pF hF kF sN)])) ((pC.1 3), ((upd pC.1 3 ((nI (y9 / 2 % 1001)) - 500)), pC.2), (noteH pC hC), kC, u_53) hx hb hr hlocks hP hD hS (⟨rfl, ((act_7 (x := x9) (y := y9) (by have q := (nI_eq (a := x9 % 16) (b := 7) (by omega) (by decide)).mp c_51; omega)).trans (if_neg y21))⟩) (Nat.le_of_ble_eq_true rfl) (Nat.le_of_ble_eq_true rfl) dL_act_174
    · skip
      have y20 : y9 % 2 = 0 := (nI_eq (a := y9 % 2) (b := 0) (by omega) (by decide)).mp c_52
      refine lv_aload_n hx hb dL_act_141 rfl (lv_at hl 0 rfl) ?_
      refine lv_iload_n hx hb dL_act_142 rfl (lv_at hl 2 rfl) ?_
      refine lv_iconst (v := 2) hx hb dL_act_143 (by decide) ?_
      refine k_idiv (v := (nI (y9 / 2))) hx hb dL_act_144 (by decide) (pk_div (a := y9) (d := 2) (by omega) (by decide) (by decide)) ?_
      refine lv_sipush (v := 1001) hx hb dL_act_145 (by decide) ?_
      refine k_irem (v := (nI (y9 / 2 % 1001))) hx hb dL_act_148 (by decide) (pk_rem (a := y9 / 2) (d := 1001) (by omega) (by decide) (by decide)) ?_
      refine lv_sipush (v := 500) hx hb dL_act_149 (by decide) ?_
      refine k_isub (v := ((nI (y9 / 2 % 1001)) - 500)) hx hb dL_act_152 rfl ?_
      rcases Classical.em (pdom pC.1 = 0) with hd0 | hd1
      · have hsp9 := hd0
        refine cSWi (As := [.ref (aC.1 0), .int ((nI (y9 / 2 % 1001)) - 500)]) (rest := []) ⟨hx, hb, hml, hown, hts⟩ (k_correct l D ty ((nI (y9 / 2 % 1001)) - 500) aC tC pC hC kC sC hst hc ((inR_500 (by omega))) hd0) (vx_cwSW 2 hts gL_act_L_tryCorrect rfl rfl rfl (by decide +kernel) ⟨Nat.le_of_ble_eq_true rfl, Nat.le_of_ble_eq_true rfl⟩) hK hX hP hD hS hA (pk (bs := [(CLK ty aC tC pC hC kC sC)]) (bsc := [(CLK ty aC tC pC hC kC sC)]) (bsr := []) [0] [] 1 rfl (by decide +kernel) rfl rfl) rfl hl.1 rfl (Nat.le_of_ble_eq_true rfl) dL_act_153 ⟨Nat.le_of_ble_eq_true rfl, Nat.le_of_ble_eq_true rfl⟩ (fun r_58 u_57 h_59 H locs hP hD hS => ?_)
        have h_r_58 : (pC.1 4) = r_58 := h_59.symm
        subst h_r_58
        have hP : va_P D vwCl (fl [(CLK ty aC tC ((upd pC.1 4 ((nI (y9 / 2 % 1001)) - 500)), pC.2) (noteH pC hC) kC u_57)]) H := hP
        have hD : va_D A (fl [(CLK ty aC tC ((upd pC.1 4 ((nI (y9 / 2 % 1001)) - 500)), pC.2) (noteH pC hC) kC u_57)]) := hD
        refine lv_goto (tgt := 174) hx hb dL_act_156 (by decide) ?_
        subst hQg
        have hP : va_P D vwCl (fl [(CLK ty aC tC ((upd pC.1 4 ((nI (y9 / 2 % 1001)) - 500)), pC.2) (noteH pC hC) kC u_57)]) H := hP
        have hD : va_D A (fl [(CLK ty aC tC ((upd pC.1 4 ((nI (y9 / 2 % 1001)) - 500)), pC.2) (noteH pC hC) kC u_57)]) := hD
        exact end_i (bs' := (fun (u : Int32 × CPg × CHs × CKs × CSc) => match u with | (r9, pF, hF, kF, sN) => [(CLK ty aC tC pF hF kF sN)])) ((pC.1 4), ((upd pC.1 4 ((nI (y9 / 2 % 1001)) - 500)), pC.2), (noteH pC hC), kC, u_57) hx hb hr hlocks hP hD hS (⟨rfl, (((act_7 (x := x9) (y := y9) (by have q := (nI_eq (a := x9 % 16) (b := 7) (by omega) (by decide)).mp c_51; omega)).trans (if_pos y20)).trans (if_pos hd0))⟩) (Nat.le_of_ble_eq_true rfl) (Nat.le_of_ble_eq_true rfl) dL_act_174
      · have hsp9 := hd1
        refine cSWi (As := [.ref (aC.1 0), .int ((nI (y9 / 2 % 1001)) - 500)]) (rest := []) ⟨hx, hb, hml, hown, hts⟩ (k_correct_n1 l D ty ((nI (y9 / 2 % 1001)) - 500) aC tC pC hC kC sC hst hc ((inR_500 (by omega))) hd1) (vx_cwSW 2 hts gL_act_L_tryCorrect rfl rfl rfl (by decide +kernel) ⟨Nat.le_of_ble_eq_true rfl, Nat.le_of_ble_eq_true rfl⟩) hK hX hP hD hS hA (pk (bs := [(CLK ty aC tC pC hC kC sC)]) (bsc := [(CLK ty aC tC pC hC kC sC)]) (bsr := []) [0] [] 1 rfl (by decide +kernel) rfl rfl) rfl hl.1 rfl (Nat.le_of_ble_eq_true rfl) dL_act_153 ⟨Nat.le_of_ble_eq_true rfl, Nat.le_of_ble_eq_true rfl⟩ (fun r_62 u_61 h_63 H locs hP hD hS => ?_)
        have h_r_62 : (-999999003) = r_62 := h_63.symm
        subst h_r_62
        have hP : va_P D vwCl (fl [(CLK ty aC tC pC hC kC sC)]) H := hP
        have hD : va_D A (fl [(CLK ty aC tC pC hC kC sC)]) := hD
        refine lv_goto (tgt := 174) hx hb dL_act_156 (by decide) ?_
        subst hQg
        have hP : va_P D vwCl (fl [(CLK ty aC tC pC hC kC sC)]) H := hP
        have hD : va_D A (fl [(CLK ty aC tC pC hC kC sC)]) := hD
        exact end_i (bs' := (fun (u : Int32 × CPg × CHs × CKs × CSc) => match u with | (r9, pF, hF, kF, sN) => [(CLK ty aC tC pF hF kF sN)])) ((-999999003), pC, hC, kC, sC) hx hb hr hlocks hP hD hS (⟨rfl, (((act_7 (x := x9) (y := y9) (by have q := (nI_eq (a := x9 % 16) (b := 7) (by omega) (by decide)).mp c_51; omega)).trans (if_pos y20)).trans (if_neg hd1))⟩) (Nat.le_of_ble_eq_true rfl) (Nat.le_of_ble_eq_true rfl) dL_act_174
  rcases Classical.em ((nI (x9 % 16)) = 8) with c_64 | c_64
  · refine lv_tableIn (tgt := 175) (off := 171) hx hb dL_act_4 (by first | (rw [c_64]; done) | (rw [c_64]; decide)) (by first | (rw [c_64]; done) | (rw [c_64]; decide)) (by first | (rw [c_64]; done) | (rw [c_64]; rfl)) (by decide) ?_
    refine lv_aload_n hx hb dL_act_175 rfl (lv_at hl 0 rfl) ?_
    refine lv_iload_n hx hb dL_act_176 rfl (lv_at hl 2 rfl) ?_
    refine lv_bipush (v := 8) hx hb dL_act_177 (by decide) ?_
    refine k_irem (v := (nI (y9 % 8))) hx hb dL_act_179 (by decide) (pk_rem (a := y9) (d := 8) (by omega) (by decide) (by decide)) ?_
    refine lv_iload_n hx hb dL_act_180 rfl (lv_at hl 2 rfl) ?_
    refine lv_bipush (v := 8) hx hb dL_act_181 (by decide) ?_
    refine k_idiv (v := (nI (y9 / 8))) hx hb dL_act_183 (by decide) (pk_div (a := y9) (d := 8) (by omega) (by decide) (by decide)) ?_
    refine lv_sipush (v := 256) hx hb dL_act_184 (by decide) ?_
    refine k_irem (v := (nI (y9 / 8 % 256))) hx hb dL_act_187 (by decide) (pk_rem (a := y9 / 8) (d := 256) (by omega) (by decide) (by decide)) ?_
    rcases Classical.em (pdom pC.1 = 0) with hd0 | hd1
    · have hsp9 := hd0
      refine cSWi (As := [.ref (aC.1 0), .int (nI (y9 % 8)), .int (nI (y9 / 8 % 256))]) (rest := []) ⟨hx, hb, hml, hown, hts⟩ (k_write l D ty (nI (y9 % 8)) (nI (y9 / 8 % 256)) aC tC pC hC kC sC hst hc ((inI0 (n := (y9 % 8)) (h := 8) (by omega) (by decide))) ((inR0 (n := (y9 / 8 % 256)) (h := 255) (by omega) (by decide))) hd0) (vx_cwSW 3 hts gL_act_L_tryWrite rfl rfl rfl (by decide +kernel) ⟨Nat.le_of_ble_eq_true rfl, Nat.le_of_ble_eq_true rfl⟩) hK hX hP hD hS hA (pk (bs := [(CLK ty aC tC pC hC kC sC)]) (bsc := [(CLK ty aC tC pC hC kC sC)]) (bsr := []) [0] [] 1 rfl (by decide +kernel) rfl rfl) rfl hl.1 rfl (Nat.le_of_ble_eq_true rfl) dL_act_188 ⟨Nat.le_of_ble_eq_true rfl, Nat.le_of_ble_eq_true rfl⟩ (fun r_66 u_65 h_67 H locs hP hD hS => ?_)
      rw [nI_clamp (show (y9 % 8) < 2 ^ 31 by omega)] at hP hD
      have h_r_66 : (pC.1 (16 + (y9 % 8))) = r_66 := (h_67.trans (by rw [nI_clamp (show (y9 % 8) < 2 ^ 31 by omega)])).symm
      subst h_r_66
      have hP : va_P D vwCl (fl [(CLK ty aC tC ((upd pC.1 (16 + (y9 % 8)) (nI (y9 / 8 % 256))), pC.2) (noteH pC hC) kC u_65)]) H := hP
      have hD : va_D A (fl [(CLK ty aC tC ((upd pC.1 (16 + (y9 % 8)) (nI (y9 / 8 % 256))), pC.2) (noteH pC hC) kC u_65)]) := hD
      subst hQg
      have hP : va_P D vwCl (fl [(CLK ty aC tC ((upd pC.1 (16 + (y9 % 8)) (nI (y9 / 8 % 256))), pC.2) (noteH pC hC) kC u_65)]) H := hP
      have hD : va_D A (fl [(CLK ty aC tC ((upd pC.1 (16 + (y9 % 8)) (nI (y9 / 8 % 256))), pC.2) (noteH pC hC) kC u_65)]) := hD
      exact end_i (bs' := (fun (u : Int32 × CPg × CHs × CKs × CSc) => match u with | (r9, pF, hF, kF, sN) => [(CLK ty aC tC pF hF kF sN)])) ((pC.1 (16 + (y9 % 8))), ((upd pC.1 (16 + (y9 % 8)) (nI (y9 / 8 % 256))), pC.2), (noteH pC hC), kC, u_65) hx hb hr hlocks hP hD hS (⟨rfl, ((act_8 (x := x9) (y := y9) (by have q := (nI_eq (a := x9 % 16) (b := 8) (by omega) (by decide)).mp c_64; omega)).trans (if_pos hd0))⟩) (Nat.le_of_ble_eq_true rfl) (Nat.le_of_ble_eq_true rfl) dL_act_191
    · have hsp9 := hd1
      refine cSWi (As := [.ref (aC.1 0), .int (nI (y9 % 8)), .int (nI (y9 / 8 % 256))]) (rest := []) ⟨hx, hb, hml, hown, hts⟩ (k_write_n2 l D ty (nI (y9 % 8)) (nI (y9 / 8 % 256)) aC tC pC hC kC sC hst hc ((inI0 (n := (y9 % 8)) (h := 8) (by omega) (by decide))) ((inR0 (n := (y9 / 8 % 256)) (h := 255) (by omega) (by decide))) hd1) (vx_cwSW 3 hts gL_act_L_tryWrite rfl rfl rfl (by decide +kernel) ⟨Nat.le_of_ble_eq_true rfl, Nat.le_of_ble_eq_true rfl⟩) hK hX hP hD hS hA (pk (bs := [(CLK ty aC tC pC hC kC sC)]) (bsc := [(CLK ty aC tC pC hC kC sC)]) (bsr := []) [0] [] 1 rfl (by decide +kernel) rfl rfl) rfl hl.1 rfl (Nat.le_of_ble_eq_true rfl) dL_act_188 ⟨Nat.le_of_ble_eq_true rfl, Nat.le_of_ble_eq_true rfl⟩ (fun r_70 u_69 h_71 H locs hP hD hS => ?_)
      have h_r_70 : (-999999003) = r_70 := h_71.symm
      subst h_r_70
      have hP : va_P D vwCl (fl [(CLK ty aC tC pC hC kC sC)]) H := hP
      have hD : va_D A (fl [(CLK ty aC tC pC hC kC sC)]) := hD
      subst hQg
      have hP : va_P D vwCl (fl [(CLK ty aC tC pC hC kC sC)]) H := hP
      have hD : va_D A (fl [(CLK ty aC tC pC hC kC sC)]) := hD
      exact end_i (bs' := (fun (u : Int32 × CPg × CHs × CKs × CSc) => match u with | (r9, pF, hF, kF, sN) => [(CLK ty aC tC pF hF kF sN)])) ((-999999003), pC, hC, kC, sC) hx hb hr hlocks hP hD hS (⟨rfl, ((act_8 (x := x9) (y := y9) (by have q := (nI_eq (a := x9 % 16) (b := 8) (by omega) (by decide)).mp c_64; omega)).trans (if_neg hd1))⟩) (Nat.le_of_ble_eq_true rfl) (Nat.le_of_ble_eq_true rfl) dL_act_191
  rcases Classical.em ((nI (x9 % 16)) = 9) with c_72 | c_72
  · refine lv_tableIn (tgt := 192) (off := 188) hx hb dL_act_4 (by first | (rw [c_72]; done) | (rw [c_72]; decide)) (by first | (rw [c_72]; done) | (rw [c_72]; decide)) (by first | (rw [c_72]; done) | (rw [c_72]; rfl)) (by decide) ?_
    refine lv_aload_n hx hb dL_act_192 rfl (lv_at hl 0 rfl) ?_
    refine lv_iload_n hx hb dL_act_193 rfl (lv_at hl 2 rfl) ?_
    refine lv_iconst (v := 3) hx hb dL_act_194 (by decide) ?_
    refine k_irem (v := (nI (y9 % 3))) hx hb dL_act_195 (by decide) (pk_rem (a := y9) (d := 3) (by omega) (by decide) (by decide)) ?_
    refine lv_iload_n hx hb dL_act_196 rfl (lv_at hl 2 rfl) ?_
    refine lv_iconst (v := 4) hx hb dL_act_197 (by decide) ?_
    refine k_idiv (v := (nI (y9 / 4))) hx hb dL_act_198 (by decide) (pk_div (a := y9) (d := 4) (by omega) (by decide) (by decide)) ?_
    refine lv_iconst (v := 4) hx hb dL_act_199 (by decide) ?_
    refine k_irem (v := (nI (y9 / 4 % 4))) hx hb dL_act_200 (by decide) (pk_rem (a := y9 / 4) (d := 4) (by omega) (by decide) (by decide)) ?_
    refine lv_if_le (tgt := 208) hx hb dL_act_201 (by decide) (fun c_73 => ?_) (fun c_73 => ?_)
    · skip
      refine lv_iconst (v := 0) hx hb dL_act_208 (by decide) ?_
      have y40 : y9 / 4 % 4 = 0 := by have q := (nI_leI (a := y9 / 4 % 4) (b := 0) (by omega) (by decide)).mp c_73; omega
      rcases Classical.em (pdom pC.1 = 0) with hd0 | hd1
      · have hsp9 := hd0
        refine cSWi (As := [.ref (aC.1 0), .int (nI (y9 % 3)), .int 0]) (rest := []) ⟨hx, hb, hml, hown, hts⟩ (k_guard0 l D ty (nI (y9 % 3)) aC tC pC hC kC sC hst hc ((inI0 (n := (y9 % 3)) (h := 3) (by omega) (by decide))) hd0) (vx_cwSW 3 hts gL_act_L_tryGuard rfl rfl rfl (by decide +kernel) ⟨Nat.le_of_ble_eq_true rfl, Nat.le_of_ble_eq_true rfl⟩) hK hX hP hD hS hA (pk (bs := [(CLK ty aC tC pC hC kC sC)]) (bsc := [(CLK ty aC tC pC hC kC sC)]) (bsr := []) [0] [] 1 rfl (by decide +kernel) rfl rfl) rfl hl.1 rfl (Nat.le_of_ble_eq_true rfl) dL_act_209 ⟨Nat.le_of_ble_eq_true rfl, Nat.le_of_ble_eq_true rfl⟩ (fun r_75 u_74 h_76 H locs hP hD hS => ?_)
        rw [nI_clamp (show (y9 % 3) < 2 ^ 31 by omega)] at hP hD
        have h_r_75 : (gpn (bz (upd pC.1 (24 + (y9 % 3)) 0 24)) (bz (upd pC.1 (24 + (y9 % 3)) 0 25)) (bz (upd pC.1 (24 + (y9 % 3)) 0 26))) = r_75 := (h_76.trans (by rw [nI_clamp (show (y9 % 3) < 2 ^ 31 by omega)])).symm
        subst h_r_75
        have hP : va_P D vwCl (fl [(CLK ty aC tC ((upd pC.1 (24 + (y9 % 3)) 0), pC.2) (noteH pC hC) kC u_74)]) H := hP
        have hD : va_D A (fl [(CLK ty aC tC ((upd pC.1 (24 + (y9 % 3)) 0), pC.2) (noteH pC hC) kC u_74)]) := hD
        subst hQg
        have hP : va_P D vwCl (fl [(CLK ty aC tC ((upd pC.1 (24 + (y9 % 3)) 0), pC.2) (noteH pC hC) kC u_74)]) H := hP
        have hD : va_D A (fl [(CLK ty aC tC ((upd pC.1 (24 + (y9 % 3)) 0), pC.2) (noteH pC hC) kC u_74)]) := hD
        exact end_i (bs' := (fun (u : Int32 × CPg × CHs × CKs × CSc) => match u with | (r9, pF, hF, kF, sN) => [(CLK ty aC tC pF hF kF sN)])) ((gpn (bz (upd pC.1 (24 + (y9 % 3)) 0 24)) (bz (upd pC.1 (24 + (y9 % 3)) 0 25)) (bz (upd pC.1 (24 + (y9 % 3)) 0 26))), ((upd pC.1 (24 + (y9 % 3)) 0), pC.2), (noteH pC hC), kC, u_74) hx hb hr hlocks hP hD hS (⟨rfl, (((act_9 (x := x9) (y := y9) (by have q := (nI_eq (a := x9 % 16) (b := 9) (by omega) (by decide)).mp c_72; omega)).trans (if_pos y40)).trans (if_pos hd0))⟩) (Nat.le_of_ble_eq_true rfl) (Nat.le_of_ble_eq_true rfl) dL_act_212
      · have hsp9 := hd1
        refine cSWi (As := [.ref (aC.1 0), .int (nI (y9 % 3)), .int 0]) (rest := []) ⟨hx, hb, hml, hown, hts⟩ (k_guard0_n1 l D ty (nI (y9 % 3)) aC tC pC hC kC sC hst hc ((inI0 (n := (y9 % 3)) (h := 3) (by omega) (by decide))) hd1) (vx_cwSW 3 hts gL_act_L_tryGuard rfl rfl rfl (by decide +kernel) ⟨Nat.le_of_ble_eq_true rfl, Nat.le_of_ble_eq_true rfl⟩) hK hX hP hD hS hA (pk (bs := [(CLK ty aC tC pC hC kC sC)]) (bsc := [(CLK ty aC tC pC hC kC sC)]) (bsr := []) [0] [] 1 rfl (by decide +kernel) rfl rfl) rfl hl.1 rfl (Nat.le_of_ble_eq_true rfl) dL_act_209 ⟨Nat.le_of_ble_eq_true rfl, Nat.le_of_ble_eq_true rfl⟩ (fun r_79 u_78 h_80 H locs hP hD hS => ?_)
        have h_r_79 : (-999999003) = r_79 := h_80.symm
        subst h_r_79
        have hP : va_P D vwCl (fl [(CLK ty aC tC pC hC kC sC)]) H := hP
        have hD : va_D A (fl [(CLK ty aC tC pC hC kC sC)]) := hD
        subst hQg
        have hP : va_P D vwCl (fl [(CLK ty aC tC pC hC kC sC)]) H := hP
        have hD : va_D A (fl [(CLK ty aC tC pC hC kC sC)]) := hD
        exact end_i (bs' := (fun (u : Int32 × CPg × CHs × CKs × CSc) => match u with | (r9, pF, hF, kF, sN) => [(CLK ty aC tC pF hF kF sN)])) ((-999999003), pC, hC, kC, sC) hx hb hr hlocks hP hD hS (⟨rfl, (((act_9 (x := x9) (y := y9) (by have q := (nI_eq (a := x9 % 16) (b := 9) (by omega) (by decide)).mp c_72; omega)).trans (if_pos y40)).trans (if_neg hd1))⟩) (Nat.le_of_ble_eq_true rfl) (Nat.le_of_ble_eq_true rfl) dL_act_212
    · skip
      refine lv_iconst (v := 1) hx hb dL_act_204 (by decide) ?_
      refine lv_goto (tgt := 209) hx hb dL_act_205 (by decide) ?_
      have y41 : ¬ y9 / 4 % 4 = 0 := fun e => c_73 (by rw [e]; decide)
      rcases Classical.em (pdom pC.1 = 0) with hd0 | hd1
      · have hsp9 := hd0
        refine cSWi (As := [.ref (aC.1 0), .int (nI (y9 % 3)), .int 1]) (rest := []) ⟨hx, hb, hml, hown, hts⟩ (k_guard1 l D ty (nI (y9 % 3)) aC tC pC hC kC sC hst hc ((inI0 (n := (y9 % 3)) (h := 3) (by omega) (by decide))) hd0) (vx_cwSW 3 hts gL_act_L_tryGuard rfl rfl rfl (by decide +kernel) ⟨Nat.le_of_ble_eq_true rfl, Nat.le_of_ble_eq_true rfl⟩) hK hX hP hD hS hA (pk (bs := [(CLK ty aC tC pC hC kC sC)]) (bsc := [(CLK ty aC tC pC hC kC sC)]) (bsr := []) [0] [] 1 rfl (by decide +kernel) rfl rfl) rfl hl.1 rfl (Nat.le_of_ble_eq_true rfl) dL_act_209 ⟨Nat.le_of_ble_eq_true rfl, Nat.le_of_ble_eq_true rfl⟩ (fun r_82 u_81 h_83 H locs hP hD hS => ?_)
        rw [nI_clamp (show (y9 % 3) < 2 ^ 31 by omega)] at hP hD
        have h_r_82 : (gpn (bz (upd pC.1 (24 + (y9 % 3)) 1 24)) (bz (upd pC.1 (24 + (y9 % 3)) 1 25)) (bz (upd pC.1 (24 + (y9 % 3)) 1 26))) = r_82 := (h_83.trans (by rw [nI_clamp (show (y9 % 3) < 2 ^ 31 by omega)])).symm
        subst h_r_82
        have hP : va_P D vwCl (fl [(CLK ty aC tC ((upd pC.1 (24 + (y9 % 3)) 1), pC.2) (noteH pC hC) kC u_81)]) H := hP
        have hD : va_D A (fl [(CLK ty aC tC ((upd pC.1 (24 + (y9 % 3)) 1), pC.2) (noteH pC hC) kC u_81)]) := hD
        subst hQg
        have hP : va_P D vwCl (fl [(CLK ty aC tC ((upd pC.1 (24 + (y9 % 3)) 1), pC.2) (noteH pC hC) kC u_81)]) H := hP
        have hD : va_D A (fl [(CLK ty aC tC ((upd pC.1 (24 + (y9 % 3)) 1), pC.2) (noteH pC hC) kC u_81)]) := hD
        exact end_i (bs' := (fun (u : Int32 × CPg × CHs × CKs × CSc) => match u with | (r9, pF, hF, kF, sN) => [(CLK ty aC tC pF hF kF sN)])) ((gpn (bz (upd pC.1 (24 + (y9 % 3)) 1 24)) (bz (upd pC.1 (24 + (y9 % 3)) 1 25)) (bz (upd pC.1 (24 + (y9 % 3)) 1 26))), ((upd pC.1 (24 + (y9 % 3)) 1), pC.2), (noteH pC hC), kC, u_81) hx hb hr hlocks hP hD hS (⟨rfl, (((act_9 (x := x9) (y := y9) (by have q := (nI_eq (a := x9 % 16) (b := 9) (by omega) (by decide)).mp c_72; omega)).trans (if_neg y41)).trans (if_pos hd0))⟩) (Nat.le_of_ble_eq_true rfl) (Nat.le_of_ble_eq_true rfl) dL_act_212
      · have hsp9 := hd1
        refine cSWi (As := [.ref (aC.1 0), .int (nI (y9 % 3)), .int 1]) (rest := []) ⟨hx, hb, hml, hown, hts⟩ (k_guard1_n1 l D ty (nI (y9 % 3)) aC tC pC hC kC sC hst hc ((inI0 (n := (y9 % 3)) (h := 3) (by omega) (by decide))) hd1) (vx_cwSW 3 hts gL_act_L_tryGuard rfl rfl rfl (by decide +kernel) ⟨Nat.le_of_ble_eq_true rfl, Nat.le_of_ble_eq_true rfl⟩) hK hX hP hD hS hA (pk (bs := [(CLK ty aC tC pC hC kC sC)]) (bsc := [(CLK ty aC tC pC hC kC sC)]) (bsr := []) [0] [] 1 rfl (by decide +kernel) rfl rfl) rfl hl.1 rfl (Nat.le_of_ble_eq_true rfl) dL_act_209 ⟨Nat.le_of_ble_eq_true rfl, Nat.le_of_ble_eq_true rfl⟩ (fun r_86 u_85 h_87 H locs hP hD hS => ?_)
        have h_r_86 : (-999999003) = r_86 := h_87.symm
        subst h_r_86
        have hP : va_P D vwCl (fl [(CLK ty aC tC pC hC kC sC)]) H := hP
        have hD : va_D A (fl [(CLK ty aC tC pC hC kC sC)]) := hD
        subst hQg
        have hP : va_P D vwCl (fl [(CLK ty aC tC pC hC kC sC)]) H := hP
        have hD : va_D A (fl [(CLK ty aC tC pC hC kC sC)]) := hD
        exact end_i (bs' := (fun (u : Int32 × CPg × CHs × CKs × CSc) => match u with | (r9, pF, hF, kF, sN) => [(CLK ty aC tC pF hF kF sN)])) ((-999999003), pC, hC, kC, sC) hx hb hr hlocks hP hD hS (⟨rfl, (((act_9 (x := x9) (y := y9) (by have q := (nI_eq (a := x9 % 16) (b := 9) (by omega) (by decide)).mp c_72; omega)).trans (if_neg y41)).trans (if_neg hd1))⟩) (Nat.le_of_ble_eq_true rfl) (Nat.le_of_ble_eq_true rfl) dL_act_212
  rcases Classical.em ((nI (x9 % 16)) = 10) with c_88 | c_88
  · refine lv_tableIn (tgt := 213) (off := 209) hx hb dL_act_4 (by first | (rw [c_88]; done) | (rw [c_88]; decide)) (by first | (rw [c_88]; done) | (rw [c_88]; decide)) (by first | (rw [c_88]; done) | (rw [c_88]; rfl)) (by decide) ?_
    refine lv_aload_n hx hb dL_act_213 rfl (lv_at hl 0 rfl) ?_
    refine lv_iload_n hx hb dL_act_214 rfl (lv_at hl 2 rfl) ?_
    refine lv_iconst (v := 3) hx hb dL_act_215 (by decide) ?_
    refine k_irem (v := (nI (y9 % 3))) hx hb dL_act_216 (by decide) (pk_rem (a := y9) (d := 3) (by omega) (by decide) (by decide)) ?_
    refine cSWi (As := [.ref (aC.1 0), .int (nI (y9 % 3))]) (rest := []) ⟨hx, hb, hml, hown, hts⟩ (k_tamper l D ty (nI (y9 % 3)) aC tC pC hC kC sC hst hc ((SG_Rw (P := pC) hG).1) ((inI0 (n := (y9 % 3)) (h := 3) (by omega) (by decide)))) (vx_cwSW 2 hts gL_act_L_tryTamper rfl rfl rfl (by decide +kernel) ⟨Nat.le_of_ble_eq_true rfl, Nat.le_of_ble_eq_true rfl⟩) hK hX hP hD hS hA (pk (bs := [(CLK ty aC tC pC hC kC sC)]) (bsc := [(CLK ty aC tC pC hC kC sC)]) (bsr := []) [0] [] 1 rfl (by decide +kernel) rfl rfl) rfl hl.1 rfl (Nat.le_of_ble_eq_true rfl) dL_act_217 ⟨Nat.le_of_ble_eq_true rfl, Nat.le_of_ble_eq_true rfl⟩ (fun r_90 u_89 h_91 H locs hP hD hS => ?_)
    have h_r_90 : (ptamper (nI (y9 % 3)) pC.1 11) = r_90 := h_91.symm
    subst h_r_90
    have hP : va_P D vwCl (fl [(CLK ty aC tC (tamP (nI (y9 % 3)) pC) (noteH pC hC) kC u_89)]) H := hP
    have hD : va_D A (fl [(CLK ty aC tC (tamP (nI (y9 % 3)) pC) (noteH pC hC) kC u_89)]) := hD
    subst hQg
    have hP : va_P D vwCl (fl [(CLK ty aC tC (tamP (nI (y9 % 3)) pC) (noteH pC hC) kC u_89)]) H := hP
    have hD : va_D A (fl [(CLK ty aC tC (tamP (nI (y9 % 3)) pC) (noteH pC hC) kC u_89)]) := hD
    exact end_i (bs' := (fun (u : Int32 × CPg × CHs × CKs × CSc) => match u with | (r9, pF, hF, kF, sN) => [(CLK ty aC tC pF hF kF sN)])) ((ptamper (nI (y9 % 3)) pC.1 11), (tamP (nI (y9 % 3)) pC), (noteH pC hC), kC, u_89) hx hb hr hlocks hP hD hS (⟨rfl, (act_10 (x := x9) (y := y9) (by have q := (nI_eq (a := x9 % 16) (b := 10) (by omega) (by decide)).mp c_88; omega))⟩) (Nat.le_of_ble_eq_true rfl) (Nat.le_of_ble_eq_true rfl) dL_act_220
  rcases Classical.em ((nI (x9 % 16)) = 11) with c_93 | c_93
  · refine lv_tableIn (tgt := 213) (off := 209) hx hb dL_act_4 (by first | (rw [c_93]; done) | (rw [c_93]; decide)) (by first | (rw [c_93]; done) | (rw [c_93]; decide)) (by first | (rw [c_93]; done) | (rw [c_93]; rfl)) (by decide) ?_
    refine lv_aload_n hx hb dL_act_213 rfl (lv_at hl 0 rfl) ?_
    refine lv_iload_n hx hb dL_act_214 rfl (lv_at hl 2 rfl) ?_
    refine lv_iconst (v := 3) hx hb dL_act_215 (by decide) ?_
    refine k_irem (v := (nI (y9 % 3))) hx hb dL_act_216 (by decide) (pk_rem (a := y9) (d := 3) (by omega) (by decide) (by decide)) ?_
    refine cSWi (As := [.ref (aC.1 0), .int (nI (y9 % 3))]) (rest := []) ⟨hx, hb, hml, hown, hts⟩ (k_tamper l D ty (nI (y9 % 3)) aC tC pC hC kC sC hst hc ((SG_Rw (P := pC) hG).1) ((inI0 (n := (y9 % 3)) (h := 3) (by omega) (by decide)))) (vx_cwSW 2 hts gL_act_L_tryTamper rfl rfl rfl (by decide +kernel) ⟨Nat.le_of_ble_eq_true rfl, Nat.le_of_ble_eq_true rfl⟩) hK hX hP hD hS hA (pk (bs := [(CLK ty aC tC pC hC kC sC)]) (bsc := [(CLK ty aC tC pC hC kC sC)]) (bsr := []) [0] [] 1 rfl (by decide +kernel) rfl rfl) rfl hl.1 rfl (Nat.le_of_ble_eq_true rfl) dL_act_217 ⟨Nat.le_of_ble_eq_true rfl, Nat.le_of_ble_eq_true rfl⟩ (fun r_95 u_94 h_96 H locs hP hD hS => ?_)
    have h_r_95 : (ptamper (nI (y9 % 3)) pC.1 11) = r_95 := h_96.symm
    subst h_r_95
    have hP : va_P D vwCl (fl [(CLK ty aC tC (tamP (nI (y9 % 3)) pC) (noteH pC hC) kC u_94)]) H := hP
    have hD : va_D A (fl [(CLK ty aC tC (tamP (nI (y9 % 3)) pC) (noteH pC hC) kC u_94)]) := hD
    subst hQg
    have hP : va_P D vwCl (fl [(CLK ty aC tC (tamP (nI (y9 % 3)) pC) (noteH pC hC) kC u_94)]) H := hP
    have hD : va_D A (fl [(CLK ty aC tC (tamP (nI (y9 % 3)) pC) (noteH pC hC) kC u_94)]) := hD
    exact end_i (bs' := (fun (u : Int32 × CPg × CHs × CKs × CSc) => match u with | (r9, pF, hF, kF, sN) => [(CLK ty aC tC pF hF kF sN)])) ((ptamper (nI (y9 % 3)) pC.1 11), (tamP (nI (y9 % 3)) pC), (noteH pC hC), kC, u_94) hx hb hr hlocks hP hD hS (⟨rfl, (act_10 (x := x9) (y := y9) (by have q := (nI_eq (a := x9 % 16) (b := 11) (by omega) (by decide)).mp c_93; omega))⟩) (Nat.le_of_ble_eq_true rfl) (Nat.le_of_ble_eq_true rfl) dL_act_220
  rcases Classical.em ((nI (x9 % 16)) = 12) with c_98 | c_98
  · refine lv_tableIn (tgt := 221) (off := 217) hx hb dL_act_4 (by first | (rw [c_98]; done) | (rw [c_98]; decide)) (by first | (rw [c_98]; done) | (rw [c_98]; decide)) (by first | (rw [c_98]; done) | (rw [c_98]; rfl)) (by decide) ?_
    refine lv_iload_n hx hb dL_act_221 rfl (lv_at hl 2 rfl) ?_
    refine lv_iconst (v := 2) hx hb dL_act_222 (by decide) ?_
    refine k_irem (v := (nI (y9 % 2))) hx hb dL_act_223 (by decide) (pk_rem (a := y9) (d := 2) (by omega) (by decide) (by decide)) ?_
    refine lv_if_ne (tgt := 234) hx hb dL_act_224 (by decide) (fun c_99 => ?_) (fun c_99 => ?_)
    · skip
      have y21 : ¬ y9 % 2 = 0 := fun e => c_99 (congrArg nI e)
      refine lv_aload_n hx hb dL_act_234 rfl (lv_at hl 0 rfl) ?_
      refine lv_iload_n hx hb dL_act_235 rfl (lv_at hl 2 rfl) ?_
      refine lv_iconst (v := 2) hx hb dL_act_236 (by decide) ?_
      refine k_idiv (v := (nI (y9 / 2))) hx hb dL_act_237 (by decide) (pk_div (a := y9) (d := 2) (by omega) (by decide) (by decide)) ?_
      refine lv_iconst (v := 4) hx hb dL_act_238 (by decide) ?_
      refine k_irem (v := (nI (y9 / 2 % 4))) hx hb dL_act_239 (by decide) (pk_rem (a := y9 / 2) (d := 4) (by omega) (by decide) (by decide)) ?_
      refine lv_iload_n hx hb dL_act_240 rfl (lv_at hl 2 rfl) ?_
      refine lv_bipush (v := 8) hx hb dL_act_241 (by decide) ?_
      refine k_idiv (v := (nI (y9 / 8))) hx hb dL_act_243 (by decide) (pk_div (a := y9) (d := 8) (by omega) (by decide) (by decide)) ?_
      refine lv_sipush (v := 1441) hx hb dL_act_244 (by decide) ?_
      refine k_irem (v := (nI (y9 / 8 % 1441))) hx hb dL_act_247 (by decide) (pk_rem (a := y9 / 8) (d := 1441) (by omega) (by decide) (by decide)) ?_
      refine cSWi (As := [.ref (aC.1 0), .int (nI (y9 / 2 % 4)), .int (nI (y9 / 8 % 1441))]) (rest := []) ⟨hx, hb, hml, hown, hts⟩ (k_setAlarm l D ty (nI (y9 / 2 % 4)) (nI (y9 / 8 % 1441)) aC tC pC hC kC sC hst hc ((inI0 (n := (y9 / 2 % 4)) (h := 4) (by omega) (by decide))) ((inR0 (n := (y9 / 8 % 1441)) (h := 1440) (by omega) (by decide)))) (vx_cwSW 3 hts gL_act_L_trySetAlarm rfl rfl rfl (by decide +kernel) ⟨Nat.le_of_ble_eq_true rfl, Nat.le_of_ble_eq_true rfl⟩) hK hX hP hD hS hA (pk (bs := [(CLK ty aC tC pC hC kC sC)]) (bsc := [(CLK ty aC tC pC hC kC sC)]) (bsr := []) [0] [] 1 rfl (by decide +kernel) rfl rfl) rfl hl.1 rfl (Nat.le_of_ble_eq_true rfl) dL_act_248 ⟨Nat.le_of_ble_eq_true rfl, Nat.le_of_ble_eq_true rfl⟩ (fun r_101 u_100 h_102 H locs hP hD hS => ?_)
      rw [nI_clamp (show (y9 / 2 % 4) < 2 ^ 31 by omega)] at hP hD
      have h_r_101 : (pC.1 (27 + 3 * (y9 / 2 % 4))) = r_101 := (h_102.trans (by rw [nI_clamp (show (y9 / 2 % 4) < 2 ^ 31 by omega)])).symm
      subst h_r_101
      have hP : va_P D vwCl (fl [(CLK ty aC tC ((psetAl (y9 / 2 % 4) (nI (y9 / 8 % 1441)) pC.1), pC.2) (noteH pC hC) kC u_100)]) H := hP
      have hD : va_D A (fl [(CLK ty aC tC ((psetAl (y9 / 2 % 4) (nI (y9 / 8 % 1441)) pC.1), pC.2) (noteH pC hC) kC u_100)]) := hD
      subst hQg
      have hP : va_P D vwCl (fl [(CLK ty aC tC ((psetAl (y9 / 2 % 4) (nI (y9 / 8 % 1441)) pC.1), pC.2) (noteH pC hC) kC u_100)]) H := hP
      have hD : va_D A (fl [(CLK ty aC tC ((psetAl (y9 / 2 % 4) (nI (y9 / 8 % 1441)) pC.1), pC.2) (noteH pC hC) kC u_100)]) := hD
      exact end_i (bs' := (fun (u : Int32 × CPg × CHs × CKs × CSc) => match u with | (r9, pF, hF, kF, sN) => [(CLK ty aC tC pF hF kF sN)])) ((pC.1 (27 + 3 * (y9 / 2 % 4))), ((psetAl (y9 / 2 % 4) (nI (y9 / 8 % 1441)) pC.1), pC.2), (noteH pC hC), kC, u_100) hx hb hr hlocks hP hD hS (⟨rfl, ((act_12 (x := x9) (y := y9) (by have q := (nI_eq (a := x9 % 16) (b := 12) (by omega) (by decide)).mp c_98; omega)).trans (if_neg y21))⟩) (Nat.le_of_ble_eq_true rfl) (Nat.le_of_ble_eq_true rfl) dL_act_251
    · skip
      have y20 : y9 % 2 = 0 := (nI_eq (a := y9 % 2) (b := 0) (by omega) (by decide)).mp c_99
      refine lv_aload_n hx hb dL_act_227 rfl (lv_at hl 0 rfl) ?_
      rcases Classical.em (pdom pC.1 = 0) with hd0 | hd1
      · have hsp9 := hd0
        refine cSWi (As := [.ref (aC.1 0)]) (rest := []) ⟨hx, hb, hml, hown, hts⟩ (k_clearRows l D ty aC tC pC hC kC sC hst hc hd0) (vx_cwSW 1 hts gL_act_L_tryClearRows rfl rfl rfl (by decide +kernel) ⟨Nat.le_of_ble_eq_true rfl, Nat.le_of_ble_eq_true rfl⟩) hK hX hP hD hS hA (pk (bs := [(CLK ty aC tC pC hC kC sC)]) (bsc := [(CLK ty aC tC pC hC kC sC)]) (bsr := []) [0] [] 1 rfl (by decide +kernel) rfl rfl) rfl hl.1 rfl (Nat.le_of_ble_eq_true rfl) dL_act_228 ⟨Nat.le_of_ble_eq_true rfl, Nat.le_of_ble_eq_true rfl⟩ (fun r_105 u_104 h_106 H locs hP hD hS => ?_)
        have h_r_105 : (pC.1 11) = r_105 := h_106.symm
        subst h_r_105
        have hP : va_P D vwCl (fl [(CLK ty aC tC ((upd pC.1 11 0), pC.2) (noteH pC hC) kC u_104)]) H := hP
        have hD : va_D A (fl [(CLK ty aC tC ((upd pC.1 11 0), pC.2) (noteH pC hC) kC u_104)]) := hD
        refine lv_goto (tgt := 251) hx hb dL_act_231 (by decide) ?_
        subst hQg
        have hP : va_P D vwCl (fl [(CLK ty aC tC ((upd pC.1 11 0), pC.2) (noteH pC hC) kC u_104)]) H := hP
        have hD : va_D A (fl [(CLK ty aC tC ((upd pC.1 11 0), pC.2) (noteH pC hC) kC u_104)]) := hD
        exact end_i (bs' := (fun (u : Int32 × CPg × CHs × CKs × CSc) => match u with | (r9, pF, hF, kF, sN) => [(CLK ty aC tC pF hF kF sN)])) ((pC.1 11), ((upd pC.1 11 0), pC.2), (noteH pC hC), kC, u_104) hx hb hr hlocks hP hD hS (⟨rfl, (((act_12 (x := x9) (y := y9) (by have q := (nI_eq (a := x9 % 16) (b := 12) (by omega) (by decide)).mp c_98; omega)).trans (if_pos y20)).trans (if_pos hd0))⟩) (Nat.le_of_ble_eq_true rfl) (Nat.le_of_ble_eq_true rfl) dL_act_251
      · have hsp9 := hd1
        refine cSWi (As := [.ref (aC.1 0)]) (rest := []) ⟨hx, hb, hml, hown, hts⟩ (k_clearRows_n0 l D ty aC tC pC hC kC sC hst hc hd1) (vx_cwSW 1 hts gL_act_L_tryClearRows rfl rfl rfl (by decide +kernel) ⟨Nat.le_of_ble_eq_true rfl, Nat.le_of_ble_eq_true rfl⟩) hK hX hP hD hS hA (pk (bs := [(CLK ty aC tC pC hC kC sC)]) (bsc := [(CLK ty aC tC pC hC kC sC)]) (bsr := []) [0] [] 1 rfl (by decide +kernel) rfl rfl) rfl hl.1 rfl (Nat.le_of_ble_eq_true rfl) dL_act_228 ⟨Nat.le_of_ble_eq_true rfl, Nat.le_of_ble_eq_true rfl⟩ (fun r_109 u_108 h_110 H locs hP hD hS => ?_)
        have h_r_109 : (-999999003) = r_109 := h_110.symm
        subst h_r_109
        have hP : va_P D vwCl (fl [(CLK ty aC tC pC hC kC sC)]) H := hP
        have hD : va_D A (fl [(CLK ty aC tC pC hC kC sC)]) := hD
        refine lv_goto (tgt := 251) hx hb dL_act_231 (by decide) ?_
        subst hQg
        have hP : va_P D vwCl (fl [(CLK ty aC tC pC hC kC sC)]) H := hP
        have hD : va_D A (fl [(CLK ty aC tC pC hC kC sC)]) := hD
        exact end_i (bs' := (fun (u : Int32 × CPg × CHs × CKs × CSc) => match u with | (r9, pF, hF, kF, sN) => [(CLK ty aC tC pF hF kF sN)])) ((-999999003), pC, hC, kC, sC) hx hb hr hlocks hP hD hS (⟨rfl, (((act_12 (x := x9) (y := y9) (by have q := (nI_eq (a := x9 % 16) (b := 12) (by omega) (by decide)).mp c_98; omega)).trans (if_pos y20)).trans (if_neg hd1))⟩) (Nat.le_of_ble_eq_true rfl) (Nat.le_of_ble_eq_true rfl) dL_act_251
  rcases Classical.em ((nI (x9 % 16)) = 13) with c_111 | c_111
  · refine lv_tableIn (tgt := 252) (off := 248) hx hb dL_act_4 (by first | (rw [c_111]; done) | (rw [c_111]; decide)) (by first | (rw [c_111]; done) | (rw [c_111]; decide)) (by first | (rw [c_111]; done) | (rw [c_111]; rfl)) (by decide) ?_
    refine lv_aload_n hx hb dL_act_252 rfl (lv_at hl 0 rfl) ?_
    refine lv_iload_n hx hb dL_act_253 rfl (lv_at hl 2 rfl) ?_
    refine lv_sipush (v := 300) hx hb dL_act_254 (by decide) ?_
    refine k_irem (v := (nI (y9 % 300))) hx hb dL_act_257 (by decide) (pk_rem (a := y9) (d := 300) (by omega) (by decide) (by decide)) ?_
    refine cSWi (As := [.ref (aC.1 0), .int (nI (y9 % 300))]) (rest := []) ⟨hx, hb, hml, hown, hts⟩ (k_battery l D ty (nI (y9 % 300)) aC tC pC hC kC sC hst hc ((inR0 (n := (y9 % 300)) (h := 9999) (by omega) (by decide)))) (vx_cwSW 2 hts gL_act_L_tryBattery rfl rfl rfl (by decide +kernel) ⟨Nat.le_of_ble_eq_true rfl, Nat.le_of_ble_eq_true rfl⟩) hK hX hP hD hS hA (pk (bs := [(CLK ty aC tC pC hC kC sC)]) (bsc := [(CLK ty aC tC pC hC kC sC)]) (bsr := []) [0] [] 1 rfl (by decide +kernel) rfl rfl) rfl hl.1 rfl (Nat.le_of_ble_eq_true rfl) dL_act_258 ⟨Nat.le_of_ble_eq_true rfl, Nat.le_of_ble_eq_true rfl⟩ (fun r_113 u_112 h_114 H locs hP hD hS => ?_)
    have h_r_113 : (pdom (pcharge (nI (y9 % 300)) pC.1)) = r_113 := h_114.symm
    subst h_r_113
    have hP : va_P D vwCl (fl [(CLK ty aC tC ((pcharge (nI (y9 % 300)) pC.1), pC.2) (noteH pC hC) kC u_112)]) H := hP
    have hD : va_D A (fl [(CLK ty aC tC ((pcharge (nI (y9 % 300)) pC.1), pC.2) (noteH pC hC) kC u_112)]) := hD
    subst hQg
    have hP : va_P D vwCl (fl [(CLK ty aC tC ((pcharge (nI (y9 % 300)) pC.1), pC.2) (noteH pC hC) kC u_112)]) H := hP
    have hD : va_D A (fl [(CLK ty aC tC ((pcharge (nI (y9 % 300)) pC.1), pC.2) (noteH pC hC) kC u_112)]) := hD
    exact end_i (bs' := (fun (u : Int32 × CPg × CHs × CKs × CSc) => match u with | (r9, pF, hF, kF, sN) => [(CLK ty aC tC pF hF kF sN)])) ((pdom (pcharge (nI (y9 % 300)) pC.1)), ((pcharge (nI (y9 % 300)) pC.1), pC.2), (noteH pC hC), kC, u_112) hx hb hr hlocks hP hD hS (⟨rfl, (act_13 (x := x9) (y := y9) (by have q := (nI_eq (a := x9 % 16) (b := 13) (by omega) (by decide)).mp c_111; omega))⟩) (Nat.le_of_ble_eq_true rfl) (Nat.le_of_ble_eq_true rfl) dL_act_261
  rcases Classical.em ((nI (x9 % 16)) = 14) with c_116 | c_116
  · refine lv_tableIn (tgt := 262) (off := 258) hx hb dL_act_4 (by first | (rw [c_116]; done) | (rw [c_116]; decide)) (by first | (rw [c_116]; done) | (rw [c_116]; decide)) (by first | (rw [c_116]; done) | (rw [c_116]; rfl)) (by decide) ?_
    refine lv_aload_n hx hb dL_act_262 rfl (lv_at hl 0 rfl) ?_
    obtain ⟨n7, hu9⟩ := hC
    rcases n7 with _ | cm9
    · have hsp9 : True := trivial
      refine cSWi (As := [.ref (aC.1 0)]) (rest := []) ⟨hx, hb, hml, hown, hts⟩ (k_undo0_n0 l D ty aC tC pC hu9 kC sC hst) (vx_cwSW 1 hts gL_act_L_tryUndo rfl rfl rfl (by decide +kernel) ⟨Nat.le_of_ble_eq_true rfl, Nat.le_of_ble_eq_true rfl⟩) hK hX hP hD hS hA (pk (bs := [(CLK ty aC tC pC (0, hu9) kC sC)]) (bsc := [(CLK ty aC tC pC (0, hu9) kC sC)]) (bsr := []) [0] [] 1 rfl (by decide +kernel) rfl rfl) rfl hl.1 rfl (Nat.le_of_ble_eq_true rfl) dL_act_263 ⟨Nat.le_of_ble_eq_true rfl, Nat.le_of_ble_eq_true rfl⟩ (fun r_118 u_117 h_119 H locs hP hD hS => ?_)
      have h_r_118 : (-999999003) = r_118 := h_119.symm
      subst h_r_118
      have hP : va_P D vwCl (fl [(CLK ty aC tC pC (0, hu9) kC sC)]) H := hP
      have hD : va_D A (fl [(CLK ty aC tC pC (0, hu9) kC sC)]) := hD
      subst hQg
      have hP : va_P D vwCl (fl [(CLK ty aC tC pC (0, hu9) kC sC)]) H := hP
      have hD : va_D A (fl [(CLK ty aC tC pC (0, hu9) kC sC)]) := hD
      exact end_i (bs' := (fun (u : Int32 × CPg × CHs × CKs × CSc) => match u with | (r9, pF, hF, kF, sN) => [(CLK ty aC tC pF hF kF sN)])) ((-999999003), pC, (0, hu9), kC, sC) hx hb hr hlocks hP hD hS (⟨rfl, ((act_14 (x := x9) (y := y9) (by have q := (nI_eq (a := x9 % 16) (b := 14) (by omega) (by decide)).mp c_116; omega)).trans (if_pos rfl))⟩) (Nat.le_of_ble_eq_true rfl) (Nat.le_of_ble_eq_true rfl) dL_act_266
    · have hsp9 : True := trivial
      refine cSWi (As := [.ref (aC.1 0)]) (rest := []) ⟨hx, hb, hml, hown, hts⟩ (k_undo1 l D ty cm9 aC tC pC hu9 kC sC hst ((Nat.lt_of_succ_le (show cm9 + 1 ≤ 14 from hc)))) (vx_cwSW 1 hts gL_act_L_tryUndo rfl rfl rfl (by decide +kernel) ⟨Nat.le_of_ble_eq_true rfl, Nat.le_of_ble_eq_true rfl⟩) hK hX hP hD hS hA (pk (bs := [(CLK ty aC tC pC (cm9 + 1, hu9) kC sC)]) (bsc := [(CLK ty aC tC pC (cm9 + 1, hu9) kC sC)]) (bsr := []) [0] [] 1 rfl (by decide +kernel) rfl rfl) rfl hl.1 rfl (Nat.le_of_ble_eq_true rfl) dL_act_263 ⟨Nat.le_of_ble_eq_true rfl, Nat.le_of_ble_eq_true rfl⟩ (fun r_121 u_120 h_122 H locs hP hD hS => ?_)
      have h_r_121 : (nI cm9) = r_121 := h_122.symm
      subst h_r_121
      have hP : va_P D vwCl (fl [(CLK ty aC tC ((hu9.1 cm9), (hu9.2.1 cm9), (hu9.2.2.1 cm9), (hu9.2.2.2 cm9)) (cm9, hu9) kC sC)]) H := hP
      have hD : va_D A (fl [(CLK ty aC tC ((hu9.1 cm9), (hu9.2.1 cm9), (hu9.2.2.1 cm9), (hu9.2.2.2 cm9)) (cm9, hu9) kC sC)]) := hD
      subst hQg
      have hP : va_P D vwCl (fl [(CLK ty aC tC ((hu9.1 cm9), (hu9.2.1 cm9), (hu9.2.2.1 cm9), (hu9.2.2.2 cm9)) (cm9, hu9) kC sC)]) H := hP
      have hD : va_D A (fl [(CLK ty aC tC ((hu9.1 cm9), (hu9.2.1 cm9), (hu9.2.2.1 cm9), (hu9.2.2.2 cm9)) (cm9, hu9) kC sC)]) := hD
      exact end_i (bs' := (fun (u : Int32 × CPg × CHs × CKs × CSc) => match u with | (r9, pF, hF, kF, sN) => [(CLK ty aC tC pF hF kF sN)])) ((nI cm9), ((hu9.1 cm9), (hu9.2.1 cm9), (hu9.2.2.1 cm9), (hu9.2.2.2 cm9)), (cm9, hu9), kC, sC) hx hb hr hlocks hP hD hS (⟨rfl, ((act_14 (x := x9) (y := y9) (by have q := (nI_eq (a := x9 % 16) (b := 14) (by omega) (by decide)).mp c_116; omega)).trans (if_neg (Nat.succ_ne_zero cm9)))⟩) (Nat.le_of_ble_eq_true rfl) (Nat.le_of_ble_eq_true rfl) dL_act_266
  refine lv_tableOut (tgt := 267) hx hb dL_act_4 (by have h0 := lv_neT c_1 (show (0 : Int32).toInt = 0 from rfl); have h1 := lv_neT c_7 (show (1 : Int32).toInt = 1 from rfl); have h2 := lv_neT c_13 (show (2 : Int32).toInt = 2 from rfl); have h3 := lv_neT c_19 (show (3 : Int32).toInt = 3 from rfl); have h4 := lv_neT c_25 (show (4 : Int32).toInt = 4 from rfl); have h5 := lv_neT c_30 (show (5 : Int32).toInt = 5 from rfl); have h6 := lv_neT c_35 (show (6 : Int32).toInt = 6 from rfl); have h7 := lv_neT c_51 (show (7 : Int32).toInt = 7 from rfl); have h8 := lv_neT c_64 (show (8 : Int32).toInt = 8 from rfl); have h9 := lv_neT c_72 (show (9 : Int32).toInt = 9 from rfl); have h10 := lv_neT c_88 (show (10 : Int32).toInt = 10 from rfl); have h11 := lv_neT c_93 (show (11 : Int32).toInt = 11 from rfl); have h12 := lv_neT c_98 (show (12 : Int32).toInt = 12 from rfl); have h13 := lv_neT c_111 (show (13 : Int32).toInt = 13 from rfl); have h14 := lv_neT c_116 (show (14 : Int32).toInt = 14 from rfl); omega) (by decide) ?_
  refine lv_iload_n hx hb dL_act_267 rfl (lv_at hl 2 rfl) ?_
  refine lv_iconst (v := 2) hx hb dL_act_268 (by decide) ?_
  refine k_irem (v := (nI (y9 % 2))) hx hb dL_act_269 (by decide) (pk_rem (a := y9) (d := 2) (by omega) (by decide) (by decide)) ?_
  refine lv_if_ne (tgt := 281) hx hb dL_act_270 (by decide) (fun c_123 => ?_) (fun c_123 => ?_)
  · skip
    have y21 : ¬ y9 % 2 = 0 := fun e => c_123 (congrArg nI e)
    refine lv_aload_n hx hb dL_act_281 rfl (lv_at hl 0 rfl) ?_
    refine lv_iconst (v := 1) hx hb dL_act_282 (by decide) ?_
    rcases Classical.em (kC.1 1 = 0) with hk0 | hk1
    · have hsp9 := hk0
      refine cSWi (As := [.ref (aC.1 0), .int 1]) (rest := []) ⟨hx, hb, hml, hown, hts⟩ (k_restore_n1 l D ty 1 aC tC pC hC kC sC hst ((inI_d (by decide +kernel))) ((fun q => q hk0))) (vx_cwSW 2 hts gL_act_L_tryRestore rfl rfl rfl (by decide +kernel) ⟨Nat.le_of_ble_eq_true rfl, Nat.le_of_ble_eq_true rfl⟩) hK hX hP hD hS hA (pk (bs := [(CLK ty aC tC pC hC kC sC)]) (bsc := [(CLK ty aC tC pC hC kC sC)]) (bsr := []) [0] [] 1 rfl (by decide +kernel) rfl rfl) rfl hl.1 rfl (Nat.le_of_ble_eq_true rfl) dL_act_283 ⟨Nat.le_of_ble_eq_true rfl, Nat.le_of_ble_eq_true rfl⟩ (fun r_125 u_124 h_126 H locs hP hD hS => ?_)
      have h_r_125 : (-999999003) = r_125 := h_126.symm
      subst h_r_125
      have hP : va_P D vwCl (fl [(CLK ty aC tC pC hC kC sC)]) H := hP
      have hD : va_D A (fl [(CLK ty aC tC pC hC kC sC)]) := hD
      subst hQg
      have hP : va_P D vwCl (fl [(CLK ty aC tC pC hC kC sC)]) H := hP
      have hD : va_D A (fl [(CLK ty aC tC pC hC kC sC)]) := hD
      exact end_i (bs' := (fun (u : Int32 × CPg × CHs × CKs × CSc) => match u with | (r9, pF, hF, kF, sN) => [(CLK ty aC tC pF hF kF sN)])) ((-999999003), pC, hC, kC, sC) hx hb hr hlocks hP hD hS (⟨rfl, (((act_15 (x := x9) (y := y9) (by have q0 : ¬ x9 % 16 = 0 := fun e => c_1 (congrArg nI e); have q1 : ¬ x9 % 16 = 1 := fun e => c_7 (congrArg nI e); have q2 : ¬ x9 % 16 = 2 := fun e => c_13 (congrArg nI e); have q3 : ¬ x9 % 16 = 3 := fun e => c_19 (congrArg nI e); have q4 : ¬ x9 % 16 = 4 := fun e => c_25 (congrArg nI e); have q5 : ¬ x9 % 16 = 5 := fun e => c_30 (congrArg nI e); have q6 : ¬ x9 % 16 = 6 := fun e => c_35 (congrArg nI e); have q7 : ¬ x9 % 16 = 7 := fun e => c_51 (congrArg nI e); have q8 : ¬ x9 % 16 = 8 := fun e => c_64 (congrArg nI e); have q9 : ¬ x9 % 16 = 9 := fun e => c_72 (congrArg nI e); have q10 : ¬ x9 % 16 = 10 := fun e => c_88 (congrArg nI e); have q11 : ¬ x9 % 16 = 11 := fun e => c_93 (congrArg nI e); have q12 : ¬ x9 % 16 = 12 := fun e => c_98 (congrArg nI e); have q13 : ¬ x9 % 16 = 13 := fun e => c_111 (congrArg nI e); have q14 : ¬ x9 % 16 = 14 := fun e => c_116 (congrArg nI e); omega)).trans (if_neg y21)).trans (if_pos hk0))⟩) (Nat.le_of_ble_eq_true rfl) (Nat.le_of_ble_eq_true rfl) dL_act_286
    · have hsp9 := hk1
      refine cSWi (As := [.ref (aC.1 0), .int 1]) (rest := []) ⟨hx, hb, hml, hown, hts⟩ (k_restore l D ty 1 aC tC pC hC kC sC hst ((inI_d (by decide +kernel))) ((show ¬ kC.1 1 = 0 from hk1))) (vx_cwSW 2 hts gL_act_L_tryRestore rfl rfl rfl (by decide +kernel) ⟨Nat.le_of_ble_eq_true rfl, Nat.le_of_ble_eq_true rfl⟩) hK hX hP hD hS hA (pk (bs := [(CLK ty aC tC pC hC kC sC)]) (bsc := [(CLK ty aC tC pC hC kC sC)]) (bsr := []) [0] [] 1 rfl (by decide +kernel) rfl rfl) rfl hl.1 rfl (Nat.le_of_ble_eq_true rfl) dL_act_283 ⟨Nat.le_of_ble_eq_true rfl, Nat.le_of_ble_eq_true rfl⟩ (fun r_128 u_127 h_129 H locs hP hD hS => ?_)
      have h_r_128 : (kC.2.1 1 0) = r_128 := (h_129.trans rfl).symm
      subst h_r_128
      have hP : va_P D vwCl (fl [(CLK ty aC tC (entK kC 1) (0, hC.2) kC sC)]) H := hP
      have hD : va_D A (fl [(CLK ty aC tC (entK kC 1) (0, hC.2) kC sC)]) := hD
      obtain ⟨hu_130, hu_130e⟩ : ∃ z : CHr, z = hC.2 := ⟨_, rfl⟩
      have hP : va_P D vwCl (fl [(CLK ty aC tC (entK kC 1) (0, hu_130) kC sC)]) H := by rw [hu_130e]; exact hP
      have hD : va_D A (fl [(CLK ty aC tC (entK kC 1) (0, hu_130) kC sC)]) := by rw [hu_130e]; exact hD
      subst hQg
      have hP : va_P D vwCl (fl [(CLK ty aC tC (entK kC 1) (0, hu_130) kC sC)]) H := hP
      have hD : va_D A (fl [(CLK ty aC tC (entK kC 1) (0, hu_130) kC sC)]) := hD
      exact end_i (bs' := (fun (u : Int32 × CPg × CHs × CKs × CSc) => match u with | (r9, pF, hF, kF, sN) => [(CLK ty aC tC pF hF kF sN)])) ((kC.2.1 1 0), (entK kC 1), (0, hu_130), kC, sC) hx hb hr hlocks hP hD hS (⟨rfl, (by rw [hu_130e]; exact (((act_15 (x := x9) (y := y9) (by have q0 : ¬ x9 % 16 = 0 := fun e => c_1 (congrArg nI e); have q1 : ¬ x9 % 16 = 1 := fun e => c_7 (congrArg nI e); have q2 : ¬ x9 % 16 = 2 := fun e => c_13 (congrArg nI e); have q3 : ¬ x9 % 16 = 3 := fun e => c_19 (congrArg nI e); have q4 : ¬ x9 % 16 = 4 := fun e => c_25 (congrArg nI e); have q5 : ¬ x9 % 16 = 5 := fun e => c_30 (congrArg nI e); have q6 : ¬ x9 % 16 = 6 := fun e => c_35 (congrArg nI e); have q7 : ¬ x9 % 16 = 7 := fun e => c_51 (congrArg nI e); have q8 : ¬ x9 % 16 = 8 := fun e => c_64 (congrArg nI e); have q9 : ¬ x9 % 16 = 9 := fun e => c_72 (congrArg nI e); have q10 : ¬ x9 % 16 = 10 := fun e => c_88 (congrArg nI e); have q11 : ¬ x9 % 16 = 11 := fun e => c_93 (congrArg nI e); have q12 : ¬ x9 % 16 = 12 := fun e => c_98 (congrArg nI e); have q13 : ¬ x9 % 16 = 13 := fun e => c_111 (congrArg nI e); have q14 : ¬ x9 % 16 = 14 := fun e => c_116 (congrArg nI e); omega)).trans (if_neg y21)).trans (if_neg hk1)))⟩) (Nat.le_of_ble_eq_true rfl) (Nat.le_of_ble_eq_true rfl) dL_act_286
  · skip
    have y20 : y9 % 2 = 0 := (nI_eq (a := y9 % 2) (b := 0) (by omega) (by decide)).mp c_123
    refine lv_aload_n hx hb dL_act_273 rfl (lv_at hl 0 rfl) ?_
    refine lv_iconst (v := 1) hx hb dL_act_274 (by decide) ?_
    refine cSWi (As := [.ref (aC.1 0), .int 1]) (rest := []) ⟨hx, hb, hml, hown, hts⟩ (k_save l D ty 1 aC tC pC hC kC sC hst ((inI_d (by decide +kernel)))) (vx_cwSW 2 hts gL_act_L_trySave rfl rfl rfl (by decide +kernel) ⟨Nat.le_of_ble_eq_true rfl, Nat.le_of_ble_eq_true rfl⟩) hK hX hP hD hS hA (pk (bs := [(CLK ty aC tC pC hC kC sC)]) (bsc := [(CLK ty aC tC pC hC kC sC)]) (bsr := []) [0] [] 1 rfl (by decide +kernel) rfl rfl) rfl hl.1 rfl (Nat.le_of_ble_eq_true rfl) dL_act_275 ⟨Nat.le_of_ble_eq_true rfl, Nat.le_of_ble_eq_true rfl⟩ (fun r_132 u_131 h_133 H locs hP hD hS => ?_)
    have h_r_132 : (pC.1 0) = r_132 := (h_133.trans rfl).symm
    subst h_r_132
    have hP : va_P D vwCl (fl [(CLK ty aC tC pC hC (saveK 1 pC kC) sC)]) H := hP
    have hD : va_D A (fl [(CLK ty aC tC pC hC (saveK 1 pC kC) sC)]) := hD
    refine lv_goto (tgt := 286) hx hb dL_act_278 (by decide) ?_
    subst hQg
    have hP : va_P D vwCl (fl [(CLK ty aC tC pC hC (saveK 1 pC kC) sC)]) H := hP
    have hD : va_D A (fl [(CLK ty aC tC pC hC (saveK 1 pC kC) sC)]) := hD
    exact end_i (bs' := (fun (u : Int32 × CPg × CHs × CKs × CSc) => match u with | (r9, pF, hF, kF, sN) => [(CLK ty aC tC pF hF kF sN)])) ((pC.1 0), pC, hC, (saveK 1 pC kC), sC) hx hb hr hlocks hP hD hS (⟨rfl, ((act_15 (x := x9) (y := y9) (by have q0 : ¬ x9 % 16 = 0 := fun e => c_1 (congrArg nI e); have q1 : ¬ x9 % 16 = 1 := fun e => c_7 (congrArg nI e); have q2 : ¬ x9 % 16 = 2 := fun e => c_13 (congrArg nI e); have q3 : ¬ x9 % 16 = 3 := fun e => c_19 (congrArg nI e); have q4 : ¬ x9 % 16 = 4 := fun e => c_25 (congrArg nI e); have q5 : ¬ x9 % 16 = 5 := fun e => c_30 (congrArg nI e); have q6 : ¬ x9 % 16 = 6 := fun e => c_35 (congrArg nI e); have q7 : ¬ x9 % 16 = 7 := fun e => c_51 (congrArg nI e); have q8 : ¬ x9 % 16 = 8 := fun e => c_64 (congrArg nI e); have q9 : ¬ x9 % 16 = 9 := fun e => c_72 (congrArg nI e); have q10 : ¬ x9 % 16 = 10 := fun e => c_88 (congrArg nI e); have q11 : ¬ x9 % 16 = 11 := fun e => c_93 (congrArg nI e); have q12 : ¬ x9 % 16 = 12 := fun e => c_98 (congrArg nI e); have q13 : ¬ x9 % 16 = 13 := fun e => c_111 (congrArg nI e); have q14 : ¬ x9 % 16 = 14 := fun e => c_116 (congrArg nI e); omega)).trans (if_pos y20))⟩) (Nat.le_of_ble_eq_true rfl) (Nat.le_of_ble_eq_true rfl) dL_act_286
