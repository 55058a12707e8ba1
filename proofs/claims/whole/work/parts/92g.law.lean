set_option maxHeartbeats 4000000 in
set_option maxRecDepth 100000 in
theorem c_L_save_n0 (l : Launch) (D : va_G) (ty : Nat → ClassId) (i9 : Int32) (bc tx hi sl : Nat) (b : Nat → Nat) (a : Nat → Nat) (r : Nat → Int32) (x y : Int64) (g : Nat → Nat → Int32) (ss sf : Nat) (bd : Nat → Nat → Nat) (kf : Nat → Int32) (vr : Nat → Nat → Int32) (vx vy : Nat → Int64) (vg : Nat → Nat → Nat → Int32) (ot : Nat) (of : Nat → Int64) (hst : l.stackTraces = false) (hc0 : ¬ (inI i9 2)) : CTi l yL_save wsL_save ({ frames := 8, cells := 1, slots := 6, locals := 124 }) D ty [.ref bc, .int i9, .ref ot] [[la ty ot 1 of], [ob bc 8 [.ref tx, .ref (a 0), .ref (b 0), .ref hi, .ref sl]], [ob sl 3 [.ref ss, .ref sf]], [sa ty ss 2 (fun k => some (bd k 0))], [za ty sf 2 kf], (stW ty a r x y g), (stW ty (bd 0) (vr 0) (vx 0) (vy 0) (vg 0)), (stW ty (bd 1) (vr 1) (vx 1) (vy 1) (vg 1))] (fun (RET : Int32) (_ : Unit) => RET = 1) (fun (_ : Unit) => [[la ty ot 1 of], [ob bc 8 [.ref tx, .ref (a 0), .ref (b 0), .ref hi, .ref sl]], [ob sl 3 [.ref ss, .ref sf]], [sa ty ss 2 (fun k => some (bd k 0))], [za ty sf 2 kf], (stW ty a r x y g), (stW ty (bd 0) (vr 0) (vx 0) (vy 0) (vg 0)), (stW ty (bd 1) (vr 1) (vx 1) (vy 1) (vg 1))]) := by
  refine CTi_ofH cL_save 4 (some .int) [(0, 9, 12, 31)] (by decide) rfl (Nat.le_of_ble_eq_true rfl) ?_
  intro p e s m args below meth c A hx hb hr hml hown hlocks hin hts hA hX hK hP hD ht0 ls hl
  have hown : s.vm.findClass RL = some m.cls := hown
  have hS : va_S A s.heap s.heap [] := va_S.rf
  have hl : lv_has ls 4 [(0, .ref bc), (1, .int i9), (2, .ref ot)] := hl
  refine lv_aload_n hx hb dL_save_0 rfl (lv_at hl 2 rfl) ?_
  refine lv_iconst (v := 0) hx hb dL_save_1 (by decide) ?_
  refine lv_aload_n hx hb dL_save_2 rfl (lv_at hl 0 rfl) ?_
  refine lv_iload_n hx hb dL_save_3 rfl (lv_at hl 1 rfl) ?_
  refine cVxi (As := [.int i9]) (rest := [.int 0, .ref ot]) ⟨hx, hb, hml, hown, hts⟩ (c_X9_save l D ty i9 bc tx hi sl b a r x y g ss sf bd kf vr vx vy vg hst) (cwV 1 hts gL_save_X9_save rfl rfl rfl (by decide +kernel) ⟨Nat.le_of_ble_eq_true rfl, Nat.le_of_ble_eq_true rfl⟩) hK hX hP hD hS hA (pk (bs := [[la ty ot 1 of], [ob bc 8 [.ref tx, .ref (a 0), .ref (b 0), .ref hi, .ref sl]], [ob sl 3 [.ref ss, .ref sf]], [sa ty ss 2 (fun k => some (bd k 0))], [za ty sf 2 kf], (stW ty a r x y g), (stW ty (bd 0) (vr 0) (vx 0) (vy 0) (vg 0)), (stW ty (bd 1) (vr 1) (vx 1) (vy 1) (vg 1))]) (bsc := [[ob bc 8 [.ref tx, .ref (a 0), .ref (b 0), .ref hi, .ref sl]], [ob sl 3 [.ref ss, .ref sf]], [sa ty ss 2 (fun k => some (bd k 0))], [za ty sf 2 kf], (stW ty a r x y g), (stW ty (bd 0) (vr 0) (vx 0) (vy 0) (vg 0)), (stW ty (bd 1) (vr 1) (vx 1) (vy 1) (vg 1))]) (bsr := [[la ty ot 1 of]]) [1, 2, 3, 4, 5, 6, 7] [0] 8 rfl (by decide +kernel) rfl rfl) (ci := 8) rfl 0 rfl rfl hl.1 rfl (Nat.le_of_ble_eq_true rfl) dL_save_4 ⟨Nat.le_of_ble_eq_true rfl, Nat.le_of_ble_eq_true rfl⟩ (fun E hE ce q9 H locs hP hD hS hce hcv hcl => ?_) (fun r9 u9 h9 H locs hP hD hS => ?_)
  · skip
    obtain ⟨hEE, h0⟩ := hE
    subst hEE
    have hP : va_P D vwCl (fl [[la ty ot 1 of], [ob bc 8 [.ref tx, .ref (a 0), .ref (b 0), .ref hi, .ref sl]], [ob sl 3 [.ref ss, .ref sf]], [sa ty ss 2 (fun k => some (bd k 0))], [za ty sf 2 kf], (stW ty a r x y g), (stW ty (bd 0) (vr 0) (vx 0) (vy 0) (vg 0)), (stW ty (bd 1) (vr 1) (vx 1) (vy 1) (vg 1))]) H := P_perm (po (bs := [[ob bc 8 [.ref tx, .ref (a 0), .ref (b 0), .ref hi, .ref sl]], [ob sl 3 [.ref ss, .ref sf]], [sa ty ss 2 (fun k => some (bd k 0))], [za ty sf 2 kf], (stW ty a r x y g), (stW ty (bd 0) (vr 0) (vx 0) (vy 0) (vg 0)), (stW ty (bd 1) (vr 1) (vx 1) (vy 1) (vg 1)), [la ty ot 1 of]]) [7, 0, 1, 2, 3, 4, 5, 6] 8 rfl (by decide +kernel) rfl) hP
    have hD : va_D A (fl [[la ty ot 1 of], [ob bc 8 [.ref tx, .ref (a 0), .ref (b 0), .ref hi, .ref sl]], [ob sl 3 [.ref ss, .ref sf]], [sa ty ss 2 (fun k => some (bd k 0))], [za ty sf 2 kf], (stW ty a r x y g), (stW ty (bd 0) (vr 0) (vx 0) (vy 0) (vg 0)), (stW ty (bd 1) (vr 1) (vx 1) (vy 1) (vg 1))]) := D_perm (po (bs := [[ob bc 8 [.ref tx, .ref (a 0), .ref (b 0), .ref hi, .ref sl]], [ob sl 3 [.ref ss, .ref sf]], [sa ty ss 2 (fun k => some (bd k 0))], [za ty sf 2 kf], (stW ty a r x y g), (stW ty (bd 0) (vr 0) (vx 0) (vy 0) (vg 0)), (stW ty (bd 1) (vr 1) (vx 1) (vy 1) (vg 1)), [la ty ot 1 of]]) [7, 0, 1, 2, 3, 4, 5, 6] 8 rfl (by decide +kernel) rfl) hD
    refine vx_catch (own := RL) (name := EIO) (E := EIO) hown [] ⟨0, 9, 12, 31⟩ [] (ht0.trans rfl) (fun z hz => by cases hz) (by decide) (by decide) (hts (Cond.classLink RL 31 "java/lang/IndexOutOfBoundsException") (List.mem_of_getElem? (i := 1) rfl)) (va_Nw.use rfl hX.1.2.2.1.2.2) hce hcv hcl ?_
    refine lv_astore_n (lv' := [(3, .ref q9), (0, .ref bc), (1, .int i9), (2, .ref ot)]) hx hb dL_save_12 rfl hl (by decide) rfl (fun ls hl => ?_)
    refine lv_iconst (v := 1) hx hb dL_save_13 (by decide) ?_
    have hP : va_P D vwCl (fl [[la ty ot 1 of], [ob bc 8 [.ref tx, .ref (a 0), .ref (b 0), .ref hi, .ref sl]], [ob sl 3 [.ref ss, .ref sf]], [sa ty ss 2 (fun k => some (bd k 0))], [za ty sf 2 kf], (stW ty a r x y g), (stW ty (bd 0) (vr 0) (vx 0) (vy 0) (vg 0)), (stW ty (bd 1) (vr 1) (vx 1) (vy 1) (vg 1))]) H := hP
    have hD : va_D A (fl [[la ty ot 1 of], [ob bc 8 [.ref tx, .ref (a 0), .ref (b 0), .ref hi, .ref sl]], [ob sl 3 [.ref ss, .ref sf]], [sa ty ss 2 (fun k => some (bd k 0))], [za ty sf 2 kf], (stW ty a r x y g), (stW ty (bd 0) (vr 0) (vx 0) (vy 0) (vg 0)), (stW ty (bd 1) (vr 1) (vx 1) (vy 1) (vg 1))]) := hD
    exact end_i (bs' := (fun (_ : Unit) => [[la ty ot 1 of], [ob bc 8 [.ref tx, .ref (a 0), .ref (b 0), .ref hi, .ref sl]], [ob sl 3 [.ref ss, .ref sf]], [sa ty ss 2 (fun k => some (bd k 0))], [za ty sf 2 kf], (stW ty a r x y g), (stW ty (bd 0) (vr 0) (vx 0) (vy 0) (vg 0)), (stW ty (bd 1) (vr 1) (vx 1) (vy 1) (vg 1))])) () hx hb hr hlocks hP hD hS (by first | rfl | decide | simp []) (Nat.le_of_ble_eq_true rfl) (Nat.le_of_ble_eq_true rfl) dL_save_14
  · exact absurd h9.2 hc0
set_option maxHeartbeats 4000000 in
set_option maxRecDepth 100000 in
theorem c_L_restore (l : Launch) (D : va_G) (ty : Nat → ClassId) (i9 : Int32) (bc tx hi sl : Nat) (b : Nat → Nat) (a : Nat → Nat) (r : Nat → Int32) (x y : Int64) (g : Nat → Nat → Int32) (hs : Nat) (cv : Int32) (ss sf : Nat) (bd : Nat → Nat → Nat) (kf : Nat → Int32) (vr : Nat → Nat → Int32) (vx vy : Nat → Int64) (vg : Nat → Nat → Nat → Int32) (ot : Nat) (of : Nat → Int64) (hst : l.stackTraces = false) (hc0 : inI i9 2) (hc1 : ¬ kf i9.toNatClampNeg = 0) : CTi l yL_restore wsL_restore ({ frames := 8, cells := 2, slots := 12, locals := 124 }) D ty [.ref bc, .int i9, .ref ot] [[la ty ot 1 of], [ob bc 8 [.ref tx, .ref (a 0), .ref (b 0), .ref hi, .ref sl]], [ob hi 2 [.ref hs, .int cv]], [ob sl 3 [.ref ss, .ref sf]], [sa ty ss 2 (fun k => some (bd k 0))], [za ty sf 2 kf], (stW ty a r x y g), (stW ty (bd 0) (vr 0) (vx 0) (vy 0) (vg 0)), (stW ty (bd 1) (vr 1) (vx 1) (vy 1) (vg 1))] (fun (RET : Int32) (_ : Unit) => RET = 0) (fun (_ : Unit) => [[la ty ot 1 (vp_updL of 0 (Int32.toInt64 (vr i9.toNatClampNeg 0)))], [ob bc 8 [.ref tx, .ref (a 0), .ref (b 0), .ref hi, .ref sl]], [ob hi 2 [.ref hs, .int 0]], [ob sl 3 [.ref ss, .ref sf]], [sa ty ss 2 (fun k => some (bd k 0))], [za ty sf 2 kf], (stW ty a (vr i9.toNatClampNeg) (vx i9.toNatClampNeg) (vy i9.toNatClampNeg) (vg i9.toNatClampNeg)), (stW ty (bd 0) (vr 0) (vx 0) (vy 0) (vg 0)), (stW ty (bd 1) (vr 1) (vx 1) (vy 1) (vg 1))]) := by
  refine CTi_ofH cL_restore 4 (some .int) [(0, 9, 12, 31), (0, 9, 15, 15)] (by decide) rfl (Nat.le_of_ble_eq_true rfl) ?_
  intro p e s m args below meth c A hx hb hr hml hown hlocks hin hts hA hX hK hP hD ht0 ls hl
  have hown : s.vm.findClass RL = some m.cls := hown
  have hS : va_S A s.heap s.heap [] := va_S.rf
  have hl : lv_has ls 4 [(0, .ref bc), (1, .int i9), (2, .ref ot)] := hl
  refine lv_aload_n hx hb dL_restore_0 rfl (lv_at hl 2 rfl) ?_
  refine lv_iconst (v := 0) hx hb dL_restore_1 (by decide) ?_
  refine lv_aload_n hx hb dL_restore_2 rfl (lv_at hl 0 rfl) ?_
  refine lv_iload_n hx hb dL_restore_3 rfl (lv_at hl 1 rfl) ?_
  refine cVxi (As := [.int i9]) (rest := [.int 0, .ref ot]) ⟨hx, hb, hml, hown, hts⟩ (c_X9_restore l D ty i9 bc tx hi sl b a r x y g hs cv ss sf bd kf vr vx vy vg hst) (cwV 1 hts gL_restore_X9_restore rfl rfl rfl (by decide +kernel) ⟨Nat.le_of_ble_eq_true rfl, Nat.le_of_ble_eq_true rfl⟩) hK hX hP hD hS hA (pk (bs := [[la ty ot 1 of], [ob bc 8 [.ref tx, .ref (a 0), .ref (b 0), .ref hi, .ref sl]], [ob hi 2 [.ref hs, .int cv]], [ob sl 3 [.ref ss, .ref sf]], [sa ty ss 2 (fun k => some (bd k 0))], [za ty sf 2 kf], (stW ty a r x y g), (stW ty (bd 0) (vr 0) (vx 0) (vy 0) (vg 0)), (stW ty (bd 1) (vr 1) (vx 1) (vy 1) (vg 1))]) (bsc := [[ob bc 8 [.ref tx, .ref (a 0), .ref (b 0), .ref hi, .ref sl]], [ob hi 2 [.ref hs, .int cv]], [ob sl 3 [.ref ss, .ref sf]], [sa ty ss 2 (fun k => some (bd k 0))], [za ty sf 2 kf], (stW ty a r x y g), (stW ty (bd 0) (vr 0) (vx 0) (vy 0) (vg 0)), (stW ty (bd 1) (vr 1) (vx 1) (vy 1) (vg 1))]) (bsr := [[la ty ot 1 of]]) [1, 2, 3, 4, 5, 6, 7, 8] [0] 9 rfl (by decide +kernel) rfl rfl) (ci := 8) rfl 0 rfl rfl hl.1 rfl (Nat.le_of_ble_eq_true rfl) dL_restore_4 ⟨Nat.le_of_ble_eq_true rfl, Nat.le_of_ble_eq_true rfl⟩ (fun E hE ce q9 H locs hP hD hS hce hcv hcl => ?_) (fun r9 u9 h9 H locs hP hD hS => ?_)
  · skip
    rcases hE with ⟨hEE, h0⟩ | ⟨hEE, k0, h1⟩
    · skip
      exact absurd hc0 h0
    · skip
      exact absurd hc1 h1
  · skip
    have hP : va_P D vwCl (fl [[la ty ot 1 of], [ob bc 8 [.ref tx, .ref (a 0), .ref (b 0), .ref hi, .ref sl]], [ob hi 2 [.ref hs, .int 0]], [ob sl 3 [.ref ss, .ref sf]], [sa ty ss 2 (fun k => some (bd k 0))], [za ty sf 2 kf], (stW ty a (vr i9.toNatClampNeg) (vx i9.toNatClampNeg) (vy i9.toNatClampNeg) (vg i9.toNatClampNeg)), (stW ty (bd 0) (vr 0) (vx 0) (vy 0) (vg 0)), (stW ty (bd 1) (vr 1) (vx 1) (vy 1) (vg 1))]) H := P_perm (po (bs := [[ob bc 8 [.ref tx, .ref (a 0), .ref (b 0), .ref hi, .ref sl]], [ob hi 2 [.ref hs, .int 0]], [ob sl 3 [.ref ss, .ref sf]], [sa ty ss 2 (fun k => some (bd k 0))], [za ty sf 2 kf], (stW ty a (vr i9.toNatClampNeg) (vx i9.toNatClampNeg) (vy i9.toNatClampNeg) (vg i9.toNatClampNeg)), (stW ty (bd 0) (vr 0) (vx 0) (vy 0) (vg 0)), (stW ty (bd 1) (vr 1) (vx 1) (vy 1) (vg 1)), [la ty ot 1 of]]) [8, 0, 1, 2, 3, 4, 5, 6, 7] 9 rfl (by decide +kernel) rfl) hP
    have hD : va_D A (fl [[la ty ot 1 of], [ob bc 8 [.ref tx, .ref (a 0), .ref (b 0), .ref hi, .ref sl]], [ob hi 2 [.ref hs, .int 0]], [ob sl 3 [.ref ss, .ref sf]], [sa ty ss 2 (fun k => some (bd k 0))], [za ty sf 2 kf], (stW ty a (vr i9.toNatClampNeg) (vx i9.toNatClampNeg) (vy i9.toNatClampNeg) (vg i9.toNatClampNeg)), (stW ty (bd 0) (vr 0) (vx 0) (vy 0) (vg 0)), (stW ty (bd 1) (vr 1) (vx 1) (vy 1) (vg 1))]) := D_perm (po (bs := [[ob bc 8 [.ref tx, .ref (a 0), .ref (b 0), .ref hi, .ref sl]], [ob hi 2 [.ref hs, .int 0]], [ob sl 3 [.ref ss, .ref sf]], [sa ty ss 2 (fun k => some (bd k 0))], [za ty sf 2 kf], (stW ty a (vr i9.toNatClampNeg) (vx i9.toNatClampNeg) (vy i9.toNatClampNeg) (vg i9.toNatClampNeg)), (stW ty (bd 0) (vr 0) (vx 0) (vy 0) (vg 0)), (stW ty (bd 1) (vr 1) (vx 1) (vy 1) (vg 1)), [la ty ot 1 of]]) [8, 0, 1, 2, 3, 4, 5, 6, 7] 9 rfl (by decide +kernel) rfl) hD
    have h8 : r9 = (vr i9.toNatClampNeg 0) := h9.1
    subst h8
    refine lv_i2l (v := (Int32.toInt64 (vr i9.toNatClampNeg 0))) hx hb dL_restore_7 rfl ?_
    refine k_last hx hb hK hP hD hS 0 rfl 0 rfl (by decide) (Nat.le_of_ble_eq_true rfl) dL_restore_8 (fun H locs hP hD hS => ?_)
    have hP : va_P D vwCl (fl [[la ty ot 1 (vp_updL of 0 (Int32.toInt64 (vr i9.toNatClampNeg 0)))], [ob bc 8 [.ref tx, .ref (a 0), .ref (b 0), .ref hi, .ref sl]], [ob hi 2 [.ref hs, .int 0]], [ob sl 3 [.ref ss, .ref sf]], [sa ty ss 2 (fun k => some (bd k 0))], [za ty sf 2 kf], (stW ty a (vr i9.toNatClampNeg) (vx i9.toNatClampNeg) (vy i9.toNatClampNeg) (vg i9.toNatClampNeg)), (stW ty (bd 0) (vr 0) (vx 0) (vy 0) (vg 0)), (stW ty (bd 1) (vr 1) (vx 1) (vy 1) (vg 1))]) H := hP
    have hD : va_D A (fl [[la ty ot 1 (vp_updL of 0 (Int32.toInt64 (vr i9.toNatClampNeg 0)))], [ob bc 8 [.ref tx, .ref (a 0), .ref (b 0), .ref hi, .ref sl]], [ob hi 2 [.ref hs, .int 0]], [ob sl 3 [.ref ss, .ref sf]], [sa ty ss 2 (fun k => some (bd k 0))], [za ty sf 2 kf], (stW ty a (vr i9.toNatClampNeg) (vx i9.toNatClampNeg) (vy i9.toNatClampNeg) (vg i9.toNatClampNeg)), (stW ty (bd 0) (vr 0) (vx 0) (vy 0) (vg 0)), (stW ty (bd 1) (vr 1) (vx 1) (vy 1) (vg 1))]) := hD
    refine lv_goto (tgt := 18) hx hb dL_restore_9 (by decide) ?_
    refine lv_iconst (v := 0) hx hb dL_restore_18 (by decide) ?_
    have hP : va_P D vwCl (fl [[la ty ot 1 (vp_updL of 0 (Int32.toInt64 (vr i9.toNatClampNeg 0)))], [ob bc 8 [.ref tx, .ref (a 0), .ref (b 0), .ref hi, .ref sl]], [ob hi 2 [.ref hs, .int 0]], [ob sl 3 [.ref ss, .ref sf]], [sa ty ss 2 (fun k => some (bd k 0))], [za ty sf 2 kf], (stW ty a (vr i9.toNatClampNeg) (vx i9.toNatClampNeg) (vy i9.toNatClampNeg) (vg i9.toNatClampNeg)), (stW ty (bd 0) (vr 0) (vx 0) (vy 0) (vg 0)), (stW ty (bd 1) (vr 1) (vx 1) (vy 1) (vg 1))]) H := hP
    have hD : va_D A (fl [[la ty ot 1 (vp_updL of 0 (Int32.toInt64 (vr i9.toNatClampNeg 0)))], [ob bc 8 [.ref tx, .ref (a 0), .ref (b 0), .ref hi, .ref sl]], [ob hi 2 [.ref hs, .int 0]], [ob sl 3 [.ref ss, .ref sf]], [sa ty ss 2 (fun k => some (bd k 0))], [za ty sf 2 kf], (stW ty a (vr i9.toNatClampNeg) (vx i9.toNatClampNeg) (vy i9.toNatClampNeg) (vg i9.toNatClampNeg)), (stW ty (bd 0) (vr 0) (vx 0) (vy 0) (vg 0)), (stW ty (bd 1) (vr 1) (vx 1) (vy 1) (vg 1))]) := hD
    exact end_i (bs' := (fun (_ : Unit) => [[la ty ot 1 (vp_updL of 0 (Int32.toInt64 (vr i9.toNatClampNeg 0)))], [ob bc 8 [.ref tx, .ref (a 0), .ref (b 0), .ref hi, .ref sl]], [ob hi 2 [.ref hs, .int 0]], [ob sl 3 [.ref ss, .ref sf]], [sa ty ss 2 (fun k => some (bd k 0))], [za ty sf 2 kf], (stW ty a (vr i9.toNatClampNeg) (vx i9.toNatClampNeg) (vy i9.toNatClampNeg) (vg i9.toNatClampNeg)), (stW ty (bd 0) (vr 0) (vx 0) (vy 0) (vg 0)), (stW ty (bd 1) (vr 1) (vx 1) (vy 1) (vg 1))])) () hx hb hr hlocks hP hD hS (by first | rfl | decide | simp []) (Nat.le_of_ble_eq_true rfl) (Nat.le_of_ble_eq_true rfl) dL_restore_19
set_option maxHeartbeats 4000000 in
set_option maxRecDepth 100000 in
theorem c_L_restore_n0 (l : Launch) (D : va_G) (ty : Nat → ClassId) (i9 : Int32) (bc tx hi sl : Nat) (b : Nat → Nat) (a : Nat → Nat) (r : Nat → Int32) (x y : Int64) (g : Nat → Nat → Int32) (hs : Nat) (cv : Int32) (ss sf : Nat) (bd : Nat → Nat → Nat) (kf : Nat → Int32) (vr : Nat → Nat → Int32) (vx vy : Nat → Int64) (vg : Nat → Nat → Nat → Int32) (ot : Nat) (of : Nat → Int64) (hst : l.stackTraces = false) (hc0 : ¬ (inI i9 2)) : CTi l yL_restore wsL_restore ({ frames := 8, cells := 2, slots := 12, locals := 124 }) D ty [.ref bc, .int i9, .ref ot] [[la ty ot 1 of], [ob bc 8 [.ref tx, .ref (a 0), .ref (b 0), .ref hi, .ref sl]], [ob hi 2 [.ref hs, .int cv]], [ob sl 3 [.ref ss, .ref sf]], [sa ty ss 2 (fun k => some (bd k 0))], [za ty sf 2 kf], (stW ty a r x y g), (stW ty (bd 0) (vr 0) (vx 0) (vy 0) (vg 0)), (stW ty (bd 1) (vr 1) (vx 1) (vy 1) (vg 1))] (fun (RET : Int32) (_ : Unit) => RET = 1) (fun (_ : Unit) => [[la ty ot 1 of], [ob bc 8 [.ref tx, .ref (a 0), .ref (b 0), .ref hi, .ref sl]], [ob hi 2 [.ref hs, .int cv]], [ob sl 3 [.ref ss, .ref sf]], [sa ty ss 2 (fun k => some (bd k 0))], [za ty sf 2 kf], (stW ty a r x y g), (stW ty (bd 0) (vr 0) (vx 0) (vy 0) (vg 0)), (stW ty (bd 1) (vr 1) (vx 1) (vy 1) (vg 1))]) := by
  refine CTi_ofH cL_restore 4 (some .int) [(0, 9, 12, 31), (0, 9, 15, 15)] (by decide) rfl (Nat.le_of_ble_eq_true rfl) ?_
  intro p e s m args below meth c A hx hb hr hml hown hlocks hin hts hA hX hK hP hD ht0 ls hl
  have hown : s.vm.findClass RL = some m.cls := hown
  have hS : va_S A s.heap s.heap [] := va_S.rf
  have hl : lv_has ls 4 [(0, .ref bc), (1, .int i9), (2, .ref ot)] := hl
  refine lv_aload_n hx hb dL_restore_0 rfl (lv_at hl 2 rfl) ?_
  refine lv_iconst (v := 0) hx hb dL_restore_1 (by decide) ?_
  refine lv_aload_n hx hb dL_restore_2 rfl (lv_at hl 0 rfl) ?_
  refine lv_iload_n hx hb dL_restore_3 rfl (lv_at hl 1 rfl) ?_
  refine cVxi (As := [.int i9]) (rest := [.int 0, .ref ot]) ⟨hx, hb, hml, hown, hts⟩ (c_X9_restore l D ty i9 bc tx hi sl b a r x y g hs cv ss sf bd kf vr vx vy vg hst) (cwV 1 hts gL_restore_X9_restore rfl rfl rfl (by decide +kernel) ⟨Nat.le_of_ble_eq_true rfl, Nat.le_of_ble_eq_true rfl⟩) hK hX hP hD hS hA (pk (bs := [[la ty ot 1 of], [ob bc 8 [.ref tx, .ref (a 0), .ref (b 0), .ref hi, .ref sl]], [ob hi 2 [.ref hs, .int cv]], [ob sl 3 [.ref ss, .ref sf]], [sa ty ss 2 (fun k => some (bd k 0))], [za ty sf 2 kf], (stW ty a r x y g), (stW ty (bd 0) (vr 0) (vx 0) (vy 0) (vg 0)), (stW ty (bd 1) (vr 1) (vx 1) (vy 1) (vg 1))]) (bsc := [[ob bc 8 [.ref tx, .ref (a 0), .ref (b 0), .ref hi, .ref sl]], [ob hi 2 [.ref hs, .int cv]], [ob sl 3 [.ref ss, .ref sf]], [sa ty ss 2 (fun k => some (bd k 0))], [za ty sf 2 kf], (stW ty a r x y g), (stW ty (bd 0) (vr 0) (vx 0) (vy 0) (vg 0)), (stW ty (bd 1) (vr 1) (vx 1) (vy 1) (vg 1))]) (bsr := [[la ty ot 1 of]]) [1, 2, 3, 4, 5, 6, 7, 8] [0] 9 rfl (by decide +kernel) rfl rfl) (ci := 8) rfl 0 rfl rfl hl.1 rfl (Nat.le_of_ble_eq_true rfl) dL_restore_4 ⟨Nat.le_of_ble_eq_true rfl, Nat.le_of_ble_eq_true rfl⟩ (fun E hE ce q9 H locs hP hD hS hce hcv hcl => ?_) (fun r9 u9 h9 H locs hP hD hS => ?_)
  · skip
    rcases hE with ⟨hEE, h0⟩ | ⟨hEE, k0, h1⟩
    · skip
      subst hEE
      have hP : va_P D vwCl (fl [[la ty ot 1 of], [ob bc 8 [.ref tx, .ref (a 0), .ref (b 0), .ref hi, .ref sl]], [ob hi 2 [.ref hs, .int cv]], [ob sl 3 [.ref ss, .ref sf]], [sa ty ss 2 (fun k => some (bd k 0))], [za ty sf 2 kf], (stW ty a r x y g), (stW ty (bd 0) (vr 0) (vx 0) (vy 0) (vg 0)), (stW ty (bd 1) (vr 1) (vx 1) (vy 1) (vg 1))]) H := P_perm (po (bs := [[ob bc 8 [.ref tx, .ref (a 0), .ref (b 0), .ref hi, .ref sl]], [ob hi 2 [.ref hs, .int cv]], [ob sl 3 [.ref ss, .ref sf]], [sa ty ss 2 (fun k => some (bd k 0))], [za ty sf 2 kf], (stW ty a r x y g), (stW ty (bd 0) (vr 0) (vx 0) (vy 0) (vg 0)), (stW ty (bd 1) (vr 1) (vx 1) (vy 1) (vg 1)), [la ty ot 1 of]]) [8, 0, 1, 2, 3, 4, 5, 6, 7] 9 rfl (by decide +kernel) rfl) hP
      have hD : va_D A (fl [[la ty ot 1 of], [ob bc 8 [.ref tx, .ref (a 0), .ref (b 0), .ref hi, .ref sl]], [ob hi 2 [.ref hs, .int cv]], [ob sl 3 [.ref ss, .ref sf]], [sa ty ss 2 (fun k => some (bd k 0))], [za ty sf 2 kf], (stW ty a r x y g), (stW ty (bd 0) (vr 0) (vx 0) (vy 0) (vg 0)), (stW ty (bd 1) (vr 1) (vx 1) (vy 1) (vg 1))]) := D_perm (po (bs := [[ob bc 8 [.ref tx, .ref (a 0), .ref (b 0), .ref hi, .ref sl]], [ob hi 2 [.ref hs, .int cv]], [ob sl 3 [.ref ss, .ref sf]], [sa ty ss 2 (fun k => some (bd k 0))], [za ty sf 2 kf], (stW ty a r x y g), (stW ty (bd 0) (vr 0) (vx 0) (vy 0) (vg 0)), (stW ty (bd 1) (vr 1) (vx 1) (vy 1) (vg 1)), [la ty ot 1 of]]) [8, 0, 1, 2, 3, 4, 5, 6, 7] 9 rfl (by decide +kernel) rfl) hD
      refine vx_catch (own := RL) (name := EIO) (E := EIO) hown [] ⟨0, 9, 12, 31⟩ [⟨0, 9, 15, 15⟩] (ht0.trans rfl) (fun z hz => by cases hz) (by decide) (by decide) (hts (Cond.classLink RL 31 "java/lang/IndexOutOfBoundsException") (List.mem_of_getElem? (i := 1) rfl)) (va_Nw.use rfl hX.1.2.2.1.2.2) hce hcv hcl ?_
      refine lv_astore_n (lv' := [(3, .ref q9), (0, .ref bc), (1, .int i9), (2, .ref ot)]) hx hb dL_restore_12 rfl hl (by decide) rfl (fun ls hl => ?_)
      refine lv_iconst (v := 1) hx hb dL_restore_13 (by decide) ?_
      have hP : va_P D vwCl (fl [[la ty ot 1 of], [ob bc 8 [.ref tx, .ref (a 0), .ref (b 0), .ref hi, .ref sl]], [ob hi 2 [.ref hs, .int cv]], [ob sl 3 [.ref ss, .ref sf]], [sa ty ss 2 (fun k => some (bd k 0))], [za ty sf 2 kf], (stW ty a r x y g), (stW ty (bd 0) (vr 0) (vx 0) (vy 0) (vg 0)), (stW ty (bd 1) (vr 1) (vx 1) (vy 1) (vg 1))]) H := hP
      have hD : va_D A (fl [[la ty ot 1 of], [ob bc 8 [.ref tx, .ref (a 0), .ref (b 0), .ref hi, .ref sl]], [ob hi 2 [.ref hs, .int cv]], [ob sl 3 [.ref ss, .ref sf]], [sa ty ss 2 (fun k => some (bd k 0))], [za ty sf 2 kf], (stW ty a r x y g), (stW ty (bd 0) (vr 0) (vx 0) (vy 0) (vg 0)), (stW ty (bd 1) (vr 1) (vx 1) (vy 1) (vg 1))]) := hD
      exact end_i (bs' := (fun (_ : Unit) => [[la ty ot 1 of], [ob bc 8 [.ref tx, .ref (a 0), .ref (b 0), .ref hi, .ref sl]], [ob hi 2 [.ref hs, .int cv]], [ob sl 3 [.ref ss, .ref sf]], [sa ty ss 2 (fun k => some (bd k 0))], [za ty sf 2 kf], (stW ty a r x y g), (stW ty (bd 0) (vr 0) (vx 0) (vy 0) (vg 0)), (stW ty (bd 1) (vr 1) (vx 1) (vy 1) (vg 1))])) () hx hb hr hlocks hP hD hS (by first | rfl | decide | simp []) (Nat.le_of_ble_eq_true rfl) (Nat.le_of_ble_eq_true rfl) dL_restore_14
    · skip
      exact absurd k0 hc0
  · exact absurd h9.2.1 hc0
set_option maxHeartbeats 4000000 in
set_option maxRecDepth 100000 in
theorem c_L_restore_n1 (l : Launch) (D : va_G) (ty : Nat → ClassId) (i9 : Int32) (bc tx hi sl : Nat) (b : Nat → Nat) (a : Nat → Nat) (r : Nat → Int32) (x y : Int64) (g : Nat → Nat → Int32) (hs : Nat) (cv : Int32) (ss sf : Nat) (bd : Nat → Nat → Nat) (kf : Nat → Int32) (vr : Nat → Nat → Int32) (vx vy : Nat → Int64) (vg : Nat → Nat → Nat → Int32) (ot : Nat) (of : Nat → Int64) (hst : l.stackTraces = false) (hc0 : inI i9 2) (hc1 : ¬ (¬ kf i9.toNatClampNeg = 0)) : CTi l yL_restore wsL_restore ({ frames := 8, cells := 2, slots := 12, locals := 124 }) D ty [.ref bc, .int i9, .ref ot] [[la ty ot 1 of], [ob bc 8 [.ref tx, .ref (a 0), .ref (b 0), .ref hi, .ref sl]], [ob hi 2 [.ref hs, .int cv]], [ob sl 3 [.ref ss, .ref sf]], [sa ty ss 2 (fun k => some (bd k 0))], [za ty sf 2 kf], (stW ty a r x y g), (stW ty (bd 0) (vr 0) (vx 0) (vy 0) (vg 0)), (stW ty (bd 1) (vr 1) (vx 1) (vy 1) (vg 1))] (fun (RET : Int32) (_ : Unit) => RET = 2) (fun (_ : Unit) => [[la ty ot 1 of], [ob bc 8 [.ref tx, .ref (a 0), .ref (b 0), .ref hi, .ref sl]], [ob hi 2 [.ref hs, .int cv]], [ob sl 3 [.ref ss, .ref sf]], [sa ty ss 2 (fun k => some (bd k 0))], [za ty sf 2 kf], (stW ty a r x y g), (stW ty (bd 0) (vr 0) (vx 0) (vy 0) (vg 0)), (stW ty (bd 1) (vr 1) (vx 1) (vy 1) (vg 1))]) := by
  refine CTi_ofH cL_restore 4 (some .int) [(0, 9, 12, 31), (0, 9, 15, 15)] (by decide) rfl (Nat.le_of_ble_eq_true rfl) ?_
  intro p e s m args below meth c A hx hb hr hml hown hlocks hin hts hA hX hK hP hD ht0 ls hl
  have hown : s.vm.findClass RL = some m.cls := hown
  have hS : va_S A s.heap s.heap [] := va_S.rf
  have hl : lv_has ls 4 [(0, .ref bc), (1, .int i9), (2, .ref ot)] := hl
  refine lv_aload_n hx hb dL_restore_0 rfl (lv_at hl 2 rfl) ?_
  refine lv_iconst (v := 0) hx hb dL_restore_1 (by decide) ?_
  refine lv_aload_n hx hb dL_restore_2 rfl (lv_at hl 0 rfl) ?_
  refine lv_iload_n hx hb dL_restore_3 rfl (lv_at hl 1 rfl) ?_
  refine cVxi (As := [.int i9]) (rest := [.int 0, .ref ot]) ⟨hx, hb, hml, hown, hts⟩ (c_X9_restore l D ty i9 bc tx hi sl b a r x y g hs cv ss sf bd kf vr vx vy vg hst) (cwV 1 hts gL_restore_X9_restore rfl rfl rfl (by decide +kernel) ⟨Nat.le_of_ble_eq_true rfl, Nat.le_of_ble_eq_true rfl⟩) hK hX hP hD hS hA (pk (bs := [[la ty ot 1 of], [ob bc 8 [.ref tx, .ref (a 0), .ref (b 0), .ref hi, .ref sl]], [ob hi 2 [.ref hs, .int cv]], [ob sl 3 [.ref ss, .ref sf]], [sa ty ss 2 (fun k => some (bd k 0))], [za ty sf 2 kf], (stW ty a r x y g), (stW ty (bd 0) (vr 0) (vx 0) (vy 0) (vg 0)), (stW ty (bd 1) (vr 1) (vx 1) (vy 1) (vg 1))]) (bsc := [[ob bc 8 [.ref tx, .ref (a 0), .ref (b 0), .ref hi, .ref sl]], [ob hi 2 [.ref hs, .int cv]], [ob sl 3 [.ref ss, .ref sf]], [sa ty ss 2 (fun k => some (bd k 0))], [za ty sf 2 kf], (stW ty a r x y g), (stW ty (bd 0) (vr 0) (vx 0) (vy 0) (vg 0)), (stW ty (bd 1) (vr 1) (vx 1) (vy 1) (vg 1))]) (bsr := [[la ty ot 1 of]]) [1, 2, 3, 4, 5, 6, 7, 8] [0] 9 rfl (by decide +kernel) rfl rfl) (ci := 8) rfl 0 rfl rfl hl.1 rfl (Nat.le_of_ble_eq_true rfl) dL_restore_4 ⟨Nat.le_of_ble_eq_true rfl, Nat.le_of_ble_eq_true rfl⟩ (fun E hE ce q9 H locs hP hD hS hce hcv hcl => ?_) (fun r9 u9 h9 H locs hP hD hS => ?_)
  · skip
    rcases hE with ⟨hEE, h0⟩ | ⟨hEE, k0, h1⟩
    · skip
      exact absurd hc0 h0
    · skip
      subst hEE
      have hP : va_P D vwCl (fl [[la ty ot 1 of], [ob bc 8 [.ref tx, .ref (a 0), .ref (b 0), .ref hi, .ref sl]], [ob hi 2 [.ref hs, .int cv]], [ob sl 3 [.ref ss, .ref sf]], [sa ty ss 2 (fun k => some (bd k 0))], [za ty sf 2 kf], (stW ty a r x y g), (stW ty (bd 0) (vr 0) (vx 0) (vy 0) (vg 0)), (stW ty (bd 1) (vr 1) (vx 1) (vy 1) (vg 1))]) H := P_perm (po (bs := [[ob bc 8 [.ref tx, .ref (a 0), .ref (b 0), .ref hi, .ref sl]], [ob hi 2 [.ref hs, .int cv]], [ob sl 3 [.ref ss, .ref sf]], [sa ty ss 2 (fun k => some (bd k 0))], [za ty sf 2 kf], (stW ty a r x y g), (stW ty (bd 0) (vr 0) (vx 0) (vy 0) (vg 0)), (stW ty (bd 1) (vr 1) (vx 1) (vy 1) (vg 1)), [la ty ot 1 of]]) [8, 0, 1, 2, 3, 4, 5, 6, 7] 9 rfl (by decide +kernel) rfl) hP
      have hD : va_D A (fl [[la ty ot 1 of], [ob bc 8 [.ref tx, .ref (a 0), .ref (b 0), .ref hi, .ref sl]], [ob hi 2 [.ref hs, .int cv]], [ob sl 3 [.ref ss, .ref sf]], [sa ty ss 2 (fun k => some (bd k 0))], [za ty sf 2 kf], (stW ty a r x y g), (stW ty (bd 0) (vr 0) (vx 0) (vy 0) (vg 0)), (stW ty (bd 1) (vr 1) (vx 1) (vy 1) (vg 1))]) := D_perm (po (bs := [[ob bc 8 [.ref tx, .ref (a 0), .ref (b 0), .ref hi, .ref sl]], [ob hi 2 [.ref hs, .int cv]], [ob sl 3 [.ref ss, .ref sf]], [sa ty ss 2 (fun k => some (bd k 0))], [za ty sf 2 kf], (stW ty a r x y g), (stW ty (bd 0) (vr 0) (vx 0) (vy 0) (vg 0)), (stW ty (bd 1) (vr 1) (vx 1) (vy 1) (vg 1)), [la ty ot 1 of]]) [8, 0, 1, 2, 3, 4, 5, 6, 7] 9 rfl (by decide +kernel) rfl) hD
      refine vx_catch (own := RL) (name := EIS) (E := EIS) hown [⟨0, 9, 12, 31⟩] ⟨0, 9, 15, 15⟩ [] (ht0.trans rfl) (List.forall_mem_cons.mpr ⟨Or.inr ⟨by decide, _, (hts (Cond.classLink RL 31 "java/lang/IndexOutOfBoundsException") (List.mem_of_getElem? (i := 1) rfl)), hX.1.2.2.2.1.1.2.2.2.1⟩, (fun z hz => absurd hz List.not_mem_nil)⟩) (by decide) (by decide) (hts (Cond.classLink RL 15 "java/lang/IllegalStateException") (List.mem_of_getElem? (i := 2) rfl)) (va_Nw.use rfl hX.1.2.2.1.2.1) hce hcv hcl ?_
      refine lv_astore_n (lv' := [(3, .ref q9), (0, .ref bc), (1, .int i9), (2, .ref ot)]) hx hb dL_restore_15 rfl hl (by decide) rfl (fun ls hl => ?_)
      refine lv_iconst (v := 2) hx hb dL_restore_16 (by decide) ?_
      have hP : va_P D vwCl (fl [[la ty ot 1 of], [ob bc 8 [.ref tx, .ref (a 0), .ref (b 0), .ref hi, .ref sl]], [ob hi 2 [.ref hs, .int cv]], [ob sl 3 [.ref ss, .ref sf]], [sa ty ss 2 (fun k => some (bd k 0))], [za ty sf 2 kf], (stW ty a r x y g), (stW ty (bd 0) (vr 0) (vx 0) (vy 0) (vg 0)), (stW ty (bd 1) (vr 1) (vx 1) (vy 1) (vg 1))]) H := hP
      have hD : va_D A (fl [[la ty ot 1 of], [ob bc 8 [.ref tx, .ref (a 0), .ref (b 0), .ref hi, .ref sl]], [ob hi 2 [.ref hs, .int cv]], [ob sl 3 [.ref ss, .ref sf]], [sa ty ss 2 (fun k => some (bd k 0))], [za ty sf 2 kf], (stW ty a r x y g), (stW ty (bd 0) (vr 0) (vx 0) (vy 0) (vg 0)), (stW ty (bd 1) (vr 1) (vx 1) (vy 1) (vg 1))]) := hD
      exact end_i (bs' := (fun (_ : Unit) => [[la ty ot 1 of], [ob bc 8 [.ref tx, .ref (a 0), .ref (b 0), .ref hi, .ref sl]], [ob hi 2 [.ref hs, .int cv]], [ob sl 3 [.ref ss, .ref sf]], [sa ty ss 2 (fun k => some (bd k 0))], [za ty sf 2 kf], (stW ty a r x y g), (stW ty (bd 0) (vr 0) (vx 0) (vy 0) (vg 0)), (stW ty (bd 1) (vr 1) (vx 1) (vy 1) (vg 1))])) () hx hb hr hlocks hP hD hS (by first | rfl | decide | simp []) (Nat.le_of_ble_eq_true rfl) (Nat.le_of_ble_eq_true rfl) dL_restore_17
  · exact absurd h9.2.2 hc1
set_option maxHeartbeats 4000000 in
set_option maxRecDepth 100000 in
theorem c_L_bestCorrection (l : Launch) (D : va_G) (ty : Nat → ClassId) (v9 : Int32) (bc tx hi sl : Nat) (b : Nat → Nat) (a : Nat → Nat) (r : Nat → Int32) (x y : Int64) (g : Nat → Nat → Int32) (ot : Nat) (of : Nat → Int64) (hst : l.stackTraces = false) (hc0 : inR v9 1 600) : CTi l yL_bestCorrection wsL_bestCorrection ({ frames := 8, cells := 1, slots := 6, locals := 127 }) D ty [.ref bc, .int v9, .ref ot] [[la ty ot 1 of], [ob bc 8 [.ref tx, .ref (a 0), .ref (b 0), .ref hi, .ref sl]], (stW ty a r x y g)] (fun (RET : Int32) (_ : Unit) => RET = 0) (fun (_ : Unit) => [[la ty ot 1 (vp_updL of 0 (Int32.toInt64 (if deadW v9 r = 0 then bestL v9 r 500 1 0 else 0)))], [ob bc 8 [.ref tx, .ref (a 0), .ref (b 0), .ref hi, .ref sl]], (stW ty a r x y g)]) := by
  refine CTi_ofH cL_bestCorrection 4 (some .int) [(0, 9, 12, 13)] (by decide) rfl (Nat.le_of_ble_eq_true rfl) ?_
  intro p e s m args below meth c A hx hb hr hml hown hlocks hin hts hA hX hK hP hD ht0 ls hl
  have hown : s.vm.findClass RL = some m.cls := hown
  have hS : va_S A s.heap s.heap [] := va_S.rf
  have hl : lv_has ls 4 [(0, .ref bc), (1, .int v9), (2, .ref ot)] := hl
  refine lv_aload_n hx hb dL_bestCorrection_0 rfl (lv_at hl 2 rfl) ?_
  refine lv_iconst (v := 0) hx hb dL_bestCorrection_1 (by decide) ?_
  refine lv_aload_n hx hb dL_bestCorrection_2 rfl (lv_at hl 0 rfl) ?_
  refine lv_iload_n hx hb dL_bestCorrection_3 rfl (lv_at hl 1 rfl) ?_
  refine cVxi (As := [.int v9]) (rest := [.int 0, .ref ot]) ⟨hx, hb, hml, hown, hts⟩ (c_X9_bestCorrection l D ty v9 bc tx hi sl b a r x y g hst) (cwV 1 hts gL_bestCorrection_X9_bestCorrection rfl rfl rfl (by decide +kernel) ⟨Nat.le_of_ble_eq_true rfl, Nat.le_of_ble_eq_true rfl⟩) hK hX hP hD hS hA (pk (bs := [[la ty ot 1 of], [ob bc 8 [.ref tx, .ref (a 0), .ref (b 0), .ref hi, .ref sl]], (stW ty a r x y g)]) (bsc := [[ob bc 8 [.ref tx, .ref (a 0), .ref (b 0), .ref hi, .ref sl]], (stW ty a r x y g)]) (bsr := [[la ty ot 1 of]]) [1, 2] [0] 3 rfl (by decide +kernel) rfl rfl) (ci := 8) rfl 0 rfl rfl hl.1 rfl (Nat.le_of_ble_eq_true rfl) dL_bestCorrection_4 ⟨Nat.le_of_ble_eq_true rfl, Nat.le_of_ble_eq_true rfl⟩ (fun E hE ce q9 H locs hP hD hS hce hcv hcl => ?_) (fun r9 u9 h9 H locs hP hD hS => ?_)
  · skip
    obtain ⟨hEE, h0⟩ := hE
    exact absurd hc0 h0
  · skip
    have hP : va_P D vwCl (fl [[la ty ot 1 of], [ob bc 8 [.ref tx, .ref (a 0), .ref (b 0), .ref hi, .ref sl]], (stW ty a r x y g)]) H := P_perm (po (bs := [[ob bc 8 [.ref tx, .ref (a 0), .ref (b 0), .ref hi, .ref sl]], (stW ty a r x y g), [la ty ot 1 of]]) [2, 0, 1] 3 rfl (by decide +kernel) rfl) hP
    have hD : va_D A (fl [[la ty ot 1 of], [ob bc 8 [.ref tx, .ref (a 0), .ref (b 0), .ref hi, .ref sl]], (stW ty a r x y g)]) := D_perm (po (bs := [[ob bc 8 [.ref tx, .ref (a 0), .ref (b 0), .ref hi, .ref sl]], (stW ty a r x y g), [la ty ot 1 of]]) [2, 0, 1] 3 rfl (by decide +kernel) rfl) hD
    have h8 : r9 = (if deadW v9 r = 0 then bestL v9 r 500 1 0 else 0) := h9.1
    subst h8
    refine lv_i2l (v := (Int32.toInt64 (if deadW v9 r = 0 then bestL v9 r 500 1 0 else 0))) hx hb dL_bestCorrection_7 rfl ?_
    refine k_last hx hb hK hP hD hS 0 rfl 0 rfl (by decide) (Nat.le_of_ble_eq_true rfl) dL_bestCorrection_8 (fun H locs hP hD hS => ?_)
    have hP : va_P D vwCl (fl [[la ty ot 1 (vp_updL of 0 (Int32.toInt64 (if deadW v9 r = 0 then bestL v9 r 500 1 0 else 0)))], [ob bc 8 [.ref tx, .ref (a 0), .ref (b 0), .ref hi, .ref sl]], (stW ty a r x y g)]) H := hP
    have hD : va_D A (fl [[la ty ot 1 (vp_updL of 0 (Int32.toInt64 (if deadW v9 r = 0 then bestL v9 r 500 1 0 else 0)))], [ob bc 8 [.ref tx, .ref (a 0), .ref (b 0), .ref hi, .ref sl]], (stW ty a r x y g)]) := hD
    refine lv_goto (tgt := 15) hx hb dL_bestCorrection_9 (by decide) ?_
    refine lv_iconst (v := 0) hx hb dL_bestCorrection_15 (by decide) ?_
    have hP : va_P D vwCl (fl [[la ty ot 1 (vp_updL of 0 (Int32.toInt64 (if deadW v9 r = 0 then bestL v9 r 500 1 0 else 0)))], [ob bc 8 [.ref tx, .ref (a 0), .ref (b 0), .ref hi, .ref sl]], (stW ty a r x y g)]) H := hP
    have hD : va_D A (fl [[la ty ot 1 (vp_updL of 0 (Int32.toInt64 (if deadW v9 r = 0 then bestL v9 r 500 1 0 else 0)))], [ob bc 8 [.ref tx, .ref (a 0), .ref (b 0), .ref hi, .ref sl]], (stW ty a r x y g)]) := hD
    exact end_i (bs' := (fun (_ : Unit) => [[la ty ot 1 (vp_updL of 0 (Int32.toInt64 (if deadW v9 r = 0 then bestL v9 r 500 1 0 else 0)))], [ob bc 8 [.ref tx, .ref (a 0), .ref (b 0), .ref hi, .ref sl]], (stW ty a r x y g)])) () hx hb hr hlocks hP hD hS (by first | rfl | decide | simp []) (Nat.le_of_ble_eq_true rfl) (Nat.le_of_ble_eq_true rfl) dL_bestCorrection_16
set_option maxHeartbeats 4000000 in
set_option maxRecDepth 100000 in
theorem c_L_bestCorrection_n0 (l : Launch) (D : va_G) (ty : Nat → ClassId) (v9 : Int32) (bc tx hi sl : Nat) (b : Nat → Nat) (a : Nat → Nat) (r : Nat → Int32) (x y : Int64) (g : Nat → Nat → Int32) (ot : Nat) (of : Nat → Int64) (hst : l.stackTraces = false) (hc0 : ¬ (inR v9 1 600)) : CTi l yL_bestCorrection wsL_bestCorrection ({ frames := 8, cells := 1, slots := 6, locals := 127 }) D ty [.ref bc, .int v9, .ref ot] [[la ty ot 1 of], [ob bc 8 [.ref tx, .ref (a 0), .ref (b 0), .ref hi, .ref sl]], (stW ty a r x y g)] (fun (RET : Int32) (_ : Unit) => RET = 1) (fun (_ : Unit) => [[la ty ot 1 of], [ob bc 8 [.ref tx, .ref (a 0), .ref (b 0), .ref hi, .ref sl]], (stW ty a r x y g)]) := by
  refine CTi_ofH cL_bestCorrection 4 (some .int) [(0, 9, 12, 13)] (by decide) rfl (Nat.le_of_ble_eq_true rfl) ?_
  intro p e s m args below meth c A hx hb hr hml hown hlocks hin hts hA hX hK hP hD ht0 ls hl
  have hown : s.vm.findClass RL = some m.cls := hown
  have hS : va_S A s.heap s.heap [] := va_S.rf
  have hl : lv_has ls 4 [(0, .ref bc), (1, .int v9), (2, .ref ot)] := hl
  refine lv_aload_n hx hb dL_bestCorrection_0 rfl (lv_at hl 2 rfl) ?_
  refine lv_iconst (v := 0) hx hb dL_bestCorrection_1 (by decide) ?_
  refine lv_aload_n hx hb dL_bestCorrection_2 rfl (lv_at hl 0 rfl) ?_
  refine lv_iload_n hx hb dL_bestCorrection_3 rfl (lv_at hl 1 rfl) ?_
  refine cVxi (As := [.int v9]) (rest := [.int 0, .ref ot]) ⟨hx, hb, hml, hown, hts⟩ (c_X9_bestCorrection l D ty v9 bc tx hi sl b a r x y g hst) (cwV 1 hts gL_bestCorrection_X9_bestCorrection rfl rfl rfl (by decide +kernel) ⟨Nat.le_of_ble_eq_true rfl, Nat.le_of_ble_eq_true rfl⟩) hK hX hP hD hS hA (pk (bs := [[la ty ot 1 of], [ob bc 8 [.ref tx, .ref (a 0), .ref (b 0), .ref hi, .ref sl]], (stW ty a r x y g)]) (bsc := [[ob bc 8 [.ref tx, .ref (a 0), .ref (b 0), .ref hi, .ref sl]], (stW ty a r x y g)]) (bsr := [[la ty ot 1 of]]) [1, 2] [0] 3 rfl (by decide +kernel) rfl rfl) (ci := 8) rfl 0 rfl rfl hl.1 rfl (Nat.le_of_ble_eq_true rfl) dL_bestCorrection_4 ⟨Nat.le_of_ble_eq_true rfl, Nat.le_of_ble_eq_true rfl⟩ (fun E hE ce q9 H locs hP hD hS hce hcv hcl => ?_) (fun r9 u9 h9 H locs hP hD hS => ?_)
  · skip
    obtain ⟨hEE, h0⟩ := hE
    subst hEE
    have hP : va_P D vwCl (fl [[la ty ot 1 of], [ob bc 8 [.ref tx, .ref (a 0), .ref (b 0), .ref hi, .ref sl]], (stW ty a r x y g)]) H := P_perm (po (bs := [[ob bc 8 [.ref tx, .ref (a 0), .ref (b 0), .ref hi, .ref sl]], (stW ty a r x y g), [la ty ot 1 of]]) [2, 0, 1] 3 rfl (by decide +kernel) rfl) hP
    have hD : va_D A (fl [[la ty ot 1 of], [ob bc 8 [.ref tx, .ref (a 0), .ref (b 0), .ref hi, .ref sl]], (stW ty a r x y g)]) := D_perm (po (bs := [[ob bc 8 [.ref tx, .ref (a 0), .ref (b 0), .ref hi, .ref sl]], (stW ty a r x y g), [la ty ot 1 of]]) [2, 0, 1] 3 rfl (by decide +kernel) rfl) hD
    refine vx_catch (own := RL) (name := EIA) (E := EIA) hown [] ⟨0, 9, 12, 13⟩ [] (ht0.trans rfl) (fun z hz => by cases hz) (by decide) (by decide) (hts (Cond.classLink RL 13 "java/lang/IllegalArgumentException") (List.mem_of_getElem? (i := 1) rfl)) (va_Nw.use rfl hX.1.2.2.1.1) hce hcv hcl ?_
    refine lv_astore_n (lv' := [(3, .ref q9), (0, .ref bc), (1, .int v9), (2, .ref ot)]) hx hb dL_bestCorrection_12 rfl hl (by decide) rfl (fun ls hl => ?_)
    refine lv_iconst (v := 1) hx hb dL_bestCorrection_13 (by decide) ?_
    have hP : va_P D vwCl (fl [[la ty ot 1 of], [ob bc 8 [.ref tx, .ref (a 0), .ref (b 0), .ref hi, .ref sl]], (stW ty a r x y g)]) H := hP
    have hD : va_D A (fl [[la ty ot 1 of], [ob bc 8 [.ref tx, .ref (a 0), .ref (b 0), .ref hi, .ref sl]], (stW ty a r x y g)]) := hD
    exact end_i (bs' := (fun (_ : Unit) => [[la ty ot 1 of], [ob bc 8 [.ref tx, .ref (a 0), .ref (b 0), .ref hi, .ref sl]], (stW ty a r x y g)])) () hx hb hr hlocks hP hD hS (by first | rfl | decide | simp []) (Nat.le_of_ble_eq_true rfl) (Nat.le_of_ble_eq_true rfl) dL_bestCorrection_14
  · exact absurd h9.2 hc0
set_option maxHeartbeats 4000000 in
set_option maxRecDepth 100000 in
theorem c_L_ahead (l : Launch) (D : va_G) (ty : Nat → ClassId) (m9 w9 : Int32) (bc tx hi sl : Nat) (b : Nat → Nat) (a : Nat → Nat) (r : Nat → Int32) (x y : Int64) (g : Nat → Nat → Int32) (r2 : Nat → Int32) (x2 y2 : Int64) (g2 : Nat → Nat → Int32) (ot : Nat) (of : Nat → Int64) (hst : l.stackTraces = false) (hw : Iw r) (hc0 : inR m9 0 1440) (hc1 : inR w9 0 5) : CTi l yL_ahead wsL_ahead ({ frames := 8, cells := 2, slots := 12, locals := 129 }) D ty [.ref bc, .int m9, .int w9, .ref ot] [[la ty ot 1 of], [ob bc 8 [.ref tx, .ref (a 0), .ref (b 0), .ref hi, .ref sl]], (stW ty a r x y g), (stW ty b r2 x2 y2 g2)] (fun (RET : Int32) (_ : Unit) => RET = 0) (fun (_ : Unit) => [[la ty ot 1 (vp_updL of 0 (Int32.toInt64 (ptell (minsR m9.toNatClampNeg r) (ahd w9.toNatClampNeg))))], [ob bc 8 [.ref tx, .ref (a 0), .ref (b 0), .ref hi, .ref sl]], (stW ty a r x y g), (stW ty b (minsR m9.toNatClampNeg r) (minsX m9.toNatClampNeg r x) (minsY m9.toNatClampNeg r y) g)]) := by
  refine CTi_ofH cL_ahead 5 (some .int) [(0, 10, 13, 13)] (by decide) rfl (Nat.le_of_ble_eq_true rfl) ?_
  intro p e s m args below meth c A hx hb hr hml hown hlocks hin hts hA hX hK hP hD ht0 ls hl
  have hown : s.vm.findClass RL = some m.cls := hown
  have hS : va_S A s.heap s.heap [] := va_S.rf
  have hl : lv_has ls 5 [(0, .ref bc), (1, .int m9), (2, .int w9), (3, .ref ot)] := hl
  refine lv_aload_n hx hb dL_ahead_0 rfl (lv_at hl 3 rfl) ?_
  refine lv_iconst (v := 0) hx hb dL_ahead_1 (by decide) ?_
  refine lv_aload_n hx hb dL_ahead_2 rfl (lv_at hl 0 rfl) ?_
  refine lv_iload_n hx hb dL_ahead_3 rfl (lv_at hl 1 rfl) ?_
  refine lv_iload_n hx hb dL_ahead_4 rfl (lv_at hl 2 rfl) ?_
  refine cVxi (As := [.int m9, .int w9]) (rest := [.int 0, .ref ot]) ⟨hx, hb, hml, hown, hts⟩ (c_X9_ahead l D ty m9 w9 bc tx hi sl b a r x y g r2 x2 y2 g2 hst hw) (cwV 2 hts gL_ahead_X9_ahead rfl rfl rfl (by decide +kernel) ⟨Nat.le_of_ble_eq_true rfl, Nat.le_of_ble_eq_true rfl⟩) hK hX hP hD hS hA (pk (bs := [[la ty ot 1 of], [ob bc 8 [.ref tx, .ref (a 0), .ref (b 0), .ref hi, .ref sl]], (stW ty a r x y g), (stW ty b r2 x2 y2 g2)]) (bsc := [[ob bc 8 [.ref tx, .ref (a 0), .ref (b 0), .ref hi, .ref sl]], (stW ty a r x y g), (stW ty b r2 x2 y2 g2)]) (bsr := [[la ty ot 1 of]]) [1, 2, 3] [0] 4 rfl (by decide +kernel) rfl rfl) (ci := 8) rfl 0 rfl rfl hl.1 rfl (Nat.le_of_ble_eq_true rfl) dL_ahead_5 ⟨Nat.le_of_ble_eq_true rfl, Nat.le_of_ble_eq_true rfl⟩ (fun E hE ce q9 H locs hP hD hS hce hcv hcl => ?_) (fun r9 u9 h9 H locs hP hD hS => ?_)
  · skip
    rcases hE with ⟨hEE, h0⟩ | ⟨hEE, k0, h1⟩
    · skip
      exact absurd hc0 h0
    · skip
      exact absurd hc1 h1
  · skip
    have hP : va_P D vwCl (fl [[la ty ot 1 of], [ob bc 8 [.ref tx, .ref (a 0), .ref (b 0), .ref hi, .ref sl]], (stW ty a r x y g), (stW ty b (minsR m9.toNatClampNeg r) (minsX m9.toNatClampNeg r x) (minsY m9.toNatClampNeg r y) g)]) H := P_perm (po (bs := [[ob bc 8 [.ref tx, .ref (a 0), .ref (b 0), .ref hi, .ref sl]], (stW ty a r x y g), (stW ty b (minsR m9.toNatClampNeg r) (minsX m9.toNatClampNeg r x) (minsY m9.toNatClampNeg r y) g), [la ty ot 1 of]]) [3, 0, 1, 2] 4 rfl (by decide +kernel) rfl) hP
    have hD : va_D A (fl [[la ty ot 1 of], [ob bc 8 [.ref tx, .ref (a 0), .ref (b 0), .ref hi, .ref sl]], (stW ty a r x y g), (stW ty b (minsR m9.toNatClampNeg r) (minsX m9.toNatClampNeg r x) (minsY m9.toNatClampNeg r y) g)]) := D_perm (po (bs := [[ob bc 8 [.ref tx, .ref (a 0), .ref (b 0), .ref hi, .ref sl]], (stW ty a r x y g), (stW ty b (minsR m9.toNatClampNeg r) (minsX m9.toNatClampNeg r x) (minsY m9.toNatClampNeg r y) g), [la ty ot 1 of]]) [3, 0, 1, 2] 4 rfl (by decide +kernel) rfl) hD
    have h8 : r9 = (ptell (minsR m9.toNatClampNeg r) (ahd w9.toNatClampNeg)) := h9.1
    subst h8
    refine lv_i2l (v := (Int32.toInt64 (ptell (minsR m9.toNatClampNeg r) (ahd w9.toNatClampNeg)))) hx hb dL_ahead_8 rfl ?_
    refine k_last hx hb hK hP hD hS 0 rfl 0 rfl (by decide) (Nat.le_of_ble_eq_true rfl) dL_ahead_9 (fun H locs hP hD hS => ?_)
    have hP : va_P D vwCl (fl [[la ty ot 1 (vp_updL of 0 (Int32.toInt64 (ptell (minsR m9.toNatClampNeg r) (ahd w9.toNatClampNeg))))], [ob bc 8 [.ref tx, .ref (a 0), .ref (b 0), .ref hi, .ref sl]], (stW ty a r x y g), (stW ty b (minsR m9.toNatClampNeg r) (minsX m9.toNatClampNeg r x) (minsY m9.toNatClampNeg r y) g)]) H := hP
    have hD : va_D A (fl [[la ty ot 1 (vp_updL of 0 (Int32.toInt64 (ptell (minsR m9.toNatClampNeg r) (ahd w9.toNatClampNeg))))], [ob bc 8 [.ref tx, .ref (a 0), .ref (b 0), .ref hi, .ref sl]], (stW ty a r x y g), (stW ty b (minsR m9.toNatClampNeg r) (minsX m9.toNatClampNeg r x) (minsY m9.toNatClampNeg r y) g)]) := hD
    refine lv_goto (tgt := 17) hx hb dL_ahead_10 (by decide) ?_
    refine lv_iconst (v := 0) hx hb dL_ahead_17 (by decide) ?_
    have hP : va_P D vwCl (fl [[la ty ot 1 (vp_updL of 0 (Int32.toInt64 (ptell (minsR m9.toNatClampNeg r) (ahd w9.toNatClampNeg))))], [ob bc 8 [.ref tx, .ref (a 0), .ref (b 0), .ref hi, .ref sl]], (stW ty a r x y g), (stW ty b (minsR m9.toNatClampNeg r) (minsX m9.toNatClampNeg r x) (minsY m9.toNatClampNeg r y) g)]) H := hP
    have hD : va_D A (fl [[la ty ot 1 (vp_updL of 0 (Int32.toInt64 (ptell (minsR m9.toNatClampNeg r) (ahd w9.toNatClampNeg))))], [ob bc 8 [.ref tx, .ref (a 0), .ref (b 0), .ref hi, .ref sl]], (stW ty a r x y g), (stW ty b (minsR m9.toNatClampNeg r) (minsX m9.toNatClampNeg r x) (minsY m9.toNatClampNeg r y) g)]) := hD
    exact end_i (bs' := (fun (_ : Unit) => [[la ty ot 1 (vp_updL of 0 (Int32.toInt64 (ptell (minsR m9.toNatClampNeg r) (ahd w9.toNatClampNeg))))], [ob bc 8 [.ref tx, .ref (a 0), .ref (b 0), .ref hi, .ref sl]], (stW ty a r x y g), (stW ty b (minsR m9.toNatClampNeg r) (minsX m9.toNatClampNeg r x) (minsY m9.toNatClampNeg r y) g)])) () hx hb hr hlocks hP hD hS (by first | rfl | decide | simp []) (Nat.le_of_ble_eq_true rfl) (Nat.le_of_ble_eq_true rfl) dL_ahead_18
set_option maxHeartbeats 4000000 in
set_option maxRecDepth 100000 in
theorem c_L_ahead_n0 (l : Launch) (D : va_G) (ty : Nat → ClassId) (m9 w9 : Int32) (bc tx hi sl : Nat) (b : Nat → Nat) (a : Nat → Nat) (r : Nat → Int32) (x y : Int64) (g : Nat → Nat → Int32) (r2 : Nat → Int32) (x2 y2 : Int64) (g2 : Nat → Nat → Int32) (ot : Nat) (of : Nat → Int64) (hst : l.stackTraces = false) (hw : Iw r) (hc0 : ¬ (inR m9 0 1440)) : CTi l yL_ahead wsL_ahead ({ frames := 8, cells := 2, slots := 12, locals := 129 }) D ty [.ref bc, .int m9, .int w9, .ref ot] [[la ty ot 1 of], [ob bc 8 [.ref tx, .ref (a 0), .ref (b 0), .ref hi, .ref sl]], (stW ty a r x y g), (stW ty b r2 x2 y2 g2)] (fun (RET : Int32) (_ : Unit) => RET = 1) (fun (_ : Unit) => [[la ty ot 1 of], [ob bc 8 [.ref tx, .ref (a 0), .ref (b 0), .ref hi, .ref sl]], (stW ty a r x y g), (stW ty b r2 x2 y2 g2)]) := by
  refine CTi_ofH cL_ahead 5 (some .int) [(0, 10, 13, 13)] (by decide) rfl (Nat.le_of_ble_eq_true rfl) ?_
  intro p e s m args below meth c A hx hb hr hml hown hlocks hin hts hA hX hK hP hD ht0 ls hl
  have hown : s.vm.findClass RL = some m.cls := hown
  have hS : va_S A s.heap s.heap [] := va_S.rf
  have hl : lv_has ls 5 [(0, .ref bc), (1, .int m9), (2, .int w9), (3, .ref ot)] := hl
  refine lv_aload_n hx hb dL_ahead_0 rfl (lv_at hl 3 rfl) ?_
  refine lv_iconst (v := 0) hx hb dL_ahead_1 (by decide) ?_
  refine lv_aload_n hx hb dL_ahead_2 rfl (lv_at hl 0 rfl) ?_
  refine lv_iload_n hx hb dL_ahead_3 rfl (lv_at hl 1 rfl) ?_
  refine lv_iload_n hx hb dL_ahead_4 rfl (lv_at hl 2 rfl) ?_
  refine cVxi (As := [.int m9, .int w9]) (rest := [.int 0, .ref ot]) ⟨hx, hb, hml, hown, hts⟩ (c_X9_ahead l D ty m9 w9 bc tx hi sl b a r x y g r2 x2 y2 g2 hst hw) (cwV 2 hts gL_ahead_X9_ahead rfl rfl rfl (by decide +kernel) ⟨Nat.le_of_ble_eq_true rfl, Nat.le_of_ble_eq_true rfl⟩) hK hX hP hD hS hA (pk (bs := [[la ty ot 1 of], [ob bc 8 [.ref tx, .ref (a 0), .ref (b 0), .ref hi, .ref sl]], (stW ty a r x y g), (stW ty b r2 x2 y2 g2)]) (bsc := [[ob bc 8 [.ref tx, .ref (a 0), .ref (b 0), .ref hi, .ref sl]], (stW ty a r x y g), (stW ty b r2 x2 y2 g2)]) (bsr := [[la ty ot 1 of]]) [1, 2, 3] [0] 4 rfl (by decide +kernel) rfl rfl) (ci := 8) rfl 0 rfl rfl hl.1 rfl (Nat.le_of_ble_eq_true rfl) dL_ahead_5 ⟨Nat.le_of_ble_eq_true rfl, Nat.le_of_ble_eq_true rfl⟩ (fun E hE ce q9 H locs hP hD hS hce hcv hcl => ?_) (fun r9 u9 h9 H locs hP hD hS => ?_)
  · skip
    rcases hE with ⟨hEE, h0⟩ | ⟨hEE, k0, h1⟩
    · skip
      subst hEE
      have hP : va_P D vwCl (fl [[la ty ot 1 of], [ob bc 8 [.ref tx, .ref (a 0), .ref (b 0), .ref hi, .ref sl]], (stW ty a r x y g), (stW ty b r2 x2 y2 g2)]) H := P_perm (po (bs := [[ob bc 8 [.ref tx, .ref (a 0), .ref (b 0), .ref hi, .ref sl]], (stW ty a r x y g), (stW ty b r2 x2 y2 g2), [la ty ot 1 of]]) [3, 0, 1, 2] 4 rfl (by decide +kernel) rfl) hP
      have hD : va_D A (fl [[la ty ot 1 of], [ob bc 8 [.ref tx, .ref (a 0), .ref (b 0), .ref hi, .ref sl]], (stW ty a r x y g), (stW ty b r2 x2 y2 g2)]) := D_perm (po (bs := [[ob bc 8 [.ref tx, .ref (a 0), .ref (b 0), .ref hi, .ref sl]], (stW ty a r x y g), (stW ty b r2 x2 y2 g2), [la ty ot 1 of]]) [3, 0, 1, 2] 4 rfl (by decide +kernel) rfl) hD
      refine vx_catch (own := RL) (name := EIA) (E := EIA) hown [] ⟨0, 10, 13, 13⟩ [] (ht0.trans rfl) (fun z hz => by cases hz) (by decide) (by decide) (hts (Cond.classLink RL 13 "java/lang/IllegalArgumentException") (List.mem_of_getElem? (i := 1) rfl)) (va_Nw.use rfl hX.1.2.2.1.1) hce hcv hcl ?_
      refine lv_astore (lv' := [(4, .ref q9), (0, .ref bc), (1, .int m9), (2, .int w9), (3, .ref ot)]) hx hb dL_ahead_13 hl (by decide) rfl (fun ls hl => ?_)
      refine lv_iconst (v := 1) hx hb dL_ahead_15 (by decide) ?_
      have hP : va_P D vwCl (fl [[la ty ot 1 of], [ob bc 8 [.ref tx, .ref (a 0), .ref (b 0), .ref hi, .ref sl]], (stW ty a r x y g), (stW ty b r2 x2 y2 g2)]) H := hP
      have hD : va_D A (fl [[la ty ot 1 of], [ob bc 8 [.ref tx, .ref (a 0), .ref (b 0), .ref hi, .ref sl]], (stW ty a r x y g), (stW ty b r2 x2 y2 g2)]) := hD
      exact end_i (bs' := (fun (_ : Unit) => [[la ty ot 1 of], [ob bc 8 [.ref tx, .ref (a 0), .ref (b 0), .ref hi, .ref sl]], (stW ty a r x y g), (stW ty b r2 x2 y2 g2)])) () hx hb hr hlocks hP hD hS (by first | rfl | decide | simp []) (Nat.le_of_ble_eq_true rfl) (Nat.le_of_ble_eq_true rfl) dL_ahead_16
    · skip
      exact absurd k0 hc0
  · exact absurd h9.2.1 hc0
