set_option maxHeartbeats 4000000 in
set_option maxRecDepth 100000 in
theorem c_X10_minutesOn (l : Launch) (D : va_G) (ty : Nat → ClassId) (q t9 mm : Nat) (r : Nat → Int32) (x y : Int64) (hn : mm < 100000) : CTv l yX10_minutesOn wsX10_minutesOn ({ frames := 4, cells := 0, slots := 0, locals := 92 }) D ty [.ref q, .ref t9, .int (nI mm)] [[ia ty q 57 r], [la ty t9 2 (tw x y)]] (fun (_ : Unit) => True) (fun (_ : Unit) => [[ia ty q 57 (minsR mm r)], [la ty t9 2 (tw (minsX mm r x) (minsY mm r y))]]) := by
  refine CTv_of cX10_minutesOn 4 none (by decide) rfl (Nat.le_of_ble_eq_true rfl) ?_
  intro p e s m args below meth c A hx hb hr hml hown hlocks hin hts hA hX hK hP hD ls hl
  have hown : s.vm.findClass RX10 = some m.cls := hown
  have hS : va_S A s.heap s.heap [] := va_S.rf
  have hl : lv_has ls 4 [(0, .ref q), (1, .ref t9), (2, .int (nI mm))] := hl
  generalize hQg : MQ below (va_Qv (fun (_ : Unit) => True) (PostW D (fun (_ : Unit) => [[ia ty q 57 (minsR mm r)], [la ty t9 2 (tw (minsX mm r x) (minsY mm r y))]]) A) A) args s 0 0 A = Qg
  refine lv_iconst (v := 0) hx hb dX10_minutesOn_0 (by decide) ?_
  refine lv_istore_n (lv' := [(3, .int 0), (0, .ref q), (1, .ref t9), (2, .int (nI mm))]) hx hb dX10_minutesOn_1 rfl hl (by decide) rfl (fun ls hl => ?_)
  have hl : lv_has ls 4 [(3, .int (nI 0)), (0, .ref q), (1, .ref t9), (2, .int (nI mm))] := hl
  have hloop : ∀ (n : Nat) (i : Nat) (r1 : Nat → Int32) (x1 : Int64) (y1 : Int64), (mm + 1 ≤ i + n) → (i ≤ mm) → (minsR (mm - i) r1 = minsR mm r) → (minsX (mm - i) r1 x1 = minsX mm r x) → (minsY (mm - i) r1 y1 = minsY mm r y) → ∀ (H : Heap) (locs : List Loc), va_P D vwCl (fl [[ia ty q 57 r1], [la ty t9 2 (tw x1 y1)]]) H → va_D A (fl [[ia ty q 57 r1], [la ty t9 2 (tw x1 y1)]]) → va_S A s.heap H locs → ∀ ls : Array Slot, lv_has ls 4 [(3, .int (nI i)), (0, .ref q), (1, .ref t9), (2, .int (nI mm))] → W p l e ({ frames := 4, cells := 0, slots := 0, locals := 92 } : Room) s m args below meth c H locs 0 0 Qg (F0 m 2 ls []) := by
    intro n
    induction n with
    | zero =>
      intro i r1 x1 y1 hi hin hR hX1 hY1
      exact absurd hi (by omega)
    | succ n ih =>
      intro i r1 x1 y1 hi hin hR hX1 hY1 H locs hP hD hS ls hl
      refine lv_iload_n hx hb dX10_minutesOn_2 rfl (lv_at hl 0 rfl) ?_
      refine lv_iload_n hx hb dX10_minutesOn_3 rfl (lv_at hl 3 rfl) ?_
      refine lv_icmp_ge (tgt := 19) hx hb dX10_minutesOn_4 (by decide) (fun c_1 => ?_) (fun c_1 => ?_)
      · skip
        subst hQg
        have hz : mm - i = 0 := Nat.sub_eq_zero_of_le ((nI_leI (a := mm) (b := i) (by omega) (by omega)).mp c_1)
        rw [hz] at hR hX1 hY1
        have hP : va_P D vwCl (fl [[ia ty q 57 (minsR mm r)], [la ty t9 2 (tw (minsX mm r x) (minsY mm r y))]]) H := by rw [← hR, ← hX1, ← hY1]; exact hP
        have hD : va_D A (fl [[ia ty q 57 (minsR mm r)], [la ty t9 2 (tw (minsX mm r x) (minsY mm r y))]]) := (D_same2 hD [q, t9] rfl rfl)
        exact end_v (bs' := (fun (_ : Unit) => [[ia ty q 57 (minsR mm r)], [la ty t9 2 (tw (minsX mm r x) (minsY mm r y))]])) () hx hb hr hlocks hP hD hS trivial (Nat.le_of_ble_eq_true rfl) (Nat.le_of_ble_eq_true rfl) dX10_minutesOn_19
      · skip
        have hlt : i < mm := Nat.lt_of_not_le (fun z => c_1 ((nI_leI (a := mm) (b := i) (by omega) (by omega)).mpr z))
        have hst : mm - i = (mm - (i + 1)) + 1 := by omega
        refine lv_aload_n hx hb dX10_minutesOn_7 rfl (lv_at hl 1 rfl) ?_
        refine lv_aload_n hx hb dX10_minutesOn_8 rfl (lv_at hl 2 rfl) ?_
        refine cSi (As := [.ref q, .ref t9]) (rest := []) ⟨hx, hb, hml, hown, hts⟩ (c_X10_minuteOn l D ty q t9 r1 x1 y1) (va_cwS 2 hts gX10_minutesOn_X10_minuteOn rfl rfl rfl (by decide +kernel) ⟨Nat.le_of_ble_eq_true rfl, Nat.le_of_ble_eq_true rfl⟩) hK hX hP hD hS hA (pk (bs := [[ia ty q 57 r1], [la ty t9 2 (tw x1 y1)]]) (bsc := [[ia ty q 57 r1], [la ty t9 2 (tw x1 y1)]]) (bsr := []) [0, 1] [] 2 rfl (by decide +kernel) rfl rfl) rfl hl.1 rfl (Nat.le_of_ble_eq_true rfl) dX10_minutesOn_9 ⟨Nat.le_of_ble_eq_true rfl, Nat.le_of_ble_eq_true rfl⟩ (fun r_3 u_2 h_4 H locs hP hD hS => ?_)
        have h_4 : r_3 = (pdues r1) := h_4
        subst h_4
        have hP : va_P D vwCl (fl [[ia ty q 57 (pminute r1)], [la ty t9 2 (tw (minX r1 x1) (minY r1 y1))]]) H := P_perm (po (bs := [[ia ty q 57 (pminute r1)], [la ty t9 2 (tw (minX r1 x1) (minY r1 y1))]]) [0, 1] 2 rfl (by decide +kernel) rfl) hP
        have hD : va_D A (fl [[ia ty q 57 (pminute r1)], [la ty t9 2 (tw (minX r1 x1) (minY r1 y1))]]) := D_perm (po (bs := [[ia ty q 57 (pminute r1)], [la ty t9 2 (tw (minX r1 x1) (minY r1 y1))]]) [0, 1] 2 rfl (by decide +kernel) rfl) hD
        refine lv_pop hx hb dX10_minutesOn_12 rfl ?_
        refine lv_iinc (v := (nI (i + 1))) (lv' := [(3, .int (nI (i + 1))), (0, .ref q), (1, .ref t9), (2, .int (nI mm))]) hx hb dX10_minutesOn_13 hl (k := 0) rfl (nI_1 i) (by decide) rfl (fun ls hl => ?_)
        refine lv_goto (tgt := 2) hx hb dX10_minutesOn_16 (by decide) ?_
        exact ih (i + 1) (pminute r1) (minX r1 x1) (minY r1 y1) (by omega) (by omega) (by rw [← hR, hst]; rfl) (by rw [← hX1, hst]; rfl) (by rw [← hY1, hst]; rfl) _ _ (show va_P D vwCl (fl [[ia ty q 57 (pminute r1)], [la ty t9 2 (tw (minX r1 x1) (minY r1 y1))]]) _ from hP) hD hS _ (lv_sub hl [0, 1, 2, 3] rfl)
  exact hloop (mm + 1) 0 r x y (by omega) (Nat.zero_le _) (rfl) (rfl) (rfl) _ _ (show va_P D vwCl (fl [[ia ty q 57 r], [la ty t9 2 (tw x y)]]) _ from hP) hD hS _ (lv_sub hl [0, 1, 2, 3] rfl)
