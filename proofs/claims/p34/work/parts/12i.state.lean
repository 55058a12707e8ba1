set_option maxHeartbeats 4000000 in
set_option maxRecDepth 100000 in
theorem c_X5_passMinutes (l : Launch) (D : va_G) (ty : Nat → ClassId) (mm : Nat) (a : Nat → Nat) (r : Nat → Int32) (x y : Int64) (g : Nat → Nat → Int32) (hw : Iw r) (hn : mm < 100000) : CTv l yX5_passMinutes wsX5_passMinutes ({ frames := 4, cells := 0, slots := 0, locals := 85 }) D ty [.ref (a 0), .int (nI mm)] [(stW ty a r x y g)] (fun (_ : Unit) => True) (fun (_ : Unit) => [(stW ty a (minsR mm r) (minsX mm r x) (minsY mm r y) g)]) := by
  refine CTv_of cX5_passMinutes 3 none (by decide) rfl (Nat.le_of_ble_eq_true rfl) ?_
  intro p e s m args below meth c A hx hb hr hml hown hlocks hin hts hA hX hK hP hD ls hl
  have hown : s.vm.findClass RX5 = some m.cls := hown
  have hS : va_S A s.heap s.heap [] := va_S.rf
  have hl : lv_has ls 3 [(0, .ref (a 0)), (1, .int (nI mm))] := hl
  generalize hQg : MQ below (va_Qv (fun (_ : Unit) => True) (PostW D (fun (_ : Unit) => [(stW ty a (minsR mm r) (minsX mm r x) (minsY mm r y) g)]) A) A) args s 0 0 A = Qg
  refine lv_iconst (v := 0) hx hb dX5_passMinutes_0 (by decide) ?_
  refine lv_istore_n (lv' := [(2, .int 0), (0, .ref (a 0)), (1, .int (nI mm))]) hx hb dX5_passMinutes_1 rfl hl (by decide) rfl (fun ls hl => ?_)
  have h00 : (0 : Int32) = nI 0 := rfl
  have hl : lv_has ls 3 [(2, .int (nI 0)), (0, .ref (a 0)), (1, .int (nI mm))] := hl
  have hloop : ∀ (n : Nat) (i : Nat) (r1 : Nat → Int32) (x1 : Int64) (y1 : Int64), (mm + 1 ≤ i + n) → (i ≤ mm) → (Iw r1) → (minsR (mm - i) r1 = minsR mm r) → (minsX (mm - i) r1 x1 = minsX mm r x) → (minsY (mm - i) r1 y1 = minsY mm r y) → ∀ (H : Heap) (locs : List Loc), va_P D vwCl (fl [(stW ty a r1 x1 y1 g)]) H → va_D A (fl [(stW ty a r1 x1 y1 g)]) → va_S A s.heap H locs → ∀ ls : Array Slot, lv_has ls 3 [(2, .int (nI i)), (0, .ref (a 0)), (1, .int (nI mm))] → W p l e ({ frames := 4, cells := 0, slots := 0, locals := 85 } : Room) s m args below meth c H locs 0 0 Qg (F0 m 2 ls []) := by
    intro n
    induction n with
    | zero =>
      intro i r1 x1 y1 hi hin hw1 hR hX1 hY1
      exact absurd hi (by omega)
    | succ n ih =>
      intro i r1 x1 y1 hi hin hw1 hR hX1 hY1 H locs hP hD hS ls hl
      refine lv_iload_n hx hb dX5_passMinutes_2 rfl (lv_at hl 0 rfl) ?_
      refine lv_iload_n hx hb dX5_passMinutes_3 rfl (lv_at hl 2 rfl) ?_
      refine lv_icmp_ge (tgt := 17) hx hb dX5_passMinutes_4 (by decide) (fun c_1 => ?_) (fun c_1 => ?_)
      · skip
        subst hQg
        have hz : mm - i = 0 := Nat.sub_eq_zero_of_le ((nI_leI (a := mm) (b := i) (by omega) (by omega)).mp c_1)
        rw [hz] at hR hX1 hY1
        have hP : va_P D vwCl (fl [(stW ty a (minsR mm r) (minsX mm r x) (minsY mm r y) g)]) H := by rw [← hR, ← hX1, ← hY1]; exact hP
        have hD : va_D A (fl [(stW ty a (minsR mm r) (minsX mm r x) (minsY mm r y) g)]) := (D_same2 hD [(a 0), (a 1), (a 2), (a 6), (a 3), (a 7), (a 8), (a 9), (a 10), (a 4), (a 5), (a 11), (a 12), (a 13), (a 14)] rfl rfl)
        exact end_v (bs' := (fun (_ : Unit) => [(stW ty a (minsR mm r) (minsX mm r x) (minsY mm r y) g)])) () hx hb hr hlocks hP hD hS trivial (Nat.le_of_ble_eq_true rfl) (Nat.le_of_ble_eq_true rfl) dX5_passMinutes_17
      · skip
        have hlt : i < mm := Nat.lt_of_not_le (fun z => c_1 ((nI_leI (a := mm) (b := i) (by omega) (by omega)).mpr z))
        have hst : mm - i = (mm - (i + 1)) + 1 := by omega
        refine lv_aload_n hx hb dX5_passMinutes_7 rfl (lv_at hl 1 rfl) ?_
        refine cVv (As := []) (rest := []) ⟨hx, hb, hml, hown, hts⟩ (c_X5_passMinute l D ty a r1 x1 y1 g (hw1)) (cwV 0 hts gX5_passMinutes_X5_passMinute rfl rfl rfl (by decide +kernel) ⟨Nat.le_of_ble_eq_true rfl, Nat.le_of_ble_eq_true rfl⟩) hK hX hP hD hS hA (pk (bs := [(stW ty a r1 x1 y1 g)]) (bsc := [(stW ty a r1 x1 y1 g)]) (bsr := []) [0] [] 1 rfl (by decide +kernel) rfl rfl) (ci := 4) rfl 0 rfl rfl hl.1 rfl (Nat.le_of_ble_eq_true rfl) dX5_passMinutes_8 ⟨Nat.le_of_ble_eq_true rfl, Nat.le_of_ble_eq_true rfl⟩ (fun u_2 h_4 H locs hP hD hS => ?_)
        have hP : va_P D vwCl (fl [(stW ty a (pminute r1) (minX r1 x1) (minY r1 y1) g)]) H := P_perm (po (bs := [(stW ty a (pminute r1) (minX r1 x1) (minY r1 y1) g)]) [0] 1 rfl (by decide +kernel) rfl) hP
        have hD : va_D A (fl [(stW ty a (pminute r1) (minX r1 x1) (minY r1 y1) g)]) := D_perm (po (bs := [(stW ty a (pminute r1) (minX r1 x1) (minY r1 y1) g)]) [0] 1 rfl (by decide +kernel) rfl) hD
        refine lv_iinc (v := (nI (i + 1))) (lv' := [(2, .int (nI (i + 1))), (0, .ref (a 0)), (1, .int (nI mm))]) hx hb dX5_passMinutes_11 hl (k := 0) rfl (nI_1 i) (by decide) rfl (fun ls hl => ?_)
        refine lv_goto (tgt := 2) hx hb dX5_passMinutes_14 (by decide) ?_
        exact ih (i + 1) (pminute r1) (minX r1 x1) (minY r1 y1) (by omega) (by omega) (Iw_pminute hw1) (by rw [← hR, hst]; rfl) (by rw [← hX1, hst]; rfl) (by rw [← hY1, hst]; rfl) _ _ (show va_P D vwCl (fl [(stW ty a (pminute r1) (minX r1 x1) (minY r1 y1) g)]) _ from hP) hD hS _ (lv_sub hl [0, 1, 2] rfl)
  exact hloop (mm + 1) 0 r x y (by omega) (Nat.zero_le _) (hw) (rfl) (rfl) (rfl) _ _ (show va_P D vwCl (fl [(stW ty a r x y g)]) _ from hP) hD hS _ (lv_sub hl [0, 1, 2] rfl)
