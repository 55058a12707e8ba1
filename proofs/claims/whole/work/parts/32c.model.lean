set_option maxHeartbeats 4000000 in
set_option maxRecDepth 100000 in
theorem c_X10_copyPage (l : Launch) (D : va_G) (ty : Nat → ClassId) (q u : Nat) (n1 n2 fa ta : Nat) (f1 f2 : Nat → Int32) (h1 : fa + 57 ≤ n1) (h2 : ta + 57 ≤ n2) (h3 : n1 < 100000) (h4 : n2 < 100000) : CTv l yX10_copyPage wsX10_copyPage ({ frames := 0, cells := 0, slots := 0, locals := 0 }) D ty [.ref q, .int (nI fa), .ref u, .int (nI ta)] [[ia ty q n1 f1], [ia ty u n2 f2]] (fun (_ : Unit) => True) (fun (_ : Unit) => [[ia ty q n1 f1], [ia ty u n2 (va_cpy f1 f2 fa ta 57)]]) := by
  refine CTv_of cX10_copyPage 5 none (by decide) rfl (Nat.le_of_ble_eq_true rfl) ?_
  intro p e s m args below meth c A hx hb hr hml hown hlocks hin hts hA hX hK hP hD ls hl
  have hown : s.vm.findClass RX10 = some m.cls := hown
  have hS : va_S A s.heap s.heap [] := va_S.rf
  have hl : lv_has ls 5 [(0, .ref q), (1, .int (nI fa)), (2, .ref u), (3, .int (nI ta))] := hl
  generalize hQg : MQ below (va_Qv (fun (_ : Unit) => True) (PostW D (fun (_ : Unit) => [[ia ty q n1 f1], [ia ty u n2 (va_cpy f1 f2 fa ta 57)]]) A) A) args s 0 0 A = Qg
  refine lv_iconst (v := 0) hx hb dX10_copyPage_0 (by decide) ?_
  refine lv_istore (lv' := [(4, .int 0), (0, .ref q), (1, .int (nI fa)), (2, .ref u), (3, .int (nI ta))]) hx hb dX10_copyPage_1 hl (by decide) rfl (fun ls hl => ?_)
  have hl : lv_has ls 5 [(4, .int (nI 0)), (0, .ref q), (1, .int (nI fa)), (2, .ref u), (3, .int (nI ta))] := hl
  have hloop : ∀ (n : Nat) (i : Nat), (58 ≤ i + n) → (i ≤ 57) → ∀ (H : Heap) (locs : List Loc), va_P D vwCl (fl [[ia ty q n1 f1], [ia ty u n2 (va_cpy f1 f2 fa ta i)]]) H → va_D A (fl [[ia ty q n1 f1], [ia ty u n2 (va_cpy f1 f2 fa ta i)]]) → va_S A s.heap H locs → ∀ ls : Array Slot, lv_has ls 5 [(4, .int (nI i)), (0, .ref q), (1, .int (nI fa)), (2, .ref u), (3, .int (nI ta))] → W p l e ({ frames := 0, cells := 0, slots := 0, locals := 0 } : Room) s m args below meth c H locs 0 0 Qg (F0 m 3 ls []) := by
    intro n
    induction n with
    | zero =>
      intro i hi hin
      exact absurd hi (by omega)
    | succ n ih =>
      intro i hi hin H locs hP hD hS ls hl
      refine lv_iload hx hb dX10_copyPage_3 (lv_at hl 0 rfl) ?_
      refine lv_bipush (v := 57) hx hb dX10_copyPage_5 (by decide) ?_
      refine lv_icmp_ge (tgt := 28) hx hb dX10_copyPage_7 (by decide) (fun c_1 => ?_) (fun c_1 => ?_)
      · skip
        subst hQg
        have hz : i = 57 := by have q0 := (nI_leI (a := 57) (b := i) (by omega) (by omega)).mp c_1; omega
        subst hz
        have hD : va_D A (fl [[ia ty q n1 f1], [ia ty u n2 (va_cpy f1 f2 fa ta 57)]]) := (D_same2 hD [q, u] rfl rfl)
        exact end_v (bs' := (fun (_ : Unit) => [[ia ty q n1 f1], [ia ty u n2 (va_cpy f1 f2 fa ta 57)]])) () hx hb hr hlocks hP hD hS trivial (Nat.le_of_ble_eq_true rfl) (Nat.le_of_ble_eq_true rfl) dX10_copyPage_28
      · skip
        have hlt : i < 57 := Nat.lt_of_not_le (fun z => c_1 ((nI_leI (a := 57) (b := i) (by omega) (by omega)).mpr z))
        refine lv_aload_n hx hb dX10_copyPage_10 rfl (lv_at hl 3 rfl) ?_
        refine lv_iload_n hx hb dX10_copyPage_11 rfl (lv_at hl 4 rfl) ?_
        refine lv_iload hx hb dX10_copyPage_12 (lv_at hl 0 rfl) ?_
        refine k_iadd (v := (nI (ta + i))) hx hb dX10_copyPage_14 (nI_add ta i) ?_
        refine lv_aload_n hx hb dX10_copyPage_15 rfl (lv_at hl 1 rfl) ?_
        refine lv_iload_n hx hb dX10_copyPage_16 rfl (lv_at hl 2 rfl) ?_
        refine lv_iload hx hb dX10_copyPage_17 (lv_at hl 0 rfl) ?_
        refine k_iadd (v := (nI (fa + i))) hx hb dX10_copyPage_19 (nI_add fa i) ?_
        refine k_iald hx hb hK hP 0 rfl (fa + i) rfl (by omega) (by omega) (v := f1 (fa + i)) rfl dX10_copyPage_20 ?_
        refine k_iast hx hb hK hP hD hS 1 rfl (ta + i) rfl (by omega) (by omega) dX10_copyPage_21 (fun H locs hP hD hS => ?_)
        have hP : va_P D vwCl (fl [[ia ty q n1 f1], [ia ty u n2 (upd (va_cpy f1 f2 fa ta i) (ta + i) (f1 (fa + i)))]]) H := hP
        have hD : va_D A (fl [[ia ty q n1 f1], [ia ty u n2 (upd (va_cpy f1 f2 fa ta i) (ta + i) (f1 (fa + i)))]]) := hD
        refine lv_iinc (v := (nI (i + 1))) (lv' := [(4, .int (nI (i + 1))), (0, .ref q), (1, .int (nI fa)), (2, .ref u), (3, .int (nI ta))]) hx hb dX10_copyPage_22 hl (k := 0) rfl (nI_1 i) (by decide) rfl (fun ls hl => ?_)
        refine lv_goto (tgt := 3) hx hb dX10_copyPage_25 (by decide) ?_
        have hP : va_P D vwCl (fl [[ia ty q n1 f1], [ia ty u n2 (va_cpy f1 f2 fa ta (i + 1))]]) H := by rw [← cpy_succ]; exact hP
        have hD : va_D A (fl [[ia ty q n1 f1], [ia ty u n2 (va_cpy f1 f2 fa ta (i + 1))]]) := by rw [← cpy_succ]; exact hD
        exact ih (i + 1) (by omega) (by omega) _ _ (show va_P D vwCl (fl [[ia ty q n1 f1], [ia ty u n2 (va_cpy f1 f2 fa ta (i + 1))]]) _ from hP) hD hS _ (lv_sub hl [0, 1, 2, 3, 4] rfl)
  have hP : va_P D vwCl (fl [[ia ty q n1 f1], [ia ty u n2 (va_cpy f1 f2 fa ta 0)]]) s.heap := by rw [cpy_0]; exact hP
  have hD : va_D A (fl [[ia ty q n1 f1], [ia ty u n2 (va_cpy f1 f2 fa ta 0)]]) := by rw [cpy_0]; exact hD
  exact hloop 58 0 (by omega) (Nat.zero_le _) _ _ (show va_P D vwCl (fl [[ia ty q n1 f1], [ia ty u n2 (va_cpy f1 f2 fa ta 0)]]) _ from hP) hD hS _ (lv_sub hl [0, 1, 2, 3, 4] rfl)
