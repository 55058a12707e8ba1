set_option maxHeartbeats 4000000 in
set_option maxRecDepth 100000 in
theorem c_X10_isDue (l : Launch) (D : va_G) (ty : Nat → ClassId) (q i : Nat) (u v : Int32) (r : Nat → Int32) (hi : i < 4) (hu : u.toInt ≤ 100000000) (hv : v.toInt ≤ 100000000) : CTi l yX10_isDue wsX10_isDue ({ frames := 0, cells := 0, slots := 0, locals := 0 }) D ty [.ref q, .int (nI i), .int u, .int v] [[ia ty q 57 r]] (fun (RET : Int32) (_ : Unit) => RET = (due u v (r (27 + 3 * i)))) (fun (_ : Unit) => [[ia ty q 57 r]]) := by
  refine CTi_of cX10_isDue 7 (some .boolean) (by decide) rfl (Nat.le_of_ble_eq_true rfl) ?_
  intro p e s m args below meth c A hx hb hr hml hown hlocks hin hts hA hX hK hP hD ls hl
  have hown : s.vm.findClass RX10 = some m.cls := hown
  have hS : va_S A s.heap s.heap [] := va_S.rf
  have hl : lv_has ls 7 [(0, .ref q), (1, .int (nI i)), (2, .int u), (3, .int v)] := hl
  generalize hQg : MQ below (va_Qi (fun (RET : Int32) (_ : Unit) => RET = (due u v (r (27 + 3 * i)))) (PostW D (fun (_ : Unit) => [[ia ty q 57 r]]) A) A) args s 0 0 A = Qg
  refine lv_aload_n hx hb dX10_isDue_0 rfl (lv_at hl 0 rfl) ?_
  refine lv_bipush (v := 27) hx hb dX10_isDue_1 (by decide) ?_
  refine lv_iconst (v := 3) hx hb dX10_isDue_3 (by decide) ?_
  refine lv_iload_n hx hb dX10_isDue_4 rfl (lv_at hl 1 rfl) ?_
  refine k_imul (v := (nI (3 * i))) hx hb dX10_isDue_5 ((nI_mul (3) (i)).trans (congrArg nI (by omega))) ?_
  refine k_iadd (v := (nI (27 + 3 * i))) hx hb dX10_isDue_6 ((nI_add (27) (3 * i)).trans (congrArg nI (by omega))) ?_
  refine k_iald hx hb hK hP 0 rfl (27 + 3 * i) rfl (by omega) (Nat.le_of_ble_eq_true rfl) (v := r (27 + 3 * i)) rfl dX10_isDue_7 ?_
  refine lv_istore (lv' := [(4, .int (r (27 + 3 * i))), (0, .ref q), (1, .int (nI i)), (2, .int u), (3, .int v)]) hx hb dX10_isDue_8 hl (by decide) rfl (fun ls hl => ?_)
  refine lv_iconst (v := 0) hx hb dX10_isDue_10 (by decide) ?_
  refine lv_istore (lv' := [(5, .int 0), (4, .int (r (27 + 3 * i))), (0, .ref q), (1, .int (nI i)), (2, .int u), (3, .int v)]) hx hb dX10_isDue_11 hl (by decide) rfl (fun ls hl => ?_)
  refine lv_iload_n hx hb dX10_isDue_13 rfl (lv_at hl 4 rfl) ?_
  refine lv_iconst (v := 1) hx hb dX10_isDue_14 (by decide) ?_
  refine k_iadd (v := (u + 1)) hx hb dX10_isDue_15 rfl ?_
  refine lv_istore (lv' := [(6, .int (u + 1)), (5, .int 0), (4, .int (r (27 + 3 * i))), (0, .ref q), (1, .int (nI i)), (2, .int u), (3, .int v)]) hx hb dX10_isDue_16 hl (by decide) rfl (fun ls hl => ?_)
  have hloop : ∀ (n : Nat) (k : Int32) (acc : Int32), ((v.toInt + 1 - k.toInt).toNat < n) → (k.toInt ≤ 100000001) → (acc = 0 ∨ acc = 1) → (due u v (r (27 + 3 * i)) = if acc = 1 then 1 else dueN (v.toInt + 1 - k.toInt).toNat k (r (27 + 3 * i))) → ∀ (H : Heap) (locs : List Loc), va_P D vwCl (fl [[ia ty q 57 r]]) H → va_D A (fl [[ia ty q 57 r]]) → va_S A s.heap H locs → ∀ ls : Array Slot, lv_has ls 7 [(6, .int k), (5, .int acc), (4, .int (r (27 + 3 * i))), (0, .ref q), (1, .int (nI i)), (2, .int u), (3, .int v)] → W p l e ({ frames := 0, cells := 0, slots := 0, locals := 0 } : Room) s m args below meth c H locs 0 0 Qg (F0 m 18 ls []) := by
    intro n
    induction n with
    | zero =>
      intro k acc hk hle ha hd
      exact absurd hk (Nat.not_lt_zero _)
    | succ n ih =>
      intro k acc hk hle ha hd H locs hP hD hS ls hl
      refine lv_iload hx hb dX10_isDue_18 (lv_at hl 0 rfl) ?_
      refine lv_iload_n hx hb dX10_isDue_20 rfl (lv_at hl 6 rfl) ?_
      refine lv_icmp_gt (tgt := 53) hx hb dX10_isDue_21 (by decide) (fun c_1 => ?_) (fun c_1 => ?_)
      · skip
        refine lv_iload hx hb dX10_isDue_53 (lv_at hl 1 rfl) ?_
        subst hQg
        have hP : va_P D vwCl (fl [[ia ty q 57 r]]) H := hP
        have hD : va_D A (fl [[ia ty q 57 r]]) := hD
        exact end_z (bs' := (fun (_ : Unit) => [[ia ty q 57 r]])) () hx hb hr hlocks (by rcases ha with e1 | e1 <;> rw [e1] <;> rfl) hP hD hS (by simp only [gt_iff_lt, fa_lt] at c_1; rw [hd, show (v.toInt + 1 - k.toInt).toNat = 0 by omega, dueN]; rcases ha with e1 | e1 <;> rw [e1] <;> rfl) (Nat.le_of_ble_eq_true rfl) (Nat.le_of_ble_eq_true rfl) dX10_isDue_55
      · skip
        have hkv : k.toInt ≤ v.toInt := by simp only [gt_iff_lt, fa_lt] at c_1; omega
        have hstep : (v.toInt + 1 - k.toInt).toNat = (v.toInt - k.toInt).toNat + 1 := by omega
        have hnext : (v.toInt + 1 - (k + 1).toInt).toNat = (v.toInt - k.toInt).toNat := by rw [i_inc (by omega)]; omega
        refine lv_iload hx hb dX10_isDue_24 (lv_at hl 1 rfl) ?_
        refine lv_if_ne (tgt := 40) hx hb dX10_isDue_26 (by decide) (fun c_2 => ?_) (fun c_2 => ?_)
        · skip
          refine lv_iconst (v := 1) hx hb dX10_isDue_40 (by decide) ?_
          refine lv_goto (tgt := 45) hx hb dX10_isDue_41 (by decide) ?_
          refine lv_istore (lv' := [(5, .int 1), (6, .int k), (4, .int (r (27 + 3 * i))), (0, .ref q), (1, .int (nI i)), (2, .int u), (3, .int v)]) hx hb dX10_isDue_45 hl (by decide) rfl (fun ls hl => ?_)
          have hacc : acc = 1 := ha.resolve_left c_2
          refine lv_iinc (v := (k + 1)) (lv' := [(6, .int (k + 1)), (5, .int 1), (4, .int (r (27 + 3 * i))), (0, .ref q), (1, .int (nI i)), (2, .int u), (3, .int v)]) hx hb dX10_isDue_47 hl (k := 1) rfl rfl (by decide) rfl (fun ls hl => ?_)
          refine lv_goto (tgt := 18) hx hb dX10_isDue_50 (by decide) ?_
          exact ih (k + 1) 1 (by rw [i_inc (by omega)]; omega) (by rw [i_inc (by omega)]; omega) (Or.inr rfl) (by rw [hd, if_pos hacc, if_pos rfl]) _ _ (show va_P D vwCl (fl [[ia ty q 57 r]]) _ from hP) hD hS _ (lv_sub hl [0, 1, 2, 3, 4, 5, 6] rfl)
        · skip
          refine lv_iload hx hb dX10_isDue_29 (lv_at hl 0 rfl) ?_
          refine lv_sipush (v := 1440) hx hb dX10_isDue_31 (by decide) ?_
          refine k_irem (v := (rem32 k 1440)) hx hb dX10_isDue_34 (by decide) rfl ?_
          refine lv_iload hx hb dX10_isDue_35 (lv_at hl 2 rfl) ?_
          refine lv_icmp_ne (tgt := 44) hx hb dX10_isDue_37 (by decide) (fun c_3 => ?_) (fun c_3 => ?_)
          · skip
            refine lv_iconst (v := 0) hx hb dX10_isDue_44 (by decide) ?_
            refine lv_istore (lv' := [(5, .int 0), (6, .int k), (4, .int (r (27 + 3 * i))), (0, .ref q), (1, .int (nI i)), (2, .int u), (3, .int v)]) hx hb dX10_isDue_45 hl (by decide) rfl (fun ls hl => ?_)
            refine lv_iinc (v := (k + 1)) (lv' := [(6, .int (k + 1)), (5, .int 0), (4, .int (r (27 + 3 * i))), (0, .ref q), (1, .int (nI i)), (2, .int u), (3, .int v)]) hx hb dX10_isDue_47 hl (k := 1) rfl rfl (by decide) rfl (fun ls hl => ?_)
            refine lv_goto (tgt := 18) hx hb dX10_isDue_50 (by decide) ?_
            exact ih (k + 1) 0 (by rw [i_inc (by omega)]; omega) (by rw [i_inc (by omega)]; omega) (Or.inl rfl) (by rw [hd, if_neg (by rw [c_2]; decide), if_neg (by decide), hstep, dueN, if_neg c_3, hnext]) _ _ (show va_P D vwCl (fl [[ia ty q 57 r]]) _ from hP) hD hS _ (lv_sub hl [0, 1, 2, 3, 4, 5, 6] rfl)
          · skip
            refine lv_iconst (v := 1) hx hb dX10_isDue_40 (by decide) ?_
            refine lv_goto (tgt := 45) hx hb dX10_isDue_41 (by decide) ?_
            refine lv_istore (lv' := [(5, .int 1), (6, .int k), (4, .int (r (27 + 3 * i))), (0, .ref q), (1, .int (nI i)), (2, .int u), (3, .int v)]) hx hb dX10_isDue_45 hl (by decide) rfl (fun ls hl => ?_)
            refine lv_iinc (v := (k + 1)) (lv' := [(6, .int (k + 1)), (5, .int 1), (4, .int (r (27 + 3 * i))), (0, .ref q), (1, .int (nI i)), (2, .int u), (3, .int v)]) hx hb dX10_isDue_47 hl (k := 1) rfl rfl (by decide) rfl (fun ls hl => ?_)
            refine lv_goto (tgt := 18) hx hb dX10_isDue_50 (by decide) ?_
            exact ih (k + 1) 1 (by rw [i_inc (by omega)]; omega) (by rw [i_inc (by omega)]; omega) (Or.inr rfl) (by rw [hd, if_neg (by rw [c_2]; decide), if_pos rfl, hstep, dueN, if_pos c_3]) _ _ (show va_P D vwCl (fl [[ia ty q 57 r]]) _ from hP) hD hS _ (lv_sub hl [0, 1, 2, 3, 4, 5, 6] rfl)
  exact hloop ((v.toInt + 1 - (u + 1).toInt).toNat + 1) (u + 1) 0 (Nat.lt_succ_self _) (by rw [i_inc (by omega)]; omega) (Or.inl rfl) (by rw [if_neg (by decide), i_inc (by omega)]; unfold due; congr 1; omega) _ _ (show va_P D vwCl (fl [[ia ty q 57 r]]) _ from hP) hD hS _ (lv_sub hl [0, 1, 2, 3, 4, 5, 6] rfl)
