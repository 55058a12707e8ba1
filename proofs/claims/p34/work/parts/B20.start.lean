theorem arP {args : Array Value} {s : State} {t : FieldType} (h : (Cond.arrayClass t).before args s = true) : ∃ cA : ClassId, ArrOfT s cA t ∧ s.vm.findClass ("[" ++ t.toString) = some cA := by
  obtain ⟨cA, kA, comp, h1, h2, h3⟩ := Cond.arrayClass_spec h
  exact ⟨cA, fun n z => ⟨fun k h => (by cases h), kA, h2, comp, h3⟩, h1⟩
theorem arO {args : Array Value} {s : State} {C : String} (h : (Cond.arrayOver (.object C)).before args s = true) : ∃ cA : ClassId, ArrOfT s cA (.object C) ∧ va_RA s cA (.object C) := by
  obtain ⟨comp, cA, kA, hcomp, hidx, hk, hkind, hname⟩ := Cond.arrayOver_spec h
  exact ⟨cA, fun n z => ⟨fun k h => (by cases h), kA, hk, comp, hkind⟩, kA, comp, hk, hkind, hcomp, hname⟩
theorem st_R {args : Array Value} {s : State} {own tx : String} {k : Nat} (h1 : (Cond.stringRef own k tx).before args s = true) (h2 : (Cond.exactly (.string own k) "java/lang/String").before args s = true) : ∃ a, vk_R own k tx a s := by
  obtain ⟨a, c, cA, kA, q1, -⟩ := Cond.exactly_spec (args := args) (first := s) (o := none) (s := s) (idx := []) (t := .string own k) (cls := "java/lang/String") h2
  exact ⟨a, vk_R.of (A := args) h1 q1⟩
set_option maxRecDepth 20000 in
theorem st_CW {args : Array Value} {s : State} (hts : ∀ w ∈ lw_tbl, w.before args s = true) (hgv : (Jvm.Cond.and given_1 narrow_1).before args s = true) : CW s := by
  have hG := flat_of_before _ hgv
  refine ⟨⟨va_AO.of (hts (.arrayOver (.object RX5)) (by decide +kernel)), va_AO.of (hts (.arrayOver (.object RX0)) (by decide +kernel))⟩, ⟨va_Nw.of rfl (hts (.methodLinkNest RX9 9 yX8_init RX9) (by decide +kernel)), va_Nw.of rfl (hts (.methodLinkNest RX5 11 yX1_init RX9) (by decide +kernel)), va_Nw.of rfl (hts (.methodLinkNest RX5 20 yX6_init RX9) (by decide +kernel)), va_Nw.of rfl (hts (.methodLinkNest RX5 27 yX7_init RX9) (by decide +kernel)), va_Nw.of rfl (hts (.methodLinkNest RX5 42 yX0_init RX9) (by decide +kernel))⟩, ⟨va_Nw.of rfl (hts (.castable EIA EIA) (by decide +kernel)), va_Nw.of rfl (hts (.castable EIS EIS) (by decide +kernel)), va_Nw.of rfl (hts (.castable EIO EIO) (by decide +kernel))⟩, ⟨⟨va_Nc.of (hG (.not (.castable EIA EIS)) (by decide +kernel)), va_Nc.of (hG (.not (.castable EIA EIO)) (by decide +kernel)), va_Nc.of (hG (.not (.castable EIS EIA)) (by decide +kernel)), va_Nc.of (hG (.not (.castable EIS EIO)) (by decide +kernel)), va_Nc.of (hG (.not (.castable EIO EIA)) (by decide +kernel)), va_Nc.of (hG (.not (.castable EIO EIS)) (by decide +kernel))⟩, ⟨va_Nw.of rfl (hts (.declares (Bundle.initS "java/lang/RuntimeException")) (by decide +kernel)), va_Nw.of rfl (hts (.declares (Bundle.initS "java/lang/Exception")) (by decide +kernel)), va_Nw.of rfl (hts (.declares (Bundle.initS Bundle.tN)) (by decide +kernel))⟩⟩, ⟨st_R (hts (.stringRef RX9 248 "an argument is out of its range") (by decide +kernel)) (hG (.exactly (.string RX9 248) "java/lang/String") (by decide +kernel)), st_R (hts (.stringRef RX9 50 "the text is full") (by decide +kernel)) (hG (.exactly (.string RX9 50) "java/lang/String") (by decide +kernel)), st_R (hts (.stringRef RX9 64 "the text is not one to load") (by decide +kernel)) (hG (.exactly (.string RX9 64) "java/lang/String") (by decide +kernel)), st_R (hts (.stringRef RX9 252 "there is no such thing") (by decide +kernel)) (hG (.exactly (.string RX9 252) "java/lang/String") (by decide +kernel)), st_R (hts (.stringRef RX9 259 "the supply is not main") (by decide +kernel)) (hG (.exactly (.string RX9 259) "java/lang/String") (by decide +kernel)), st_R (hts (.stringRef RX9 182 "no state is remembered") (by decide +kernel)) (hG (.exactly (.string RX9 182) "java/lang/String") (by decide +kernel)), st_R (hts (.stringRef RX9 218 "the script has too many digits, or is negative") (by decide +kernel)) (hG (.exactly (.string RX9 218) "java/lang/String") (by decide +kernel)), st_R (hts (.stringRef RX9 246 "nothing has been saved in this slot") (by decide +kernel)) (hG (.exactly (.string RX9 246) "java/lang/String") (by decide +kernel))⟩⟩
set_option maxRecDepth 20000 in
theorem st_CX {args : Array Value} {s : State} {A : Nat → Prop} (hts : ∀ w ∈ lw_tbl, w.before args s = true) (hgv : (Jvm.Cond.and given_1 narrow_1).before args s = true) (hA : ∀ a : Nat, a < s.heap.size → ¬ A a) : CX A s s.heap := by
  have hG := flat_of_before _ hgv
  obtain ⟨t, ht, hT⟩ := va_Tof (tm := (.static RX9 "AHEAD" "[I")) (ty := .int) (N := 6) (f := fun j => .int (ahd j)) (A := A) (by decide) (hG (.arrayOf (.static RX9 "AHEAD" "[I") .int) (by decide +kernel)) (va_eqt (hG (.eq (.length (.static RX9 "AHEAD" "[I")) (.int 6)) (by decide +kernel))) (fun j hj => by
    match j, hj with
    | 0, _ => exact va_eqt (hG (.eq (.elem (.static RX9 "AHEAD" "[I") (.int 0)) (.int 1)) (by decide +kernel))
    | 1, _ => exact va_eqt (hG (.eq (.elem (.static RX9 "AHEAD" "[I") (.int 1)) (.int 2)) (by decide +kernel))
    | 2, _ => exact va_eqt (hG (.eq (.elem (.static RX9 "AHEAD" "[I") (.int 2)) (.int 5)) (by decide +kernel))
    | 3, _ => exact va_eqt (hG (.eq (.elem (.static RX9 "AHEAD" "[I") (.int 3)) (.int 8)) (by decide +kernel))
    | 4, _ => exact va_eqt (hG (.eq (.elem (.static RX9 "AHEAD" "[I") (.int 4)) (.int 9)) (by decide +kernel))
    | 5, _ => exact va_eqt (hG (.eq (.elem (.static RX9 "AHEAD" "[I") (.int 5)) (.int 12)) (by decide +kernel))) hA
  exact ⟨st_CW hts hgv, vx_Zqof (hts (.laysStatic Bundle.tN "UNASSIGNED_STACK" Bundle.steD) (by decide +kernel)) (hts (.initialized Bundle.tN) (by decide +kernel)) (hG (.isRef (.static Bundle.tN "UNASSIGNED_STACK" Bundle.steD)) (by decide +kernel)) hA, vx_Zqof (hts (.laysStatic Bundle.tN "SUPPRESSED_SENTINEL" Bundle.listD) (by decide +kernel)) (hts (.initialized Bundle.tN) (by decide +kernel)) (hG (.isRef (.static Bundle.tN "SUPPRESSED_SENTINEL" Bundle.listD)) (by decide +kernel)) hA, t, va_Zref (hts (.laysStatic RX9 "AHEAD" "[I") (by decide +kernel)) (hts (.initialized RX9) (by decide +kernel)) ht hA, hT⟩
set_option maxRecDepth 20000 in
theorem st_K {args : Array Value} {s : State} (hts : ∀ w ∈ lw_tbl, w.before args s = true) : ∃ (D : va_G) (ty : Nat → ClassId), va_K D vwCl (tyL ty) s := by
  obtain ⟨c0, s0, k0⟩ := u_known (C := RX0) (T := TX0) (N := 3) (n := 3) hts inX0 (hts (.instantiable RX0 3) (by decide +kernel))
  obtain ⟨c1, s1, k1⟩ := u_known (C := RX1) (T := TX1) (N := 7) (n := 7) hts inX1 (hts (.instantiable RX1 7) (by decide +kernel))
  obtain ⟨c2, s2, k2⟩ := u_known (C := RX2) (T := TX2) (N := 2) (n := 2) hts inX2 (hts (.instantiable RX2 2) (by decide +kernel))
  obtain ⟨c3, s3, k3⟩ := u_known (C := RX4) (T := TX4) (N := 2) (n := 2) hts inX4 (hts (.instantiable RX4 2) (by decide +kernel))
  obtain ⟨c4, s4, k4⟩ := u_known (C := RX5) (T := TX5) (N := 6) (n := 6) hts inX5 (hts (.instantiable RX5 6) (by decide +kernel))
  obtain ⟨c5, s5, k5⟩ := u_known (C := RX6) (T := TX6) (N := 4) (n := 4) hts inX6 (hts (.instantiable RX6 4) (by decide +kernel))
  obtain ⟨c6, s6, k6⟩ := u_known (C := RX7) (T := TX7) (N := 6) (n := 6) hts inX7 (hts (.instantiable RX7 6) (by decide +kernel))
  obtain ⟨c7, s7, k7⟩ := u_known (C := RX8) (T := TX8) (N := 7) (n := 7) hts inX8 (hts (.instantiable RX8 7) (by decide +kernel))
  obtain ⟨c8, s8, k8⟩ := u_known (C := RX9) (T := TX9) (N := 5) (n := 5) hts inX9 (hts (.instantiable RX9 5) (by decide +kernel))
  obtain ⟨t0, a0, b0⟩ := arP (hts (.arrayClass .int) (by decide +kernel))
  obtain ⟨t1, a1, b1⟩ := arP (hts (.arrayClass .int) (by decide +kernel))
  obtain ⟨t2, a2, b2⟩ := arP (hts (.arrayClass .boolean) (by decide +kernel))
  obtain ⟨t3, a3, b3⟩ := arO (C := RX5) (hts (.arrayOver (.object RX5)) (by decide +kernel))
  obtain ⟨t4, a4, b4⟩ := arO (C := RX0) (hts (.arrayOver (.object RX0)) (by decide +kernel))
  refine ⟨(fun k => [c0, c1, c2, c3, c4, c5, c6, c7, c8].getD k c0, fun k => [s0, s1, s2, s3, s4, s5, s6, s7, s8].getD k s0), fun k => [t0, t1, t2, t3, t4].getD k t0, fun k q hq => ?_, fun k q hq => ?_⟩
  · match k, hq with
    | 0, hq => cases hq; exact k0
    | 1, hq => cases hq; exact k1
    | 2, hq => cases hq; exact k2
    | 3, hq => cases hq; exact k3
    | 4, hq => cases hq; exact k4
    | 5, hq => cases hq; exact k5
    | 6, hq => cases hq; exact k6
    | 7, hq => cases hq; exact k7
    | 8, hq => cases hq; exact k8
    | k + 9, hq => simp [vwCl] at hq
  · match k, hq with
    | 0, hq => cases hq; exact ⟨a0, b0⟩
    | 1, hq => cases hq; exact ⟨a1, b1⟩
    | 2, hq => cases hq; exact ⟨a2, b2⟩
    | 3, hq => cases hq; exact ⟨a3, b3⟩
    | 4, hq => cases hq; exact ⟨a4, b4⟩
    | k + 5, hq => simp at hq
