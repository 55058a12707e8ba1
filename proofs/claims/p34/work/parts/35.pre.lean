/-! the states that the history keeps: fourteen of them -/
abbrev hsF (ty : Nat → ClassId) (ad : Nat → Nat → Nat) (hr : Nat → Nat → Int32) (hx hy : Nat → Int64) (hg : Nat → Nat → Nat → Int32) : Nat → va_W := fun k => stW ty (ad k) (hr k) (hx k) (hy k) (hg k)
def hsW (ty : Nat → ClassId) (ad : Nat → Nat → Nat) (hr : Nat → Nat → Int32) (hx hy : Nat → Int64) (hg : Nat → Nat → Nat → Int32) : va_W := fl ((List.range 14).map (hsF ty ad hr hx hy hg))
def hsR (c : Nat) (ty : Nat → ClassId) (ad : Nat → Nat → Nat) (hr : Nat → Nat → Int32) (hx hy : Nat → Int64) (hg : Nat → Nat → Nat → Int32) : va_W := fl (((List.range 14).erase c).map (hsF ty ad hr hx hy hg))
theorem fl_cons (b : va_W) (bs : List va_W) : fl (b :: bs) = b ++ fl bs := rfl
theorem hs_split {ty : Nat → ClassId} {ad : Nat → Nat → Nat} {hr : Nat → Nat → Int32} {hx hy : Nat → Int64} {hg : Nat → Nat → Nat → Int32} {c : Nat} (hc : c < 14) : (hsW ty ad hr hx hy hg).Perm (stW ty (ad c) (hr c) (hx c) (hy c) (hg c) ++ hsR c ty ad hr hx hy hg) := by
  have h1 : (List.range 14).Perm (c :: (List.range 14).erase c) := List.perm_cons_erase (List.mem_range.mpr hc)
  exact fl_perm (h1.map (hsF ty ad hr hx hy hg))
theorem hsR_up {ty : Nat → ClassId} {ad : Nat → Nat → Nat} {hr : Nat → Nat → Int32} {hx hy : Nat → Int64} {hg : Nat → Nat → Nat → Int32} {c : Nat} (r : Nat → Int32) (x y : Int64) (g : Nat → Nat → Int32) : hsR c ty ad (va_up hr c r) (va_up hx c x) (va_up hy c y) (va_up hg c g) = hsR c ty ad hr hx hy hg := by
  unfold hsR
  congr 1
  apply List.map_congr_left
  intro k hk
  have hne : k ≠ c := by
    intro q
    have hn : (List.range 14).Nodup := List.nodup_range
    rw [q] at hk
    exact absurd hk (List.Nodup.not_mem_erase hn)
  show stW ty (ad k) (va_up hr c r k) (va_up hx c x k) (va_up hy c y k) (va_up hg c g k) = _
  rw [va_up_ne _ _ hne, va_up_ne _ _ hne, va_up_ne _ _ hne, va_up_ne _ _ hne]
theorem hs_open {ty : Nat → ClassId} {ad : Nat → Nat → Nat} {hr : Nat → Nat → Int32} {hx hy : Nat → Int64} {hg : Nat → Nat → Nat → Int32} (pre : List va_W) (c : Nat) (hc : c < 14) : (fl (pre ++ [hsW ty ad hr hx hy hg])).Perm (fl (pre ++ [stW ty (ad c) (hr c) (hx c) (hy c) (hg c), hsR c ty ad hr hx hy hg])) := by
  rw [fl_app, fl_app]
  refine List.Perm.append_left _ ?_
  show (hsW ty ad hr hx hy hg ++ []).Perm (stW ty (ad c) (hr c) (hx c) (hy c) (hg c) ++ (hsR c ty ad hr hx hy hg ++ []))
  rw [List.append_nil, List.append_nil]
  exact hs_split hc
theorem hs_close {ty : Nat → ClassId} {ad : Nat → Nat → Nat} {hr : Nat → Nat → Int32} {hx hy : Nat → Int64} {hg : Nat → Nat → Nat → Int32} (pre : List va_W) (c : Nat) (hc : c < 14) {r : Nat → Int32} {x y : Int64} {g : Nat → Nat → Int32} : (fl (pre ++ [stW ty (ad c) r x y g, hsR c ty ad hr hx hy hg])).Perm (fl (pre ++ [hsW ty ad (va_up hr c r) (va_up hx c x) (va_up hy c y) (va_up hg c g)])) := by
  have h := hs_open (ty := ty) (ad := ad) (hr := va_up hr c r) (hx := va_up hx c x) (hy := va_up hy c y) (hg := va_up hg c g) pre c hc
  rw [hsR_up, va_up_self, va_up_self, va_up_self, va_up_self] at h
  exact h.symm
def rot {α : Type} (h : Nat → α) : Nat → α := fun k => h (if k = 13 then 0 else k + 1)
theorem hs_rot {ty : Nat → ClassId} {ad : Nat → Nat → Nat} {hr : Nat → Nat → Int32} {hx hy : Nat → Int64} {hg : Nat → Nat → Nat → Int32} : (hsW ty ad hr hx hy hg).Perm (hsW ty (rot ad) (rot hr) (rot hx) (rot hy) (rot hg)) := by
  have h1 : (List.range 14).Perm ((List.range 14).map (fun k => if k = 13 then 0 else k + 1)) := by decide +kernel
  have h2 := fl_perm (h1.map (hsF ty ad hr hx hy hg))
  rw [List.map_map] at h2
  exact h2
theorem hs_rotp {ty : Nat → ClassId} {ad : Nat → Nat → Nat} {hr : Nat → Nat → Int32} {hx hy : Nat → Int64} {hg : Nat → Nat → Nat → Int32} (pre : List va_W) : (fl (pre ++ [hsW ty ad hr hx hy hg])).Perm (fl (pre ++ [hsW ty (rot ad) (rot hr) (rot hx) (rot hy) (rot hg)])) := by
  rw [fl_app, fl_app]
  refine List.Perm.append_left _ ?_
  show (hsW ty ad hr hx hy hg ++ []).Perm (hsW ty (rot ad) (rot hr) (rot hx) (rot hy) (rot hg) ++ [])
  rw [List.append_nil, List.append_nil]
  exact hs_rot
theorem hs_cell {ty : Nat → ClassId} {ad : Nat → Nat → Nat} {hr : Nat → Nat → Int32} {hx hy : Nat → Int64} {hg : Nat → Nat → Nat → Int32} (pre : List va_W) (c : Nat) (hc : c < 14) : ∃ (qk : Nat) (vs : List Value), (fl (pre ++ [hsW ty ad hr hx hy hg]))[qk]? = some (ob (ad c 0) 4 vs) := by
  have hm : ob (ad c 0) 4 [.ref (ad c 1), .ref (ad c 2), .ref (ad c 3), .ref (ad c 4), .ref (ad c 5), .int (hr c 0)] ∈ fl (pre ++ [hsW ty ad hr hx hy hg]) := by
    refine ((hs_open pre c hc).mem_iff).mpr ?_
    rw [fl_app]
    exact List.mem_append_right _ List.mem_cons_self
  obtain ⟨qk, h⟩ := List.getElem?_of_mem hm
  exact ⟨qk, _, h⟩
theorem fl_nest (pre bs : List va_W) : fl (pre ++ bs) = fl (pre ++ [fl bs]) := by
  rw [fl_app, fl_app]
  show _ = fl pre ++ (fl bs ++ [])
  rw [List.append_nil]
def remF {α : Type} (cn : Nat) (h : Nat → α) (v : α) : Nat → α := if cn < 14 then va_up h cn v else va_up (rot h) 13 v
def remA (cn : Nat) (ad : Nat → Nat → Nat) : Nat → Nat → Nat := if cn < 14 then ad else rot ad
def remC (cn : Nat) : Nat := if cn < 14 then cn + 1 else 14
def adL (l : List (Nat → Nat)) : Nat → Nat → Nat := fun k => l.getD k (fun _ => 0)
