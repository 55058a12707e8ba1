/-! p34: one action, as a function; what it keeps; two clocks alike stay alike -/
abbrev Ans : Type := Int32 × CPg × CHs × CKs
def aPass (n : Nat) (P : CPg) (h : CHs) (k : CKs) : Ans := (minsR n P.1 1, passP n P, noteH P h, k)
def aLevel (n : Nat) (P : CPg) (h : CHs) (k : CKs) : Ans := (pdom (plevel (nI n) P.1), (plevel (nI n) P.1, P.2), noteH P h, k)
def aTime (n : Nat) (P : CPg) (h : CHs) (k : CKs) : Ans := if pdom P.1 = 0 then (P.1 1, (upd (upd (upd P.1 1 (nI n)) 2 0) 5 1, P.2), noteH P h, k) else (-999999003, P, h, k)
def aCor (v : Int32) (P : CPg) (h : CHs) (k : CKs) : Ans := if pdom P.1 = 0 then (P.1 4, (upd P.1 4 v, P.2), noteH P h, k) else (-999999003, P, h, k)
def aAge (v : Int32) (P : CPg) (h : CHs) (k : CKs) : Ans := (P.1 3, (upd P.1 3 v, P.2), noteH P h, k)
def aWrite (j v : Nat) (P : CPg) (h : CHs) (k : CKs) : Ans := if pdom P.1 = 0 then (P.1 (16 + j), (upd P.1 (16 + j) (nI v), P.2), noteH P h, k) else (-999999003, P, h, k)
def aGuard (j : Nat) (v : Int32) (P : CPg) (h : CHs) (k : CKs) : Ans := if pdom P.1 = 0 then (gpn (bz (upd P.1 (24 + j) v 24)) (bz (upd P.1 (24 + j) v 25)) (bz (upd P.1 (24 + j) v 26)), (upd P.1 (24 + j) v, P.2), noteH P h, k) else (-999999003, P, h, k)
def aTamper (j : Nat) (P : CPg) (h : CHs) (k : CKs) : Ans := (ptamper (nI j) P.1 11, tamP (nI j) P, noteH P h, k)
def aClear (P : CPg) (h : CHs) (k : CKs) : Ans := if pdom P.1 = 0 then (P.1 11, (upd P.1 11 0, P.2), noteH P h, k) else (-999999003, P, h, k)
def aAlarm (i v : Nat) (P : CPg) (h : CHs) (k : CKs) : Ans := (P.1 (27 + 3 * i), (psetAl i (nI v) P.1, P.2), noteH P h, k)
def aBat (n : Nat) (P : CPg) (h : CHs) (k : CKs) : Ans := (pdom (pcharge (nI n) P.1), (pcharge (nI n) P.1, P.2), noteH P h, k)
def aUndo (P : CPg) (h : CHs) (k : CKs) : Ans := if h.1 = 0 then (-999999003, P, h, k) else (nI (h.1 - 1), entH h (h.1 - 1), (h.1 - 1, h.2), k)
def aSave (P : CPg) (h : CHs) (k : CKs) : Ans := (P.1 0, P, h, saveK 1 P k)
def aRest (P : CPg) (h : CHs) (k : CKs) : Ans := if k.1 1 = 0 then (-999999003, P, h, k) else (k.2.1 1 0, entK k 1, (0, h.2), k)
def actF (x y : Nat) (P : CPg) (h : CHs) (k : CKs) : Ans :=
  if x % 16 < 2 then aPass (1 + y % 60) P h k else if x % 16 < 4 then aPass (1 + y % 1440) P h k else if x % 16 < 6 then aLevel (y % 10) P h k
  else if x % 16 < 7 then (if y % 2 = 0 then aTime (y % 100000000) P h k else aTime (y % 90000) P h k)
  else if x % 16 < 8 then (if y % 2 = 0 then aCor (nI (y / 2 % 1001) - 500) P h k else aAge (nI (y / 2 % 1001) - 500) P h k)
  else if x % 16 < 9 then aWrite (y % 8) (y / 8 % 256) P h k
  else if x % 16 < 10 then (if y / 4 % 4 = 0 then aGuard (y % 3) 0 P h k else aGuard (y % 3) 1 P h k)
  else if x % 16 < 12 then aTamper (y % 3) P h k
  else if x % 16 < 13 then (if y % 2 = 0 then aClear P h k else aAlarm (y / 2 % 4) (y / 8 % 1441) P h k)
  else if x % 16 < 14 then aBat (y % 300) P h k else if x % 16 < 15 then aUndo P h k
  else (if y % 2 = 0 then aSave P h k else aRest P h k)
section ACT
variable {x y : Nat} {P Q : CPg} {h g : CHs} {k m : CKs} {B M : Int}
theorem act_0 (c : x % 16 < 2) : actF x y P h k = aPass (1 + y % 60) P h k := if_pos c
theorem act_2 (c : 2 ≤ x % 16 ∧ x % 16 < 4) : actF x y P h k = aPass (1 + y % 1440) P h k := (if_neg (by omega)).trans (if_pos c.2)
theorem act_4 (c : 4 ≤ x % 16 ∧ x % 16 < 6) : actF x y P h k = aLevel (y % 10) P h k := (if_neg (by omega)).trans ((if_neg (by omega)).trans (if_pos c.2))
theorem act_6 (c : x % 16 = 6) : actF x y P h k = if y % 2 = 0 then aTime (y % 100000000) P h k else aTime (y % 90000) P h k := (if_neg (by omega)).trans ((if_neg (by omega)).trans ((if_neg (by omega)).trans (if_pos (by omega))))
theorem act_7 (c : x % 16 = 7) : actF x y P h k = if y % 2 = 0 then aCor (nI (y / 2 % 1001) - 500) P h k else aAge (nI (y / 2 % 1001) - 500) P h k := (if_neg (by omega)).trans ((if_neg (by omega)).trans ((if_neg (by omega)).trans ((if_neg (by omega)).trans (if_pos (by omega)))))
theorem act_8 (c : x % 16 = 8) : actF x y P h k = aWrite (y % 8) (y / 8 % 256) P h k := (if_neg (by omega)).trans ((if_neg (by omega)).trans ((if_neg (by omega)).trans ((if_neg (by omega)).trans ((if_neg (by omega)).trans (if_pos (by omega))))))
theorem act_9 (c : x % 16 = 9) : actF x y P h k = if y / 4 % 4 = 0 then aGuard (y % 3) 0 P h k else aGuard (y % 3) 1 P h k := (if_neg (by omega)).trans ((if_neg (by omega)).trans ((if_neg (by omega)).trans ((if_neg (by omega)).trans ((if_neg (by omega)).trans ((if_neg (by omega)).trans (if_pos (by omega)))))))
theorem act_10 (c : 10 ≤ x % 16 ∧ x % 16 < 12) : actF x y P h k = aTamper (y % 3) P h k := (if_neg (by omega)).trans ((if_neg (by omega)).trans ((if_neg (by omega)).trans ((if_neg (by omega)).trans ((if_neg (by omega)).trans ((if_neg (by omega)).trans ((if_neg (by omega)).trans (if_pos (by omega))))))))
theorem act_12 (c : x % 16 = 12) : actF x y P h k = if y % 2 = 0 then aClear P h k else aAlarm (y / 2 % 4) (y / 8 % 1441) P h k := (if_neg (by omega)).trans ((if_neg (by omega)).trans ((if_neg (by omega)).trans ((if_neg (by omega)).trans ((if_neg (by omega)).trans ((if_neg (by omega)).trans ((if_neg (by omega)).trans ((if_neg (by omega)).trans (if_pos (by omega)))))))))
theorem act_13 (c : x % 16 = 13) : actF x y P h k = aBat (y % 300) P h k := (if_neg (by omega)).trans ((if_neg (by omega)).trans ((if_neg (by omega)).trans ((if_neg (by omega)).trans ((if_neg (by omega)).trans ((if_neg (by omega)).trans ((if_neg (by omega)).trans ((if_neg (by omega)).trans ((if_neg (by omega)).trans (if_pos (by omega))))))))))
theorem act_14 (c : x % 16 = 14) : actF x y P h k = aUndo P h k := (if_neg (by omega)).trans ((if_neg (by omega)).trans ((if_neg (by omega)).trans ((if_neg (by omega)).trans ((if_neg (by omega)).trans ((if_neg (by omega)).trans ((if_neg (by omega)).trans ((if_neg (by omega)).trans ((if_neg (by omega)).trans ((if_neg (by omega)).trans (if_pos (by omega)))))))))))
theorem act_15 (c : x % 16 = 15) : actF x y P h k = if y % 2 = 0 then aSave P h k else aRest P h k := (if_neg (by omega)).trans ((if_neg (by omega)).trans ((if_neg (by omega)).trans ((if_neg (by omega)).trans ((if_neg (by omega)).trans ((if_neg (by omega)).trans ((if_neg (by omega)).trans ((if_neg (by omega)).trans ((if_neg (by omega)).trans ((if_neg (by omega)).trans (if_neg (by omega)))))))))))
/-! what is kept -/
def IH (B M : Int) (h : CHs) : Prop := h.1 ≤ 14 ∧ ∀ i, i < h.1 → SG B M (entH h i)
def IK (B M : Int) (k : CKs) : Prop := ∀ j, j < 2 → ¬ k.1 j = 0 → SG B M (entK k j)
def SI (B M : Int) (P : CPg) (h : CHs) (k : CKs) : Prop := SG B M P ∧ IH B M h ∧ IK B M k
theorem SI_up {B2 M2 : Int} (s : SI B M P h k) (hB : B ≤ B2) (hM : M ≤ M2) : SI B2 M2 P h k := ⟨SG_up s.1 hB hM, ⟨s.2.1.1, fun i hi => SG_up (s.2.1.2 i hi) hB hM⟩, fun j hj hk => SG_up (s.2.2 j hj hk) hB hM⟩
theorem ent_note (P : CPg) (h : CHs) (i : Nat) : entH (noteH P h) i = if i = (if h.1 < 14 then h.1 else 13) then P else entH h (if h.1 < 14 then i else i + 1) := by
  by_cases h14 : h.1 < 14
  · have e1 : ∀ {α : Type} (f : Nat → α) (v : α), remF h.1 f v = va_up f h.1 v := fun f v => if_pos h14
    rw [if_pos h14, if_pos h14]
    show (remF h.1 h.2.1 P.1 i, remF h.1 h.2.2.1 P.2.1 i, remF h.1 h.2.2.2.1 P.2.2.1 i, remF h.1 h.2.2.2.2 P.2.2.2 i) = _
    rw [e1, e1, e1, e1]
    by_cases e : i = h.1
    · rw [if_pos e, up_at _ _ e, up_at _ _ e, up_at _ _ e, up_at _ _ e]
    · rw [if_neg e, up_ne _ _ e, up_ne _ _ e, up_ne _ _ e, up_ne _ _ e]
      rfl
  · have e1 : ∀ {α : Type} (f : Nat → α) (v : α), remF h.1 f v = va_up (rot f) 13 v := fun f v => if_neg h14
    rw [if_neg h14, if_neg h14]
    show (remF h.1 h.2.1 P.1 i, remF h.1 h.2.2.1 P.2.1 i, remF h.1 h.2.2.2.1 P.2.2.1 i, remF h.1 h.2.2.2.2 P.2.2.2 i) = _
    rw [e1, e1, e1, e1]
    by_cases e : i = 13
    · rw [if_pos e, up_at _ _ e, up_at _ _ e, up_at _ _ e, up_at _ _ e]
    · have er : ∀ {α : Type} (f : Nat → α), rot f i = f (i + 1) := fun f => by
        unfold rot
        rw [if_neg e]
      rw [if_neg e, up_ne _ _ e, up_ne _ _ e, up_ne _ _ e, up_ne _ _ e, er, er, er, er]
      rfl
theorem note_1 (P : CPg) (h : CHs) : (noteH P h).1 = if h.1 < 14 then h.1 + 1 else 14 := rfl
theorem IH_note (s : IH B M h) (hG : SG B M P) : IH B M (noteH P h) := by
  refine ⟨remC_le s.1, fun i hi => ?_⟩
  rw [note_1] at hi
  rw [ent_note]
  by_cases h14 : h.1 < 14
  · rw [if_pos h14] at hi ⊢
    rw [if_pos h14]
    by_cases e : i = h.1
    · rw [if_pos e]; exact hG
    · rw [if_neg e]; exact s.2 i (by omega)
  · rw [if_neg h14] at hi ⊢
    rw [if_neg h14]
    by_cases e : i = 13
    · rw [if_pos e]; exact hG
    · rw [if_neg e]; exact s.2 (i + 1) (by omega)
theorem SI_note {B2 M2 : Int} {P2 : CPg} (s : SI B M P h k) (hG : SG B2 M2 P2) (hB : B ≤ B2) (hM : M ≤ M2) : SI B2 M2 P2 (noteH P h) k :=
  have s2 := SI_up s hB hM
  ⟨hG, IH_note s2.2.1 s2.1, s2.2.2⟩
theorem ent_save (j : Nat) (P : CPg) (k : CKs) (i : Nat) : entK (saveK j P k) i = if i = j then P else entK k i := by
  show (va_up k.2.1 j P.1 i, va_up k.2.2.1 j P.2.1 i, va_up k.2.2.2.1 j P.2.2.1 i, va_up k.2.2.2.2 j P.2.2.2 i) = _
  by_cases e : i = j
  · rw [if_pos e, up_at _ _ e, up_at _ _ e, up_at _ _ e, up_at _ _ e]
  · rw [if_neg e, up_ne _ _ e, up_ne _ _ e, up_ne _ _ e, up_ne _ _ e]
    rfl
theorem save_1 (j : Nat) (P : CPg) (k : CKs) (i : Nat) : (saveK j P k).1 i = if i = j then 1 else k.1 i := rfl
theorem IK_save {j : Nat} (s : IK B M k) (hG : SG B M P) : IK B M (saveK j P k) := by
  intro i hi h0
  rw [ent_save]
  rw [save_1] at h0
  by_cases e : i = j
  · rw [if_pos e]; exact hG
  · rw [if_neg e] at h0 ⊢; exact s i hi h0
theorem SI_rest {j : Nat} {hu : CHr} (s : SI B M P h k) (hj : j < 2) (hk : ¬ k.1 j = 0) : SI B M (entK k j) (0, hu) k := ⟨s.2.2 j hj hk, ⟨Nat.zero_le _, fun i hi => absurd hi (Nat.not_lt_zero i)⟩, s.2.2⟩
theorem SI_zero {hu : CHr} (s : SI B M P h k) : SI B M P (0, hu) k := ⟨s.1, ⟨Nat.zero_le _, fun i hi => absurd hi (Nat.not_lt_zero i)⟩, s.2.2⟩
theorem SI_save {j : Nat} (s : SI B M P h k) : SI B M P h (saveK j P k) := ⟨s.1, s.2.1, IK_save s.2.2 s.1⟩
theorem SI_undo (s : SI B M P h k) (h0 : ¬ h.1 = 0) : SI B M (entH h (h.1 - 1)) (h.1 - 1, h.2) k :=
  ⟨s.2.1.2 _ (by omega), ⟨Nat.le_trans (Nat.sub_le _ _) s.2.1.1, fun i hi => s.2.1.2 i (by have : i < h.1 - 1 := hi; omega)⟩, s.2.2⟩
def SIA (B M : Int) (a : Ans) : Prop := SI B M a.2.1 a.2.2.1 a.2.2.2
theorem act_SI (s : SI B M P h k) (hB : 99999999 ≤ B ∧ B ≤ 1900000000) (hM : M ≤ 1900000000) : SIA (B + 90000) (M + 3000) (actF x y P h k) := by
  have up : ∀ {B2 M2 : Int} {a : Ans}, SIA B2 M2 a → B2 ≤ B + 90000 → M2 ≤ M + 3000 → SIA (B + 90000) (M + 3000) a := fun s a b => SI_up s a b
  have pass : ∀ n, n ≤ 1440 → SIA (B + 90000) (M + 3000) (aPass n P h k) := fun n hn => up (B2 := B + 61 * n) (M2 := M + 2 * n) (SI_note s (SG_pass s.1 (by omega) (by omega)) (by omega) (by omega)) (by omega) (by omega)
  have sm : SIA (B + 90000) (M + 3000) (-999999003, P, h, k) := SI_up s (by omega) (by omega)
  have nt : ∀ {P2 : CPg} {r : Int32}, SG B (M + 1) P2 → SIA (B + 90000) (M + 3000) (r, P2, noteH P h, k) := fun g => up (B2 := B) (M2 := M + 1) (SI_note s g (by omega) (by omega)) (by omega) (by omega)
  have n0 : ∀ {P2 : CPg} {r : Int32}, SG B M P2 → SIA (B + 90000) (M + 3000) (r, P2, noteH P h, k) := fun g => nt (SG_up g (by omega) (by omega))
  by_cases c0 : x % 16 < 2
  · rw [act_0 c0]; exact pass _ (by omega)
  by_cases c2 : x % 16 < 4
  · rw [act_2 ⟨by omega, c2⟩]; exact pass _ (by omega)
  by_cases c4 : x % 16 < 6
  · rw [act_4 ⟨by omega, c4⟩]; exact nt (SG_level s.1 (by omega))
  have time : ∀ n, n ≤ 99999999 → SIA (B + 90000) (M + 3000) (aTime n P h k) := fun n hn => by
    unfold aTime
    by_cases d : pdom P.1 = 0
    · rw [if_pos d]; exact n0 (SG_time s.1 (inR0 (n := n) (h := 99999999) hn (by decide)) d hB.1)
    · rw [if_neg d]; exact sm
  by_cases c6 : x % 16 < 7
  · rw [act_6 (by omega)]
    split
    · exact time _ (by omega)
    · exact time _ (by omega)
  by_cases c7 : x % 16 < 8
  · have hv : inR (nI (y / 2 % 1001) - 500) (-500) 500 := inR_500 (by omega)
    rw [act_7 (by omega)]
    split
    · unfold aCor
      by_cases d : pdom P.1 = 0
      · rw [if_pos d]; exact n0 (SG_cor s.1 hv)
      · rw [if_neg d]; exact sm
    · exact n0 (SG_age s.1 hv)
  by_cases c8 : x % 16 < 9
  · rw [act_8 (by omega)]
    unfold aWrite
    by_cases d : pdom P.1 = 0
    · rw [if_pos d]; exact n0 (SG_write s.1 (by omega) (inR0 (n := y / 8 % 256) (h := 255) (by omega) (by decide)) d)
    · rw [if_neg d]; exact sm
  by_cases c9 : x % 16 < 10
  · have gd : ∀ v : Int32, (v = 0 ∨ v = 1) → SIA (B + 90000) (M + 3000) (aGuard (y % 3) v P h k) := fun v hv => by
      unfold aGuard
      by_cases d : pdom P.1 = 0
      · rw [if_pos d]; exact n0 (SG_guard s.1 (by omega) hv)
      · rw [if_neg d]; exact sm
    rw [act_9 (by omega)]
    split
    · exact gd 0 (Or.inl rfl)
    · exact gd 1 (Or.inr rfl)
  by_cases c10 : x % 16 < 12
  · rw [act_10 ⟨by omega, c10⟩]; exact nt (SG_tamper s.1 (by omega) (inI0 (n := y % 3) (h := 3) (by omega) (by decide)))
  by_cases c12 : x % 16 < 13
  · rw [act_12 (by omega)]
    split
    · unfold aClear
      by_cases d : pdom P.1 = 0
      · rw [if_pos d]; exact n0 (SG_clear s.1 d)
      · rw [if_neg d]; exact sm
    · exact n0 (SG_setAl s.1 (by omega))
  by_cases c13 : x % 16 < 14
  · rw [act_13 (by omega)]; exact nt (SG_charge s.1 (by omega) (inR0 (n := y % 300) (h := 9999) (by omega) (by decide)))
  by_cases c14 : x % 16 < 15
  · rw [act_14 (by omega)]
    unfold aUndo
    by_cases d : h.1 = 0
    · rw [if_pos d]; exact sm
    · rw [if_neg d]; exact SI_up (SI_undo s d) (by omega) (by omega)
  rw [act_15 (by omega)]
  split
  · exact SI_up (SI_save s) (by omega) (by omega)
  · unfold aRest
    by_cases d : k.1 1 = 0
    · rw [if_pos d]; exact sm
    · rw [if_neg d]; exact SI_up (SI_rest s (by omega) d) (by omega) (by omega)
/-! two clocks alike -/
def RP (P Q : CPg) : Prop := Q.1 = P.1 ∧ Q.2.1 = P.2.1 ∧ Q.2.2.1 = P.2.2.1
def RH (h g : CHs) : Prop := g.1 = h.1 ∧ ∀ i, i < h.1 → RP (entH h i) (entH g i)
def RK (k m : CKs) : Prop := ∀ j, j < 2 → m.1 j = k.1 j ∧ (¬ k.1 j = 0 → RP (entK k j) (entK m j))
def SR (P : CPg) (h : CHs) (k : CKs) (Q : CPg) (g : CHs) (m : CKs) : Prop := RP P Q ∧ RH h g ∧ RK k m
theorem RH_note (s : RH h g) (r : RP P Q) : RH (noteH P h) (noteH Q g) := by
  refine ⟨by rw [note_1, note_1, s.1], fun i hi => ?_⟩
  rw [note_1] at hi
  rw [ent_note, ent_note, s.1]
  by_cases h14 : h.1 < 14
  · rw [if_pos h14] at hi ⊢
    rw [if_pos h14]
    by_cases e : i = h.1
    · rw [if_pos e, if_pos e]; exact r
    · rw [if_neg e, if_neg e]; exact s.2 i (by omega)
  · rw [if_neg h14] at hi ⊢
    rw [if_neg h14]
    by_cases e : i = 13
    · rw [if_pos e, if_pos e]; exact r
    · rw [if_neg e, if_neg e]; exact s.2 (i + 1) (by omega)
theorem RK_save {j : Nat} (s : RK k m) (r : RP P Q) : RK (saveK j P k) (saveK j Q m) := by
  intro i hi
  rw [ent_save, ent_save, save_1, save_1]
  by_cases e : i = j
  · rw [if_pos e, if_pos e, if_pos e, if_pos e]; exact ⟨rfl, fun _ => r⟩
  · rw [if_neg e, if_neg e, if_neg e, if_neg e]; exact s i hi
theorem SR_note {P2 Q2 : CPg} (s : SR P h k Q g m) (r : RP P2 Q2) : SR P2 (noteH P h) k Q2 (noteH Q g) m := ⟨r, RH_note s.2.1 s.1, s.2.2⟩
theorem SR_save {j : Nat} (s : SR P h k Q g m) : SR P h (saveK j P k) Q g (saveK j Q m) := ⟨s.1, s.2.1, RK_save s.2.2 s.1⟩
theorem RH_zero {hu gu : CHr} : RH (0, hu) (0, gu) := ⟨rfl, fun i hi => absurd hi (Nat.not_lt_zero i)⟩
theorem SR_rest {j : Nat} {hu gu : CHr} (s : SR P h k Q g m) (hj : j < 2) (hk : ¬ k.1 j = 0) : SR (entK k j) (0, hu) k (entK m j) (0, gu) m := ⟨(s.2.2 j hj).2 hk, RH_zero, s.2.2⟩
theorem SR_undo (s : SR P h k Q g m) (h0 : ¬ h.1 = 0) : SR (entH h (h.1 - 1)) (h.1 - 1, h.2) k (entH g (h.1 - 1)) (h.1 - 1, g.2) m :=
  ⟨s.2.1.2 _ (by omega), ⟨rfl, fun i hi => s.2.1.2 i (by have : i < h.1 - 1 := hi; omega)⟩, s.2.2⟩
def SRA (a b : Ans) : Prop := b.1 = a.1 ∧ SR a.2.1 a.2.2.1 a.2.2.2 b.2.1 b.2.2.1 b.2.2.2
theorem act_SR (s : SR P h k Q g m) : SRA (actF x y P h k) (actF x y Q g m) := by
  have e1 := s.1.1
  have e2 := s.1.2.1
  have e3 := s.1.2.2
  have nt : ∀ {f : (Nat → Int32) → Nat → Int32} {r : (Nat → Int32) → Int32}, SRA (r P.1, (f P.1, P.2), noteH P h, k) (r Q.1, (f Q.1, Q.2), noteH Q g, m) := fun {f r} => ⟨congrArg r e1, SR_note s ⟨congrArg f e1, e2, e3⟩⟩
  have sm : SRA (-999999003, P, h, k) (-999999003, Q, g, m) := ⟨rfl, s⟩
  have cd : ∀ {a a' b b' : Ans}, SRA a b → SRA a' b' → SRA (if pdom P.1 = 0 then a else a') (if pdom Q.1 = 0 then b else b') := fun {a a' b b'} h1 h2 => by
    rw [e1]
    by_cases d : pdom P.1 = 0
    · rw [if_pos d, if_pos d]; exact h1
    · rw [if_neg d, if_neg d]; exact h2
  have pass : ∀ n, SRA (aPass n P h k) (aPass n Q g m) := fun n => ⟨congrArg (fun z => minsR n z 1) e1, SR_note s ⟨congrArg (minsR n) e1, by
    show minsX n Q.1 Q.2.1 = minsX n P.1 P.2.1
    rw [e1, e2], by
    show minsY n Q.1 Q.2.2.1 = minsY n P.1 P.2.2.1
    rw [e1, e3]⟩⟩
  by_cases c0 : x % 16 < 2
  · rw [act_0 c0, act_0 c0]; exact pass _
  by_cases c2 : x % 16 < 4
  · rw [act_2 ⟨by omega, c2⟩, act_2 ⟨by omega, c2⟩]; exact pass _
  by_cases c4 : x % 16 < 6
  · rw [act_4 ⟨by omega, c4⟩, act_4 ⟨by omega, c4⟩]; exact nt (f := plevel _) (r := fun z => pdom (plevel _ z))
  have time : ∀ n, SRA (aTime n P h k) (aTime n Q g m) := fun n => cd (nt (f := fun z => upd (upd (upd z 1 (nI n)) 2 0) 5 1) (r := fun z => z 1)) sm
  by_cases c6 : x % 16 < 7
  · rw [act_6 (by omega), act_6 (by omega)]
    by_cases d : y % 2 = 0
    · rw [if_pos d, if_pos d]; exact time _
    · rw [if_neg d, if_neg d]; exact time _
  by_cases c7 : x % 16 < 8
  · rw [act_7 (by omega), act_7 (by omega)]
    by_cases d : y % 2 = 0
    · rw [if_pos d, if_pos d]; exact cd (nt (f := fun z => upd z 4 _) (r := fun z => z 4)) sm
    · rw [if_neg d, if_neg d]; exact nt (f := fun z => upd z 3 _) (r := fun z => z 3)
  by_cases c8 : x % 16 < 9
  · rw [act_8 (by omega), act_8 (by omega)]; exact cd (nt (f := fun z => upd z (16 + y % 8) _) (r := fun z => z (16 + y % 8))) sm
  by_cases c9 : x % 16 < 10
  · have gd : ∀ v : Int32, SRA (aGuard (y % 3) v P h k) (aGuard (y % 3) v Q g m) := fun v => cd (nt (f := fun z => upd z (24 + y % 3) v) (r := fun z => gpn (bz (upd z (24 + y % 3) v 24)) (bz (upd z (24 + y % 3) v 25)) (bz (upd z (24 + y % 3) v 26)))) sm
    rw [act_9 (by omega), act_9 (by omega)]
    by_cases d : y / 4 % 4 = 0
    · rw [if_pos d, if_pos d]; exact gd 0
    · rw [if_neg d, if_neg d]; exact gd 1
  by_cases c10 : x % 16 < 12
  · rw [act_10 ⟨by omega, c10⟩, act_10 ⟨by omega, c10⟩]; exact ⟨congrArg (fun z => ptamper (nI (y % 3)) z 11) e1, SR_note s ⟨congrArg (ptamper (nI (y % 3))) e1, e2, e3⟩⟩
  by_cases c12 : x % 16 < 13
  · rw [act_12 (by omega), act_12 (by omega)]
    by_cases d : y % 2 = 0
    · rw [if_pos d, if_pos d]; exact cd (nt (f := fun z => upd z 11 0) (r := fun z => z 11)) sm
    · rw [if_neg d, if_neg d]; exact nt (f := psetAl (y / 2 % 4) (nI (y / 8 % 1441))) (r := fun z => z (27 + 3 * (y / 2 % 4)))
  by_cases c13 : x % 16 < 14
  · rw [act_13 (by omega), act_13 (by omega)]; exact nt (f := pcharge _) (r := fun z => pdom (pcharge _ z))
  by_cases c14 : x % 16 < 15
  · rw [act_14 (by omega), act_14 (by omega)]
    unfold aUndo
    rw [s.2.1.1]
    by_cases d : h.1 = 0
    · rw [if_pos d, if_pos d]; exact sm
    · rw [if_neg d, if_neg d]; exact ⟨rfl, SR_undo s d⟩
  rw [act_15 (by omega), act_15 (by omega)]
  by_cases d : y % 2 = 0
  · rw [if_pos d, if_pos d]; exact ⟨congrArg (fun z => z 0) e1, SR_save s⟩
  · rw [if_neg d, if_neg d]
    unfold aRest
    rw [(s.2.2 1 (by omega)).1]
    by_cases d : k.1 1 = 0
    · rw [if_pos d, if_pos d]; exact sm
    · rw [if_neg d, if_neg d]; exact ⟨congrArg (fun z => z 0) ((s.2.2 1 (by omega)).2 d).1, SR_rest s (by omega) d⟩
end ACT
