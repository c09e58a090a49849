section ZU
abbrev zS : Type := (Nat × (Nat → Int32)) × (Nat × (Nat → Nat) × (Nat → Nat → Int32) × (Nat → Int32)) × (Nat × (Nat → Nat → Int32)) × (Nat → Int32)
abbrev zpn (u : zS) : Nat := u.1.1
abbrev zpd (u : zS) : Nat → Int32 := u.1.2
abbrev zrn (u : zS) : Nat := u.2.1.1
abbrev zln (u : zS) : Nat → Nat := u.2.1.2.1
abbrev zev (u : zS) : Nat → Nat → Int32 := u.2.1.2.2.1
abbrev zst (u : zS) : Nat → Int32 := u.2.1.2.2.2
abbrev zmn (u : zS) : Nat := u.2.2.1.1
abbrev zms (u : zS) : Nat → Nat → Int32 := u.2.2.1.2
abbrev zwt (u : zS) : Nat → Int32 := u.2.2.2
abbrev zQ : Type := Int32 × Int32 × Int32 × Int32
def zTk (q : zQ) (v : Int32) : zQ := (q.1 + 1, q.2.1 + v, if q.1 = 0 then v else zMin q.2.2.1 v, if q.1 = 0 then v else zMax q.2.2.2 v)
def zGs (ln : Nat → Nat) (ev : Nat → Nat → Int32) (b : Nat → Int32) (y wo : Int32) (i : Nat) (q : zQ) : zQ := if nI i = wo then q else if b i = -1 then q else if zRing (ln i) (ev i) (y - b i) = -1 then q else zTk q (zRing (ln i) (ev i) (y - b i))
def zGat (ln : Nat → Nat) (ev : Nat → Nat → Int32) (b : Nat → Int32) (y wo : Int32) : Nat → zQ
  | 0 => (0, 0, 0, 0)
  | i + 1 => zGs ln ev b y wo i (zGat ln ev b y wo i)
def zAq (q : zQ) : Int32 := zAns q.1 q.2.1 q.2.2.1 q.2.2.2
def zFst (b : Nat → Int32) : Nat → Int32
  | 0 => 500
  | i + 1 => if b i = -1 then zFst b i else zMin (zFst b i) (b i)
def zLst (ln : Nat → Nat) (b : Nat → Int32) : Nat → Int32
  | 0 => 0
  | i + 1 => if b i = -1 then zLst ln b i else zMax (zLst ln b i) (b i + nI (ln i) - 1)
def zCnt (b : Nat → Int32) : Nat → Nat
  | 0 => 0
  | i + 1 => if b i = -1 then zCnt b i else zCnt b i + 1
def zrw (ad : Nat → Nat) (b n : Nat) : Nat → Option Nat := fun i => if i < n then some (ad (b + i)) else none
theorem zrw_lt {ad : Nat → Nat} {b n i : Nat} (h : i < n) : va_rf (zrw ad b n i) = .ref (ad (b + i)) := by simp [zrw, h, va_rf]
abbrev eRob (q : zQ) : va_E := .inr (1, [.int q.1, .int q.2.1, .int q.2.2.1, .int q.2.2.2])
abbrev eGap (q : Int32 × Int32) : va_E := .inr (0, [.int q.1, .int q.2])
abbrev eI (G : xG) (n : Nat) (f : Nat → Int32) : va_E := .inl (gI G, n, .inl f)
abbrev eQ (c : ClassId) (n : Nat) (f : Nat → Option Nat) : va_E := .inl (c, n, .inr (.inr (.inr (.inr f))))
def zYn (ln : Nat → Nat) (b : Nat → Int32) : Nat := (zLst ln b 10 - zFst b 10 + 1).toNatClampNeg
def CoreO (G : xG) (M : xM) (ad : Nat → Nat) (u : zS) : Prop := M (ad 0) = some (0, .inr (4, [.ref (ad 1), .int (nI (zpn u)), .ref (ad 2), .int (nI (zrn u)), .ref (ad 3), .int (nI (zmn u)), .ref (ad 4), .ref (ad 5), .ref (ad 6), .ref (ad 7), .ref (ad 8), .ref (ad 9)]))
def CoreR (G : xG) (M : xM) (ad : Nat → Nat) (u : zS) (i : Nat) : Prop := M (ad (20 + i)) = some (20 + i, .inr (2, [.ref (ad (30 + i)), .int (zst u i)])) ∧ M (ad (30 + i)) = some (30 + i, eI G (zln u i) (zev u i))
def CoreM (G : xG) (M : xM) (ad : Nat → Nat) (u : zS) (j : Nat) : Prop := M (ad (40 + j)) = some (40 + j, .inr (3, [.ref (ad (50 + j)), .int (zFst (zms u j) 10), .int (zLst (zln u) (zms u j) 10), .int (nI (zCnt (zms u j) 10)), .ref (ad (60 + j)), .ref (ad (70 + j))])) ∧
  M (ad (50 + j)) = some (50 + j, eI G 10 (zms u j)) ∧ ∃ V D : Nat → Int32, M (ad (60 + j)) = some (60 + j, eI G (zYn (zln u) (zms u j)) V) ∧ M (ad (70 + j)) = some (70 + j, eI G (zYn (zln u) (zms u j)) D) ∧
  ∀ k, k < zYn (zln u) (zms u j) → V k = zAq (zGat (zln u) (zev u) (zms u j) (zFst (zms u j) 10 + nI k) (-1) 10) ∧ D k = (zGat (zln u) (zev u) (zms u j) (zFst (zms u j) 10 + nI k) (-1) 10).1
def Core (G : xG) (M : xM) (ad : Nat → Nat) (u : zS) : Prop := CoreO G M ad u ∧ M (ad 1) = some (1, eI G 30 (zpd u)) ∧ M (ad 2) = some (2, eQ (gR G) 10 (zrw ad 20 (zrn u))) ∧ M (ad 3) = some (3, eQ (gM G) 8 (zrw ad 40 (zmn u))) ∧ M (ad 4) = some (4, eI G 61 (zwt u)) ∧ M (ad 8) = some (8, eQ (gG G) 8 (zrw ad 10 8)) ∧
  (∀ i, i < zrn u → CoreR G M ad u i) ∧ (∀ j, j < zmn u → CoreM G M ad u j)
def Scr (G : xG) (M : xM) (ad : Nat → Nat) : Prop := (∃ q : zQ, M (ad 5) = some (5, eRob q)) ∧ (∃ q : Int32 × Int32, M (ad 6) = some (6, eGap q)) ∧ (∃ q : Int32 × Int32, M (ad 7) = some (7, eGap q)) ∧ (∃ f : Nat → Int32, M (ad 9) = some (9, eI G 8 f)) ∧ ∀ i, i < 8 → ∃ q : Int32 × Int32, M (ad (10 + i)) = some (10 + i, eGap q)
def zScr (r : Nat) : Bool := r == 5 || r == 6 || r == 7 || r == 9 || (decide (10 ≤ r) && decide (r < 20))
def xKeep (M M' : xM) : Prop := ∀ (a r : Nat) (e : va_E), M a = some (r, e) → zScr r = false → M' a = some (r, e)
theorem xKeep.refl {M : xM} : xKeep M M := fun _ _ _ h _ => h
theorem xKeep.trans {M M1 M2 : xM} (h1 : xKeep M M1) (h2 : xKeep M1 M2) : xKeep M M2 := fun a r e h hr => h2 a r e (h1 a r e h hr) hr
theorem xKeep.up {M : xM} {a r : Nat} {e : va_E} {x : Option (Nat × va_E)} (ha : M a = some (r, e)) (hr : zScr r = true) : xKeep M (va_up M a x) := fun b r' e' hb hs => xw_up hb ha (fun z => by rw [z, hr] at hs; cases hs)
theorem zS_c {r : Nat} (h : 20 ≤ r) : zScr r = false := by
  simp only [zScr, Bool.or_eq_false_iff, Bool.and_eq_false_iff, beq_eq_false_iff_ne, decide_eq_false_iff_not]
  omega
theorem Core.keep {G : xG} {M M' : xM} {ad : Nat → Nat} {u : zS} (h : Core G M ad u) (hk : xKeep M M') : Core G M' ad u := by
  obtain ⟨h0, h1, h2, h3, h4, h8, hR, hM⟩ := h
  refine ⟨hk _ _ _ h0 rfl, hk _ _ _ h1 rfl, hk _ _ _ h2 rfl, hk _ _ _ h3 rfl, hk _ _ _ h4 rfl, hk _ _ _ h8 rfl, fun i hi => ⟨hk _ _ _ (hR i hi).1 (zS_c (by omega)), hk _ _ _ (hR i hi).2 (zS_c (by omega))⟩, fun j hj => ?_⟩
  obtain ⟨m1, m2, V, D, m3, m4, m5⟩ := hM j hj
  exact ⟨hk _ _ _ m1 (zS_c (by omega)), hk _ _ _ m2 (zS_c (by omega)), V, D, hk _ _ _ m3 (zS_c (by omega)), hk _ _ _ m4 (zS_c (by omega)), m5⟩
def inR (x : Int32) (a b : Int) : Prop := a ≤ x.toInt ∧ x.toInt ≤ b
def zOk (u : zS) : Prop := zpn u ≤ 30 ∧ (∀ i, i < zpn u → inR (zpd u i) 1 900) ∧ zrn u ≤ 10 ∧ (∀ i, i < zrn u → 3 ≤ zln u i ∧ zln u i ≤ 30 ∧ (∀ k, k < zln u i → inR (zev u i k) 0 400) ∧ inR (zst u i) (-1) 500) ∧ zmn u ≤ 8 ∧
  (∀ j, j < zmn u → (∀ i, i < 10 → inR (zms u j i) (-1) 500 ∧ (zms u j i ≠ -1 → i < zrn u)) ∧ ∃ i, i < 10 ∧ zms u j i ≠ -1) ∧ ∀ i, i < 61 → inR (zwt u i) 0 10000
end ZU
