section ZF
abbrev zIn (x : Int32) (n : Nat) : Prop := ¬ x < 0 ∧ ¬ nI n ≤ x
abbrev zR : Type := Nat × Int32
theorem z_nle {x y : Int32} (h : x < y) : ¬ y ≤ x := Int32.not_le.mpr h
theorem z_nlt {x y : Int32} (h : x ≤ y) : ¬ y < x := Int32.not_lt.mpr h
theorem z_in {x : Int32} {n : Nat} (h : zIn x n) (hn : n < 2 ^ 31) : ∃ i : Nat, i = x.toNatClampNeg ∧ i < n ∧ x = nI i := ⟨_, rfl, (z_ix h.1 h.2 hn).1, (z_ix h.1 h.2 hn).2⟩
def fEvened (u : zS) (s k : Int32) : zR := if zIn s (zrn u) then (if k = -1 then (0, nI (zln u s.toNatClampNeg)) else if zIn k (zln u s.toNatClampNeg) then (0, zev u s.toNatClampNeg k.toNatClampNeg) else (1, 0)) else (1, 0)
def fPlace (u : zS) (s y : Int32) : zR := if zIn s (zrn u) then (if y < -1 ∨ 500 < y then (2, 0) else (0, zst u s.toNatClampNeg)) else (1, 0)
def uPlace (u : zS) (s y : Int32) : zS := (u.1, (zrn u, zln u, zev u, upd (zst u) s.toNatClampNeg y), u.2.2.1, u.2.2.2)
def fRing (u : zS) (w : Int32) : zR := if 30 ≤ zpn u then (1, 0) else if w < 1 ∨ 900 < w then (2, 0) else (0, nI (zpn u + 1))
def uRing (u : zS) (w : Int32) : zS := ((zpn u + 1, upd (zpd u) (zpn u) w), u.2)
def fSap (u : zS) (r w : Int32) : zR := if r < 0 ∨ 60 < r then (1, 0) else if w < 0 ∨ 10000 < w then (1, 0) else (0, zwt u r.toNatClampNeg)
def uSap (u : zS) (r w : Int32) : zS := (u.1, u.2.1, u.2.2.1, upd (zwt u) r.toNatClampNeg w)
def fAbout (u : zS) (m k : Int32) : zR := if zIn m (zmn u) then (if k = 0 then (0, zFst (zms u m.toNatClampNeg) 10) else if k = 1 then (0, zLst (zln u) (zms u m.toNatClampNeg) 10) else if k = 2 then (0, nI (zCnt (zms u m.toNatClampNeg) 10)) else (1, 0)) else (1, 0)
def zVy (u : zS) (j : Nat) (y : Int32) : zQ := zGat (zln u) (zev u) (zms u j) y (-1) 10
def fAt (u : zS) (m y : Int32) : zR := if zIn m (zmn u) then (if y < zFst (zms u m.toNatClampNeg) 10 ∨ zLst (zln u) (zms u m.toNatClampNeg) 10 < y then (1, 0) else (0, zAq (zVy u m.toNatClampNeg y))) else (1, 0)
def fDepth (u : zS) (m y : Int32) : zR := if zIn m (zmn u) then (if y < zFst (zms u m.toNatClampNeg) 10 ∨ zLst (zln u) (zms u m.toNatClampNeg) 10 < y then (1, 0) else (0, (zVy u m.toNatClampNeg y).1)) else (1, 0)
def zFlo (st : Nat → Int32) : Nat → Nat
  | 0 => 0
  | i + 1 => if st i = -1 then zFlo st i + 1 else zFlo st i
def fCount (u : zS) (k : Int32) : zR := if k = 0 then (0, nI (zpn u)) else if k = 1 then (0, nI (zrn u)) else if k = 2 then (0, nI (zmn u)) else if k = 3 then (0, nI (zFlo (zst u) (zrn u))) else (1, 0)
def xK100 (M M' : xM) : Prop := ∀ (a r : Nat) (e : va_E), M a = some (r, e) → 100 ≤ r → M' a = some (r, e)
end ZF
