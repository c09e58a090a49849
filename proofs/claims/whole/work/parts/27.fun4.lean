section ZI
def zAst (d set : Int32) (k : Nat) (c : Int32) : Option Int32 := if ((set >>> (nI k &&& 31)) &&& 1) = 0 then some c else if d = -1000 then none else if c = -1000 ∨ d = c then some d else none
def zAgr (u : zS) (i : Nat) (set least : Int32) : Nat → Option Int32
  | 0 => some (-1000)
  | k + 1 => match zAgr u i set least k with
    | none => none
    | some c => zAst (zDat u i k least).1 set k c
theorem zAgr_none {u : zS} {i : Nat} {set least : Int32} {k : Nat} (h : zAgr u i set least k = none) : ∀ n, zAgr u i set least (k + n) = none
  | 0 => h
  | n + 1 => by
    show (match zAgr u i set least (k + n) with | none => none | some c => zAst (zDat u i (k + n) least).1 set (k + n) c) = none
    rw [zAgr_none h n]
def zAnsA (o : Option Int32) : Int32 := match o with
  | none => 0
  | some c => if c = -1000 then 0 else 1
def fAgr (u : zS) (x set w : Int32) : zR := if zIn x (zrn u) then (if set < 0 ∨ ¬ (set >>> (nI (zmn u) &&& 31)) = 0 then (1, 0) else if zLe w then (0, zAnsA (zAgr u x.toNatClampNeg set w (zmn u))) else (2, 0)) else (1, 0)
def zNr (T : Nat → zN3) (n0 : Nat) : Nat → Nat
  | 0 => 0
  | i + 1 => if i = n0 ∨ (T i).1 = -1000 then zNr T n0 i else if zLess (T i).2.1 (T i).2.2 (T n0).2.1 (T n0).2.2 ∨ (¬ zLess (T n0).2.1 (T n0).2.2 (T i).2.1 (T i).2.2 ∧ i < n0) then zNr T n0 i + 1 else zNr T n0 i
theorem zNr_le (T : Nat → zN3) (n0 : Nat) : ∀ n, zNr T n0 n ≤ n
  | 0 => Nat.le_refl 0
  | n + 1 => by
    have := zNr_le T n0 n
    unfold zNr
    split
    · omega
    · split <;> omega
def zSrc (T : Nat → zN3) (mn : Nat) (k : Int32) : Nat → Option Nat
  | 0 => none
  | i + 1 => match zSrc T mn k i with
    | some r => some r
    | none => if (T i).1 ≠ -1000 ∧ nI (zNr T i mn) = k then some i else none
theorem zSrc_some {T : Nat → zN3} {mn : Nat} {k : Int32} {i r : Nat} (h : zSrc T mn k i = some r) : ∀ n, zSrc T mn k (i + n) = some r
  | 0 => h
  | n + 1 => by
    show (match zSrc T mn k (i + n) with | some r => some r | none => if (T (i + n)).1 ≠ -1000 ∧ nI (zNr T (i + n) mn) = k then some (i + n) else none) = some r
    rw [zSrc_some h n]
def zAnsS (o : Option Nat) : Int32 := match o with
  | none => -1
  | some i => nI i
def fSrc (u : zS) (x w k : Int32) : zR := if zIn x (zrn u) then (if k < 0 then (1, 0) else if zLe w then (0, zAnsS (zSrc (fun j => zDat u x.toNatClampNeg j w) (zmn u) k (zmn u))) else (2, 0)) else (1, 0)
end ZI
