section ZJ
def zEnd (wt : Nat → Int32) (due be : Int64) : Nat → Nat → Int64 → Int32
  | 0, _, _ => -1
  | r + 1, n, s => if (s + (wt n).toInt64) * be < due then zEnd wt due be r (n + 1) (s + (wt n).toInt64) else nI n
def zAll (wt : Nat → Int32) : Nat → Nat → Int64 → Int64
  | 0, _, s => s
  | r + 1, n, s => zAll wt r (n + 1) (s + (wt n).toInt64)
def zShB (wt : Nat → Int32) (due be : Int64) : Nat → Nat → Int32 × Int32 → Int32 × Int32
  | 0, _, q => q
  | r + 1, n, q => zShB wt due be r (n + 1) (if zEnd wt due be (61 - n) n 0 = -1 then q else if q.2 - q.1 ≤ zEnd wt due be (61 - n) n 0 - nI n then q else (nI n, zEnd wt due be (61 - n) n 0))
def zSh (wt : Nat → Int32) (last : Int32) (a : Nat) (ab be : Int32) : Int32 :=
  if lg_cmp (zAll wt (61 - a) a 0) 0 = 0 then -1 else 1000 * (last + (zShB wt (ab.toInt64 * zAll wt (61 - a) a 0) be.toInt64 (61 - a) a (nI a, 60)).1) + last + (zShB wt (ab.toInt64 * zAll wt (61 - a) a 0) be.toInt64 (61 - a) a (nI a, 60)).2
def fFell (u : zS) (x sap ab be : Int32) : zR := if zIn x (zrn u) then (if zst u x.toNatClampNeg = -1 then (2, 0) else if sap < 0 ∨ nI (zln u x.toNatClampNeg) < sap then (3, 0) else if ab < 1 ∨ be < ab ∨ 1000 < be then (3, 0) else (0, zSh (zwt u) (zst u x.toNatClampNeg + nI (zln u x.toNatClampNeg) - 1 - sap) sap.toNatClampNeg ab be)) else (1, 0)
end ZJ
