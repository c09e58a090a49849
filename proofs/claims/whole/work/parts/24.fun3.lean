section ZH
def zMo (u : zS) (i j : Nat) : Int32 × Int32 := zDist (zev u i) (fun k => zAq (zGat (zln u) (zev u) (zms u j) (zms u j i + nI k) (nI i) (zrn u))) (zln u i)
def fLeft (u : zS) (m x w : Int32) : zR := if zIn m (zmn u) then (if zWh w then (if zIn x 10 ∧ zms u m.toNatClampNeg x.toNatClampNeg ≠ -1 then (0, if w = 0 then (zMo u x.toNatClampNeg m.toNatClampNeg).1 else (zMo u x.toNatClampNeg m.toNatClampNeg).2) else (1, 0)) else (1, 0)) else (1, 0)
def zSam (u : zS) (i j : Nat) : Int32 × Int32 := zDist (zev u i) (fun k => zRing (zln u j) (zev u j) (zst u i + nI k - zst u j)) (zln u i)
def fSame (u : zS) (x y : Int32) : zR := if zIn x (zrn u) then (if zIn y (zrn u) then (0, if zst u x.toNatClampNeg = -1 ∨ zst u y.toNatClampNeg = -1 then 0 else if (zSam u x.toNatClampNeg y.toNatClampNeg).2 < 5 ∨ 15 * (zSam u x.toNatClampNeg y.toNatClampNeg).2 < (zSam u x.toNatClampNeg y.toNatClampNeg).1 then 0 else 1) else (1, 0)) else (1, 0)
theorem Scr.off56 {G : xG} {M M' : xM} {ad : Nat → Nat} (h : Scr G M ad) (ho : xOff2 5 6 M M') (h5 : ∃ q : zQ, M' (ad 5) = some (5, eRob q)) (h6 : ∃ q : Int32 × Int32, M' (ad 6) = some (6, eGap q)) : Scr G M' ad := by
  obtain ⟨-, -, ⟨q7, h7⟩, ⟨f, h9⟩, hg⟩ := h
  refine ⟨h5, h6, ⟨q7, ho _ _ _ h7 (by decide) (by decide)⟩, ⟨f, ho _ _ _ h9 (by decide) (by decide)⟩, fun i hi => ?_⟩
  obtain ⟨q, hq⟩ := hg i hi
  exact ⟨q, ho _ _ _ hq (by omega) (by omega)⟩
end ZH
