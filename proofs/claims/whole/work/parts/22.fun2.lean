section ZG
theorem Scr.off2 {G : xG} {M M' : xM} {ad : Nat → Nat} (h : Scr G M ad) (ho : xOff2 6 7 M M') (h6 : ∃ q : Int32 × Int32, M' (ad 6) = some (6, eGap q)) (h7 : ∃ q : Int32 × Int32, M' (ad 7) = some (7, eGap q)) : Scr G M' ad := by
  obtain ⟨⟨q5, h5⟩, -, -, ⟨f, h9⟩, hg⟩ := h
  refine ⟨⟨q5, ho _ _ _ h5 (by decide) (by decide)⟩, h6, h7, ⟨f, ho _ _ _ h9 (by decide) (by decide)⟩, fun i hi => ?_⟩
  obtain ⟨q, hq⟩ := hg i hi
  exact ⟨q, ho _ _ _ hq (by omega) (by omega)⟩
theorem Scr.up6 {G : xG} {M M' : xM} {ad : Nat → Nat} {q : Int32 × Int32} (h : Scr G M ad) (e : M' = va_up M (ad 6) (some (6, eGap q))) : Scr G M' ad ∧ xKeep M M' := by
  obtain ⟨q6, h6⟩ := h.2.1
  obtain ⟨q7, h7⟩ := h.2.2.1
  have ho := (xOff2.refl (r1 := 6) (r2 := 7) (M := M)).up1 h6 e
  exact ⟨h.off2 ho ⟨q, xw_atE e⟩ ⟨q7, xw_upE e h7 h6 (by decide)⟩, ho.keep rfl rfl⟩
theorem Scr.up5 {G : xG} {M M' : xM} {ad : Nat → Nat} {q : zQ} (h : Scr G M ad) (e : M' = va_up M (ad 5) (some (5, eRob q))) : Scr G M' ad ∧ xKeep M M' := by
  obtain ⟨⟨q5, h5⟩, ⟨q6, h6⟩, ⟨q7, h7⟩, ⟨f, h9⟩, hg⟩ := h
  refine ⟨⟨⟨q, xw_atE e⟩, ⟨q6, xw_upE e h6 h5 (by decide)⟩, ⟨q7, xw_upE e h7 h5 (by decide)⟩, ⟨f, xw_upE e h9 h5 (by decide)⟩, fun i hi => ?_⟩, by rw [e]; exact xKeep.up h5 rfl⟩
  obtain ⟨q, hq⟩ := hg i hi
  exact ⟨q, xw_upE e hq h5 (by omega)⟩
abbrev zWh (w : Int32) : Prop := ¬ w < 0 ∧ ¬ 1 < w
abbrev zLe (w : Int32) : Prop := ¬ w < 2 ∧ ¬ 30 < w
def fDist (u : zS) (x m y w : Int32) : zR := if zIn x (zrn u) then (if zIn m (zmn u) then (if zWh w then (0, if w = 0 then (zMea u x.toNatClampNeg m.toNatClampNeg y.toInt).1 else (zMea u x.toNatClampNeg m.toNatClampNeg y.toInt).2) else (1, 0)) else (1, 0)) else (1, 0)
def fDate (u : zS) (x m w : Int32) : zR := if zIn x (zrn u) then (if zIn m (zmn u) then (if zLe w then (0, (zDat u x.toNatClampNeg m.toNatClampNeg w).1) else (2, 0)) else (1, 0)) else (1, 0)
end ZG
