section ZM
def xOff (r : Nat) (M M' : xM) : Prop := ∀ (b r2 : Nat) (e : va_E), M b = some (r2, e) → r2 ≠ r → M' b = some (r2, e)
theorem xOff.up {M : xM} {a r : Nat} {e : va_E} {x : Option (Nat × va_E)} (ha : M a = some (r, e)) : xOff r M (va_up M a x) := fun _ _ _ hb h => xw_up hb ha h
theorem xOff.k100 {r : Nat} {M M' : xM} (h : xOff r M M') (hr : r < 100) : xK100 M M' := fun a r2 e ha h2 => h a r2 e ha (by omega)
theorem xK100.trans {M M1 M2 : xM} (h1 : xK100 M M1) (h2 : xK100 M1 M2) : xK100 M M2 := fun a r e h hr => h2 a r e (h1 a r e h hr) hr
theorem xKeep.k100 {M M' : xM} (h : xKeep M M') : xK100 M M' := fun a r e ha hr => h a r e ha (zS_c (by omega))
theorem CoreR.off {G : xG} {M M' : xM} {ad : Nat → Nat} {u : zS} {i r : Nat} (h : CoreR G M ad u i) (ho : xOff r M M') (h1 : 20 + i ≠ r) (h2 : 30 + i ≠ r) : CoreR G M' ad u i := ⟨ho _ _ _ h.1 h1, ho _ _ _ h.2 h2⟩
theorem CoreM.off {G : xG} {M M' : xM} {ad : Nat → Nat} {u : zS} {j r : Nat} (h : CoreM G M ad u j) (ho : xOff r M M') (hr : r < 40) : CoreM G M' ad u j := by
  obtain ⟨m1, m2, V, D, m3, m4, m5⟩ := h
  exact ⟨ho _ _ _ m1 (by omega), ho _ _ _ m2 (by omega), V, D, ho _ _ _ m3 (by omega), ho _ _ _ m4 (by omega), m5⟩
theorem Scr.off {G : xG} {M M' : xM} {ad : Nat → Nat} {r : Nat} (h : Scr G M ad) (ho : xOff r M M') (hr : zScr r = false) : Scr G M' ad := by
  have hne : ∀ k, zScr k = true → k ≠ r := fun k hk z => by rw [z, hr] at hk; cases hk
  obtain ⟨⟨q5, h5⟩, ⟨q6, h6⟩, ⟨q7, h7⟩, ⟨f, h9⟩, hg⟩ := h
  refine ⟨⟨q5, ho _ _ _ h5 (hne 5 rfl)⟩, ⟨q6, ho _ _ _ h6 (hne 6 rfl)⟩, ⟨q7, ho _ _ _ h7 (hne 7 rfl)⟩, ⟨f, ho _ _ _ h9 (hne 9 rfl)⟩, fun i hi => ?_⟩
  obtain ⟨q, hq⟩ := hg i hi
  refine ⟨q, ho _ _ _ hq (hne _ ?_)⟩
  simp only [zScr, Bool.or_eq_true, Bool.and_eq_true, decide_eq_true_eq]
  exact Or.inr ⟨by omega, by omega⟩
theorem Core.ring {G : xG} {M M' : xM} {ad : Nat → Nat} {u : zS} {w : Int32} (hC : Core G M ad u) (hs : Scr G M ad) {M1 : xM} (e1 : M1 = va_up M (ad 1) (some (1, eI G 30 (upd (zpd u) (zpn u) w)))) (e2 : M' = va_up M1 (ad 0) (some (0, .inr (4, [.ref (ad 1), .int (nI (zpn u + 1)), .ref (ad 2), .int (nI (zrn u)), .ref (ad 3), .int (nI (zmn u)), .ref (ad 4), .ref (ad 5), .ref (ad 6), .ref (ad 7), .ref (ad 8), .ref (ad 9)])))) :
    Core G M' ad (uRing u w) ∧ Scr G M' ad ∧ xK100 M M' := by
  obtain ⟨h0, h1, h2, h3, h4, h8, hR, hM⟩ := hC
  have o1 : xOff 1 M M1 := by rw [e1]; exact xOff.up h1
  have h01 : M1 (ad 0) = _ := o1 _ _ _ h0 (by decide)
  have o2 : xOff 0 M1 M' := by rw [e2]; exact xOff.up h01
  refine ⟨⟨xw_atE e2, o2 _ _ _ (xw_atE e1) (by decide), o2 _ _ _ (o1 _ _ _ h2 (by decide)) (by decide), o2 _ _ _ (o1 _ _ _ h3 (by decide)) (by decide), o2 _ _ _ (o1 _ _ _ h4 (by decide)) (by decide), o2 _ _ _ (o1 _ _ _ h8 (by decide)) (by decide), fun i hi => ((hR i hi).off o1 (by omega) (by omega)).off o2 (by omega) (by omega), fun j hj => ((hM j hj).off o1 (by omega)).off o2 (by omega)⟩, (hs.off o1 rfl).off o2 rfl, (o1.k100 (by omega)).trans (o2.k100 (by omega))⟩
theorem Core.sap {G : xG} {M M' : xM} {ad : Nat → Nat} {u : zS} {r w : Int32} (hC : Core G M ad u) (hs : Scr G M ad) (e1 : M' = va_up M (ad 4) (some (4, eI G 61 (upd (zwt u) r.toNatClampNeg w)))) : Core G M' ad (uSap u r w) ∧ Scr G M' ad ∧ xK100 M M' := by
  obtain ⟨h0, h1, h2, h3, h4, h8, hR, hM⟩ := hC
  have o1 : xOff 4 M M' := by rw [e1]; exact xOff.up h4
  exact ⟨⟨o1 _ _ _ h0 (by decide), o1 _ _ _ h1 (by decide), o1 _ _ _ h2 (by decide), o1 _ _ _ h3 (by decide), xw_atE e1, o1 _ _ _ h8 (by decide), fun i hi => (hR i hi).off o1 (by omega) (by omega), fun j hj => (hM j hj).off o1 (by omega)⟩, hs.off o1 rfl, o1.k100 (by omega)⟩
theorem Core.place {G : xG} {M M' : xM} {ad : Nat → Nat} {u : zS} {x y : Int32} {i : Nat} (hC : Core G M ad u) (hs : Scr G M ad) (hi : i < zrn u) (ei : i = x.toNatClampNeg) (hr : zrn u ≤ 10) (e1 : M' = va_up M (ad (20 + i)) (some (20 + i, .inr (2, [.ref (ad (30 + i)), .int y])))) : Core G M' ad (uPlace u x y) ∧ Scr G M' ad ∧ xK100 M M' := by
  obtain ⟨h0, h1, h2, h3, h4, h8, hR, hM⟩ := hC
  have o1 : xOff (20 + i) M M' := by rw [e1]; exact xOff.up (hR i hi).1
  refine ⟨⟨o1 _ _ _ h0 (by omega), o1 _ _ _ h1 (by omega), o1 _ _ _ h2 (by omega), o1 _ _ _ h3 (by omega), o1 _ _ _ h4 (by omega), o1 _ _ _ h8 (by omega), fun k hk => ?_, fun j hj => (hM j hj).off o1 (by omega)⟩, hs.off o1 (zS_c (by omega)), o1.k100 (by omega)⟩
  by_cases hki : k = i
  · subst hki
    refine ⟨?_, o1 _ _ _ (hR k hi).2 (by omega)⟩
    have hst : zst (uPlace u x y) k = y := by show upd (zst u) x.toNatClampNeg y k = y; rw [ei]; exact pk_us
    rw [hst]
    exact xw_atE e1
  · have hk' : k < zrn u := hk
    have h9 := (hR k hk').off o1 (by omega) (by omega)
    have hst : zst (uPlace u x y) k = zst u k := by show upd (zst u) x.toNatClampNeg y k = _; rw [← ei]; exact pk_un hki
    refine ⟨?_, h9.2⟩
    rw [hst]
    exact h9.1
theorem z_tab3 {k : Int32} (h0 : ¬ k = 0) (h1 : ¬ k = 1) (h2 : ¬ k = 2) : k.toInt < 0 ∨ 2 < k.toInt := by
  have e0 : k.toInt ≠ 0 := fun h9 => h0 (Int32.toInt_inj.mp (h9.trans rfl))
  have e1 : k.toInt ≠ 1 := fun h9 => h1 (Int32.toInt_inj.mp (h9.trans rfl))
  have e2 : k.toInt ≠ 2 := fun h9 => h2 (Int32.toInt_inj.mp (h9.trans rfl))
  omega
theorem z_tab4 {k : Int32} (h0 : ¬ k = 0) (h1 : ¬ k = 1) (h2 : ¬ k = 2) (h3 : ¬ k = 3) : k.toInt < 0 ∨ 3 < k.toInt := by
  have e3 : k.toInt ≠ 3 := fun h9 => h3 (Int32.toInt_inj.mp (h9.trans rfl))
  rcases z_tab3 h0 h1 h2 with h | h <;> omega
end ZM
