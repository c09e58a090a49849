section ZP
theorem xOff.refl {r : Nat} {M : xM} : xOff r M M := fun _ _ _ h _ => h
theorem xOff.put {r : Nat} {M M1 M2 : xM} {a : Nat} {e : va_E} {x : Option (Nat × va_E)} (h : xOff r M M1) (ha : M1 a = some (r, e)) (hm : M2 = va_up M1 a x) : xOff r M M2 := fun b r2 e2 hb hn => xw_upE hm (h b r2 e2 hb hn) ha hn
theorem xOff.new {r : Nat} {M M1 M2 : xM} {a : Nat} {x : Option (Nat × va_E)} (h : xOff r M M1) (ha : M1 a = none) (hm : M2 = va_up M1 a x) : xOff r M M2 := fun b r2 e2 hb hn => xw_newE hm (h b r2 e2 hb hn) ha
def xOff3 (r1 r2 r3 : Nat) (M M' : xM) : Prop := ∀ (b r : Nat) (e : va_E), M b = some (r, e) → r ≠ r1 → r ≠ r2 → r ≠ r3 → M' b = some (r, e)
theorem xOff3.refl {r1 r2 r3 : Nat} {M : xM} : xOff3 r1 r2 r3 M M := fun _ _ _ h _ _ _ => h
theorem xOff3.put {r r1 r2 r3 : Nat} {M M1 M2 : xM} {a : Nat} {e : va_E} {x : Option (Nat × va_E)} (h : xOff3 r1 r2 r3 M M1) (ha : M1 a = some (r, e)) (hm : M2 = va_up M1 a x) (hr : r = r1 ∨ r = r2 ∨ r = r3) : xOff3 r1 r2 r3 M M2 := fun b r9 e9 hb n1 n2 n3 => xw_upE hm (h b r9 e9 hb n1 n2 n3) ha (by omega)
theorem Core.keepM {G : xG} {M M' : xM} {ad : Nat → Nat} {u : zS} (h : Core G M ad u) (hr : zrn u ≤ 10) (hm : zmn u < 8) (hk : xOff3 5 (60 + zmn u) (70 + zmn u) M M') : Core G M' ad u := by
  obtain ⟨h0, h1, h2, h3, h4, h8, hR, hM⟩ := h
  refine ⟨hk _ _ _ h0 (by omega) (by omega) (by omega), hk _ _ _ h1 (by omega) (by omega) (by omega), hk _ _ _ h2 (by omega) (by omega) (by omega), hk _ _ _ h3 (by omega) (by omega) (by omega), hk _ _ _ h4 (by omega) (by omega) (by omega), hk _ _ _ h8 (by omega) (by omega) (by omega), fun i hi => ⟨hk _ _ _ (hR i hi).1 (by omega) (by omega) (by omega), hk _ _ _ (hR i hi).2 (by omega) (by omega) (by omega)⟩, fun j hj => ?_⟩
  obtain ⟨m1, m2, V, D, m3, m4, m5⟩ := hM j hj
  exact ⟨hk _ _ _ m1 (by omega) (by omega) (by omega), hk _ _ _ m2 (by omega) (by omega) (by omega), V, D, hk _ _ _ m3 (by omega) (by omega) (by omega), hk _ _ _ m4 (by omega) (by omega) (by omega), m5⟩
def uMas (u : zS) (B : Nat → Int32) : zS := (u.1, u.2.1, (zmn u + 1, va_up (zms u) (zmn u) B), u.2.2.2)
def fMas (u : zS) (set : Int32) : zR := if 8 ≤ zmn u then (1, 0) else if set < 0 ∨ 1023 < set then (2, 0) else if zMk (zB u set) (zrn u) = 0 then (0, -1) else (0, nI (zmn u))
theorem Core.mas {G : xG} {M M5 M6 M7 : xM} {ad : Nat → Nat} {u : zS} {B V D : Nat → Int32} {q a va da : Nat} (hC : Core G M ad u) (hs : Scr G M ad) (hr : zrn u ≤ 10) (hm : zmn u < 8)
    (hk : ∀ (b r : Nat) (e : va_E), M b = some (r, e) → r ≠ 5 → r ≠ 40 + zmn u → r ≠ 60 + zmn u → r ≠ 70 + zmn u → M5 b = some (r, e)) (h5 : ∃ z : zQ, M5 (ad 5) = some (5, eRob z))
    (c1 : M5 q = some (40 + zmn u, .inr (3, [.ref a, .int (zFst B 10), .int (zLst (zln u) B 10), .int (nI (zCnt B 10)), .ref va, .ref da]))) (c2 : M5 a = some (50 + zmn u, eI G 10 B)) (c3 : M5 va = some (60 + zmn u, eI G (zYn (zln u) B) V)) (c4 : M5 da = some (70 + zmn u, eI G (zYn (zln u) B) D))
    (c5 : ∀ k, k < zYn (zln u) B → V k = zAq (zGat (zln u) (zev u) B (zFst B 10 + nI k) (-1) 10) ∧ D k = (zGat (zln u) (zev u) B (zFst B 10 + nI k) (-1) 10).1)
    (e6 : M6 = va_up M5 (ad 3) (some (3, eQ (gM G) 8 (va_up (zrw ad 40 (zmn u)) (zmn u) (some q))))) (e7 : M7 = va_up M6 (ad 0) (some (0, .inr (4, [.ref (ad 1), .int (nI (zpn u)), .ref (ad 2), .int (nI (zrn u)), .ref (ad 3), .int (nI (zmn u + 1)), .ref (ad 4), .ref (ad 5), .ref (ad 6), .ref (ad 7), .ref (ad 8), .ref (ad 9)])))) :
    ∃ ad' : Nat → Nat, Core G M7 ad' (uMas u B) ∧ Scr G M7 ad' ∧ xK100 M M7 ∧ ∀ r, r < 40 ∨ 80 ≤ r → ad' r = ad r := by
  obtain ⟨ad', had⟩ : ∃ z : Nat → Nat, z = va_up (va_up (va_up (va_up ad (40 + zmn u) q) (50 + zmn u) a) (60 + zmn u) va) (70 + zmn u) da := ⟨_, rfl⟩
  have hao : ∀ r, r ≠ 40 + zmn u → r ≠ 50 + zmn u → r ≠ 60 + zmn u → r ≠ 70 + zmn u → ad' r = ad r := fun r n1 n2 n3 n4 => by rw [had, va_up_ne _ _ n4, va_up_ne _ _ n3, va_up_ne _ _ n2, va_up_ne _ _ n1]
  have a1 : ad' (40 + zmn u) = q := by rw [had, va_up_ne _ _ (by omega), va_up_ne _ _ (by omega), va_up_ne _ _ (by omega), va_up_self]
  have a2 : ad' (50 + zmn u) = a := by rw [had, va_up_ne _ _ (by omega), va_up_ne _ _ (by omega), va_up_self]
  have a3 : ad' (60 + zmn u) = va := by rw [had, va_up_ne _ _ (by omega), va_up_self]
  have a4 : ad' (70 + zmn u) = da := by rw [had, va_up_self]
  have lo : ∀ r, r < 40 → ad' r = ad r := fun r h => hao r (by omega) (by omega) (by omega) (by omega)
  obtain ⟨h0, h1, h2, h3, h4, h8, hR, hM⟩ := hC
  have m5 := hk _ _ _ h3 (by omega) (by omega) (by omega) (by omega)
  have k6 : ∀ (b r : Nat) (e : va_E), M5 b = some (r, e) → r ≠ 3 → M6 b = some (r, e) := fun b r e hb hn => xw_upE e6 hb m5 hn
  have o6 := k6 _ _ _ (hk _ _ _ h0 (by omega) (by omega) (by omega) (by omega)) (by omega)
  have k7 : ∀ (b r : Nat) (e : va_E), M5 b = some (r, e) → r ≠ 3 → r ≠ 0 → M7 b = some (r, e) := fun b r e hb n1 n2 => xw_upE e7 (k6 _ _ _ hb n1) o6 n2
  have k : ∀ (b r : Nat) (e : va_E), M b = some (r, e) → r ≠ 5 → r ≠ 40 + zmn u → r ≠ 60 + zmn u → r ≠ 70 + zmn u → r ≠ 3 → r ≠ 0 → M7 b = some (r, e) := fun b r e hb n1 n2 n3 n4 n5 n6 => k7 _ _ _ (hk _ _ _ hb n1 n2 n3 n4) n5 n6
  refine ⟨ad', ⟨?_, ?_, ?_, ?_, ?_, ?_, fun i hi => ?_, fun j hj => ?_⟩, ?_, fun b r e hb hr2 => k b r e hb (by omega) (by omega) (by omega) (by omega) (by omega) (by omega), fun r hr2 => hao r (by omega) (by omega) (by omega) (by omega)⟩
  · unfold CoreO
    rw [lo 0 (by omega), lo 1 (by omega), lo 2 (by omega), lo 3 (by omega), lo 4 (by omega), lo 5 (by omega), lo 6 (by omega), lo 7 (by omega), lo 8 (by omega), lo 9 (by omega)]
    exact xw_atE e7
  · rw [lo 1 (by omega)]
    exact k _ _ _ h1 (by omega) (by omega) (by omega) (by omega) (by omega) (by omega)
  · rw [lo 2 (by omega)]
    have e9 : zrw ad' 20 (zrn u) = zrw ad 20 (zrn u) := by
      funext i
      unfold zrw
      by_cases h : i < zrn u
      · rw [if_pos h, if_pos h, lo (20 + i) (by omega)]
      · rw [if_neg h, if_neg h]
    show M7 (ad 2) = some (2, eQ (gR G) 10 (zrw ad' 20 (zrn u)))
    rw [e9]
    exact k _ _ _ h2 (by omega) (by omega) (by omega) (by omega) (by omega) (by omega)
  · rw [lo 3 (by omega)]
    have e9 : zrw ad' 40 (zmn u + 1) = va_up (zrw ad 40 (zmn u)) (zmn u) (some q) := by
      rw [zrw_up, had, zrw_off fun i hi => by omega, zrw_off fun i hi => by omega, zrw_off fun i hi => by omega]
    show M7 (ad 3) = some (3, eQ (gM G) 8 (zrw ad' 40 (zmn u + 1)))
    rw [e9]
    exact xw_upE e7 (xw_atE e6) o6 (by omega)
  · rw [lo 4 (by omega)]
    exact k _ _ _ h4 (by omega) (by omega) (by omega) (by omega) (by omega) (by omega)
  · rw [lo 8 (by omega)]
    have e9 : zrw ad' 10 8 = zrw ad 10 8 := by
      funext i
      unfold zrw
      by_cases h : i < 8
      · rw [if_pos h, if_pos h, lo (10 + i) (by omega)]
      · rw [if_neg h, if_neg h]
    rw [e9]
    exact k _ _ _ h8 (by omega) (by omega) (by omega) (by omega) (by omega) (by omega)
  · have hi3 : i < zrn u := hi
    unfold CoreR
    rw [lo (20 + i) (by omega), lo (30 + i) (by omega)]
    exact ⟨k _ _ _ (hR i hi3).1 (by omega) (by omega) (by omega) (by omega) (by omega) (by omega), k _ _ _ (hR i hi3).2 (by omega) (by omega) (by omega) (by omega) (by omega) (by omega)⟩
  · by_cases hj2 : j = zmn u
    · subst hj2
      have s1 : zms (uMas u B) (zmn u) = B := va_up_self _ _ _
      unfold CoreM
      rw [a1, a2, a3, a4, s1]
      exact ⟨k7 _ _ _ c1 (by omega) (by omega), k7 _ _ _ c2 (by omega) (by omega), V, D, k7 _ _ _ c3 (by omega) (by omega), k7 _ _ _ c4 (by omega) (by omega), c5⟩
    · have hj3 : j < zmn u := by
        have : j < zmn u + 1 := hj
        omega
      have s1 : zms (uMas u B) j = zms u j := va_up_ne _ _ hj2
      obtain ⟨m1, m2, V2, D2, m3, m4, m5⟩ := hM j hj3
      unfold CoreM
      rw [hao (40 + j) (by omega) (by omega) (by omega) (by omega), hao (50 + j) (by omega) (by omega) (by omega) (by omega), hao (60 + j) (by omega) (by omega) (by omega) (by omega), hao (70 + j) (by omega) (by omega) (by omega) (by omega), s1]
      exact ⟨k _ _ _ m1 (by omega) (by omega) (by omega) (by omega) (by omega) (by omega), k _ _ _ m2 (by omega) (by omega) (by omega) (by omega) (by omega) (by omega), V2, D2, k _ _ _ m3 (by omega) (by omega) (by omega) (by omega) (by omega) (by omega), k _ _ _ m4 (by omega) (by omega) (by omega) (by omega) (by omega) (by omega), m5⟩
  · obtain ⟨-, ⟨q6, s6⟩, ⟨q7, s7⟩, ⟨f, s9⟩, sg⟩ := hs
    obtain ⟨z, hz⟩ := h5
    refine ⟨⟨z, ?_⟩, ⟨q6, ?_⟩, ⟨q7, ?_⟩, ⟨f, ?_⟩, fun i hi => ?_⟩
    · rw [lo 5 (by omega)]; exact k7 _ _ _ hz (by omega) (by omega)
    · rw [lo 6 (by omega)]; exact k _ _ _ s6 (by omega) (by omega) (by omega) (by omega) (by omega) (by omega)
    · rw [lo 7 (by omega)]; exact k _ _ _ s7 (by omega) (by omega) (by omega) (by omega) (by omega) (by omega)
    · rw [lo 9 (by omega)]; exact k _ _ _ s9 (by omega) (by omega) (by omega) (by omega) (by omega) (by omega)
    · obtain ⟨g, hg⟩ := sg i hi
      refine ⟨g, ?_⟩
      rw [lo (10 + i) (by omega)]
      exact k _ _ _ hg (by omega) (by omega) (by omega) (by omega) (by omega) (by omega)
end ZP
