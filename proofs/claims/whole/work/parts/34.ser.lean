section ZO
theorem zRing_c {n n' : Nat} {f f' : Nat → Int32} {k : Int32} (h : n = n') (hf : f = f') : zRing n f k = zRing n' f' k := by rw [h, hf]
theorem zGat_c {ln ln' : Nat → Nat} {ev ev' : Nat → Nat → Int32} {b : Nat → Int32} {y wo : Int32} : ∀ n, (∀ i, i < n → b i = -1 ∨ (ln' i = ln i ∧ ev' i = ev i)) → zGat ln' ev' b y wo n = zGat ln ev b y wo n
  | 0, _ => rfl
  | n + 1, h => by
    show zGs ln' ev' b y wo n (zGat ln' ev' b y wo n) = zGs ln ev b y wo n (zGat ln ev b y wo n)
    rw [zGat_c n fun i hi => h i (by omega)]
    unfold zGs
    rcases h n (by omega) with h1 | ⟨h1, h2⟩
    · simp only [h1, if_true]
    · rw [h1, h2]
theorem zLst_c {ln ln' : Nat → Nat} {b : Nat → Int32} : ∀ n, (∀ i, i < n → b i = -1 ∨ ln' i = ln i) → zLst ln' b n = zLst ln b n
  | 0, _ => rfl
  | n + 1, h => by
    unfold zLst
    rw [zLst_c n fun i hi => h i (by omega)]
    rcases h n (by omega) with h1 | h1
    · simp only [h1, if_true]
    · rw [h1]
def uSer (u : zS) (F : Nat → Int32) : zS := ((0, zpd u), (zrn u + 1, va_up (zln u) (zrn u) (zpn u), va_up (zev u) (zrn u) F, va_up (zst u) (zrn u) (-1)), u.2.2.1, u.2.2.2)
def fSer (u : zS) : zR := if 10 ≤ zrn u then (1, 0) else if zpn u < 3 then (0, -1) else (0, nI (zrn u))
theorem zrw_up {ad : Nat → Nat} {b n q : Nat} : va_up (zrw ad b n) n (some q) = zrw (va_up ad (b + n) q) b (n + 1) := by
  funext i
  by_cases h : i = n
  · subst h
    simp [zrw, va_up]
  · rw [va_up_ne _ _ h]
    unfold zrw
    by_cases h2 : i < n
    · rw [if_pos h2, if_pos (by omega), va_up_ne _ _ (by omega)]
    · rw [if_neg h2, if_neg (by omega)]
theorem zrw_off {ad : Nat → Nat} {b n r q : Nat} (h : ∀ i, i < n → b + i ≠ r) : zrw (va_up ad r q) b n = zrw ad b n := by
  funext i
  unfold zrw
  by_cases h2 : i < n
  · rw [if_pos h2, if_pos h2, va_up_ne _ _ (h i h2)]
  · rw [if_neg h2, if_neg h2]
theorem CoreM.ser {G : xG} {M M' : xM} {ad ad' : Nat → Nat} {u : zS} {F : Nat → Int32} {j : Nat} (h : CoreM G M ad u j) (hO : zOk u) (hj : j < zmn u) (hext : ∀ r, 40 ≤ r → r < 80 → ad' r = ad r) (hj8 : j < 8) (hk : ∀ (a r : Nat) (e : va_E), M a = some (r, e) → 40 ≤ r → M' a = some (r, e)) : CoreM G M' ad' (uSer u F) j := by
  have hb : ∀ i, i < 10 → zms u j i = -1 ∨ i ≠ zrn u := fun i hi => by
    by_cases h9 : zms u j i = -1
    · exact Or.inl h9
    · have := ((hO.2.2.2.2.2.1 j hj).1 i hi).2 h9
      exact Or.inr (by omega)
  have e1 : zLst (zln (uSer u F)) (zms u j) 10 = zLst (zln u) (zms u j) 10 := zLst_c 10 fun i hi => (hb i hi).imp id (fun h9 => va_up_ne _ _ h9)
  have e2 : ∀ y wo, zGat (zln (uSer u F)) (zev (uSer u F)) (zms u j) y wo 10 = zGat (zln u) (zev u) (zms u j) y wo 10 := fun y wo => zGat_c 10 fun i hi => (hb i hi).imp id (fun h9 => ⟨va_up_ne _ _ h9, va_up_ne _ _ h9⟩)
  have e3 : zYn (zln (uSer u F)) (zms u j) = zYn (zln u) (zms u j) := by unfold zYn; rw [e1]
  obtain ⟨m1, m2, V, D, m3, m4, m5⟩ := h
  unfold CoreM
  rw [hext (40 + j) (by omega) (by omega), hext (50 + j) (by omega) (by omega), hext (60 + j) (by omega) (by omega), hext (70 + j) (by omega) (by omega)]
  show M' (ad (40 + j)) = some (40 + j, .inr (3, [.ref (ad (50 + j)), .int (zFst (zms u j) 10), .int (zLst (zln (uSer u F)) (zms u j) 10), .int (nI (zCnt (zms u j) 10)), .ref (ad (60 + j)), .ref (ad (70 + j))])) ∧ M' (ad (50 + j)) = some (50 + j, eI G 10 (zms u j)) ∧ ∃ V D : Nat → Int32, M' (ad (60 + j)) = some (60 + j, eI G (zYn (zln (uSer u F)) (zms u j)) V) ∧ M' (ad (70 + j)) = some (70 + j, eI G (zYn (zln (uSer u F)) (zms u j)) D) ∧ ∀ k, k < zYn (zln (uSer u F)) (zms u j) → V k = zAq (zGat (zln (uSer u F)) (zev (uSer u F)) (zms u j) (zFst (zms u j) 10 + nI k) (-1) 10) ∧ D k = (zGat (zln (uSer u F)) (zev (uSer u F)) (zms u j) (zFst (zms u j) 10 + nI k) (-1) 10).1
  rw [e1, e3]
  exact ⟨hk _ _ _ m1 (by omega), hk _ _ _ m2 (by omega), V, D, hk _ _ _ m3 (by omega), hk _ _ _ m4 (by omega), fun k hk2 => by rw [e2]; exact m5 k hk2⟩
theorem Core.ser {G : xG} {M M1 M2 M3 M4 M5 M6 : xM} {ad : Nat → Nat} {u : zS} {F : Nat → Int32} {q a : Nat} (hC : Core G M ad u) (hs : Scr G M ad) (hO : zOk u) (hr : zrn u < 10) {x1 : Option (Nat × va_E)}
    (hq : M q = none) (ha : M1 a = none) (e1 : M1 = va_up M q (some (20 + zrn u, .inr (2, [.null, .int 0])))) (e2 : M2 = va_up M1 a (some (30 + zrn u, eI G (zpn u) F))) (e3 : M3 = va_up M2 q (some (20 + zrn u, .inr (2, [.ref a, .int (-1)])))) (e4 : M4 = va_up M3 (ad 2) (some (2, eQ (gR G) 10 (va_up (zrw ad 20 (zrn u)) (zrn u) (some q)))))
    (e5 : M5 = va_up M4 (ad 0) x1) (e6 : M6 = va_up M5 (ad 0) (some (0, .inr (4, [.ref (ad 1), .int 0, .ref (ad 2), .int (nI (zrn u + 1)), .ref (ad 3), .int (nI (zmn u)), .ref (ad 4), .ref (ad 5), .ref (ad 6), .ref (ad 7), .ref (ad 8), .ref (ad 9)])))) :
    Core G M6 (va_up (va_up ad (20 + zrn u) q) (30 + zrn u) a) (uSer u F) ∧ Scr G M6 (va_up (va_up ad (20 + zrn u) q) (30 + zrn u) a) ∧ xK100 M M6 ∧ ∀ r, r < 20 ∨ 40 ≤ r → va_up (va_up ad (20 + zrn u) q) (30 + zrn u) a r = ad r := by
  obtain ⟨ad', had⟩ : ∃ z : Nat → Nat, z = va_up (va_up ad (20 + zrn u) q) (30 + zrn u) a := ⟨_, rfl⟩
  rw [← had]
  have hao : ∀ r, r ≠ 20 + zrn u → r ≠ 30 + zrn u → ad' r = ad r := fun r h1 h2 => by rw [had, va_up_ne _ _ h2, va_up_ne _ _ h1]
  have haq : ad' (20 + zrn u) = q := by rw [had, va_up_ne _ _ (by omega), va_up_self]
  have haa : ad' (30 + zrn u) = a := by rw [had, va_up_self]
  obtain ⟨h0, h1, h2, h3, h4, h8, hR, hM⟩ := hC
  have keep3 : ∀ (b r : Nat) (e : va_E), M b = some (r, e) → M3 b = some (r, e) := fun b r e hb => by
    have k1 := xw_newE e1 hb hq
    have k2 := xw_newE e2 k1 ha
    rw [e3, va_up_ne]
    · exact k2
    · intro z
      rw [z, hq] at hb
      cases hb
  have q2 : M2 q = some (20 + zrn u, .inr (2, [.null, .int 0])) := xw_newE e2 (xw_atE e1) ha
  have q3 : M3 q = some (20 + zrn u, .inr (2, [.ref a, .int (-1)])) := xw_atE e3
  have a3 : M3 a = some (30 + zrn u, eI G (zpn u) F) := xw_upE e3 (xw_atE e2) q2 (by omega)
  have r3 := keep3 _ _ _ h2
  have k4 : ∀ (b r : Nat) (e : va_E), M3 b = some (r, e) → r ≠ 2 → M4 b = some (r, e) := fun b r e hb hn => xw_upE e4 hb r3 hn
  have o4 := k4 _ _ _ (keep3 _ _ _ h0) (by decide)
  have k6 : ∀ (b r : Nat) (e : va_E), M4 b = some (r, e) → r ≠ 0 → M6 b = some (r, e) := fun b r e hb hn => by
    have hne : b ≠ ad 0 := xw_ne hb o4 hn
    rw [e6, va_up_ne _ _ hne, e5, va_up_ne _ _ hne]
    exact hb
  have k : ∀ (b r : Nat) (e : va_E), M b = some (r, e) → r ≠ 0 → r ≠ 2 → M6 b = some (r, e) := fun b r e hb n0 n2 => k6 _ _ _ (k4 _ _ _ (keep3 _ _ _ hb) n2) n0
  refine ⟨⟨?_, ?_, ?_, ?_, ?_, ?_, fun i hi => ?_, fun j hj => ?_⟩, ?_, fun b r e hb hr2 => k b r e hb (by omega) (by omega), fun r hr2 => hao r (by omega) (by omega)⟩
  · unfold CoreO
    rw [hao 0 (by omega) (by omega), hao 1 (by omega) (by omega), hao 2 (by omega) (by omega), hao 3 (by omega) (by omega), hao 4 (by omega) (by omega), hao 5 (by omega) (by omega), hao 6 (by omega) (by omega), hao 7 (by omega) (by omega), hao 8 (by omega) (by omega), hao 9 (by omega) (by omega)]
    exact xw_atE e6
  · rw [hao 1 (by omega) (by omega)]
    exact k _ _ _ h1 (by decide) (by decide)
  · rw [hao 2 (by omega) (by omega)]
    have e9 : zrw ad' 20 (zrn u + 1) = va_up (zrw ad 20 (zrn u)) (zrn u) (some q) := by
      rw [zrw_up, had]
      exact zrw_off fun i hi => by omega
    show M6 (ad 2) = some (2, eQ (gR G) 10 (zrw ad' 20 (zrn u + 1)))
    rw [e9]
    exact k6 _ _ _ (xw_atE e4) (by decide)
  · rw [hao 3 (by omega) (by omega)]
    have e9 : zrw ad' 40 (zmn u) = zrw ad 40 (zmn u) := by
      rw [had, zrw_off fun i hi => by omega, zrw_off fun i hi => by omega]
    show M6 (ad 3) = some (3, eQ (gM G) 8 (zrw ad' 40 (zmn u)))
    rw [e9]
    exact k _ _ _ h3 (by decide) (by decide)
  · rw [hao 4 (by omega) (by omega)]
    exact k _ _ _ h4 (by decide) (by decide)
  · rw [hao 8 (by omega) (by omega)]
    have e9 : zrw ad' 10 8 = zrw ad 10 8 := by
      rw [had, zrw_off fun i hi => by omega, zrw_off fun i hi => by omega]
    rw [e9]
    exact k _ _ _ h8 (by decide) (by decide)
  · by_cases hi2 : i = zrn u
    · subst hi2
      unfold CoreR
      rw [haq, haa]
      have s1 : zst (uSer u F) (zrn u) = -1 := va_up_self _ _ _
      have s2 : zln (uSer u F) (zrn u) = zpn u := va_up_self _ _ _
      have s3 : zev (uSer u F) (zrn u) = F := va_up_self _ _ _
      rw [s1, s2, s3]
      exact ⟨k6 _ _ _ (k4 _ _ _ q3 (by omega)) (by omega), k6 _ _ _ (k4 _ _ _ a3 (by omega)) (by omega)⟩
    · have hi3 : i < zrn u := by
        have : i < zrn u + 1 := hi
        omega
      unfold CoreR
      rw [hao (20 + i) (by omega) (by omega), hao (30 + i) (by omega) (by omega)]
      have s1 : zst (uSer u F) i = zst u i := va_up_ne _ _ hi2
      have s2 : zln (uSer u F) i = zln u i := va_up_ne _ _ hi2
      have s3 : zev (uSer u F) i = zev u i := va_up_ne _ _ hi2
      rw [s1, s2, s3]
      exact ⟨k _ _ _ (hR i hi3).1 (by omega) (by omega), k _ _ _ (hR i hi3).2 (by omega) (by omega)⟩
  · have hj2 : j < zmn u := hj
    have := hO.2.2.2.2.1
    exact (hM j hj2).ser hO hj2 (fun r h1 h2 => hao r (by omega) (by omega)) (by omega) (fun b r e hb hr2 => k b r e hb (by omega) (by omega))
  · obtain ⟨⟨q5, s5⟩, ⟨q6, s6⟩, ⟨q7, s7⟩, ⟨f, s9⟩, sg⟩ := hs
    refine ⟨⟨q5, ?_⟩, ⟨q6, ?_⟩, ⟨q7, ?_⟩, ⟨f, ?_⟩, fun i hi => ?_⟩
    · rw [hao 5 (by omega) (by omega)]; exact k _ _ _ s5 (by decide) (by decide)
    · rw [hao 6 (by omega) (by omega)]; exact k _ _ _ s6 (by decide) (by decide)
    · rw [hao 7 (by omega) (by omega)]; exact k _ _ _ s7 (by decide) (by decide)
    · rw [hao 9 (by omega) (by omega)]; exact k _ _ _ s9 (by decide) (by decide)
    · obtain ⟨g, hg⟩ := sg i hi
      refine ⟨g, ?_⟩
      rw [hao (10 + i) (by omega) (by omega)]
      exact k _ _ _ hg (by omega) (by omega)
end ZO
