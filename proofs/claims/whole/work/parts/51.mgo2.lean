section ZY
theorem x_cutH {p : Program} {l : Launch} {e : Env} {R : Room} {s : State} {m : MethodId} {args : Array Value} {below : List Frame} {meth : Method} {c : Code} {H : Heap} {locs : List Loc} {Q : State → Prop} {g : JFrame} {ls : Array Slot} {G : xG} {M : xM} (J : Nat) (rest : List Value) (P : Int32 → Prop)
    (kk : ∀ (v : Int32) (H : Heap) (locs : List Loc), P v → xh G M H → va_S (xF G) s.heap H locs → W p l e R s m args below meth c H locs 0 0 Q (F0 m J ls (.int v :: rest))) (h : (∀ (v : Int32) (H : Heap) (locs : List Loc), P v → xh G M H → va_S (xF G) s.heap H locs → W p l e R s m args below meth c H locs 0 0 Q (F0 m J ls (.int v :: rest))) → W p l e R s m args below meth c H locs 0 0 Q g) : W p l e R s m args below meth c H locs 0 0 Q g := h kk
def xN (M M' : xM) : Prop := ∀ (a r : Nat) (e : va_E), M a = some (r, e) → (r < 100 ∨ 109 ≤ r) → M' a = some (r, e)
def xL (M M' : xM) : Prop := ∀ (a r : Nat) (e : va_E), M a = some (r, e) → (r < 100 ∨ 112 ≤ r) → M' a = some (r, e)
theorem xN.refl {M : xM} : xN M M := fun _ _ _ h _ => h
theorem xN.put {M M1 M2 : xM} {a r : Nat} {e : va_E} {x : Option (Nat × va_E)} (h : xN M M1) (ha : M1 a = some (r, e)) (hm : M2 = va_up M1 a x) (h1 : 100 ≤ r) (h2 : r ≤ 108) : xN M M2 := fun b r9 e9 hb n1 => xw_upE hm (h b r9 e9 hb n1) ha (by omega)
theorem xN.trans {M M1 M2 : xM} (h : xN M M1) (h2 : xN M1 M2) : xN M M2 := fun b r9 e9 hb n1 => h2 b r9 e9 (h b r9 e9 hb n1) n1
theorem xN.L {M M1 : xM} (h : xN M M1) : xL M M1 := fun b r9 e9 hb n1 => h b r9 e9 hb (by omega)
theorem xL.trans {M M1 M2 : xM} (h : xL M M1) (h2 : xL M1 M2) : xL M M2 := fun b r9 e9 hb n1 => h2 b r9 e9 (h b r9 e9 hb n1) n1
theorem xL.put {M M1 M2 : xM} {a r : Nat} {e : va_E} {x : Option (Nat × va_E)} (h : xL M M1) (ha : M1 a = some (r, e)) (hm : M2 = va_up M1 a x) (h1 : 100 ≤ r) (h2 : r ≤ 111) : xL M M2 := fun b r9 e9 hb n1 => xw_upE hm (h b r9 e9 hb n1) ha (by omega)
theorem MoS.n {G : xG} {M M' : xM} {ad : Nat → Nat} (h : MoS G M ad) (hn : xN M M') : MoS G M' ad := by
  obtain ⟨⟨f, h1⟩, ⟨g, h2⟩, k, h3⟩ := h
  exact ⟨⟨f, hn _ _ _ h1 (by omega)⟩, ⟨g, hn _ _ _ h2 (by omega)⟩, k, hn _ _ _ h3 (by omega)⟩
def MoD (G : xG) (M : xM) (ad : Nat → Nat) (u : zS) (th : Int32) : Prop := ∃ (q : z5) (X : zX), M (ad 100) = some (100, eMo ad u th q) ∧ MoA G M ad X ∧ MoR u X ∧ MoS G M ad
def MoU (G : xG) (M : xM) (ad : Nat → Nat) (u : zS) (f : zR) (v : Int32) (M' : xM) : Prop := (∃ (q : z5) (X : zX), M' (ad 100) = some (100, eMo ad u (nI f.1) q) ∧ MoA G M' ad X ∧ MoR u X) ∧ xN M M' ∧ (f.1 = 0 → v = f.2)
theorem MoPost.U {G : xG} {M M' : xM} {ad : Nat → Nat} {u : zS} {f : zR} {v : Int32} {e : va_E} {X : zX} (h : MoPost M ad u f v M') (ho : M (ad 100) = some (100, e)) (hA : MoA G M ad X) (hX : MoR u X) : MoU G M ad u f v M' := by
  obtain ⟨⟨q, hm⟩, h2⟩ := h
  exact ⟨⟨q, X, xw_atE hm, hA.up ho hm, hX⟩, xN.refl.put ho hm (by omega) (by omega), h2⟩
theorem MoU.D {G : xG} {M M' : xM} {ad : Nat → Nat} {u : zS} {f : zR} {v : Int32} (h : MoU G M ad u f v M') (hs : MoS G M ad) : MoD G M' ad u (nI f.1) ∧ xL M M' ∧ (f.1 = 0 → v = f.2) := by
  obtain ⟨⟨q, X, h1, h2, h3⟩, h4, h5⟩ := h
  exact ⟨⟨q, X, h1, h2, h3, hs.n h4⟩, h4.L, h5⟩
theorem g_cd {a b d : Int32} {f : Nat} (hg : zGo a b d = nI f) (hf : f = 0) : ¬ a = 0 ∧ ¬ b = 0 ∧ ¬ d = 0 := by
  rw [hf] at hg
  exact zGo_0.mp hg
theorem MoR.ring {u : zS} {X : zX} (h : MoR u X) (w : Int32) : MoR (uRing u w) (upd (mPd X) (zpn u) w, X.2) := by
  obtain ⟨h1, h2⟩ := h
  refine ⟨fun k hk => ?_, h2⟩
  show upd (mPd X) (zpn u) w k = upd (zpd u) (zpn u) w k
  by_cases h9 : k = zpn u
  · subst h9
    rw [pk_us, pk_us]
  · rw [pk_un h9, pk_un h9]
    have : k < zpn u + 1 := hk
    exact h1 k (by omega)
theorem MoR.place {u : zS} {X : zX} (h : MoR u X) {x : Int32} {i : Nat} (ei : i = x.toNatClampNeg) (hi : i < zrn u) (y : Int32) : MoR (uPlace u x y) (mPd X, mSz X, mEv X, upd (mPl X) i y, X.2.2.2.2) := by
  obtain ⟨h1, h2, h3, h4⟩ := h
  refine ⟨h1, fun k hk => ⟨(h2 k hk).1, (h2 k hk).2.1, ?_⟩, fun k hk h9 => ?_, h4⟩
  · show upd (mPl X) i y k = upd (zst u) x.toNatClampNeg y k
    rw [← ei]
    by_cases h9 : k = i
    · subst h9
      rw [pk_us, pk_us]
    · rw [pk_un h9, pk_un h9]
      exact (h2 k hk).2.2
  · show upd (mPl X) i y k = -1
    have hk2 : zrn u ≤ k := hk
    rw [pk_un (by omega)]
    exact h3 k hk h9
theorem MoR.sap {u : zS} {X : zX} (h : MoR u X) {x : Int32} {i : Nat} (ei : i = x.toNatClampNeg) (w : Int32) : MoR (uSap u x w) (mPd X, mSz X, mEv X, mPl X, mLy X, mFi X, mLa X, upd (mWt X) i w) := by
  obtain ⟨h1, h2, h3, h4, h5⟩ := h
  refine ⟨h1, h2, h3, h4, fun k hk => ?_⟩
  show upd (mWt X) i w k = upd (zwt u) x.toNatClampNeg w k
  rw [← ei]
  by_cases h9 : k = i
  · subst h9
    rw [pk_us, pk_us]
  · rw [pk_un h9, pk_un h9]
    exact h5 k hk
theorem z_60 {x : Int32} (h : ¬ x < 0 ∧ ¬ 60 < x) : ∃ i : Nat, i = x.toNatClampNeg ∧ i < 61 ∧ x = nI i := z_in (n := 61) ⟨h.1, fun h9 => by
  have h1 := z_le0.mp h9
  have h2 := z_le0.mp (Int32.not_lt.mp h.2)
  have e1 : (nI 61).toInt = 61 := rfl
  have e2 : (60 : Int32).toInt = 60 := rfl
  omega⟩ (by omega)
abbrev cLo (u : zS) (m x : Int32) : Prop := zIn m (zmn u) ∧ zIn x (zrn u) ∧ zms u m.toNatClampNeg x.toNatClampNeg ≠ -1
abbrev cLeft (u : zS) (m x w : Int32) : Prop := cLo u m x ∧ zWh w
theorem g_left {u : zS} (hO : zOk u) (m x w : Int32) : zGo (zBo (cLeft u m x w)) 1 1 = nI (fLeft u m x w).1 := by
  unfold fLeft
  by_cases h1 : zIn m (zmn u)
  · rw [if_pos h1]
    obtain ⟨j, ej, hj, -⟩ := z_in h1 (by have := hO.2.2.2.2.1; omega)
    by_cases h2 : zWh w
    · rw [if_pos h2]
      have hiff : (zIn x (zrn u) ∧ zms u m.toNatClampNeg x.toNatClampNeg ≠ -1) ↔ (zIn x 10 ∧ zms u m.toNatClampNeg x.toNatClampNeg ≠ -1) := by
        constructor
        · intro ⟨a, b⟩
          refine ⟨⟨a.1, fun h9 => a.2 ?_⟩, b⟩
          have h8 := z_le0.mp h9
          rw [z_le0, nI_toInt (by have := hO.2.2.1; omega)]
          rw [nI_toInt (by omega)] at h8
          have := hO.2.2.1
          omega
        · intro ⟨a, b⟩
          refine ⟨?_, b⟩
          obtain ⟨i, ei, hi, exi⟩ := z_in a (by omega)
          rw [← ej, ← ei] at b
          have h9 := ((hO.2.2.2.2.2.1 j hj).1 i hi).2 b
          refine ⟨a.1, fun h8 => ?_⟩
          rw [exi] at h8
          have h7 := (nI_leI (by have := hO.2.2.1; omega) (by omega)).mp h8
          omega
      by_cases h3 : zIn x 10 ∧ zms u m.toNatClampNeg x.toNatClampNeg ≠ -1
      · rw [if_pos h3, zBo_t ⟨⟨h1, hiff.mpr h3⟩, h2⟩]; rfl
      · rw [if_neg h3, zBo_f (fun h => h3 (hiff.mp h.1.2))]; rfl
    · rw [if_neg h2, zBo_f (fun h => h2 h.2)]; rfl
  · rw [zBo_f (fun h => h1 h.1.1), if_neg h1]; rfl
end ZY
