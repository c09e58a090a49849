section XL
theorem x_metH {l : Launch} {y : MethodName} {cc : ByteArray} {maxL : Nat} {ret : Option FieldType} {hh : List (Nat × Nat × Nat × Nat)} {rm : Room} {G : xG} {av : List Value} {M : xM} {Qc : Array Value → State → Outcome → State → Prop} {mc ms : Nat} (hy : plainName y.cls = true) (hav : (lg_sl av).length ≤ maxL)
    (body : ∀ p e s m below meth c ls, xE p s m av.toArray meth c cc ret maxL y.cls → c.exceptionTable.toList = tableOf hh → lv_has ls maxL (lv_args 0 av) → xh G M s.heap → KX G s → va_S (xF G) s.heap s.heap [] → W p l e rm s m av.toArray below meth c s.heap [] 0 0 (MQ below Qc av.toArray s mc ms (xF G)) (F0 m 0 ls [])) :
    Met l y (.codeWith y cc maxL ret hh :: wW) rm (xP G av M) Qc mc ms (xF G) := by
  refine MetFree.of_bodyS (code := cc) (maxLocals := maxL) (ret := ret) hy ?_ ?_
  · intro args s m h hn
    obtain ⟨m9, meth, c, hn9, h1, h2, h3, h4, -, h5, h6, -⟩ := Cond.codeWith_spec (atoms_spec (ws := Cond.codeWith y cc maxL ret hh :: wW) h _ List.mem_cons_self)
    cases hn.symm.trans hn9
    exact ⟨meth, c, h1, h2, h3, h4, h5, h6⟩
  · intro p e s m args below meth c s₁ B hml hP _
    have hh0 : s₁.heap = s.heap := by rw [B.state]; rfl
    obtain ⟨rfl, hM, hK⟩ := hP
    have hts := atoms_spec (ws := Cond.codeWith y cc maxL ret hh :: wW) B.pre
    have htab : c.exceptionTable.toList = tableOf hh := vx_table (x := y) B (hts _ List.mem_cons_self)
    have K : W p l e (headSpec (Cond.codeWith y cc maxL ret hh :: wW) rm).room s m av.toArray below meth c s.heap [] 0 0 (MQ below Qc av.toArray s mc ms (xF G)) (entryFrame m av.toArray maxL) := by
      rw [lg_entry_eq]
      exact body p e s m below meth c _ ⟨B.exec, B.bytes, B.returns, hml, findClass_of_methodNamed B.named, fun w h => hts w (List.mem_cons_of_mem _ h), B.notSynchronized⟩ htab (lv_entry av hav) hM hK va_S.rf
    obtain ⟨t, a1, o, b1, b2, b3⟩ := K s₁ hh0 (Stand.of_body B)
    exact ⟨t, o, a1, b1, b2, ⟨b3.1, b3.2⟩⟩
abbrev eL (G : xG) (fo : Nat → Int64) : va_E := .inl (gJ G, 1, .inr (.inl fo))
def LPo (G : xG) (M : xM) (ad : Nat → Nat) (og : Nat) (u : zS) (f : zR) (k : Int32) (M' : xM) : Prop := k = nI f.1 ∧ (∃ ad' : Nat → Nat, ad' 0 = ad 0 ∧ Core G M' ad' u ∧ Scr G M' ad') ∧ (∀ (a r : Nat) (e : va_E), M a = some (r, e) → 100 ≤ r → r ≠ 200 → M' a = some (r, e)) ∧ ∃ fo : Nat → Int64, M' og = some (200, eL G fo) ∧ (f.1 = 0 → fo 0 = f.2.toInt64)
theorem LPo.thr {G : xG} {M : xM} {ad : Nat → Nat} {og : Nat} {u : zS} {f : zR} {k : Int32} {fo : Nat → Int64} {n : Nat} (hC : Core G M ad u) (hs : Scr G M ad) (hg : M og = some (200, eL G fo)) (hf : f = (n, 0)) (hk : k = nI n) (hn : ¬ n = 0) : LPo G M ad og u f k M := by
  subst hf
  exact ⟨hk, ⟨ad, rfl, hC, hs⟩, fun _ _ _ h _ _ => h, fo, hg, fun h9 => absurd h9 hn⟩
theorem Core.o200 {G : xG} {M M' : xM} {ad : Nat → Nat} {u : zS} (h : Core G M ad u) (hO : zOk u) (hk : xOff 200 M M') : Core G M' ad u := by
  have h10 := hO.2.2.1
  have h8 := hO.2.2.2.2.1
  obtain ⟨h0, h1, h2, h3, h4, h5, hR, hM⟩ := h
  refine ⟨hk _ _ _ h0 (by omega), hk _ _ _ h1 (by omega), hk _ _ _ h2 (by omega), hk _ _ _ h3 (by omega), hk _ _ _ h4 (by omega), hk _ _ _ h5 (by omega), fun i hi => ⟨hk _ _ _ (hR i hi).1 (by omega), hk _ _ _ (hR i hi).2 (by omega)⟩, fun j hj => ?_⟩
  obtain ⟨m1, m2, V, D, m3, m4, m5⟩ := hM j hj
  exact ⟨hk _ _ _ m1 (by omega), hk _ _ _ m2 (by omega), V, D, hk _ _ _ m3 (by omega), hk _ _ _ m4 (by omega), m5⟩
theorem LPo.ok {G : xG} {M M1 M2 : xM} {ad ad' : Nat → Nat} {og : Nat} {u : zS} {f : zR} {v : Int32} {w : Int64} {fo : Nat → Int64} (hf : f = (0, v)) (hw : w = v.toInt64) (had : ad' 0 = ad 0) (hC : Core G M1 ad' u) (hO : zOk u) (hs : Scr G M1 ad') (hk : xK100 M M1) (hg : M1 og = some (200, eL G fo)) (e : M2 = va_up M1 og (some (200, eL G (vp_updL fo 0 w)))) : LPo G M ad og u f 0 M2 := by
  subst hf
  have ho : xOff 200 M1 M2 := by rw [e]; exact xOff.up hg
  refine ⟨rfl, ⟨ad', had, hC.o200 hO ho, hs.off ho rfl⟩, fun a r e9 h h1 h2 => ho _ _ _ (hk _ _ _ h h1) h2, _, xw_atE e, fun _ => ?_⟩
  show vp_updL fo 0 w 0 = v.toInt64
  rw [← hw]
  simp [vp_updL]
theorem xK100.refl {M : xM} : xK100 M M := fun _ _ _ h _ => h
theorem z_in0 {x : Int32} {n : Nat} (h : x.toNatClampNeg < n ∧ 0 ≤ x.toInt) (hn : n < 2 ^ 31) : zIn x n := by
  have e0 : (0 : Int32).toInt = 0 := rfl
  have e1 : x.toNatClampNeg = x.toInt.toNat := rfl
  refine ⟨by rw [z_lt0, e0]; omega, ?_⟩
  rw [z_le0, nI_toInt hn]
  omega
theorem zOk.ring {u : zS} (h : zOk u) {w : Int32} (hp : zpn u < 30) (hw : ¬ (w < 1 ∨ 900 < w)) : zOk (uRing u w) := by
  obtain ⟨h1, h2, h3⟩ := h
  refine ⟨show zpn u + 1 ≤ 30 by omega, fun i hi => ?_, h3⟩
  show inR (upd (zpd u) (zpn u) w i) 1 900
  by_cases h9 : i = zpn u
  · rw [h9, pk_us]
    have e1 : (1 : Int32).toInt = 1 := rfl
    have e2 : (900 : Int32).toInt = 900 := rfl
    rw [z_lt0, z_lt0, e1, e2] at hw
    exact ⟨by omega, by omega⟩
  · rw [pk_un h9]
    have hi : i < zpn u + 1 := hi
    exact h2 i (by omega)
theorem zOk.place {u : zS} (h : zOk u) {x y : Int32} (hw : ¬ (y < -1 ∨ 500 < y)) : zOk (uPlace u x y) := by
  obtain ⟨h1, h2, h3, h4, h5⟩ := h
  refine ⟨h1, h2, h3, fun i hi => ?_, h5⟩
  obtain ⟨a, b, c, d⟩ := h4 i hi
  refine ⟨a, b, c, ?_⟩
  show inR (upd (zst u) x.toNatClampNeg y i) (-1) 500
  by_cases h9 : i = x.toNatClampNeg
  · rw [h9, pk_us]
    have e1 : (-1 : Int32).toInt = -1 := rfl
    have e2 : (500 : Int32).toInt = 500 := rfl
    rw [z_lt0, z_lt0, e1, e2] at hw
    exact ⟨by omega, by omega⟩
  · rw [pk_un h9]
    exact d
theorem zOk.sap {u : zS} (h : zOk u) {x w : Int32} (hw : ¬ (w < 0 ∨ 10000 < w)) : zOk (uSap u x w) := by
  obtain ⟨h1, h2, h3, h4, h5, h6, h7⟩ := h
  refine ⟨h1, h2, h3, h4, h5, h6, fun i hi => ?_⟩
  show inR (upd (zwt u) x.toNatClampNeg w i) 0 10000
  by_cases h9 : i = x.toNatClampNeg
  · rw [h9, pk_us]
    have e1 : (0 : Int32).toInt = 0 := rfl
    have e2 : (10000 : Int32).toInt = 10000 := rfl
    rw [z_lt0, z_lt0, e1, e2] at hw
    exact ⟨by omega, by omega⟩
  · rw [pk_un h9]
    exact h7 i hi
theorem zEvn_in {u : zS} (h : zOk u) (hp : 3 ≤ zpn u) {k : Nat} (hk : k < zpn u) : inR (zEvn (zpd u) (zpn u) k) 0 400 := by
  obtain ⟨t, e, h1, h2⟩ := zTot_in (zpn u) h.2.1
  obtain ⟨a, ea, ha, -⟩ := z_nat (⟨by have := (h.2.1 k hk).1; omega, (h.2.1 k hk).2⟩ : inR (zpd u k) 0 900)
  have hp30 := h.1
  unfold zEvn
  have e1 : (100 : Int32) * zpd u k * nI (zpn u) = nI (100 * a * zpn u) := by rw [ea, show (100 : Int32) = nI 100 from rfl, pk_mul, pk_mul]
  have hm : 100 * a * zpn u ≤ 100 * 900 * 30 := Nat.mul_le_mul (by omega) hp30
  obtain ⟨qn, hqn⟩ : ∃ z : Nat, z = 100 * a * zpn u / t := ⟨_, rfl⟩
  have hq : qn ≤ 100 * a * zpn u := by rw [hqn]; exact Nat.div_le_self _ _
  have e2 : (nI (100 * a * zpn u) / nI t).toInt = (qn : Int) := by
    rw [Int32.toInt_div, nI_toInt (by omega), nI_toInt (by omega), ← Int.ofNat_tdiv, ← hqn, Int.bmod_eq_of_le (by omega) (by omega)]
  rw [e1, e]
  unfold zMin
  have e4 : (400 : Int32).toInt = 400 := rfl
  split
  · rename_i h9
    rw [z_lt0, e2, e4] at h9
    exact ⟨by rw [e2]; omega, by rw [e2]; omega⟩
  · exact ⟨by decide, by decide⟩
theorem zOk.ser {u : zS} (h : zOk u) {F : Nat → Int32} (hr : zrn u < 10) (hp : 3 ≤ zpn u) (hF : ∀ k, k < zpn u → F k = zEvn (zpd u) (zpn u) k) : zOk (uSer u F) := by
  have hE : ∀ k, k < zpn u → inR (F k) 0 400 := fun k hk => by rw [hF k hk]; exact zEvn_in h hp hk
  obtain ⟨h1, h2, h3, h4, h5, h6, h7⟩ := h
  refine ⟨Nat.zero_le _, fun i hi => absurd hi (Nat.not_lt_zero i), show zrn u + 1 ≤ 10 by omega, fun i hi => ?_, h5, fun j hj => ?_, h7⟩
  · by_cases h9 : i = zrn u
    · subst h9
      have s1 : zst (uSer u F) (zrn u) = -1 := va_up_self _ _ _
      have s2 : zln (uSer u F) (zrn u) = zpn u := va_up_self _ _ _
      have s3 : zev (uSer u F) (zrn u) = F := va_up_self _ _ _
      rw [s1, s2, s3]
      exact ⟨hp, h1, hE, ⟨by decide, by decide⟩⟩
    · have s1 : zst (uSer u F) i = zst u i := va_up_ne _ _ h9
      have s2 : zln (uSer u F) i = zln u i := va_up_ne _ _ h9
      have s3 : zev (uSer u F) i = zev u i := va_up_ne _ _ h9
      rw [s1, s2, s3]
      have hi : i < zrn u + 1 := hi
      exact h4 i (by omega)
  · obtain ⟨a, b⟩ := h6 j hj
    refine ⟨fun i hi => ⟨(a i hi).1, fun h9 => ?_⟩, b⟩
    have := (a i hi).2 h9
    show i < zrn u + 1
    omega
theorem zMk_ne {b : Nat → Int32} : ∀ n, ¬ zMk b n = 0 → ∃ i, i < n ∧ b i ≠ -1
  | 0, h => absurd rfl h
  | n + 1, h => by
    by_cases h1 : b n = -1
    · have h2 : ¬ zMk b n = 0 := fun h9 => h (by show (if b n = -1 then zMk b n else _) = 0; rw [if_pos h1]; exact h9)
      obtain ⟨i, h3, h4⟩ := zMk_ne n h2
      exact ⟨i, by omega, h4⟩
    · exact ⟨n, by omega, h1⟩
theorem zOk.mas9 {u : zS} (h : zOk u) {B : Nat → Int32} {st : Int32} (hm : zmn u < 8) (hB : ∀ i, i < 10 → B i = zB u st i) (hn : ¬ zMk (zB u st) (zrn u) = 0) : zOk (uMas u B) := by
  have hz := zB_in h st
  have h0 := h
  obtain ⟨h1, h2, h3, h4, h5, h6, h7⟩ := h
  refine ⟨h1, h2, h3, h4, show zmn u + 1 ≤ 8 by omega, fun j hj => ?_, h7⟩
  by_cases h9 : j = zmn u
  · subst h9
    have s1 : zms (uMas u B) (zmn u) = B := va_up_self _ _ _
    rw [s1]
    refine ⟨fun i hi => ?_, ?_⟩
    · rw [hB i hi]
      exact ⟨(hz i).1, fun h8 => ((hz i).2 h8).1⟩
    · obtain ⟨i, a, b⟩ := zMk_ne _ hn
      exact ⟨i, by omega, by rw [hB i (by omega)]; exact b⟩
  · have s1 : zms (uMas u B) j = zms u j := va_up_ne _ _ h9
    rw [s1]
    have hj : j < zmn u + 1 := hj
    exact h6 j (by omega)
theorem zOk_0 : zOk u0 := ⟨Nat.zero_le _, fun i hi => absurd hi (Nat.not_lt_zero i), Nat.zero_le _, fun i hi => absurd hi (Nat.not_lt_zero i), Nat.zero_le _, fun i hi => absurd hi (Nat.not_lt_zero i), fun i _ => (show inR 0 0 10000 from ⟨by decide, by decide⟩)⟩
theorem fAgr_01 (u : zS) (x st w : Int32) : (fAgr u x st w).2 = 0 ∨ (fAgr u x st w).2 = 1 := by
  have h : ∀ o, zAnsA o = 0 ∨ zAnsA o = 1 := fun o => by
    cases o with
    | none => exact Or.inl rfl
    | some c =>
      show (if c = -1000 then (0 : Int32) else 1) = 0 ∨ (if c = -1000 then (0 : Int32) else 1) = 1
      split
      · exact Or.inl rfl
      · exact Or.inr rfl
  unfold fAgr
  split
  · split
    · exact Or.inl rfl
    · split
      · exact h _
      · exact Or.inl rfl
  · exact Or.inl rfl
theorem fSame_01 (u : zS) (x y : Int32) : (fSame u x y).2 = 0 ∨ (fSame u x y).2 = 1 := by
  unfold fSame
  split
  · split
    · show (if _ then (0 : Int32) else if _ then 0 else 1) = 0 ∨ (if _ then (0 : Int32) else if _ then 0 else 1) = 1
      split
      · exact Or.inl rfl
      · split
        · exact Or.inl rfl
        · exact Or.inr rfl
    · exact Or.inl rfl
  · exact Or.inl rfl
end XL
