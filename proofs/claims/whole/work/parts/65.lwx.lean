section XV
variable {p : Program} {l : Launch} {e : Env} {R : Room} {s : State} {m : MethodId} {args : Array Value} {below : List Frame} {meth : Method} {c : Code} {H : Heap} {locs : List Loc} {cells slots : Nat} {Q : State → Prop}
variable {cc : ByteArray} {pc nL : Nat} {ls : Array Slot} {rest st0 : List Value} {M : xM} {H0 : Heap} {G : xG} {own : String} {mret : Option FieldType}
variable {y : MethodName} {bytes : ByteArray} {maxL index mc ms : Nat} {ret : Option FieldType} {rm : Room} {As : List Value} {b : Nat} {hh : List (Nat × Nat × Nat × Nat)} {A : Nat → Prop}
theorem x_sld (hexec : p.tables.exec = Jvm.exec) (hb : c.code = cc) {L : Nat} {xs : Nat → Int32} (hX : va_X b L xs s H0) (hbl : b < H0.size) (hbA : ¬ A b) (hS : va_S A H0 H locs) {i : Int32} {j : Nat} (hi : i = nI j) (hj : j < L) (hL : L < 2 ^ 31) (hdg : decode cc pc = .ok (.iaload, 1))
    (kk : W p l e R s m args below meth c H locs cells slots Q (F0 m (pc + 1) ls (.int (xs j) :: rest))) : W p l e R s m args below meth c H locs cells slots Q (F0 m pc ls (.int i :: .ref b :: rest)) := by
  subst hi
  refine va_sld hexec hb hX hbl hbA hS (vp_in_nI hj hL) hdg ?_
  rw [nI_clamp (by omega)]
  exact kk
theorem gi_SW (h1 : Cond.methodLink own index y ∈ wW) (h2 : Cond.static y ∈ wW) (h4 : Cond.initialized y.cls ∈ wW) (h5 : Cond.codeWith y bytes maxL ret hh ∈ wW) : GoodIn wW (va_wsS own index y (.codeWith y bytes maxL ret hh :: wW)) := by
  refine gi_w fun w hw => ?_
  simp only [va_wsS, List.mem_append, List.mem_cons, List.not_mem_nil, or_false] at hw
  rcases hw with (rfl | rfl | rfl) | rfl | hw <;> assumption
theorem x_runSW {Qc : Array Value → State → Outcome → State → Prop} (hE : xE p s m args meth c cc mret nL own) (hK : KX G s) (hM : xh G M H) (hsz : ls.size = nL) (cm : Met l y (.codeWith y bytes maxL ret hh :: wW) rm (xP G As M) Qc mc ms (xF G))
    (h1 : Cond.methodLink own index y ∈ wW) (h2 : Cond.static y ∈ wW) (h4 : Cond.initialized y.cls ∈ wW) (h5 : Cond.codeWith y bytes maxL ret hh ∈ wW)
    (nA : Nat) (hA : As.length = nA) (hrc : rm.cells = mc) (hrs : rm.slots = ms) (hd : y.cls ≠ "java/lang/invoke/MethodHandle" ∧ y.cls ≠ "java/lang/invoke/VarHandle" ∧ (parseMethodDescriptor y.desc).map (fun d => d.parameters.length) = some nA)
    (hR : rm.frames + 1 ≤ R.frames ∧ 8 + (maxL + 11) + rm.locals ≤ R.locals) (hst : st0 = As.reverse ++ rest) (hro : (rest.map fun v => v.category).sum ≤ 8) (hdg : decode cc pc = .ok (.invokestatic index, 3)) (hf : cells + mc ≤ R.cells ∧ slots + ms ≤ R.slots) :
    va_Run p l e R s m args below meth c H locs cells slots mc ms (F0 m pc ls st0) rest (Qc As.toArray) (xF G) := by
  obtain ⟨hx, hbb, hr, hml, hown, hw, hlocks⟩ := hE
  exact vx_runSW ⟨hx, hbb, hml, hown, hw⟩ cm (vx_cwSW nA hw (gi_SW h1 h2 h4 h5) rfl hrc hrs hd hR) (xP.S hK hM) rfl hA hsz hst (lv_room hro) hdg hf
end XV
section XY
abbrev xH (M M' : xM) : Prop := ∀ (a r : Nat) (e : va_E), M a = some (r, e) → 100 ≤ r → r ≠ 200 → M' a = some (r, e)
theorem MoD.k {G : xG} {M M' : xM} {ad : Nat → Nat} {u : zS} {th : Int32} (h : MoD G M ad u th) (hk : xH M M') : MoD G M' ad u th := by
  obtain ⟨q, X, h0, ⟨h1, h2, h3, h4, h5, h6, h7, h8⟩, hR, ⟨f, s1⟩, ⟨g, s2⟩, k, s3⟩ := h
  exact ⟨q, X, hk _ _ _ h0 (by omega) (by omega), ⟨hk _ _ _ h1 (by omega) (by omega), hk _ _ _ h2 (by omega) (by omega), hk _ _ _ h3 (by omega) (by omega), hk _ _ _ h4 (by omega) (by omega), hk _ _ _ h5 (by omega) (by omega), hk _ _ _ h6 (by omega) (by omega), hk _ _ _ h7 (by omega) (by omega), hk _ _ _ h8 (by omega) (by omega)⟩, hR, ⟨f, hk _ _ _ s1 (by omega) (by omega)⟩, ⟨g, hk _ _ _ s2 (by omega) (by omega)⟩, k, hk _ _ _ s3 (by omega) (by omega)⟩
theorem Core.l {G : xG} {M M' : xM} {ad : Nat → Nat} {u : zS} (h : Core G M ad u) (hO : zOk u) (hk : xL M M') : Core G M' ad u := by
  have h10 := hO.2.2.1
  have h8 := hO.2.2.2.2.1
  obtain ⟨h0, h1, h2, h3, h4, h5, hR, hM⟩ := h
  refine ⟨hk _ _ _ h0 (by omega), hk _ _ _ h1 (by omega), hk _ _ _ h2 (by omega), hk _ _ _ h3 (by omega), hk _ _ _ h4 (by omega), hk _ _ _ h5 (by omega), fun i hi => ⟨hk _ _ _ (hR i hi).1 (by omega), hk _ _ _ (hR i hi).2 (by omega)⟩, fun j hj => ?_⟩
  obtain ⟨m1, m2, V, D, m3, m4, m5⟩ := hM j hj
  exact ⟨hk _ _ _ m1 (by omega), hk _ _ _ m2 (by omega), V, D, hk _ _ _ m3 (by omega), hk _ _ _ m4 (by omega), m5⟩
theorem Scr.l {G : xG} {M M' : xM} {ad : Nat → Nat} (h : Scr G M ad) (hk : xL M M') : Scr G M' ad := by
  obtain ⟨⟨q5, h5⟩, ⟨q6, h6⟩, ⟨q7, h7⟩, ⟨f, h9⟩, hg⟩ := h
  refine ⟨⟨q5, hk _ _ _ h5 (by omega)⟩, ⟨q6, hk _ _ _ h6 (by omega)⟩, ⟨q7, hk _ _ _ h7 (by omega)⟩, ⟨f, hk _ _ _ h9 (by omega)⟩, fun i hi => ?_⟩
  obtain ⟨q, hq⟩ := hg i hi
  exact ⟨q, hk _ _ _ hq (by omega)⟩
def LI (G : xG) (M : xM) (ob og : Nat) (bd : Nat → Nat) (u : zS) : Prop := zOk u ∧ (∃ ad : Nat → Nat, ad 0 = ob ∧ Core G M ad u ∧ Scr G M ad) ∧ (∃ th : Int32, MoD G M bd u th) ∧ ∃ fo : Nat → Int64, M og = some (200, eL G fo)
/-- what stands behind the class's call and the reference's -/
def LJ (G : xG) (M : xM) (ob og : Nat) (bd : Nat → Nat) (u : zS) (f : zR) (k v : Int32) : Prop := zOk u ∧ k = nI f.1 ∧ (∃ ad : Nat → Nat, ad 0 = ob ∧ Core G M ad u ∧ Scr G M ad) ∧ MoD G M bd u (nI f.1) ∧ (f.1 = 0 → v = f.2) ∧ ∃ fo : Nat → Int64, M og = some (200, eL G fo) ∧ (f.1 = 0 → fo 0 = f.2.toInt64)
theorem LJ.of {G : xG} {M M1 M2 : xM} {ad bd : Nat → Nat} {og : Nat} {u : zS} {f : zR} {k v : Int32} (h1 : LPo G M ad og u f k M1) (hO : zOk u) (h2 : MoD G M2 bd u (nI f.1) ∧ xL M1 M2 ∧ (f.1 = 0 → v = f.2)) : LJ G M2 (ad 0) og bd u f k v := by
  obtain ⟨a1, ⟨ad', a2, a3, a4⟩, a5, fo, a6, a7⟩ := h1
  obtain ⟨b1, b2, b3⟩ := h2
  exact ⟨hO, a1, ⟨ad', a2, a3.l hO b2, a4.l b2⟩, b1, b3, fo, b2 _ _ _ a6 (by omega), a7⟩
theorem LJ.I {G : xG} {M : xM} {ob og : Nat} {bd : Nat → Nat} {u : zS} {f : zR} {k v : Int32} (h : LJ G M ob og bd u f k v) : LI G M ob og bd u := by
  obtain ⟨a1, a2, a3, a4, a5, fo, a6, a7⟩ := h
  exact ⟨a1, a3, ⟨_, a4⟩, fo, a6⟩
theorem z_tab17 {k : Int32} (h0 : ¬ k = 0) (h1 : ¬ k = 1) (h2 : ¬ k = 2) (h3 : ¬ k = 3) (h4 : ¬ k = 4) (h5 : ¬ k = 5) (h6 : ¬ k = 6) (h7 : ¬ k = 7) (h8 : ¬ k = 8) (h9 : ¬ k = 9) (h10 : ¬ k = 10) (h11 : ¬ k = 11) (h12 : ¬ k = 12) (h13 : ¬ k = 13) (h14 : ¬ k = 14) (h15 : ¬ k = 15) (h16 : ¬ k = 16) : k.toInt < 0 ∨ 16 < k.toInt := by
  have e : ∀ n : Int32, ¬ k = n → k.toInt ≠ n.toInt := fun n h h9 => h (Int32.toInt_inj.mp h9)
  have a0 : k.toInt ≠ 0 := e 0 h0
  have a1 : k.toInt ≠ 1 := e 1 h1
  have a2 : k.toInt ≠ 2 := e 2 h2
  have a3 : k.toInt ≠ 3 := e 3 h3
  have a4 : k.toInt ≠ 4 := e 4 h4
  have a5 : k.toInt ≠ 5 := e 5 h5
  have a6 : k.toInt ≠ 6 := e 6 h6
  have a7 : k.toInt ≠ 7 := e 7 h7
  have a8 : k.toInt ≠ 8 := e 8 h8
  have a9 : k.toInt ≠ 9 := e 9 h9
  have a10 : k.toInt ≠ 10 := e 10 h10
  have a11 : k.toInt ≠ 11 := e 11 h11
  have a12 : k.toInt ≠ 12 := e 12 h12
  have a13 : k.toInt ≠ 13 := e 13 h13
  have a14 : k.toInt ≠ 14 := e 14 h14
  have a15 : k.toInt ≠ 15 := e 15 h15
  have a16 : k.toInt ≠ 16 := e 16 h16
  omega
theorem z_len {L i : Nat} (hL : L ≤ 2560) (hi : i ≤ 2560) : (nI L - 5 < nI i) ↔ L < i + 5 := by
  have e5 : (5 : Int32).toInt = 5 := rfl
  have e : (nI L - 5).toInt = (L : Int) - 5 := by
    rw [Int32.toInt_sub, nI_toInt (by omega), e5]
    exact Int.bmod_eq_of_le (by omega) (by omega)
  rw [z_lt0, e, nI_toInt (by omega)]
  omega
theorem lg_same (x : Int64) : lg_cmp x x = 0 := (lg_cmp_eq x x).mpr rfl
end XY
