section XE
abbrev xG : Type := va_G × (ClassId × ClassId × ClassId × ClassId × ClassId) × Heap × (Nat → Nat)
abbrev gD (G : xG) : va_G := G.1
abbrev gI (G : xG) : ClassId := G.2.1.1
abbrev gJ (G : xG) : ClassId := G.2.1.2.1
abbrev gR (G : xG) : ClassId := G.2.1.2.2.1
abbrev gM (G : xG) : ClassId := G.2.1.2.2.2.1
abbrev gG (G : xG) : ClassId := G.2.1.2.2.2.2
abbrev gH (G : xG) : Heap := G.2.2.1
abbrev gS (G : xG) : Nat → Nat := G.2.2.2
def gT (G : xG) : List (ClassId × FieldType) := [(gI G, .int), (gJ G, .long), (gR G, .object R_Row), (gM G, .object R_Men), (gG G, .object R_Gap)]
abbrev xh (G : xG) (M : xM) (H : Heap) : Prop := xw (gD G) xCl (gH G) M H
abbrev xF (G : xG) : Nat → Prop := xA (gH G)
abbrev nISE : String := "java/lang/IllegalStateException"
abbrev nIAE : String := "java/lang/IllegalArgumentException"
abbrev nIOE : String := "java/lang/IndexOutOfBoundsException"
def wNf : List (Nat × String × String × String) := [(256, R_Rob, "taken", "I"), (225, R_Gap, "sum", "I"), (222, R_Gap, "years", "I"), (87, R_Row, "even", "[I"), (97, R_Row, "start", "I"), (159, R_Men, "starts", "[I"), (134, R_Men, "first", "I"), (137, R_Men, "last", "I"), (140, R_Men, "members", "I"), (145, R_Men, "values", "[I"), (152, R_Men, "depths", "[I")]
def sN : List (Nat × String) := [(64, "the pad is full"), (71, "no such width"), (74, "there are ten series"), (231, "no such series"), (92, "no such ring"), (95, "no such year"), (100, "there are eight masters"), (102, "no such set"), (182, "no such master"), (143, "no such what"), (162, "no such member"), (233, "no such least number of years"), (184, "no such place among the sources"), (193, "no such number of rings"), (195, "no such weight"), (197, "the series floats"), (199, "no such number of rings of sapwood"), (201, "no such share")]
def xDs : List MethodName := [⟨"java/lang/RuntimeException", "<init>", "(Ljava/lang/String;)V"⟩, ⟨"java/lang/Exception", "<init>", "(Ljava/lang/String;)V"⟩, ⟨"java/lang/Throwable", "<init>", "(Ljava/lang/String;)V"⟩]
def KX (G : xG) (U : State) : Prop := va_K (gD G) xCl (gT G) U ∧
  ((∀ q ∈ wNf, va_Nw (.fieldLinkNest R_Rm q.1 q.2.1 q.2.2.1 q.2.2.2 R_Rm) U) ∧ va_Nw (.methodLinkNest R_Rm 40 y_Rob_init R_Rm) U ∧ va_Nw (.methodLinkNest R_Rm 47 y_Gap_init R_Rm) U) ∧
  ((∀ E ∈ [nISE, nIAE, nIOE], va_Nw (.castable E E) U) ∧ ∀ x ∈ xDs, va_Nw (.declares x) U) ∧ (∀ C ∈ [R_Row, R_Men, R_Gap], va_AO C U) ∧
  (vx_Zq Bundle.tN "UNASSIGNED_STACK" Bundle.steD (xF G) U (gH G) ∧ vx_Zq Bundle.tN "SUPPRESSED_SENTINEL" Bundle.listD (xF G) U (gH G)) ∧
  (∀ q ∈ sN, vk_R R_Rm q.1 q.2 (gS G q.1) U) ∧
  (∀ q ∈ [(nISE, nIAE), (nISE, nIOE), (nIAE, nISE), (nIAE, nIOE), (nIOE, nISE), (nIOE, nIAE)], va_Nc q.1 q.2 U)
theorem KX.warm {G : xG} {s U : State} (hW : s.WarmedH U.vm) (h : KX G s) : KX G U := by
  obtain ⟨h1, ⟨h2, h3, h4⟩, ⟨h5, h5b⟩, h6, ⟨h7, h8⟩, h9, h10⟩ := h
  exact ⟨va_K.moved hW.alike h1, ⟨fun q hq => va_Nw.warmF hW (h2 q hq), va_Nw.warmM hW h3, va_Nw.warmM hW h4⟩, ⟨fun E hE => va_Nw.warmC hW (h5 E hE), fun x hx => va_Nw.warmD hW (h5b x hx)⟩, fun C hC => va_AO.moved hW.alike (h6 C hC), ⟨vx_Zq.moved hW.alike h7, vx_Zq.moved hW.alike h8⟩, fun q hq => vk_R.warm hW (h9 q hq), fun q hq => va_Nc.moved hW.alike (h10 q hq)⟩
theorem KX.same {G : xG} {s U : State} (hv : s.vm = U.vm) (h : KX G s) : KX G U := KX.warm (by rw [← hv]; exact State.WarmedH.refl s) h
def xP (G : xG) (av : List Value) (M : xM) : Array Value → State → Prop := va_Pc av (fun U => xh G M U.heap ∧ KX G U)
abbrev xQi (G : xG) (post : Int32 → xM → Prop) := va_Qi post (fun M' t => xh G M' t.heap) (xF G)
abbrev xQv (G : xG) (post : xM → Prop) := va_Qv post (fun M' t => xh G M' t.heap) (xF G)
abbrev xQr (G : xG) (post : Nat → xM → Prop) := va_Qr (S := xM) (fun _ => True) (fun M' a t => post a M' ∧ xh G M' t.heap) (xF G)
abbrev xX (G : xG) (px : String → xM → Prop) : String → State → State → Prop := vx_X (S := xM) (fun _ => True) (fun E M' t => px E M' ∧ xh G M' t.heap) (xF G)
theorem xP.blind {G : xG} {av : List Value} {M : xM} : FrameBlind (xP G av M) := fun a U g mk q => by
  obtain ⟨q0, q1, q2⟩ := q
  exact ⟨q0, q1, KX.same rfl q2⟩
theorem xP.S {G : xG} {As : List Value} {M : xM} {s : State} {H : Heap} (hK : KX G s) (hM : xh G M H) : PreS s H (xP G As M) As :=
  ⟨xP.blind, fun U hU hW => ⟨rfl, by rw [hU]; exact hM, hK.warm hW⟩⟩
theorem xP.V {G : xG} {As : List Value} {M : xM} {s : State} {H : Heap} (hK : KX G s) (hM : xh G M H) {b r ci : Nat} {fs : List Value} {q : vw_C} (hb : M b = some (r, .inr (ci, fs))) (hc : xCl[ci]? = some q) : PreV s H q.1 b (xP G (.ref b :: As) M) As :=
  ⟨xP.blind, va_recv hK.1 (hM.P hb) (q0 := 0) hc rfl, fun U hU hW => ⟨rfl, by rw [hU]; exact hM, hK.warm hW⟩⟩
def xE (p : Program) (s : State) (m : MethodId) (args : Array Value) (meth : Method) (c : Code) (cc : ByteArray) (ret : Option FieldType) (nL : Nat) (own : String) : Prop :=
  p.tables.exec = Jvm.exec ∧ c.code = cc ∧ meth.sig.returnType = ret ∧ c.maxLocals = nL ∧ s.vm.findClass own = some m.cls ∧ (∀ w ∈ wW, w.before args s = true) ∧ meth.locks = false
theorem x_met {l : Launch} {y : MethodName} {cc : ByteArray} {maxL : Nat} {ret : Option FieldType} {rm : Room} {G : xG} {av : List Value} {M : xM} {Qc : Array Value → State → Outcome → State → Prop} {mc ms : Nat} (hy : plainName y.cls = true) (hav : (lg_sl av).length ≤ maxL)
    (body : ∀ p e s m below meth c ls, xE p s m av.toArray meth c cc ret maxL y.cls → meth.name = y.name → lv_has ls maxL (lv_args 0 av) → xh G M s.heap → KX G s → va_S (xF G) s.heap s.heap [] → W p l e rm s m av.toArray below meth c s.heap [] 0 0 (MQ below Qc av.toArray s mc ms (xF G)) (F0 m 0 ls [])) :
    Met l y (.code y cc maxL ret :: wW) rm (xP G av M) Qc mc ms (xF G) := by
  refine Met.ofW (cc := cc) (maxL := maxL) (ret := ret) hy rfl ?_
  intro p e s m args below meth c s₁ B hml hv
  obtain ⟨rfl, hM, hK⟩ := hv
  have hts := atoms_spec (ws := .code y cc maxL ret :: wW) B.pre
  rw [lg_entry_eq]
  exact body p e s m below meth c _ ⟨B.exec, B.bytes, B.returns, hml, findClass_of_methodNamed B.named, fun w h => hts w (List.mem_cons_of_mem _ h), B.notSynchronized⟩ (name_of_methodNamed B.named B.method).1 (lv_entry av hav) hM hK va_S.rf
theorem x_metX {l : Launch} {y : MethodName} {cc : ByteArray} {maxL : Nat} {ret : Option FieldType} {rm : Room} {G : xG} {av : List Value} {M : xM} {Qc : Array Value → State → Outcome → State → Prop} {XC : String → State → State → Prop} {mc ms : Nat} (hy : plainName y.cls = true) (hav : (lg_sl av).length ≤ maxL)
    (body : ∀ p e s m below meth c ls, xE p s m av.toArray meth c cc ret maxL y.cls → (∀ x ∈ c.exceptionTable.toList, False) → lv_has ls maxL (lv_args 0 av) → xh G M s.heap → KX G s → va_S (xF G) s.heap s.heap [] → W p l e rm s m av.toArray below meth c s.heap [] 0 0 (vx_MQ below Qc XC av.toArray s mc ms (xF G)) (F0 m 0 ls [])) :
    vx_Met l y (.code y cc maxL ret :: wW) rm (xP G av M) Qc XC mc ms (xF G) := by
  refine vx_ofW (cc := cc) (maxL := maxL) (ret := ret) hy rfl ?_
  intro p e s m args below meth c s₁ B hml hnx hv
  obtain ⟨rfl, hM, hK⟩ := hv
  have hts := atoms_spec (ws := .code y cc maxL ret :: wW) B.pre
  rw [lg_entry_eq]
  exact body p e s m below meth c _ ⟨B.exec, B.bytes, B.returns, hml, findClass_of_methodNamed B.named, fun w h => hts w (List.mem_cons_of_mem _ h), B.notSynchronized⟩ hnx (lv_entry av hav) hM hK va_S.rf
theorem gi_c {y : MethodName} {bytes : ByteArray} {maxL : Nat} {ret : Option FieldType} (h : Cond.code y bytes maxL ret ∈ wW) : GoodIn wW (.code y bytes maxL ret :: wW) := fun w hw => by
  rcases List.mem_cons.mp hw with rfl | hw
  · exact ⟨h, good_of_word (wW_good _ h)⟩
  · exact ⟨hw, good_of_word (wW_good _ hw)⟩
theorem gi_w {ws : List Cond} (h : ∀ w ∈ ws, w ∈ wW) : GoodIn wW ws := fun w hw => ⟨h w hw, good_of_word (wW_good _ (h w hw))⟩
theorem gi_V {own C : String} {idx : Nat} {y : MethodName} {bytes : ByteArray} {maxL : Nat} {ret : Option FieldType} (h1 : Cond.methodLink own idx y ∈ wW) (h2 : Cond.instanceMethod y ∈ wW) (h3 : Cond.selects C y y ∈ wW) (h4 : Cond.initialized C ∈ wW) (h5 : Cond.code y bytes maxL ret ∈ wW) : GoodIn wW (wsV own idx C y (.code y bytes maxL ret :: wW)) := by
  refine gi_w fun w hw => ?_
  simp only [wsV, List.mem_append, List.mem_cons, List.not_mem_nil, or_false] at hw
  rcases hw with (rfl | rfl | rfl | rfl) | rfl | hw <;> assumption
theorem gi_S {own : String} {idx : Nat} {y : MethodName} {bytes : ByteArray} {maxL : Nat} {ret : Option FieldType} (h1 : Cond.methodLink own idx y ∈ wW) (h2 : Cond.static y ∈ wW) (h4 : Cond.initialized y.cls ∈ wW) (h5 : Cond.code y bytes maxL ret ∈ wW) : GoodIn wW (va_wsS own idx y (.code y bytes maxL ret :: wW)) := by
  refine gi_w fun w hw => ?_
  simp only [va_wsS, List.mem_append, List.mem_cons, List.not_mem_nil, or_false] at hw
  rcases hw with (rfl | rfl | rfl) | rfl | hw <;> assumption
end XE
section XC
variable {p : Program} {l : Launch} {e : Env} {R : Room} {s : State} {m : MethodId} {args : Array Value} {below : List Frame} {meth : Method} {c : Code} {H : Heap} {locs : List Loc} {cells slots : Nat} {Q : State → Prop}
variable {cc : ByteArray} {pc nL : Nat} {ls : Array Slot} {rest st0 : List Value} {M : xM} {H0 : Heap} {G : xG} {own : String} {mret : Option FieldType}
variable {y : MethodName} {bytes : ByteArray} {maxL index mc ms : Nat} {ret : Option FieldType} {rm : Room} {As : List Value} {b : Nat}
theorem x_runV {Qc : Array Value → State → Outcome → State → Prop} (hE : xE p s m args meth c cc mret nL own) (hK : KX G s) (hM : xh G M H) (hsz : ls.size = nL) (cm : Met l y (.code y bytes maxL ret :: wW) rm (xP G (.ref b :: As) M) Qc mc ms (xF G)) {r ci : Nat} {fs : List Value} {q : vw_C} (hb : M b = some (r, .inr (ci, fs))) (hc : xCl[ci]? = some q)
    (h1 : Cond.methodLink own index y ∈ wW) (h2 : Cond.instanceMethod y ∈ wW) (h3 : Cond.selects q.1 y y ∈ wW) (h4 : Cond.initialized q.1 ∈ wW) (h5 : Cond.code y bytes maxL ret ∈ wW)
    (nA : Nat) (hA : As.length = nA) (hrc : rm.cells = mc) (hrs : rm.slots = ms) (hd : y.cls = q.1 ∧ y.cls ≠ "java/lang/invoke/MethodHandle" ∧ y.cls ≠ "java/lang/invoke/VarHandle" ∧ (parseMethodDescriptor y.desc).map (fun d => d.parameters.length) = some nA)
    (hR : rm.frames + 1 ≤ R.frames ∧ 8 + (maxL + 11) + rm.locals ≤ R.locals) (hst : st0 = As.reverse ++ .ref b :: rest) (hro : (rest.map fun v => v.category).sum ≤ 8) (hdg : decode cc pc = .ok (.invokevirtual index, 3)) (hf : cells + mc ≤ R.cells ∧ slots + ms ≤ R.slots) :
    va_Run p l e R s m args below meth c H locs cells slots mc ms (F0 m pc ls st0) rest (Qc (Value.ref b :: As).toArray) (xF G) := by
  obtain ⟨hx, hbb, hr, hml, hown, hw, hlocks⟩ := hE
  exact va_runV ⟨hx, hbb, hml, hown, hw⟩ cm (cwV nA hw (gi_V h1 h2 h3 h4 h5) rfl hrc hrs hd hR) (xP.V hK hM hb hc) rfl hA hsz hst (lv_room hro) hdg hf
theorem x_runS {Qc : Array Value → State → Outcome → State → Prop} (hE : xE p s m args meth c cc mret nL own) (hK : KX G s) (hM : xh G M H) (hsz : ls.size = nL) (cm : Met l y (.code y bytes maxL ret :: wW) rm (xP G As M) Qc mc ms (xF G))
    (h1 : Cond.methodLink own index y ∈ wW) (h2 : Cond.static y ∈ wW) (h4 : Cond.initialized y.cls ∈ wW) (h5 : Cond.code y bytes maxL ret ∈ wW)
    (nA : Nat) (hA : As.length = nA) (hrc : rm.cells = mc) (hrs : rm.slots = ms) (hd : y.cls ≠ "java/lang/invoke/MethodHandle" ∧ y.cls ≠ "java/lang/invoke/VarHandle" ∧ (parseMethodDescriptor y.desc).map (fun d => d.parameters.length) = some nA)
    (hR : rm.frames + 1 ≤ R.frames ∧ 8 + (maxL + 11) + rm.locals ≤ R.locals) (hst : st0 = As.reverse ++ rest) (hro : (rest.map fun v => v.category).sum ≤ 8) (hdg : decode cc pc = .ok (.invokestatic index, 3)) (hf : cells + mc ≤ R.cells ∧ slots + ms ≤ R.slots) :
    va_Run p l e R s m args below meth c H locs cells slots mc ms (F0 m pc ls st0) rest (Qc As.toArray) (xF G) := by
  obtain ⟨hx, hbb, hr, hml, hown, hw, hlocks⟩ := hE
  exact va_runS ⟨hx, hbb, hml, hown, hw⟩ cm (va_cwS nA hw (gi_S h1 h2 h4 h5) rfl hrc hrs hd hR) (xP.S hK hM) rfl hA hsz hst (lv_room hro) hdg hf
theorem x_ci {post : Int32 → xM → Prop} {a : Array Value} (hr : va_Run p l e R s m args below meth c H locs cells slots mc ms (F0 m pc ls st0) rest (xQi G post a) (xF G)) (hS : va_S (xF G) H0 H locs)
    (kk : ∀ (r : Int32) (M1 : xM) (H1 : Heap) (locs1 : List Loc), post r M1 → xh G M1 H1 → va_S (xF G) H0 H1 locs1 → W p l e R s m args below meth c H1 locs1 (cells + mc) (slots + ms) Q (F0 m (pc + 3) ls (.int r :: rest))) : W p l e R s m args below meth c H locs cells slots Q (F0 m pc ls st0) :=
  va_calli hr hS (fun q _ h => h) (fun q h => h) (fun r u t H1 locs1 ht hvm hp hB _ _ hS1 => kk r u H1 locs1 hp (by rw [← ht]; exact hB) hS1)
theorem x_cv {post : xM → Prop} {a : Array Value} (hr : va_Run p l e R s m args below meth c H locs cells slots mc ms (F0 m pc ls st0) rest (xQv G post a) (xF G)) (hS : va_S (xF G) H0 H locs)
    (kk : ∀ (M1 : xM) (H1 : Heap) (locs1 : List Loc), post M1 → xh G M1 H1 → va_S (xF G) H0 H1 locs1 → W p l e R s m args below meth c H1 locs1 (cells + mc) (slots + ms) Q (F0 m (pc + 3) ls rest)) : W p l e R s m args below meth c H locs cells slots Q (F0 m pc ls st0) :=
  va_callv hr hS (fun q _ h => h) (fun q h => h) (fun u t H1 locs1 ht hvm hp hB _ _ hS1 => kk u H1 locs1 hp (by rw [← ht]; exact hB) hS1)
theorem x_cr {post : Nat → xM → Prop} {a : Array Value} (hr : va_Run p l e R s m args below meth c H locs cells slots mc ms (F0 m pc ls st0) rest (xQr G post a) (xF G)) (hS : va_S (xF G) H0 H locs)
    (kk : ∀ (r : Nat) (M1 : xM) (H1 : Heap) (locs1 : List Loc), post r M1 → xh G M1 H1 → va_S (xF G) H0 H1 locs1 → W p l e R s m args below meth c H1 locs1 (cells + mc) (slots + ms) Q (F0 m (pc + 3) ls (.ref r :: rest))) : W p l e R s m args below meth c H locs cells slots Q (F0 m pc ls st0) :=
  va_callr hr hS (fun q _ h => h) (fun q h => h) (fun u ra t H1 locs1 ht hvm hp hB _ _ hS1 => kk ra u H1 locs1 hB.1 (by rw [← ht]; exact hB.2) hS1)
theorem x_ri {post : Int32 → xM → Prop} {v : Int32} (hE : xE p s m args meth c cc mret nL own) (hret : mret = some .int) (hM : xh G M H) (hS : va_S (xF G) s.heap H locs) (hp : post v M) (hc : cells ≤ mc) (hs : slots ≤ ms) (hdg : decode cc pc = .ok (.ireturn, 1)) : W p l e R s m args below meth c H locs cells slots (MQ below (xQi G post) args s mc ms (xF G)) (F0 m pc ls [.int v]) := by
  obtain ⟨hx, hbb, hr, hml, hown, hw, hlocks⟩ := hE
  refine W.widen hc hs ?_
  exact W.iret hx hbb (hr.trans hret) (fun t ht hW => ⟨⟨v, M, rfl, hp, by show xh G M t.heap; rw [ht]; exact hM⟩, hS.F ht⟩) hS.2.2 hdg
theorem x_rz {post : Int32 → xM → Prop} {v : Int32} (hE : xE p s m args meth c cc mret nL own) (hret : mret = some .boolean) (hv : v = 0 ∨ v = 1) (hM : xh G M H) (hS : va_S (xF G) s.heap H locs) (hp : post v M) (hc : cells ≤ mc) (hs : slots ≤ ms) (hdg : decode cc pc = .ok (.ireturn, 1)) : W p l e R s m args below meth c H locs cells slots (MQ below (xQi G post) args s mc ms (xF G)) (F0 m pc ls [.int v]) := by
  obtain ⟨hx, hbb, hr, hml, hown, hw, hlocks⟩ := hE
  refine W.widen hc hs ?_
  exact W.zret hx hbb (hr.trans hret) (by rcases hv with rfl | rfl <;> decide +kernel) (fun t ht hW => ⟨⟨v, M, rfl, hp, by show xh G M t.heap; rw [ht]; exact hM⟩, hS.F ht⟩) hS.2.2 hdg
theorem x_rv {post : xM → Prop} (hE : xE p s m args meth c cc mret nL own) (hret : mret = none) (hM : xh G M H) (hS : va_S (xF G) s.heap H locs) (hp : post M) (hc : cells ≤ mc) (hs : slots ≤ ms) (hdg : decode cc pc = .ok (.return_, 1)) : W p l e R s m args below meth c H locs cells slots (MQ below (xQv G post) args s mc ms (xF G)) (F0 m pc ls []) := by
  obtain ⟨hx, hbb, hr, hml, hown, hw, hlocks⟩ := hE
  refine W.widen hc hs ?_
  exact W.vret hx hbb (hr.trans hret) (fun t ht hW => ⟨⟨M, rfl, hp, by show xh G M t.heap; rw [ht]; exact hM⟩, hS.F ht⟩) hS.2.2 hdg
theorem x_rr {post : Nat → xM → Prop} {a : Nat} {rt : FieldType} (hE : xE p s m args meth c cc mret nL own) (hret : mret = some rt) (hrt : (∃ n, rt = .object n) ∨ ∃ t, rt = .array t) (hM : xh G M H) (hS : va_S (xF G) s.heap H locs) (hp : post a M) (hc : cells ≤ mc) (hs : slots ≤ ms) (hdg : decode cc pc = .ok (.areturn, 1)) : W p l e R s m args below meth c H locs cells slots (MQ below (xQr G post) args s mc ms (xF G)) (F0 m pc ls [.ref a]) := by
  obtain ⟨hx, hbb, hr, hml, hown, hw, hlocks⟩ := hE
  refine W.widen hc hs ?_
  exact W.aret hx hbb (hr.trans hret) hrt (Or.inr ⟨a, rfl⟩) (fun t ht hW => ⟨⟨M, a, rfl, trivial, hp, by show xh G M t.heap; rw [ht]; exact hM⟩, hS.F ht⟩) hS.2.2 hdg
end XC
