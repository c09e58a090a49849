section XT
theorem xw.grow {D : va_G} {cl : List vw_C} {Hz : Heap} {M : xM} {H H1 : Heap} (h : xw D cl Hz M H) (hz : H.size ≤ H1.size) (hq : ∀ q : Nat, q < H.size → H1[q]? = H[q]?) : xw D cl Hz M H1 :=
  ⟨⟨Nat.le_trans h.1.1 hz, fun q hq2 => (hq q (Nat.lt_of_lt_of_le hq2 h.1.1)).trans (h.1.2 q hq2)⟩, fun a r e ha => ⟨h.old ha, (h.2 a r e ha).2.kept (hq a (h.lt ha))⟩⟩
abbrev xNm : List String := ["java/lang/RuntimeException", "java/lang/Exception"]
variable {p : Program} {l : Launch} {e : Env} {R : Room} {s : State} {m : MethodId} {args : Array Value} {below : List Frame} {meth : Method} {c : Code} {H : Heap} {locs : List Loc} {cells slots : Nat} {Q : State → Prop}
variable {cc : ByteArray} {pc nL : Nat} {ls : Array Slot} {rest st0 : List Value} {M M0 : xM} {H0 : Heap} {G : xG} {own : String} {mret : Option FieldType}
variable {y : MethodName} {bytes : ByteArray} {maxL index mc ms : Nat} {ret : Option FieldType} {rm : Room} {As : List Value} {b : Nat}
theorem x_throw {Qc : Array Value → State → Outcome → State → Prop} {px : String → xM → Prop} {E text : String} {ik is ic : Nat} (hl : l.stackTraces = false) (hE : xE p s m args meth c cc mret nL R_Rm) (hnx : ∀ x ∈ c.exceptionTable.toList, False) (hK : KX G s) (h0 : xh G M0 s.heap) (hM : xh G M H) (hS : va_S (xF G) s.heap H locs) (hsz : ls.size = nL)
    (hcls : Bundle.fit E = true) (hnm : ∀ n ∈ xNm, Bundle.fit n = true) (hk : Cond.classLink R_Rm ik E ∈ wW) (hi : Cond.initialized E ∈ wW) (hat1 : ∀ w ∈ (vx_atS R_Rm ic E xNm).filter goodWord, w ∈ wW) (hat2 : ∀ w ∈ (vx_atS R_Rm ic E xNm).filter (fun w => !goodWord w), w ∈ (Cond.castable E E :: xDs.map Cond.declares))
    (hgood : ∀ w ∈ Cond.classLink R_Rm ik E :: Cond.initialized E :: vx_atS R_Rm ic E xNm, vx_ot w = true) (hEn : E ∈ [nISE, nIAE, nIOE]) (hsn : (is, text) ∈ sN)
    (d0 : decode cc pc = .ok (.new ik, 3)) (d3 : decode cc (pc + 3) = .ok (.dup, 1)) (d4 : decode cc (pc + 4) = .ok (.ldc is, 2)) (d6 : decode cc (pc + 6) = .ok (.invokespecial ic, 3)) (d9 : decode cc (pc + 9) = .ok (.athrow, 1))
    (hRf : 5 < R.frames) (hRl : (rest.map fun v => v.category).sum + 82 ≤ R.locals) (hRc : cells + 1 ≤ R.cells ∧ slots + 6 ≤ R.slots) (hc : cells + 1 ≤ mc ∧ slots + 6 ≤ ms) (hp : px E M) :
    W p l e R s m args below meth c H locs cells slots (vx_MQ below Qc (xX G px) args s mc ms (xF G)) (F0 m pc ls rest) := by
  obtain ⟨hx, hb, hr, hml, hown, hw, hlocks⟩ := hE
  obtain ⟨-, -, ⟨k5, k6⟩, -, ⟨k7, k8⟩, k9, -⟩ := hK
  refine vx_throwS (A := xF G) (names := xNm) (text := text) (sa := gS G is) hx hb hl hown hcls hnm (hw _ hk) (hw _ hi) (k9 _ hsn) (vx_hat (B := Cond.castable E E :: xDs.map Cond.declares) (fun w h => hw _ (hat1 w h)) hat2 (vx_c (va_Nw.use rfl (k5 E hEn)) (fun w hw9 => by obtain ⟨x, hx9, rfl⟩ := List.mem_map.mp hw9; exact va_Nw.use rfl (k6 x hx9)))) hgood
    (k7.kept fun a h1 h2 => h0.1.2 a h1) (k8.kept fun a h1 h2 => h0.1.2 a h1) hS (hsz.trans hml.symm) d0 d3 d4 d6 d9 (fun x h => (hnx x h).elim) hRf (by simpa using hRl) hRc.1 hRc.2 hlocks (fun t hal hz hq => ⟨M, trivial, ⟨hp, hM.grow hz hq⟩, Nat.le_trans hS.1 hz, fun q h1 h2 => (hq q (Nat.lt_of_lt_of_le h1 hS.1)).trans (hS.2.1 q h1 h2)⟩) hS.2.2 hc.1 hc.2
theorem q_fit : Bundle.fit nISE = true ∧ Bundle.fit nIAE = true ∧ Bundle.fit nIOE = true ∧ ∀ n ∈ xNm, Bundle.fit n = true := by decide +kernel
theorem q_at1 : (∀ w ∈ (vx_atS R_Rm 66 nISE xNm).filter goodWord, w ∈ wW) ∧ (∀ w ∈ (vx_atS R_Rm 73 nIAE xNm).filter goodWord, w ∈ wW) ∧ (∀ w ∈ (vx_atS R_Rm 94 nIOE xNm).filter goodWord, w ∈ wW) := by decide +kernel
theorem q_at2 : (∀ w ∈ (vx_atS R_Rm 66 nISE xNm).filter (fun w => !goodWord w), w ∈ (Cond.castable nISE nISE :: xDs.map Cond.declares)) ∧ (∀ w ∈ (vx_atS R_Rm 73 nIAE xNm).filter (fun w => !goodWord w), w ∈ (Cond.castable nIAE nIAE :: xDs.map Cond.declares)) ∧ (∀ w ∈ (vx_atS R_Rm 94 nIOE xNm).filter (fun w => !goodWord w), w ∈ (Cond.castable nIOE nIOE :: xDs.map Cond.declares)) := by decide +kernel
theorem q_ot : (∀ w ∈ Cond.classLink R_Rm 62 nISE :: Cond.initialized nISE :: vx_atS R_Rm 66 nISE xNm, vx_ot w = true) ∧ (∀ w ∈ Cond.classLink R_Rm 69 nIAE :: Cond.initialized nIAE :: vx_atS R_Rm 73 nIAE xNm, vx_ot w = true) ∧ (∀ w ∈ Cond.classLink R_Rm 90 nIOE :: Cond.initialized nIOE :: vx_atS R_Rm 94 nIOE xNm, vx_ot w = true) := by decide +kernel
theorem q_kl : Cond.classLink R_Rm 62 nISE ∈ wW ∧ Cond.classLink R_Rm 69 nIAE ∈ wW ∧ Cond.classLink R_Rm 90 nIOE ∈ wW ∧ Cond.initialized nISE ∈ wW ∧ Cond.initialized nIAE ∈ wW ∧ Cond.initialized nIOE ∈ wW := by decide +kernel
theorem x_ise {Qc : Array Value → State → Outcome → State → Prop} {px : String → xM → Prop} {text : String} {is : Nat} (hl : l.stackTraces = false) (hE : xE p s m args meth c cc mret nL R_Rm) (hnx : ∀ x ∈ c.exceptionTable.toList, False) (hK : KX G s) (h0 : xh G M0 s.heap) (hM : xh G M H) (hS : va_S (xF G) s.heap H locs) (hsz : ls.size = nL) (hsn : (is, text) ∈ sN)
    (d0 : decode cc pc = .ok (.new 62, 3)) (d3 : decode cc (pc + 3) = .ok (.dup, 1)) (d4 : decode cc (pc + 4) = .ok (.ldc is, 2)) (d6 : decode cc (pc + 6) = .ok (.invokespecial 66, 3)) (d9 : decode cc (pc + 9) = .ok (.athrow, 1))
    (hRf : 5 < R.frames) (hRl : (rest.map fun v => v.category).sum + 82 ≤ R.locals) (hRc : cells + 1 ≤ R.cells ∧ slots + 6 ≤ R.slots) (hc : cells + 1 ≤ mc ∧ slots + 6 ≤ ms) (hp : px nISE M) :
    W p l e R s m args below meth c H locs cells slots (vx_MQ below Qc (xX G px) args s mc ms (xF G)) (F0 m pc ls rest) :=
  x_throw hl hE hnx hK h0 hM hS hsz q_fit.1 q_fit.2.2.2 q_kl.1 q_kl.2.2.2.1 q_at1.1 q_at2.1 q_ot.1 (by simp) hsn d0 d3 d4 d6 d9 hRf hRl hRc hc hp
theorem x_iae {Qc : Array Value → State → Outcome → State → Prop} {px : String → xM → Prop} {text : String} {is : Nat} (hl : l.stackTraces = false) (hE : xE p s m args meth c cc mret nL R_Rm) (hnx : ∀ x ∈ c.exceptionTable.toList, False) (hK : KX G s) (h0 : xh G M0 s.heap) (hM : xh G M H) (hS : va_S (xF G) s.heap H locs) (hsz : ls.size = nL) (hsn : (is, text) ∈ sN)
    (d0 : decode cc pc = .ok (.new 69, 3)) (d3 : decode cc (pc + 3) = .ok (.dup, 1)) (d4 : decode cc (pc + 4) = .ok (.ldc is, 2)) (d6 : decode cc (pc + 6) = .ok (.invokespecial 73, 3)) (d9 : decode cc (pc + 9) = .ok (.athrow, 1))
    (hRf : 5 < R.frames) (hRl : (rest.map fun v => v.category).sum + 82 ≤ R.locals) (hRc : cells + 1 ≤ R.cells ∧ slots + 6 ≤ R.slots) (hc : cells + 1 ≤ mc ∧ slots + 6 ≤ ms) (hp : px nIAE M) :
    W p l e R s m args below meth c H locs cells slots (vx_MQ below Qc (xX G px) args s mc ms (xF G)) (F0 m pc ls rest) :=
  x_throw hl hE hnx hK h0 hM hS hsz q_fit.2.1 q_fit.2.2.2 q_kl.2.1 q_kl.2.2.2.2.1 q_at1.2.1 q_at2.2.1 q_ot.2.1 (by simp) hsn d0 d3 d4 d6 d9 hRf hRl hRc hc hp
theorem x_ioe {Qc : Array Value → State → Outcome → State → Prop} {px : String → xM → Prop} {text : String} {is : Nat} (hl : l.stackTraces = false) (hE : xE p s m args meth c cc mret nL R_Rm) (hnx : ∀ x ∈ c.exceptionTable.toList, False) (hK : KX G s) (h0 : xh G M0 s.heap) (hM : xh G M H) (hS : va_S (xF G) s.heap H locs) (hsz : ls.size = nL) (hsn : (is, text) ∈ sN)
    (d0 : decode cc pc = .ok (.new 90, 3)) (d3 : decode cc (pc + 3) = .ok (.dup, 1)) (d4 : decode cc (pc + 4) = .ok (.ldc is, 2)) (d6 : decode cc (pc + 6) = .ok (.invokespecial 94, 3)) (d9 : decode cc (pc + 9) = .ok (.athrow, 1))
    (hRf : 5 < R.frames) (hRl : (rest.map fun v => v.category).sum + 82 ≤ R.locals) (hRc : cells + 1 ≤ R.cells ∧ slots + 6 ≤ R.slots) (hc : cells + 1 ≤ mc ∧ slots + 6 ≤ ms) (hp : px nIOE M) :
    W p l e R s m args below meth c H locs cells slots (vx_MQ below Qc (xX G px) args s mc ms (xF G)) (F0 m pc ls rest) :=
  x_throw hl hE hnx hK h0 hM hS hsz q_fit.2.2.1 q_fit.2.2.2 q_kl.2.2.1 q_kl.2.2.2.2.2 q_at1.2.2 q_at2.2.2 q_ot.2.2 (by simp) hsn d0 d3 d4 d6 d9 hRf hRl hRc hc hp
theorem x_runVX {Qc : Array Value → State → Outcome → State → Prop} {XC : String → State → State → Prop} (hE : xE p s m args meth c cc mret nL own) (hK : KX G s) (hM : xh G M H) (hsz : ls.size = nL) (cm : vx_Met l y (.code y bytes maxL ret :: wW) rm (xP G (.ref b :: As) M) Qc XC mc ms (xF G)) {r ci : Nat} {fs : List Value} {q : vw_C} (hb : M b = some (r, .inr (ci, fs))) (hc : xCl[ci]? = some q)
    (h1 : Cond.methodLink own index y ∈ wW) (h2 : Cond.instanceMethod y ∈ wW) (h3 : Cond.selects q.1 y y ∈ wW) (h4 : Cond.initialized q.1 ∈ wW) (h5 : Cond.code y bytes maxL ret ∈ wW)
    (nA : Nat) (hA : As.length = nA) (hrc : rm.cells = mc) (hrs : rm.slots = ms) (hd : y.cls = q.1 ∧ y.cls ≠ "java/lang/invoke/MethodHandle" ∧ y.cls ≠ "java/lang/invoke/VarHandle" ∧ (parseMethodDescriptor y.desc).map (fun d => d.parameters.length) = some nA)
    (hR : rm.frames + 1 ≤ R.frames ∧ 8 + (maxL + 11) + rm.locals ≤ R.locals) (hst : st0 = As.reverse ++ .ref b :: rest) (hro : (rest.map fun v => v.category).sum ≤ 8) (hdg : decode cc pc = .ok (.invokevirtual index, 3)) (hf : cells + mc ≤ R.cells ∧ slots + ms ≤ R.slots) :
    vx_Run p l e R s m args below meth c H locs cells slots mc ms (F0 m pc ls st0) rest (Qc (Value.ref b :: As).toArray) XC (xF G) := by
  obtain ⟨hx, hbb, hr, hml, hown, hw, hlocks⟩ := hE
  exact vx_runV ⟨hx, hbb, hml, hown, hw⟩ cm (cwV nA hw (gi_V h1 h2 h3 h4 h5) rfl hrc hrs hd hR) (xP.V hK hM hb hc) rfl hA hsz hst (lv_room hro) hdg hf
theorem x_runSX {Qc : Array Value → State → Outcome → State → Prop} {XC : String → State → State → Prop} (hE : xE p s m args meth c cc mret nL own) (hK : KX G s) (hM : xh G M H) (hsz : ls.size = nL) (cm : vx_Met l y (.code y bytes maxL ret :: wW) rm (xP G As M) Qc XC mc ms (xF G))
    (h1 : Cond.methodLink own index y ∈ wW) (h2 : Cond.static y ∈ wW) (h4 : Cond.initialized y.cls ∈ wW) (h5 : Cond.code y bytes maxL ret ∈ wW)
    (nA : Nat) (hA : As.length = nA) (hrc : rm.cells = mc) (hrs : rm.slots = ms) (hd : y.cls ≠ "java/lang/invoke/MethodHandle" ∧ y.cls ≠ "java/lang/invoke/VarHandle" ∧ (parseMethodDescriptor y.desc).map (fun d => d.parameters.length) = some nA)
    (hR : rm.frames + 1 ≤ R.frames ∧ 8 + (maxL + 11) + rm.locals ≤ R.locals) (hst : st0 = As.reverse ++ rest) (hro : (rest.map fun v => v.category).sum ≤ 8) (hdg : decode cc pc = .ok (.invokestatic index, 3)) (hf : cells + mc ≤ R.cells ∧ slots + ms ≤ R.slots) :
    vx_Run p l e R s m args below meth c H locs cells slots mc ms (F0 m pc ls st0) rest (Qc As.toArray) XC (xF G) := by
  obtain ⟨hx, hbb, hr, hml, hown, hw, hlocks⟩ := hE
  exact vx_runS ⟨hx, hbb, hml, hown, hw⟩ cm (va_cwS nA hw (gi_S h1 h2 h4 h5) rfl hrc hrs hd hR) (xP.S hK hM) rfl hA hsz hst (lv_room hro) hdg hf
theorem x_out {Qc : Array Value → State → Outcome → State → Prop} {px : String → xM → Prop} {E : String} {ce : Cell} {q : Addr} (hE : xE p s m args meth c cc mret nL own) (hnx : ∀ x ∈ c.exceptionTable.toList, False) (hM : xh G M H) (hS : va_S (xF G) s.heap H locs) (hcell : H[q]? = some ce) (hv : ce.vm = .none) (hcl : s.vm.findClass E = some ce.cls) (hp : px E M) (hc : cells ≤ mc) (hs : slots ≤ ms) :
    vx_W p l e R s m args below meth c H locs cells slots (vx_MQ below Qc (xX G px) args s mc ms (xF G)) (F0 m pc ls rest) q :=
  vx_out (fun x h => (hnx x h).elim) hE.2.2.2.2.2.2 hcell hv hcl (fun t ht _ => ⟨M, trivial, ⟨hp, by rw [ht]; exact hM⟩, hS.F ht⟩) hS.2.2 hc hs
theorem x_cxi {post : Int32 → xM → Prop} {px : String → xM → Prop} {a : Array Value} (hr : vx_Run p l e R s m args below meth c H locs cells slots mc ms (F0 m pc ls st0) rest (xQi G post a) (xX G px) (xF G)) (hS : va_S (xF G) H0 H locs)
    (kx : ∀ (E : String) (ce : Cell) (q9 : Addr) (M1 : xM) (H1 : Heap) (locs1 : List Loc), px E M1 → xh G M1 H1 → va_S (xF G) H0 H1 locs1 → H1[q9]? = some ce → ce.vm = .none → s.vm.findClass E = some ce.cls → vx_W p l e R s m args below meth c H1 locs1 (cells + mc) (slots + ms) Q (F0 m pc ls rest) q9)
    (kk : ∀ (r : Int32) (M1 : xM) (H1 : Heap) (locs1 : List Loc), post r M1 → xh G M1 H1 → va_S (xF G) H0 H1 locs1 → W p l e R s m args below meth c H1 locs1 (cells + mc) (slots + ms) Q (F0 m (pc + 3) ls (.int r :: rest))) : W p l e R s m args below meth c H locs cells slots Q (F0 m pc ls st0) :=
  vx_calli hr hS (fun q _ h => h) (fun q h => h) (fun q _ h => h) (fun E ce q9 u t H1 locs1 ht _ _ hB _ _ hS1 h1 h2 h3 => kx E ce q9 u H1 locs1 hB.1 (by rw [← ht]; exact hB.2) hS1 h1 h2 h3) (fun r u t H1 locs1 ht hvm hp hB _ _ hS1 => kk r u H1 locs1 hp (by rw [← ht]; exact hB) hS1)
theorem x_cxv {post : xM → Prop} {px : String → xM → Prop} {a : Array Value} (hr : vx_Run p l e R s m args below meth c H locs cells slots mc ms (F0 m pc ls st0) rest (xQv G post a) (xX G px) (xF G)) (hS : va_S (xF G) H0 H locs)
    (kx : ∀ (E : String) (ce : Cell) (q9 : Addr) (M1 : xM) (H1 : Heap) (locs1 : List Loc), px E M1 → xh G M1 H1 → va_S (xF G) H0 H1 locs1 → H1[q9]? = some ce → ce.vm = .none → s.vm.findClass E = some ce.cls → vx_W p l e R s m args below meth c H1 locs1 (cells + mc) (slots + ms) Q (F0 m pc ls rest) q9)
    (kk : ∀ (M1 : xM) (H1 : Heap) (locs1 : List Loc), post M1 → xh G M1 H1 → va_S (xF G) H0 H1 locs1 → W p l e R s m args below meth c H1 locs1 (cells + mc) (slots + ms) Q (F0 m (pc + 3) ls rest)) : W p l e R s m args below meth c H locs cells slots Q (F0 m pc ls st0) :=
  vx_callv hr hS (fun q _ h => h) (fun q h => h) (fun q _ h => h) (fun E ce q9 u t H1 locs1 ht _ _ hB _ _ hS1 h1 h2 h3 => kx E ce q9 u H1 locs1 hB.1 (by rw [← ht]; exact hB.2) hS1 h1 h2 h3) (fun u t H1 locs1 ht hvm hp hB _ _ hS1 => kk u H1 locs1 hp (by rw [← ht]; exact hB) hS1)
theorem x_cxr {post : Nat → xM → Prop} {px : String → xM → Prop} {a : Array Value} (hr : vx_Run p l e R s m args below meth c H locs cells slots mc ms (F0 m pc ls st0) rest (xQr G post a) (xX G px) (xF G)) (hS : va_S (xF G) H0 H locs)
    (kx : ∀ (E : String) (ce : Cell) (q9 : Addr) (M1 : xM) (H1 : Heap) (locs1 : List Loc), px E M1 → xh G M1 H1 → va_S (xF G) H0 H1 locs1 → H1[q9]? = some ce → ce.vm = .none → s.vm.findClass E = some ce.cls → vx_W p l e R s m args below meth c H1 locs1 (cells + mc) (slots + ms) Q (F0 m pc ls rest) q9)
    (kk : ∀ (r : Nat) (M1 : xM) (H1 : Heap) (locs1 : List Loc), post r M1 → xh G M1 H1 → va_S (xF G) H0 H1 locs1 → W p l e R s m args below meth c H1 locs1 (cells + mc) (slots + ms) Q (F0 m (pc + 3) ls (.ref r :: rest))) : W p l e R s m args below meth c H locs cells slots Q (F0 m pc ls st0) := by
  intro T hT X
  rcases hr T hT X with ⟨v, st₀, t, T', L, h0, X', hL, e1, e2, ⟨⟨u, ra, hv, -, hb⟩, hF⟩, st⟩ | ⟨q, st₀, t, T', L, E, ce, h0, X', hL, e1, e2, ⟨u, hp, hb, hF⟩, hce, hcv, hcl, st⟩
  · cases hv
    obtain ⟨k1, k2, k3⟩ := vx_keep h0 e1 hS (fun q _ h => h) (fun q h => h) hL hF
    obtain ⟨t2, a1, b1⟩ := kk ra u T'.heap (locs ++ L) hb.1 (by rw [e1]; exact hb.2) k3 T' rfl X'
    exact ⟨t2, st t2 a1, b1⟩
  · obtain ⟨k1, k2, k3⟩ := vx_keep h0 e1 hS (fun q _ h => h) (fun q h => h) hL hF
    obtain ⟨t2, a1, b1⟩ := kx E ce q u T'.heap (locs ++ L) hb.1 (by rw [e1]; exact hb.2) k3 (by rw [e1]; exact hce) hcv hcl T' rfl X'
    exact ⟨t2, st.trans a1, b1⟩
end XT
