section XI
variable {p : Program} {l : Launch} {e : Env} {R : Room} {s : State} {m : MethodId} {args : Array Value} {below : List Frame} {meth : Method} {c : Code} {H : Heap} {locs : List Loc} {cells slots : Nat} {Q : State → Prop}
variable {cc : ByteArray} {pc nL : Nat} {ls : Array Slot} {rest st0 : List Value} {M : xM} {H0 : Heap} {G : xG} {own : String} {mret : Option FieldType}
variable {y : MethodName} {bytes : ByteArray} {maxL index mc ms : Nat} {rm : Room} {As : List Value} {b : Nat}
theorem x_runI {Qc : Array Value → State → Outcome → State → Prop} (hE : xE p s m args meth c cc mret nL own) (hK : KX G s) (hM : xh G M H) (hsz : ls.size = nL) (cm : Met l y (.code y bytes maxL none :: wW) rm (xP G (.ref b :: As) M) Qc mc ms (xF G))
    (h1 : Cond.methodLink own index y ∈ wW) (h2 : Cond.instanceMethod y ∈ wW) (h4 : Cond.initialized y.cls ∈ wW) (h5 : Cond.code y bytes maxL none ∈ wW) (hy : y.name = "<init>")
    (nA : Nat) (hA : As.length = nA) (hrc : rm.cells = mc) (hrs : rm.slots = ms) (hd : y.cls ≠ "java/lang/invoke/MethodHandle" ∧ y.cls ≠ "java/lang/invoke/VarHandle" ∧ (parseMethodDescriptor y.desc).map (fun d => d.parameters.length) = some nA)
    (hR : rm.frames + 1 ≤ R.frames ∧ 8 + (maxL + 11) + rm.locals ≤ R.locals) (hst : st0 = As.reverse ++ .ref b :: rest) (hro : (rest.map fun v => v.category).sum ≤ 8) (hdg : decode cc pc = .ok (.invokespecial index, 3)) (hf : cells + mc ≤ R.cells ∧ slots + ms ≤ R.slots) :
    va_Run p l e R s m args below meth c H locs cells slots mc ms (F0 m pc ls st0) rest (Qc (Value.ref b :: As).toArray) (xF G) := by
  obtain ⟨hx, hbb, hr, hml, hown, hw, hlocks⟩ := hE
  exact va_runI ⟨hx, hbb, hml, hown, hw⟩ cm (cwI nA hw (gi_c h5) rfl hrc hrs (hw _ h4) (hw _ h1) (hw _ h2) hy hd hR) (xP.S hK hM) rfl hA hsz hst (lv_room hro) hdg hf
theorem x_runIN {host : String} {Qc : Array Value → State → Outcome → State → Prop} (hE : xE p s m args meth c cc mret nL own) (hK : KX G s) (hM : xh G M H) (hsz : ls.size = nL) (cm : Met l y (.code y bytes maxL none :: wW) rm (xP G (.ref b :: As) M) Qc mc ms (xF G))
    (h1 : va_Nw (.methodLinkNest own index y host) s) (h2 : Cond.instanceMethod y ∈ wW) (h4 : Cond.initialized y.cls ∈ wW) (h5 : Cond.code y bytes maxL none ∈ wW) (hy : y.name = "<init>")
    (nA : Nat) (hA : As.length = nA) (hrc : rm.cells = mc) (hrs : rm.slots = ms) (hd : y.cls ≠ "java/lang/invoke/MethodHandle" ∧ y.cls ≠ "java/lang/invoke/VarHandle" ∧ (parseMethodDescriptor y.desc).map (fun d => d.parameters.length) = some nA)
    (hR : rm.frames + 1 ≤ R.frames ∧ 8 + (maxL + 11) + rm.locals ≤ R.locals) (hst : st0 = As.reverse ++ .ref b :: rest) (hro : (rest.map fun v => v.category).sum ≤ 8) (hdg : decode cc pc = .ok (.invokespecial index, 3)) (hf : cells + mc ≤ R.cells ∧ slots + ms ≤ R.slots) :
    va_Run p l e R s m args below meth c H locs cells slots mc ms (F0 m pc ls st0) rest (Qc (Value.ref b :: As).toArray) (xF G) := by
  obtain ⟨hx, hbb, hr, hml, hown, hw, hlocks⟩ := hE
  exact va_runIN ⟨hx, hbb, hml, hown, hw⟩ cm ⟨va_cnB nA hw (gi_c h5) rfl hrc hrs h1 (hw _ h4) hd hR, hy, hw _ h2⟩ (xP.S hK hM) rfl hA hsz hst (lv_room hro) hdg hf
end XI
section ZK
def zTot (pd : Nat → Int32) : Nat → Int32
  | 0 => 0
  | n + 1 => zTot pd n + pd n
theorem zTot_in {pd : Nat → Int32} : ∀ n, (∀ i, i < n → inR (pd i) 1 900) → ∃ t : Nat, zTot pd n = nI t ∧ n ≤ t ∧ t ≤ 900 * n
  | 0, _ => ⟨0, rfl, Nat.le_refl 0, Nat.le_refl 0⟩
  | n + 1, h => by
    obtain ⟨t, e, h1, h2⟩ := zTot_in n fun i hi => h i (by omega)
    obtain ⟨a, ea, ha, -⟩ := z_nat (⟨by have := (h n (by omega)).1; omega, (h n (by omega)).2⟩ : inR (pd n) 0 900)
    have h3 := (h n (by omega)).1
    rw [ea, nI_toInt (by omega)] at h3
    refine ⟨t + a, ?_, by omega, by omega⟩
    show zTot pd n + pd n = _
    rw [e, ea, nI_add]
def zEvn (pd : Nat → Int32) (n k : Nat) : Int32 := zMin 400 (100 * pd k * nI n / zTot pd n)
end ZK
