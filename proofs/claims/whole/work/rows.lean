section
def lw_okq (q : MethodName × Nat) : Prop := (q.1.cls ≠ "java/lang/invoke/MethodHandle" ∧ q.1.cls ≠ "java/lang/invoke/VarHandle") ∧ Cond.instantiable q.1.cls q.2 ∈ tables_1 ∧ Cond.privateMethod q.1 ∈ tables_1 ∧ Cond.instanceMethod q.1 ∈ tables_1
theorem lw_p0 : lw_okq (⟨"java/lang/Throwable", "fillInStackTrace", "(I)Ljava/lang/Throwable;"⟩, 6) := ⟨⟨by decide +kernel, by decide +kernel⟩, List.mem_of_getElem? (i := 150) (by decide +kernel), List.mem_of_getElem? (i := 148) (by decide +kernel), List.mem_of_getElem? (i := 149) (by decide +kernel)⟩
theorem lw_p1 : lw_okq (⟨"RingMasters", "evenedPad", "()[I"⟩, 12) := ⟨⟨by decide +kernel, by decide +kernel⟩, List.mem_of_getElem? (i := 17) (by decide +kernel), List.mem_of_getElem? (i := 205) (by decide +kernel), List.mem_of_getElem? (i := 206) (by decide +kernel)⟩
theorem lw_p2 : lw_okq (⟨"RingMasters", "rowOf", "(I)LRingMasters$Row;"⟩, 12) := ⟨⟨by decide +kernel, by decide +kernel⟩, List.mem_of_getElem? (i := 17) (by decide +kernel), List.mem_of_getElem? (i := 233) (by decide +kernel), List.mem_of_getElem? (i := 234) (by decide +kernel)⟩
theorem lw_p3 : lw_okq (⟨"RingMasters", "membersOf", "(I)I"⟩, 12) := ⟨⟨by decide +kernel, by decide +kernel⟩, List.mem_of_getElem? (i := 17) (by decide +kernel), List.mem_of_getElem? (i := 271) (by decide +kernel), List.mem_of_getElem? (i := 272) (by decide +kernel)⟩
theorem lw_p4 : lw_okq (⟨"RingMasters", "startsOf", "(I)[I"⟩, 12) := ⟨⟨by decide +kernel, by decide +kernel⟩, List.mem_of_getElem? (i := 17) (by decide +kernel), List.mem_of_getElem? (i := 276) (by decide +kernel), List.mem_of_getElem? (i := 277) (by decide +kernel)⟩
theorem lw_p5 : lw_okq (⟨"RingMasters", "firstYearOf", "(I)I"⟩, 12) := ⟨⟨by decide +kernel, by decide +kernel⟩, List.mem_of_getElem? (i := 17) (by decide +kernel), List.mem_of_getElem? (i := 283) (by decide +kernel), List.mem_of_getElem? (i := 284) (by decide +kernel)⟩
theorem lw_p6 : lw_okq (⟨"RingMasters", "lastYearOf", "(I)I"⟩, 12) := ⟨⟨by decide +kernel, by decide +kernel⟩, List.mem_of_getElem? (i := 17) (by decide +kernel), List.mem_of_getElem? (i := 287) (by decide +kernel), List.mem_of_getElem? (i := 288) (by decide +kernel)⟩
theorem lw_p7 : lw_okq (⟨"RingMasters", "fillValues", "(LRingMasters$Mean;)V"⟩, 12) := ⟨⟨by decide +kernel, by decide +kernel⟩, List.mem_of_getElem? (i := 17) (by decide +kernel), List.mem_of_getElem? (i := 334) (by decide +kernel), List.mem_of_getElem? (i := 335) (by decide +kernel)⟩
theorem lw_p8 : lw_okq (⟨"RingMasters", "gather", "([III)V"⟩, 12) := ⟨⟨by decide +kernel, by decide +kernel⟩, List.mem_of_getElem? (i := 17) (by decide +kernel), List.mem_of_getElem? (i := 338) (by decide +kernel), List.mem_of_getElem? (i := 339) (by decide +kernel)⟩
theorem lw_p9 : lw_okq (⟨"RingMasters", "meanOf", "(I)LRingMasters$Mean;"⟩, 12) := ⟨⟨by decide +kernel, by decide +kernel⟩, List.mem_of_getElem? (i := 17) (by decide +kernel), List.mem_of_getElem? (i := 367) (by decide +kernel), List.mem_of_getElem? (i := 368) (by decide +kernel)⟩
theorem lw_p10 : lw_okq (⟨"RingMasters", "measureFromOthers", "(LRingMasters$Mean;I)V"⟩, 12) := ⟨⟨by decide +kernel, by decide +kernel⟩, List.mem_of_getElem? (i := 17) (by decide +kernel), List.mem_of_getElem? (i := 401) (by decide +kernel), List.mem_of_getElem? (i := 402) (by decide +kernel)⟩
theorem lw_p11 : lw_okq (⟨"RingMasters", "measure", "(LRingMasters$Row;LRingMasters$Mean;I)V"⟩, 12) := ⟨⟨by decide +kernel, by decide +kernel⟩, List.mem_of_getElem? (i := 17) (by decide +kernel), List.mem_of_getElem? (i := 427) (by decide +kernel), List.mem_of_getElem? (i := 428) (by decide +kernel)⟩
theorem lw_p12 : lw_okq (⟨"RingMasters", "nearestYear", "(LRingMasters$Row;LRingMasters$Mean;I)I"⟩, 12) := ⟨⟨by decide +kernel, by decide +kernel⟩, List.mem_of_getElem? (i := 17) (by decide +kernel), List.mem_of_getElem? (i := 442) (by decide +kernel), List.mem_of_getElem? (i := 443) (by decide +kernel)⟩
theorem lw_p13 : lw_okq (⟨"RingMasters", "nearerThan", "(I)I"⟩, 12) := ⟨⟨by decide +kernel, by decide +kernel⟩, List.mem_of_getElem? (i := 17) (by decide +kernel), List.mem_of_getElem? (i := 469) (by decide +kernel), List.mem_of_getElem? (i := 470) (by decide +kernel)⟩
theorem lw_p14 : lw_okq (⟨"RingMasters", "shortestYears", "(IIII)I"⟩, 12) := ⟨⟨by decide +kernel, by decide +kernel⟩, List.mem_of_getElem? (i := 17) (by decide +kernel), List.mem_of_getElem? (i := 492) (by decide +kernel), List.mem_of_getElem? (i := 493) (by decide +kernel)⟩
theorem lw_p15 : lw_okq (⟨"RingMasters", "endOfShare", "(IJI)I"⟩, 12) := ⟨⟨by decide +kernel, by decide +kernel⟩, List.mem_of_getElem? (i := 17) (by decide +kernel), List.mem_of_getElem? (i := 496) (by decide +kernel), List.mem_of_getElem? (i := 497) (by decide +kernel)⟩
def lw_privs_1 : List (MethodName × Nat) := [(⟨"java/lang/Throwable", "fillInStackTrace", "(I)Ljava/lang/Throwable;"⟩, 6), (⟨"RingMasters", "evenedPad", "()[I"⟩, 12), (⟨"RingMasters", "rowOf", "(I)LRingMasters$Row;"⟩, 12), (⟨"RingMasters", "membersOf", "(I)I"⟩, 12), (⟨"RingMasters", "startsOf", "(I)[I"⟩, 12), (⟨"RingMasters", "firstYearOf", "(I)I"⟩, 12), (⟨"RingMasters", "lastYearOf", "(I)I"⟩, 12), (⟨"RingMasters", "fillValues", "(LRingMasters$Mean;)V"⟩, 12), (⟨"RingMasters", "gather", "([III)V"⟩, 12), (⟨"RingMasters", "meanOf", "(I)LRingMasters$Mean;"⟩, 12), (⟨"RingMasters", "measureFromOthers", "(LRingMasters$Mean;I)V"⟩, 12), (⟨"RingMasters", "measure", "(LRingMasters$Row;LRingMasters$Mean;I)V"⟩, 12), (⟨"RingMasters", "nearestYear", "(LRingMasters$Row;LRingMasters$Mean;I)I"⟩, 12), (⟨"RingMasters", "nearerThan", "(I)I"⟩, 12), (⟨"RingMasters", "shortestYears", "(IIII)I"⟩, 12), (⟨"RingMasters", "endOfShare", "(IJI)I"⟩, 12)]
theorem lw_r1 : ∀ q ∈ lw_privs_1, lw_okq q := List.forall_mem_cons.mpr ⟨lw_p0, List.forall_mem_cons.mpr ⟨lw_p1, List.forall_mem_cons.mpr ⟨lw_p2, List.forall_mem_cons.mpr ⟨lw_p3, List.forall_mem_cons.mpr ⟨lw_p4, List.forall_mem_cons.mpr ⟨lw_p5, List.forall_mem_cons.mpr ⟨lw_p6, List.forall_mem_cons.mpr ⟨lw_p7, List.forall_mem_cons.mpr ⟨lw_p8, List.forall_mem_cons.mpr ⟨lw_p9, List.forall_mem_cons.mpr ⟨lw_p10, List.forall_mem_cons.mpr ⟨lw_p11, List.forall_mem_cons.mpr ⟨lw_p12, List.forall_mem_cons.mpr ⟨lw_p13, List.forall_mem_cons.mpr ⟨lw_p14, List.forall_mem_cons.mpr ⟨lw_p15, fun _ h => absurd h List.not_mem_nil⟩⟩⟩⟩⟩⟩⟩⟩⟩⟩⟩⟩⟩⟩⟩⟩
theorem lw_p16 : lw_okq (⟨"RingMasters", "floatingRows", "()I"⟩, 12) := ⟨⟨by decide +kernel, by decide +kernel⟩, List.mem_of_getElem? (i := 17) (by decide +kernel), List.mem_of_getElem? (i := 514) (by decide +kernel), List.mem_of_getElem? (i := 515) (by decide +kernel)⟩
theorem lw_p17 : lw_okq (⟨"RingMastersModel", "goes", "(ZZZ)Z"⟩, 20) := ⟨⟨by decide +kernel, by decide +kernel⟩, List.mem_of_getElem? (i := 518) (by decide +kernel), List.mem_of_getElem? (i := 596) (by decide +kernel), List.mem_of_getElem? (i := 597) (by decide +kernel)⟩
theorem lw_p18 : lw_okq (⟨"RingMastersModel", "isSeries", "(I)Z"⟩, 20) := ⟨⟨by decide +kernel, by decide +kernel⟩, List.mem_of_getElem? (i := 518) (by decide +kernel), List.mem_of_getElem? (i := 608) (by decide +kernel), List.mem_of_getElem? (i := 609) (by decide +kernel)⟩
theorem lw_p19 : lw_okq (⟨"RingMastersModel", "even", "(II)I"⟩, 20) := ⟨⟨by decide +kernel, by decide +kernel⟩, List.mem_of_getElem? (i := 518) (by decide +kernel), List.mem_of_getElem? (i := 612) (by decide +kernel), List.mem_of_getElem? (i := 613) (by decide +kernel)⟩
theorem lw_p20 : lw_okq (⟨"RingMastersModel", "isMaster", "(I)Z"⟩, 20) := ⟨⟨by decide +kernel, by decide +kernel⟩, List.mem_of_getElem? (i := 518) (by decide +kernel), List.mem_of_getElem? (i := 628) (by decide +kernel), List.mem_of_getElem? (i := 629) (by decide +kernel)⟩
theorem lw_p21 : lw_okq (⟨"RingMastersModel", "isYear", "(II)Z"⟩, 20) := ⟨⟨by decide +kernel, by decide +kernel⟩, List.mem_of_getElem? (i := 518) (by decide +kernel), List.mem_of_getElem? (i := 636) (by decide +kernel), List.mem_of_getElem? (i := 637) (by decide +kernel)⟩
theorem lw_p22 : lw_okq (⟨"RingMastersModel", "valueOf", "(III)I"⟩, 20) := ⟨⟨by decide +kernel, by decide +kernel⟩, List.mem_of_getElem? (i := 518) (by decide +kernel), List.mem_of_getElem? (i := 640) (by decide +kernel), List.mem_of_getElem? (i := 641) (by decide +kernel)⟩
theorem lw_p23 : lw_okq (⟨"RingMastersModel", "has", "(III)Z"⟩, 20) := ⟨⟨by decide +kernel, by decide +kernel⟩, List.mem_of_getElem? (i := 518) (by decide +kernel), List.mem_of_getElem? (i := 644) (by decide +kernel), List.mem_of_getElem? (i := 645) (by decide +kernel)⟩
theorem lw_p24 : lw_okq (⟨"RingMastersModel", "depthOf", "(III)I"⟩, 20) := ⟨⟨by decide +kernel, by decide +kernel⟩, List.mem_of_getElem? (i := 518) (by decide +kernel), List.mem_of_getElem? (i := 652) (by decide +kernel), List.mem_of_getElem? (i := 653) (by decide +kernel)⟩
theorem lw_p25 : lw_okq (⟨"RingMastersModel", "measure", "(IIII)V"⟩, 20) := ⟨⟨by decide +kernel, by decide +kernel⟩, List.mem_of_getElem? (i := 518) (by decide +kernel), List.mem_of_getElem? (i := 660) (by decide +kernel), List.mem_of_getElem? (i := 661) (by decide +kernel)⟩
theorem lw_p26 : lw_okq (⟨"RingMastersModel", "seek", "(III)V"⟩, 20) := ⟨⟨by decide +kernel, by decide +kernel⟩, List.mem_of_getElem? (i := 518) (by decide +kernel), List.mem_of_getElem? (i := 675) (by decide +kernel), List.mem_of_getElem? (i := 676) (by decide +kernel)⟩
def lw_privs_2 : List (MethodName × Nat) := [(⟨"RingMasters", "floatingRows", "()I"⟩, 12), (⟨"RingMastersModel", "goes", "(ZZZ)Z"⟩, 20), (⟨"RingMastersModel", "isSeries", "(I)Z"⟩, 20), (⟨"RingMastersModel", "even", "(II)I"⟩, 20), (⟨"RingMastersModel", "isMaster", "(I)Z"⟩, 20), (⟨"RingMastersModel", "isYear", "(II)Z"⟩, 20), (⟨"RingMastersModel", "valueOf", "(III)I"⟩, 20), (⟨"RingMastersModel", "has", "(III)Z"⟩, 20), (⟨"RingMastersModel", "depthOf", "(III)I"⟩, 20), (⟨"RingMastersModel", "measure", "(IIII)V"⟩, 20), (⟨"RingMastersModel", "seek", "(III)V"⟩, 20)]
theorem lw_r2 : ∀ q ∈ lw_privs_2, lw_okq q := List.forall_mem_cons.mpr ⟨lw_p16, List.forall_mem_cons.mpr ⟨lw_p17, List.forall_mem_cons.mpr ⟨lw_p18, List.forall_mem_cons.mpr ⟨lw_p19, List.forall_mem_cons.mpr ⟨lw_p20, List.forall_mem_cons.mpr ⟨lw_p21, List.forall_mem_cons.mpr ⟨lw_p22, List.forall_mem_cons.mpr ⟨lw_p23, List.forall_mem_cons.mpr ⟨lw_p24, List.forall_mem_cons.mpr ⟨lw_p25, List.forall_mem_cons.mpr ⟨lw_p26, fun _ h => absurd h List.not_mem_nil⟩⟩⟩⟩⟩⟩⟩⟩⟩⟩⟩
def lw_privs : List (MethodName × Nat) := lw_privs_1 ++ (lw_privs_2)
def lw_tbl : List Cond := k2_sels lw_privs ++ tables_1
theorem lw_privs_ok : ∀ q ∈ lw_privs, lw_okq q := by
  show ∀ q ∈ lw_privs_1 ++ (lw_privs_2), lw_okq q
  exact List.forall_mem_append.mpr ⟨lw_r1, lw_r2⟩
end
section
theorem goodIn_r {big : List Cond} (ws : List Cond) (ps : List Nat) (hp : ws = ps.filterMap (fun i => big[i]?)) (h : ws.all goodWord = true) : GoodIn big ws := by
  intro w hw
  have h1 := List.all_eq_true.mp h w hw
  rw [hp] at hw
  obtain ⟨i, -, hi⟩ := List.mem_filterMap.mp hw
  have hm : w ∈ big := by first | exact List.mem_of_getElem? hi | exact List.getElem?_mem hi
  exact ⟨hm, good_of_word h1⟩
theorem goodIn_app {big a b : List Cond} (ha : GoodIn big a) (hb : GoodIn big b) : GoodIn big (a ++ b) := fun w h => (List.mem_append.mp h).elim (ha w) (hb w)
theorem goodIn_ca {big a b : List Cond} {c : Cond} (ha : GoodIn big (c :: a)) (hb : GoodIn big b) : GoodIn big (c :: (a ++ b)) := fun w h => (List.mem_cons.mp h).elim (fun e => ha w (List.mem_cons.mpr (Or.inl e))) (fun h => (List.mem_append.mp h).elim (fun h => ha w (List.mem_cons.mpr (Or.inr h))) (hb w))
theorem goodIn_sub {big ws : List Cond} (hm : ∀ w ∈ ws, w ∈ big) (h : ws.all goodWord = true) : GoodIn big ws := fun w hw => ⟨hm w hw, good_of_word (List.all_eq_true.mp h w hw)⟩

section VXA
def vx_T (XC : String → State → State → Prop) (st : State) (q : Addr) (t : State) (mc ms : Nat) (free : Addr → Prop) : Prop :=
  ∃ (E : String) (ce : Cell) (L : List Loc), XC E st t ∧ t.heap[q]? = some ce ∧ ce.vm = .none ∧ st.vm.findClass E = some ce.cls ∧ st.WarmedH t.vm ∧ st.sameButNew ({ t with vm := st.vm } : State) L mc ms ∧ ∀ z ∈ L, free z.base
def vx_Q (Qc : Array Value → State → Outcome → State → Prop) (XC : String → State → State → Prop) (mc ms : Nat) (free : Addr → Prop) : Array Value → State → Outcome → State → Prop := fun a st o t =>
  (Qc a st o t ∧ ∃ L, FrameEnd st o t L mc ms ∧ ∀ q ∈ L, free q.base) ∨ ∃ q, o = .threw q ∧ vx_T XC st q t mc ms free
def vx_Met (l : Launch) (y : MethodName) (ws : List Cond) (rm : Room) (Pc : Array Value → State → Prop) (Qc : Array Value → State → Outcome → State → Prop) (XC : String → State → State → Prop) (mc ms : Nat) (free : Addr → Prop) : Prop :=
  MetFree l y (headSpec ws rm) Pc (fun _ _ _ _ _ => True) (vx_Q Qc XC mc ms free)
def vx_Post (XC : String → State → State → Prop) (mc ms : Nat) (free : Addr → Prop) : Pt → Array Value → Addr → Pt → Prop := fun A a q B =>
  ∃ (g : JFrame) (mk : MethodId) (t : State) (L : List Loc) (E : String) (ce : Cell), B.U.heap = t.heap ∧ B.U.vm = t.vm ∧ XC E (A.U.calling g mk a) t ∧ t.heap[q]? = some ce ∧ ce.vm = .none ∧ A.U.vm.findClass E = some ce.cls ∧ B.locs = A.locs ++ L ∧ (∀ z ∈ L, free z.base) ∧ B.cells = A.cells + mc ∧ B.slots = A.slots + ms
def vx_Back (l : Launch) (R : Room) (p : Program) (e : Env) (below : List Frame) (s : State) (sargs : Array Value) (y : MethodName) (len W9 : Nat)
    (Pre : Pt → Array Value → Prop) (Post : Pt → Array Value → Option Value → Pt → Prop) (PostX : Pt → Array Value → Addr → Pt → Prop) : Prop :=
  ∀ (m : MethodId) (meth : Method) (c : Code) (A : Pt) (g : JFrame) (ig : Instr) (mk : MethodId) (a : Array Value),
    Stand p l e R s m sargs below meth c A.U A.locs A.cells A.slots → g.method = m → g.locals.size = c.maxLocals → decode c.code g.pc = .ok (ig, len) →
    2 * g.monitorRoom + (g.stack.map fun v => v.category).sum ≤ W9 → A.U.methodNamed? y = some mk → Pre A a →
    (∃ (v : Option Value) (B : Pt), Stand p l e R s m sargs below meth c B.U B.locs B.cells B.slots ∧ Post A a v B ∧
      Steps p.tables e below (doInvoke e (A.U.setTop g) [] mk a).1 (B.U.setTop { g with pc := g.pc + len, stack := v.toList ++ g.stack })) ∨
    (∃ (q : Addr) (B : Pt), Stand p l e R s m sargs below meth c B.U B.locs B.cells B.slots ∧ PostX A a q B ∧
      Steps p.tables e below (doInvoke e (A.U.setTop g) [] mk a).1 ((B.U.setTop g).pushFrame (.throwing q)))
section Payer
variable {l : Launch} {R : Room} {p : Program} {e : Env} {below : List Frame} {s : State} {sargs : Array Value} {y : MethodName} {len W9 : Nat}
theorem vx_back {ws : List Cond} {rm : Room} {Pc : Array Value → State → Prop} {Qc : Array Value → State → Outcome → State → Prop} {XC : String → State → State → Prop} {mc ms : Nat} {free : Addr → Prop} {bytes : ByteArray} {maxL : Nat} {ret : Option FieldType}
    (hM : vx_Met l y ws rm Pc Qc XC mc ms free) (hblind : FrameBlind Pc) (hrc : rm.cells = mc) (hrs : rm.slots = ms)
    (hframes : rm.frames + 1 ≤ R.frames) (hlocals : W9 + (maxL + 11) + rm.locals ≤ R.locals)
    (hws : ∀ w ∈ ws, ∀ a' U, s.WarmedH U.vm → w.before a' U = true) (hcode : Cond.code y bytes maxL ret ∈ ws) (hinit : ∀ a' U, s.WarmedH U.vm → (Cond.initialized y.cls).before a' U = true) :
    vx_Back l R p e below s sargs y len W9 (PreOf R mc ms Pc) (PostOf Qc mc ms free) (vx_Post XC mc ms free) := by
  intro m meth c A g ig mk a X hg hsize hdg hW hn hp
  have h1 : (headSpec ws rm).pre.before a A.U = true := atoms_intro fun w hw => hws w hw _ _ X.warmed
  have h2 : (Cond.code y bytes maxL ret).before a A.U = true := hws _ hcode _ _ X.warmed
  have h3 : (Cond.initialized y.cls).before a A.U = true := hinit _ _ X.warmed
  have h4 : A.cells + (headSpec ws rm).room.cells ≤ R.cells := by rw [show (headSpec ws rm).room.cells = mc from hrc]; exact hp.1
  have h5 : A.slots + (headSpec ws rm).room.slots ≤ R.slots := by rw [show (headSpec ws rm).room.slots = ms from hrs]; exact hp.2.1
  have hPc : Pc a (A.U.calling g mk a) := hblind _ _ _ _ hp.2.2
  obtain ⟨U, Ls, c0, s0⟩ := A
  dsimp only [Pt.U, Pt.locs, Pt.cells, Pt.slots] at h1 h2 h3 h4 h5 X hn hPc ⊢
  obtain ⟨methY, cY, hmY, hcY, -, hlY, -, -, -, -⟩ := Cond.code_spec hn h2
  obtain ⟨kY, hkY, -⟩ := className_of_methodNamed hn
  have hinitY : kY.init = .initialized := Cond.initialized_spec (findClass_of_methodNamed hn) hkY h3
  have h : At U g.method c below := by rw [hg]; exact X.here
  have hlocals9 : W9 + (maxL + 11) + (headSpec ws rm).room.locals ≤ R.locals := hlocals
  have happ : (headSpec ws rm).appliesLoose y e.platform (U.calling g mk a) = true :=
    Spec.appliesLoose_calling (g := g) h hdg hn hkY hinitY
      (X.room_calling (g := g) (R' := (headSpec ws rm).room) hsize hmY hcY hframes (by rw [hlY]; omega) h4 h5) h1
  obtain ⟨mid, hmid⟩ := h.above
  have hfr : (U.setTop g).frames = (.java g :: mid) ++ below := by rw [State.frames_setTop' g h.top, hmid]; rfl
  obtain ⟨o, s₂, hsteps, -, hend, hq⟩ := Steps.callFree hM p X.admits X.cas X.clock (acts := []) hfr happ hPc trivial
  have hq' : vx_Q Qc XC mc ms free a (U.calling g mk a) o s₂ := hq
  rw [State.frames_setTop' g h.top] at hend
  obtain ⟨g₀, hg0⟩ := Option.isSome_iff_exists.mp h.top
  obtain ⟨r, hr⟩ := State.topJava?_eq_some.mp hg0
  have hr' : (({ U with heap := s₂.heap, slotsUsed := s₂.slotsUsed } : State).setVm s₂.vm).frames = .java g₀ :: r := hr
  rcases hq' with ⟨hqc, L, hfe, hL⟩ | ⟨q, rfl, E, ce, L, hx, hce, hcv, hcl, hW₂, hsm, hL⟩
  · obtain ⟨⟨v, rfl⟩, hW₂, e2, q2, q3, q4, q5, q6⟩ := id hfe
    have e3 : s₂ = ({ (U.calling g mk a).setFrames s₂.frames with heap := s₂.heap, slotsUsed := s₂.slotsUsed } : State).setVm s₂.vm := by
      have : s₂ = ({ s₂ with vm := (U.calling g mk a).vm } : State).setVm s₂.vm := rfl
      rw [e2] at this
      exact this
    obtain ⟨c₂, i₂, len₂, hc₂, hd₂, hf₂⟩ := hend
    have hW' : U.WarmedH s₂.vm := hW₂
    have hcc : c₂ = c := by
      have h1 : s₂.code? g.method = U.code? g.method := by
        rw [State.code?_eq, State.code?_eq, hW'.alike.method?]
      exact Option.some.inj (hc₂.symm.trans (h1.trans h.code))
    subst hcc
    have hlen : len₂ = len := by rw [hdg] at hd₂; cases hd₂; rfl
    subst hlen
    have hs₂ : s₂ = (({ U with heap := s₂.heap, slotsUsed := s₂.slotsUsed } : State).setVm s₂.vm).setTop { g with pc := g.pc + len₂, stack := v.toList ++ g.stack } := by
      refine e3.trans ?_
      rw [hf₂, State.calling_eq h.top, State.setFrames_setFrames, State.setTop_of_frames _ hr', hr]
      rfl
    have hsame : U.sameButNew ({ U with heap := s₂.heap, slotsUsed := s₂.slotsUsed } : State) L mc ms := by
      refine ⟨?_, q2, q3, q4, q5, q6⟩
      obtain ⟨t, ht, -⟩ := State.frames_cons hr
      show ({ U with heap := s₂.heap, slotsUsed := s₂.slotsUsed } : State) = { U.setFrames U.frames with heap := s₂.heap, slotsUsed := s₂.slotsUsed }
      rw [State.setFrames_self ht]
    subst hg
    refine Or.inl ⟨v, ⟨(({ U with heap := s₂.heap, slotsUsed := s₂.slotsUsed } : State).setVm s₂.vm), Ls ++ L, c0 + mc, s0 + ms⟩,
      ⟨X.admits, X.cas, X.clock, X.frames, X.room, X.hears, X.method, X.code, (X.here.setHeapUsed s₂.heap s₂.slotsUsed).setVm hW'.alike, X.tail, State.WarmedH.trans X.warmed hW', X.limits, X.bytes, X.same.trans (hsame.setVm s.vm)⟩,
      ⟨g, mk, s₂, L, rfl, rfl, hqc, rfl, hL, rfl, rfl⟩, ?_⟩
    show Steps p.tables e below _ ((({ U with heap := s₂.heap, slotsUsed := s₂.slotsUsed } : State).setVm s₂.vm).setTop { g with pc := g.pc + len₂, stack := v.toList ++ g.stack })
    rw [← hs₂]
    exact hsteps
  · obtain ⟨e2, q2, q3, q4, q5, q6⟩ := id hsm
    have e3 : s₂ = ({ (U.calling g mk a).setFrames s₂.frames with heap := s₂.heap, slotsUsed := s₂.slotsUsed } : State).setVm s₂.vm := by
      have : s₂ = ({ s₂ with vm := (U.calling g mk a).vm } : State).setVm s₂.vm := rfl
      rw [e2] at this
      exact this
    have hf₂ : s₂.frames = .throwing q :: .java g :: U.frames.tail := hend
    have hW' : U.WarmedH s₂.vm := hW₂
    have hs₂ : s₂ = ((({ U with heap := s₂.heap, slotsUsed := s₂.slotsUsed } : State).setVm s₂.vm).setTop g).pushFrame (.throwing q) := by
      refine e3.trans ?_
      rw [hf₂, State.calling_eq h.top, State.setFrames_setFrames, State.pushFrame, State.frames_setTop _ hr', State.setTop_of_frames _ hr', State.setFrames_setFrames, hr]
      rfl
    have hsame : U.sameButNew ({ U with heap := s₂.heap, slotsUsed := s₂.slotsUsed } : State) L mc ms := by
      refine ⟨?_, q2, q3, q4, q5, q6⟩
      obtain ⟨t, ht, -⟩ := State.frames_cons hr
      show ({ U with heap := s₂.heap, slotsUsed := s₂.slotsUsed } : State) = { U.setFrames U.frames with heap := s₂.heap, slotsUsed := s₂.slotsUsed }
      rw [State.setFrames_self ht]
    subst hg
    refine Or.inr ⟨q, ⟨(({ U with heap := s₂.heap, slotsUsed := s₂.slotsUsed } : State).setVm s₂.vm), Ls ++ L, c0 + mc, s0 + ms⟩,
      ⟨X.admits, X.cas, X.clock, X.frames, X.room, X.hears, X.method, X.code, (X.here.setHeapUsed s₂.heap s₂.slotsUsed).setVm hW'.alike, X.tail, State.WarmedH.trans X.warmed hW', X.limits, X.bytes, X.same.trans (hsame.setVm s.vm)⟩,
      ⟨g, mk, s₂, L, E, ce, rfl, rfl, hx, hce, hcv, hcl, rfl, hL, rfl, rfl⟩, ?_⟩
    show Steps p.tables e below _ (((({ U with heap := s₂.heap, slotsUsed := s₂.slotsUsed } : State).setVm s₂.vm).setTop g).pushFrame (.throwing q))
    rw [← hs₂]
    exact hsteps
end Payer
section Calls
variable {p : Program} {l : Launch} {e : Env} {R : Room} {s : State} {m : MethodId} {args : Array Value} {below : List Frame} {meth : Method} {c : Code} {T : State} {locs : List Loc} {cells slots : Nat}
theorem vx_callV (X : Stand p l e R s m args below meth c T locs cells slots) (hexec : p.tables.exec = Jvm.exec) {own C : String} {index : Nat} {y : MethodName} {bytes : ByteArray} {maxL : Nat} {ret : Option FieldType}
    (hown : s.vm.findClass own = some m.cls) (hlink : (Cond.methodLink own index y).before args s = true) (hinst : (Cond.instanceMethod y).before args s = true) (hsel : (Cond.selects C y y).before args s = true)
    (hcode : (Cond.code y bytes maxL ret).before args s = true) (hy : y.cls ≠ "java/lang/invoke/MethodHandle" ∧ y.cls ≠ "java/lang/invoke/VarHandle")
    {W9 : Nat} {Pre : Pt → Array Value → Prop} {Post : Pt → Array Value → Option Value → Pt → Prop} {PostX : Pt → Array Value → Addr → Pt → Prop} (hK : vx_Back l R p e below s args y 3 W9 Pre Post PostX)
    {b : Addr} {cellB : Cell} (hcell : T.heap[b]? = some cellB) (hobj : cellB.vm.isStatics = false) (hcls : s.vm.findClass C = some cellB.cls)
    {g : JFrame} (hg : g.method = m) (hsize : g.locals.size = c.maxLocals) {argsL rest : List Value} (hlen : ∀ sig, parseMethodDescriptor y.desc = some sig → argsL.length = sig.parameters.length)
    (hstack : g.stack = argsL.reverse ++ .ref b :: rest) (hW : 2 * g.monitorRoom + (rest.map fun v => v.category).sum ≤ W9) (hdg : decode c.code g.pc = .ok (.invokevirtual index, 3))
    (hpre : ∀ vm₁, s.WarmedH vm₁ → Pre ⟨T.setVm vm₁, locs, cells, slots⟩ (Value.ref b :: argsL).toArray) :
    (∃ (v : Option Value) (vm₁ : Vm) (B : Pt), s.WarmedH vm₁ ∧ Stand p l e R s m args below meth c B.U B.locs B.cells B.slots ∧ Post ⟨T.setVm vm₁, locs, cells, slots⟩ (Value.ref b :: argsL).toArray v B ∧
      ∀ target, Steps p.tables e below (B.U.setTop { g with pc := g.pc + 3, stack := v.toList ++ rest }) target → Steps p.tables e below (T.setTop g) target) ∨
    (∃ (q : Addr) (vm₁ : Vm) (B : Pt), s.WarmedH vm₁ ∧ Stand p l e R s m args below meth c B.U B.locs B.cells B.slots ∧ PostX ⟨T.setVm vm₁, locs, cells, slots⟩ (Value.ref b :: argsL).toArray q B ∧
      Steps p.tables e below (T.setTop g) ((B.U.setTop { g with stack := rest }).pushFrame (.throwing q))) := by
  obtain ⟨mk, methM, hnamed, hmethM, hstM, habM⟩ := Cond.instanceMethod_spec hinst
  obtain ⟨methM', cM, hmethM', -, -, -, -, -, -, hsigM⟩ := Cond.code_spec hnamed hcode
  cases hmethM.symm.trans hmethM'
  obtain ⟨c2, r2, m2, q1, q2, q3, q4, kP, hkP, hkPi⟩ := Cond.selects_spec hsel
  cases hcls.symm.trans q1
  cases (State.methodFound?_of_named hnamed hy).symm.trans q2
  cases hnamed.symm.trans q3
  have hselP : selectMethod e.platform s.vm cellB.cls mk = .method mk := by rw [Launch.admits_selectMethod X.admits]; exact q4
  obtain ⟨vm₁, X₁, hstep₁⟩ := X.invokevirtual hexec hown hlink hnamed hmethM hstM hkP hkPi hy (a := b) (cell := cellB) hcell
    (fun z h => by rw [h] at hobj; cases hobj) hselP hmethM habM hkP hkPi (g := g) hg (argsL := argsL) (rest := rest) (hlen _ hsigM) hstack hdg
  rcases hK m meth c ⟨T.setVm vm₁, locs, cells, slots⟩ { g with stack := rest } (.invokevirtual index) mk (Value.ref b :: argsL).toArray X₁ hg hsize hdg hW (X₁.named hnamed) (hpre vm₁ X₁.warmed) with ⟨v, B, X', hpost, hsteps⟩ | ⟨q, B, X', hpost, hsteps⟩
  · exact Or.inl ⟨v, vm₁, B, X₁.warmed, X', hpost, fun target h => hstep₁ _ fun acts => by rw [doInvoke_state]; exact hsteps.trans h⟩
  · exact Or.inr ⟨q, vm₁, B, X₁.warmed, X', hpost, hstep₁ _ fun acts => by rw [doInvoke_state]; exact hsteps⟩
theorem vx_callS (X : Stand p l e R s m args below meth c T locs cells slots) (hexec : p.tables.exec = Jvm.exec) {own : String} {index : Nat} {y : MethodName} {bytes : ByteArray} {maxL : Nat} {ret : Option FieldType}
    (hown : s.vm.findClass own = some m.cls) (hlink : (Cond.methodLink own index y).before args s = true) (hstat : (Cond.static y).before args s = true) (hinit : (Cond.initialized y.cls).before args s = true)
    (hcode : (Cond.code y bytes maxL ret).before args s = true) (hy : y.cls ≠ "java/lang/invoke/MethodHandle" ∧ y.cls ≠ "java/lang/invoke/VarHandle")
    {W9 : Nat} {Pre : Pt → Array Value → Prop} {Post : Pt → Array Value → Option Value → Pt → Prop} {PostX : Pt → Array Value → Addr → Pt → Prop} (hK : vx_Back l R p e below s args y 3 W9 Pre Post PostX)
    {g : JFrame} (hg : g.method = m) (hsize : g.locals.size = c.maxLocals) {argsL rest : List Value} (hlen : ∀ sig, parseMethodDescriptor y.desc = some sig → argsL.length = sig.parameters.length)
    (hstack : g.stack = argsL.reverse ++ rest) (hW : 2 * g.monitorRoom + (rest.map fun v => v.category).sum ≤ W9) (hdg : decode c.code g.pc = .ok (.invokestatic index, 3))
    (hpre : ∀ vm₁, s.WarmedH vm₁ → Pre ⟨T.setVm vm₁, locs, cells, slots⟩ argsL.toArray) :
    (∃ (v : Option Value) (vm₁ : Vm) (B : Pt), s.WarmedH vm₁ ∧ Stand p l e R s m args below meth c B.U B.locs B.cells B.slots ∧ Post ⟨T.setVm vm₁, locs, cells, slots⟩ argsL.toArray v B ∧
      ∀ target, Steps p.tables e below (B.U.setTop { g with pc := g.pc + 3, stack := v.toList ++ rest }) target → Steps p.tables e below (T.setTop g) target) ∨
    (∃ (q : Addr) (vm₁ : Vm) (B : Pt), s.WarmedH vm₁ ∧ Stand p l e R s m args below meth c B.U B.locs B.cells B.slots ∧ PostX ⟨T.setVm vm₁, locs, cells, slots⟩ argsL.toArray q B ∧
      Steps p.tables e below (T.setTop g) ((B.U.setTop { g with stack := rest }).pushFrame (.throwing q))) := by
  obtain ⟨mk, hnamed⟩ := Cond.code_named hcode
  obtain ⟨methM, cM, hmethM, -, -, -, -, -, -, hsigM⟩ := Cond.code_spec hnamed hcode
  have hstatic : methM.isStatic = true := Cond.static_spec hnamed hmethM hstat
  obtain ⟨kP, hkP, -⟩ := className_of_methodNamed hnamed
  have hinitP : kP.init = .initialized := Cond.initialized_spec (findClass_of_methodNamed hnamed) hkP hinit
  obtain ⟨vm₁, X₁, hstep₁⟩ := X.invokestatic hexec hown hlink hnamed hmethM hstatic hkP hinitP hy (g := g) hg (argsL := argsL) (rest := rest) (hlen _ hsigM) hstack hdg
  rcases hK m meth c ⟨T.setVm vm₁, locs, cells, slots⟩ { g with stack := rest } (.invokestatic index) mk argsL.toArray X₁ hg hsize hdg hW (X₁.named hnamed) (hpre vm₁ X₁.warmed) with ⟨v, B, X', hpost, hsteps⟩ | ⟨q, B, X', hpost, hsteps⟩
  · exact Or.inl ⟨v, vm₁, B, X₁.warmed, X', hpost, fun target h => hstep₁ _ fun acts => by rw [doInvoke_state]; exact hsteps.trans h⟩
  · exact Or.inr ⟨q, vm₁, B, X₁.warmed, X', hpost, hstep₁ _ fun acts => by rw [doInvoke_state]; exact hsteps⟩
end Calls
theorem vx_cls {s : State} {T : State} {vm₁ : Vm} {E : String} {k : ClassId} (hW : s.WarmedH vm₁) (h : (T.setVm vm₁).vm.findClass E = some k) : s.vm.findClass E = some k := by
  have h1 : vm₁.findClass E = some k := h
  rw [hW.alike.findClass] at h1
  exact h1
def vx_W (p : Program) (l : Launch) (e : Env) (R : Room) (s : State) (m : MethodId) (args : Array Value) (below : List Frame) (meth : Method) (c : Code) (H : Heap) (locs : List Loc) (cells slots : Nat) (Q : State → Prop) (g : JFrame) (q : Addr) : Prop :=
  ∀ T : State, T.heap = H → Stand p l e R s m args below meth c T locs cells slots → ∃ t, Steps p.tables e below ((T.setTop g).pushFrame (.throwing q)) t ∧ Q t
def vx_Run (p : Program) (l : Launch) (e : Env) (R : Room) (s : State) (m : MethodId) (args : Array Value) (below : List Frame) (meth : Method) (c : Code) (H : Heap) (locs : List Loc) (cells slots mc ms : Nat) (g : JFrame) (rest : List Value) (Qa : State → Outcome → State → Prop) (XC : String → State → State → Prop) (free : Addr → Prop) : Prop :=
  ∀ T : State, T.heap = H → Stand p l e R s m args below meth c T locs cells slots →
    (∃ (v : Option Value) (st₀ t T' : State) (L : List Loc), st₀.heap = H ∧ Stand p l e R s m args below meth c T' (locs ++ L) (cells + mc) (slots + ms) ∧ (∀ q ∈ L, free q.base) ∧ T'.heap = t.heap ∧ T'.vm = t.vm ∧ Qa st₀ (.returned v) t ∧
      Goes p e below T g T' { g with pc := g.pc + 3, stack := v.toList ++ rest }) ∨
    (∃ (q : Addr) (st₀ t T' : State) (L : List Loc) (E : String) (ce : Cell), st₀.heap = H ∧ Stand p l e R s m args below meth c T' (locs ++ L) (cells + mc) (slots + ms) ∧ (∀ z ∈ L, free z.base) ∧ T'.heap = t.heap ∧ T'.vm = t.vm ∧ XC E st₀ t ∧ t.heap[q]? = some ce ∧ ce.vm = .none ∧ s.vm.findClass E = some ce.cls ∧
      Steps p.tables e below (T.setTop g) ((T'.setTop { g with stack := rest }).pushFrame (.throwing q)))
def vx_X {S : Type} (px : S → Prop) (B : String → S → State → Prop) (A : Nat → Prop) : String → State → State → Prop := fun E st t => ∃ u : S, px u ∧ B E u t ∧ va_F A st t
section Runs
variable {p : Program} {l : Launch} {e : Env} {R : Room} {s : State} {m : MethodId} {args : Array Value} {below : List Frame} {meth : Method} {c : Code} {H : Heap} {locs : List Loc} {cells slots : Nat}
variable {y : MethodName} {bytes cc : ByteArray} {maxL nL mc ms n index : Nat} {ret : Option FieldType} {ws : List Cond} {rm : Room} {Pc : Array Value → State → Prop} {Qc : Array Value → State → Outcome → State → Prop} {XC : String → State → State → Prop} {free : Addr → Prop} {Ts : List Cond} {own C : String} {b : Addr} {As rest : List Value} {g : JFrame}
theorem vx_callBack (cb : CallB R s args own index y bytes maxL ret ws rm mc ms n) (hM : vx_Met l y ws rm Pc Qc XC mc ms free) (hbl : FrameBlind Pc) : vx_Back l R p e below s args y 3 8 (PreOf R mc ms Pc) (PostOf Qc mc ms free) (vx_Post XC mc ms free) := by
  obtain ⟨hrc, hrs, hfr, hlo, hws, hcw, -, hini, -⟩ := cb
  exact vx_back (bytes := bytes) (maxL := maxL) (ret := ret) hM hbl hrc hrs hfr hlo hws hcw (fun a' U hW => word_at hW (Or.inl (by first | rfl | simp [Cond.onTables, Cond.keeps, Cond.steady])) hini)
theorem vx_runV (S : CallFix p m c cc nL s args Ts own) (hM : vx_Met l y ws rm Pc Qc XC mc ms free) (cw : CallW R s args own C index y bytes maxL ret ws rm mc ms n) (hp : PreV s H C b Pc As)
    (hg : g.method = m) (hn : As.length = n) (hsize : g.locals.size = nL) (hstack : g.stack = As.reverse ++ .ref b :: rest) (hW : 2 * g.monitorRoom + (rest.map fun v => v.category).sum ≤ 8) (hdg : decode cc g.pc = .ok (.invokevirtual index, 3)) (hf : cells + mc ≤ R.cells ∧ slots + ms ≤ R.slots) :
    vx_Run p l e R s m args below meth c H locs cells slots mc ms g rest (Qc (Value.ref b :: As).toArray) XC free := by
  have hK : vx_Back l R p e below s args y 3 8 (PreOf R mc ms Pc) (PostOf Qc mc ms free) (vx_Post XC mc ms free) := vx_callBack cw.1 hM hp.1
  obtain ⟨⟨-, -, -, -, -, -, hcode, -, hy, hlen, hl⟩, hin, hse⟩ := cw
  obtain ⟨hx, hb, hml, ho, -⟩ := S
  obtain ⟨-, ⟨cellB, hcB, hoB, hclB⟩, hPc⟩ := hp
  intro T hT X
  rcases vx_callV X hx (C := C) (bytes := bytes) (maxL := maxL) (ret := ret) ho hl hin hse hcode hy hK (by rw [hT]; exact hcB) hoB hclB hg (hsize.trans hml.symm) (argsL := As) (rest := rest) (fun sig h => hn.trans (hlen sig h)) hstack hW (by rw [hb]; exact hdg)
    (fun vm₁ hW₁ => ⟨hf.1, hf.2, hPc (T.setVm vm₁) hT hW₁⟩) with ⟨v, vm₁, ⟨U', l2, c2, s2⟩, hW₁, X', ⟨g', mk, t, L, e1, e2, hq, h1, hL, h2, h3⟩, st⟩ | ⟨q, vm₁, ⟨U', l2, c2, s2⟩, hW₁, X', ⟨g', mk, t, L, E, ce, e1, e2, hq, hce, hcv, hcl, h1, hL, h2, h3⟩, st⟩
  · dsimp only [Pt.U, Pt.locs, Pt.cells, Pt.slots] at X' e1 e2 h1 h2 h3 st
    subst h1; subst h2; subst h3
    exact Or.inl ⟨v, (T.setVm vm₁).calling g' mk (Value.ref b :: As).toArray, t, U', L, hT, X', hL, e1, e2, hq, st⟩
  · dsimp only [Pt.U, Pt.locs, Pt.cells, Pt.slots] at X' e1 e2 h1 h2 h3 st hcl
    subst h1; subst h2; subst h3
    exact Or.inr ⟨q, (T.setVm vm₁).calling g' mk (Value.ref b :: As).toArray, t, U', L, E, ce, hT, X', hL, e1, e2, hq, hce, hcv, vx_cls hW₁ hcl, st⟩
theorem vx_runS (S : CallFix p m c cc nL s args Ts own) (hM : vx_Met l y ws rm Pc Qc XC mc ms free) (cw : CallB R s args own index y bytes maxL ret ws rm mc ms n ∧ (Cond.static y).before args s = true) (hp : PreS s H Pc As)
    (hg : g.method = m) (hn : As.length = n) (hsize : g.locals.size = nL) (hstack : g.stack = As.reverse ++ rest) (hW : 2 * g.monitorRoom + (rest.map fun v => v.category).sum ≤ 8) (hdg : decode cc g.pc = .ok (.invokestatic index, 3)) (hf : cells + mc ≤ R.cells ∧ slots + ms ≤ R.slots) :
    vx_Run p l e R s m args below meth c H locs cells slots mc ms g rest (Qc As.toArray) XC free := by
  have hK : vx_Back l R p e below s args y 3 8 (PreOf R mc ms Pc) (PostOf Qc mc ms free) (vx_Post XC mc ms free) := vx_callBack cw.1 hM hp.1
  obtain ⟨⟨-, -, -, -, -, -, hcode, hini, hy, hlen, hl⟩, hstt⟩ := cw
  obtain ⟨hx, hb, hml, ho, -⟩ := S
  intro T hT X
  rcases vx_callS X hx (bytes := bytes) (maxL := maxL) (ret := ret) ho hl hstt hini hcode hy hK hg (hsize.trans hml.symm) (argsL := As) (rest := rest) (fun sig h => hn.trans (hlen sig h)) hstack hW (by rw [hb]; exact hdg)
    (fun vm₁ hW₁ => ⟨hf.1, hf.2, hp.2 (T.setVm vm₁) hT hW₁⟩) with ⟨v, vm₁, ⟨U', l2, c2, s2⟩, hW₁, X', ⟨g', mk, t, L, e1, e2, hq, h1, hL, h2, h3⟩, st⟩ | ⟨q, vm₁, ⟨U', l2, c2, s2⟩, hW₁, X', ⟨g', mk, t, L, E, ce, e1, e2, hq, hce, hcv, hcl, h1, hL, h2, h3⟩, st⟩
  · dsimp only [Pt.U, Pt.locs, Pt.cells, Pt.slots] at X' e1 e2 h1 h2 h3 st
    subst h1; subst h2; subst h3
    exact Or.inl ⟨v, (T.setVm vm₁).calling g' mk As.toArray, t, U', L, hT, X', hL, e1, e2, hq, st⟩
  · dsimp only [Pt.U, Pt.locs, Pt.cells, Pt.slots] at X' e1 e2 h1 h2 h3 st hcl
    subst h1; subst h2; subst h3
    exact Or.inr ⟨q, (T.setVm vm₁).calling g' mk As.toArray, t, U', L, E, ce, hT, X', hL, e1, e2, hq, hce, hcv, vx_cls hW₁ hcl, st⟩
end Runs
section Rows
variable {p : Program} {l : Launch} {e : Env} {R : Room} {s : State} {m : MethodId} {args : Array Value} {below : List Frame} {meth : Method} {c : Code} {H : Heap} {locs : List Loc} {cells slots : Nat} {Q : State → Prop}
variable {mc ms : Nat} {free : Addr → Prop} {A0 A1 : Nat → Prop} {H0 : Heap} {a : Array Value} {pc : Nat} {ls : Array Slot} {st0 rest : List Value}
theorem vx_keep {st₀ t T' : State} {L : List Loc} (h0 : st₀.heap = H) (e1 : T'.heap = t.heap) (hS : va_S A0 H0 H locs) (hA : ∀ q, q < H.size → A1 q → A0 q) (hf : ∀ q, free q → A0 q) (hL : ∀ q ∈ L, free q.base) (hF : va_F A1 st₀ t) :
    H.size ≤ T'.heap.size ∧ (∀ q : Nat, q < H.size → ¬ A1 q → T'.heap[q]? = H[q]?) ∧ va_S A0 H0 T'.heap (locs ++ L) := by
  obtain ⟨hz, hk⟩ := hF
  rw [h0] at hz hk
  exact ⟨by rw [e1]; exact hz, fun q h1 h2 => by rw [e1]; exact hk q h1 h2,
    ⟨Nat.le_trans hS.1 (by rw [e1]; exact hz), fun q h1 h2 => by rw [e1, hk q (Nat.lt_of_lt_of_le h1 hS.1) (fun z => h2 (hA q (Nat.lt_of_lt_of_le h1 hS.1) z))]; exact hS.2.1 q h1 h2, fun q hq => by
      rcases List.mem_append.mp hq with h | h
      · exact hS.2.2 q h
      · exact hf _ (hL q h)⟩⟩
theorem vx_calli {S SX : Type} {post : Int32 → S → Prop} {px : SX → Prop} {B : S → State → Prop} {BX : String → SX → State → Prop} {AX : Nat → Prop} (hr : vx_Run p l e R s m args below meth c H locs cells slots mc ms (F0 m pc ls st0) rest (va_Qi post B A1 a) (vx_X px BX AX) free) (hS : va_S A0 H0 H locs) (hA : ∀ q, q < H.size → A1 q → A0 q) (hf : ∀ q, free q → A0 q) (hAX : ∀ q, q < H.size → AX q → A0 q)
    (kx : ∀ (E : String) (ce : Cell) (q9 : Addr) (u : SX) (t : State) (H1 : Heap) (locs1 : List Loc), t.heap = H1 → s.vm.Alike t.vm → px u → BX E u t → H.size ≤ H1.size → (∀ q : Nat, q < H.size → ¬ AX q → H1[q]? = H[q]?) → va_S A0 H0 H1 locs1 → H1[q9]? = some ce → ce.vm = .none → s.vm.findClass E = some ce.cls → vx_W p l e R s m args below meth c H1 locs1 (cells + mc) (slots + ms) Q (F0 m pc ls rest) q9)
    (kk : ∀ (r : Int32) (u : S) (t : State) (H1 : Heap) (locs1 : List Loc), t.heap = H1 → s.vm.Alike t.vm → post r u → B u t → H.size ≤ H1.size → (∀ q : Nat, q < H.size → ¬ A1 q → H1[q]? = H[q]?) → va_S A0 H0 H1 locs1 → W p l e R s m args below meth c H1 locs1 (cells + mc) (slots + ms) Q (F0 m (pc + 3) ls (.int r :: rest))) : W p l e R s m args below meth c H locs cells slots Q (F0 m pc ls st0) := by
  intro T hT X
  rcases hr T hT X with ⟨v, st₀, t, T', L, h0, X', hL, e1, e2, ⟨⟨r, u, hv, hp, hb⟩, hF⟩, st⟩ | ⟨q, st₀, t, T', L, E, ce, h0, X', hL, e1, e2, ⟨u, hp, hb, hF⟩, hce, hcv, hcl, st⟩
  · cases hv
    obtain ⟨k1, k2, k3⟩ := vx_keep h0 e1 hS hA hf hL hF
    obtain ⟨t2, a1, b1⟩ := kk r u t T'.heap (locs ++ L) e1.symm (by rw [← e2]; exact X'.warmed.alike) hp hb k1 k2 k3 T' rfl X'
    exact ⟨t2, st t2 a1, b1⟩
  · obtain ⟨k1, k2, k3⟩ := vx_keep h0 e1 hS hAX hf hL hF
    obtain ⟨t2, a1, b1⟩ := kx E ce q u t T'.heap (locs ++ L) e1.symm (by rw [← e2]; exact X'.warmed.alike) hp hb k1 k2 k3 (by rw [e1]; exact hce) hcv hcl T' rfl X'
    exact ⟨t2, st.trans a1, b1⟩
theorem vx_calll {S SX : Type} {post : Int64 → S → Prop} {px : SX → Prop} {B : S → State → Prop} {BX : String → SX → State → Prop} {AX : Nat → Prop} (hr : vx_Run p l e R s m args below meth c H locs cells slots mc ms (F0 m pc ls st0) rest (va_Ql post B A1 a) (vx_X px BX AX) free) (hS : va_S A0 H0 H locs) (hA : ∀ q, q < H.size → A1 q → A0 q) (hf : ∀ q, free q → A0 q) (hAX : ∀ q, q < H.size → AX q → A0 q)
    (kx : ∀ (E : String) (ce : Cell) (q9 : Addr) (u : SX) (t : State) (H1 : Heap) (locs1 : List Loc), t.heap = H1 → s.vm.Alike t.vm → px u → BX E u t → H.size ≤ H1.size → (∀ q : Nat, q < H.size → ¬ AX q → H1[q]? = H[q]?) → va_S A0 H0 H1 locs1 → H1[q9]? = some ce → ce.vm = .none → s.vm.findClass E = some ce.cls → vx_W p l e R s m args below meth c H1 locs1 (cells + mc) (slots + ms) Q (F0 m pc ls rest) q9)
    (kk : ∀ (r : Int64) (u : S) (t : State) (H1 : Heap) (locs1 : List Loc), t.heap = H1 → s.vm.Alike t.vm → post r u → B u t → H.size ≤ H1.size → (∀ q : Nat, q < H.size → ¬ A1 q → H1[q]? = H[q]?) → va_S A0 H0 H1 locs1 → W p l e R s m args below meth c H1 locs1 (cells + mc) (slots + ms) Q (F0 m (pc + 3) ls (.long r :: rest))) : W p l e R s m args below meth c H locs cells slots Q (F0 m pc ls st0) := by
  intro T hT X
  rcases hr T hT X with ⟨v, st₀, t, T', L, h0, X', hL, e1, e2, ⟨⟨r, u, hv, hp, hb⟩, hF⟩, st⟩ | ⟨q, st₀, t, T', L, E, ce, h0, X', hL, e1, e2, ⟨u, hp, hb, hF⟩, hce, hcv, hcl, st⟩
  · cases hv
    obtain ⟨k1, k2, k3⟩ := vx_keep h0 e1 hS hA hf hL hF
    obtain ⟨t2, a1, b1⟩ := kk r u t T'.heap (locs ++ L) e1.symm (by rw [← e2]; exact X'.warmed.alike) hp hb k1 k2 k3 T' rfl X'
    exact ⟨t2, st t2 a1, b1⟩
  · obtain ⟨k1, k2, k3⟩ := vx_keep h0 e1 hS hAX hf hL hF
    obtain ⟨t2, a1, b1⟩ := kx E ce q u t T'.heap (locs ++ L) e1.symm (by rw [← e2]; exact X'.warmed.alike) hp hb k1 k2 k3 (by rw [e1]; exact hce) hcv hcl T' rfl X'
    exact ⟨t2, st.trans a1, b1⟩
theorem vx_callf {S SX : Type} {post : UInt32 → S → Prop} {px : SX → Prop} {B : S → State → Prop} {BX : String → SX → State → Prop} {AX : Nat → Prop} (hr : vx_Run p l e R s m args below meth c H locs cells slots mc ms (F0 m pc ls st0) rest (va_Qf post B A1 a) (vx_X px BX AX) free) (hS : va_S A0 H0 H locs) (hA : ∀ q, q < H.size → A1 q → A0 q) (hf : ∀ q, free q → A0 q) (hAX : ∀ q, q < H.size → AX q → A0 q)
    (kx : ∀ (E : String) (ce : Cell) (q9 : Addr) (u : SX) (t : State) (H1 : Heap) (locs1 : List Loc), t.heap = H1 → s.vm.Alike t.vm → px u → BX E u t → H.size ≤ H1.size → (∀ q : Nat, q < H.size → ¬ AX q → H1[q]? = H[q]?) → va_S A0 H0 H1 locs1 → H1[q9]? = some ce → ce.vm = .none → s.vm.findClass E = some ce.cls → vx_W p l e R s m args below meth c H1 locs1 (cells + mc) (slots + ms) Q (F0 m pc ls rest) q9)
    (kk : ∀ (r : UInt32) (u : S) (t : State) (H1 : Heap) (locs1 : List Loc), t.heap = H1 → s.vm.Alike t.vm → post r u → B u t → H.size ≤ H1.size → (∀ q : Nat, q < H.size → ¬ A1 q → H1[q]? = H[q]?) → va_S A0 H0 H1 locs1 → W p l e R s m args below meth c H1 locs1 (cells + mc) (slots + ms) Q (F0 m (pc + 3) ls (.float r :: rest))) : W p l e R s m args below meth c H locs cells slots Q (F0 m pc ls st0) := by
  intro T hT X
  rcases hr T hT X with ⟨v, st₀, t, T', L, h0, X', hL, e1, e2, ⟨⟨r, u, hv, hp, hb⟩, hF⟩, st⟩ | ⟨q, st₀, t, T', L, E, ce, h0, X', hL, e1, e2, ⟨u, hp, hb, hF⟩, hce, hcv, hcl, st⟩
  · cases hv
    obtain ⟨k1, k2, k3⟩ := vx_keep h0 e1 hS hA hf hL hF
    obtain ⟨t2, a1, b1⟩ := kk r u t T'.heap (locs ++ L) e1.symm (by rw [← e2]; exact X'.warmed.alike) hp hb k1 k2 k3 T' rfl X'
    exact ⟨t2, st t2 a1, b1⟩
  · obtain ⟨k1, k2, k3⟩ := vx_keep h0 e1 hS hAX hf hL hF
    obtain ⟨t2, a1, b1⟩ := kx E ce q u t T'.heap (locs ++ L) e1.symm (by rw [← e2]; exact X'.warmed.alike) hp hb k1 k2 k3 (by rw [e1]; exact hce) hcv hcl T' rfl X'
    exact ⟨t2, st.trans a1, b1⟩
theorem vx_calld {S SX : Type} {post : UInt64 → S → Prop} {px : SX → Prop} {B : S → State → Prop} {BX : String → SX → State → Prop} {AX : Nat → Prop} (hr : vx_Run p l e R s m args below meth c H locs cells slots mc ms (F0 m pc ls st0) rest (va_Qd post B A1 a) (vx_X px BX AX) free) (hS : va_S A0 H0 H locs) (hA : ∀ q, q < H.size → A1 q → A0 q) (hf : ∀ q, free q → A0 q) (hAX : ∀ q, q < H.size → AX q → A0 q)
    (kx : ∀ (E : String) (ce : Cell) (q9 : Addr) (u : SX) (t : State) (H1 : Heap) (locs1 : List Loc), t.heap = H1 → s.vm.Alike t.vm → px u → BX E u t → H.size ≤ H1.size → (∀ q : Nat, q < H.size → ¬ AX q → H1[q]? = H[q]?) → va_S A0 H0 H1 locs1 → H1[q9]? = some ce → ce.vm = .none → s.vm.findClass E = some ce.cls → vx_W p l e R s m args below meth c H1 locs1 (cells + mc) (slots + ms) Q (F0 m pc ls rest) q9)
    (kk : ∀ (r : UInt64) (u : S) (t : State) (H1 : Heap) (locs1 : List Loc), t.heap = H1 → s.vm.Alike t.vm → post r u → B u t → H.size ≤ H1.size → (∀ q : Nat, q < H.size → ¬ A1 q → H1[q]? = H[q]?) → va_S A0 H0 H1 locs1 → W p l e R s m args below meth c H1 locs1 (cells + mc) (slots + ms) Q (F0 m (pc + 3) ls (.double r :: rest))) : W p l e R s m args below meth c H locs cells slots Q (F0 m pc ls st0) := by
  intro T hT X
  rcases hr T hT X with ⟨v, st₀, t, T', L, h0, X', hL, e1, e2, ⟨⟨r, u, hv, hp, hb⟩, hF⟩, st⟩ | ⟨q, st₀, t, T', L, E, ce, h0, X', hL, e1, e2, ⟨u, hp, hb, hF⟩, hce, hcv, hcl, st⟩
  · cases hv
    obtain ⟨k1, k2, k3⟩ := vx_keep h0 e1 hS hA hf hL hF
    obtain ⟨t2, a1, b1⟩ := kk r u t T'.heap (locs ++ L) e1.symm (by rw [← e2]; exact X'.warmed.alike) hp hb k1 k2 k3 T' rfl X'
    exact ⟨t2, st t2 a1, b1⟩
  · obtain ⟨k1, k2, k3⟩ := vx_keep h0 e1 hS hAX hf hL hF
    obtain ⟨t2, a1, b1⟩ := kx E ce q u t T'.heap (locs ++ L) e1.symm (by rw [← e2]; exact X'.warmed.alike) hp hb k1 k2 k3 (by rw [e1]; exact hce) hcv hcl T' rfl X'
    exact ⟨t2, st.trans a1, b1⟩
theorem vx_callv {S SX : Type} {post : S → Prop} {px : SX → Prop} {B : S → State → Prop} {BX : String → SX → State → Prop} {AX : Nat → Prop} (hr : vx_Run p l e R s m args below meth c H locs cells slots mc ms (F0 m pc ls st0) rest (va_Qv post B A1 a) (vx_X px BX AX) free) (hS : va_S A0 H0 H locs) (hA : ∀ q, q < H.size → A1 q → A0 q) (hf : ∀ q, free q → A0 q) (hAX : ∀ q, q < H.size → AX q → A0 q)
    (kx : ∀ (E : String) (ce : Cell) (q9 : Addr) (u : SX) (t : State) (H1 : Heap) (locs1 : List Loc), t.heap = H1 → s.vm.Alike t.vm → px u → BX E u t → H.size ≤ H1.size → (∀ q : Nat, q < H.size → ¬ AX q → H1[q]? = H[q]?) → va_S A0 H0 H1 locs1 → H1[q9]? = some ce → ce.vm = .none → s.vm.findClass E = some ce.cls → vx_W p l e R s m args below meth c H1 locs1 (cells + mc) (slots + ms) Q (F0 m pc ls rest) q9)
    (kk : ∀ (u : S) (t : State) (H1 : Heap) (locs1 : List Loc), t.heap = H1 → s.vm.Alike t.vm → post u → B u t → H.size ≤ H1.size → (∀ q : Nat, q < H.size → ¬ A1 q → H1[q]? = H[q]?) → va_S A0 H0 H1 locs1 → W p l e R s m args below meth c H1 locs1 (cells + mc) (slots + ms) Q (F0 m (pc + 3) ls (rest))) : W p l e R s m args below meth c H locs cells slots Q (F0 m pc ls st0) := by
  intro T hT X
  rcases hr T hT X with ⟨v, st₀, t, T', L, h0, X', hL, e1, e2, ⟨⟨u, hv, hp, hb⟩, hF⟩, st⟩ | ⟨q, st₀, t, T', L, E, ce, h0, X', hL, e1, e2, ⟨u, hp, hb, hF⟩, hce, hcv, hcl, st⟩
  · cases hv
    obtain ⟨k1, k2, k3⟩ := vx_keep h0 e1 hS hA hf hL hF
    obtain ⟨t2, a1, b1⟩ := kk u t T'.heap (locs ++ L) e1.symm (by rw [← e2]; exact X'.warmed.alike) hp hb k1 k2 k3 T' rfl X'
    exact ⟨t2, st t2 a1, b1⟩
  · obtain ⟨k1, k2, k3⟩ := vx_keep h0 e1 hS hAX hf hL hF
    obtain ⟨t2, a1, b1⟩ := kx E ce q u t T'.heap (locs ++ L) e1.symm (by rw [← e2]; exact X'.warmed.alike) hp hb k1 k2 k3 (by rw [e1]; exact hce) hcv hcl T' rfl X'
    exact ⟨t2, st.trans a1, b1⟩
theorem vx_catch {own name : String} {E : String} {ce : Cell} {q : Addr} (hown : s.vm.findClass own = some m.cls) (pre : List ExceptionTableEntry) (x : ExceptionTableEntry) (suf : List ExceptionTableEntry) (hsplit : c.exceptionTable.toList = pre ++ x :: suf)
    (hpass : ∀ z ∈ pre, covers z pc = false ∨ (z.catchType ≠ 0 ∧ ∃ nm : String, (Cond.classLink own z.catchType nm).before args s = true ∧ va_Nc E nm s)) (hx : covers x pc = true) (h0 : x.catchType ≠ 0)
    (hlink : (Cond.classLink own x.catchType name).before args s = true) (hcast : (Cond.castable E name).before args s = true) (hcell : H[q]? = some ce) (hv : ce.vm = .none) (hcl : s.vm.findClass E = some ce.cls)
    (kk : W p l e R s m args below meth c H locs cells slots Q (F0 m x.handlerPc ls [.ref q])) : vx_W p l e R s m args below meth c H locs cells slots Q (F0 m pc ls rest) q := by
  intro T hT X
  have hpl : e.platform.magicAccessors = ({} : Platform).magicAccessors := by rw [X.admits.platform]
  obtain ⟨c3, c4, hc3, hc4, hasg⟩ := Cond.castable_spec hcast
  cases Option.some.inj (hc3.symm.trans hcl)
  obtain ⟨c5, hc5, hcl5⟩ := Cond.classLink_spec hown hlink e.platform hpl
  cases Option.some.inj (hc4.symm.trans hc5)
  obtain ⟨vm', X', st⟩ := X.thenCaughtThrough q (g := F0 m pc ls rest) rfl (Steps.refl _) (by rw [hT]; exact hcell) (by rw [hv]; rfl) (by obtain ⟨k9, h9, -⟩ := Vm.findClass_spec hcl; exact ⟨k9, h9⟩) pre x suf hsplit
    (fun z hz => by
      rcases hpass z hz with h | ⟨hz0, nm, hl1, hn1⟩
      · exact Or.inl h
      · obtain ⟨c6, hc6, hcl6⟩ := Cond.classLink_spec hown hl1 e.platform hpl
        obtain ⟨a8, b8, h1, h2, h3⟩ := hn1
        cases Option.some.inj (h1.symm.trans hcl)
        cases Option.some.inj (h2.symm.trans hc6)
        exact Or.inr ⟨hz0, _, hcl6, h3⟩) hx (Or.inr ⟨h0, c4, hcl5, hasg⟩)
  obtain ⟨t, a1, b1⟩ := kk (T.setVm vm') hT X'
  exact ⟨t, st.trans a1, b1⟩
end Rows
section Ends
variable {p : Program} {l : Launch} {e : Env} {R : Room} {s : State} {m : MethodId} {args : Array Value} {below : List Frame} {meth : Method} {c : Code} {H : Heap} {locs : List Loc} {cells slots : Nat} {Q : State → Prop}
variable {mc ms : Nat} {free : Addr → Prop} {A0 A1 : Nat → Prop} {H0 : Heap} {a : Array Value} {ls : Array Slot} {st0 rest : List Value}
variable {Qc : Array Value → State → Outcome → State → Prop} {XC : String → State → State → Prop}
def vx_MQ (below : List Frame) (Qc : Array Value → State → Outcome → State → Prop) (XC : String → State → State → Prop) (a : Array Value) (s : State) (mc ms : Nat) (free : Addr → Prop) : State → Prop := fun t =>
  ∃ o, t.status = .running ∧ Ended t below o ∧ vx_Q Qc XC mc ms free a s o t
theorem vx_ret {g : JFrame} {mc ms : Nat} (k : W p l e R s m args below meth c H locs cells slots (MQ below Qc args s mc ms free) g) : W p l e R s m args below meth c H locs cells slots (vx_MQ below Qc XC args s mc ms free) g := by
  intro T hT X
  obtain ⟨t, a1, o, b1, b2, b3, b4⟩ := k T hT X
  exact ⟨t, a1, o, b1, b2, Or.inl ⟨b3, b4⟩⟩
theorem vx_widen {g : JFrame} {q : Addr} {k n : Nat} (h1 : cells ≤ k) (h2 : slots ≤ n) (kk : vx_W p l e R s m args below meth c H locs k n Q g q) : vx_W p l e R s m args below meth c H locs cells slots Q g q := fun T hT X => kk T hT (stand_widen X h1 h2)
theorem vx_out {pc : Nat} {E : String} {ce : Cell} {q : Addr} {mc ms : Nat} (hout : ∀ x ∈ c.exceptionTable.toList, covers x pc = false) (hlocks : meth.locks = false) (hcell : H[q]? = some ce) (hv : ce.vm = .none) (hcl : s.vm.findClass E = some ce.cls)
    (hx : ∀ t : State, t.heap = H → s.vm.Alike t.vm → XC E s t) (hf : ∀ z ∈ locs, free z.base) (hc : cells ≤ mc) (hs : slots ≤ ms) :
    vx_W p l e R s m args below meth c H locs cells slots (vx_MQ below Qc XC args s mc ms free) (F0 m pc ls rest) q := by
  intro T hT X
  obtain ⟨st1, hrun, hend, hW, hsm⟩ := X.leaveThrown q (g := F0 m pc ls rest) rfl rfl rfl hout hlocks
  have hcell9 : (T.setFrames (.throwing q :: below)).heap[q]? = some ce := by
    show T.heap[q]? = some ce
    rw [hT]; exact hcell
  exact ⟨_, st1, .threw q, hrun, hend, Or.inr ⟨q, rfl, E, ce, locs, hx _ hT hW.alike, hcell9, hv, hcl, hW, hsm.mono hc hs, hf⟩⟩
theorem vx_frame {U : State} {k n : Nat} (h : s.sameButNew ({ U with vm := s.vm } : State) locs k n) : s.heap.size ≤ U.heap.size ∧ ∀ q : Nat, q < s.heap.size → (∀ z ∈ locs, z.base ≠ q) → U.heap[q]? = s.heap[q]? := by
  obtain ⟨-, h2, -, -, -, h6⟩ := h
  refine ⟨h2, fun q hq hz => ?_⟩
  obtain ⟨c9, e1, e2, e3, e4⟩ := h6 q _ (Array.getElem?_eq_getElem hq)
  have hs : c9.slots = (s.heap[q]).slots := Array.ext_getElem? fun i => e4 i fun hm => hz _ hm rfl
  have h9 : c9 = s.heap[q] := by
    rw [hs] at e2
    exact e2
  have e5 : U.heap[q]? = some c9 := e1
  rw [e5, h9, Array.getElem?_eq_getElem hq]
def vx_no (w : Cond) : Bool := decide (w ≠ .isRef (.static Bundle.tN "UNASSIGNED_STACK" Bundle.steD)) && decide (w ≠ .isRef (.static Bundle.tN "SUPPRESSED_SENTINEL" Bundle.listD)) && decide (w ≠ .laysStatic Bundle.tN "UNASSIGNED_STACK" Bundle.steD) && decide (w ≠ .laysStatic Bundle.tN "SUPPRESSED_SENTINEL" Bundle.listD)
def vx_at0 (own : String) (ic : Nat) (X : String) (names : List String) : List Cond := (Bundle.ownAtoms0 own ic X names).filter vx_no
def vx_atS (own : String) (ic : Nat) (X : String) (names : List String) : List Cond := (Bundle.ownAtoms own ic X names).filter vx_no
def vx_ot (w : Cond) : Bool := w.onTables || goodWord w
theorem vx_ot_at {args a' : Array Value} {s U : State} {w : Cond} (hW : s.WarmedH U.vm) (hvm : s.vm = U.vm) (hg : vx_ot w = true) (h : w.before args s = true) : w.before a' U = true := by
  simp only [vx_ot, Bool.or_eq_true] at hg
  rcases hg with hg | hg
  · exact va_tabs hg hvm h
  · exact word_at hW (good_of_word hg) h
theorem vx_hat {args : Array Value} {s : State} {L B : List Cond} (h1 : ∀ w ∈ L.filter goodWord, w.before args s = true) (h2 : ∀ w ∈ L.filter (fun w => !goodWord w), w ∈ B) (h3 : ∀ w ∈ B, w.before args s = true) : ∀ w ∈ L, w.before args s = true := by
  intro w hw
  by_cases g : goodWord w = true
  · exact h1 w (List.mem_filter.mpr ⟨hw, g⟩)
  · refine h3 w (h2 w (List.mem_filter.mpr ⟨hw, ?_⟩))
    show (!goodWord w) = true
    cases hgw : goodWord w
    · rfl
    · exact absurd hgw g
theorem vx_c {args : Array Value} {s : State} {w : Cond} {B : List Cond} (h : w.before args s = true) (t : ∀ w ∈ B, w.before args s = true) : ∀ w' ∈ w :: B, w'.before args s = true := fun w' h' => (List.mem_cons.mp h').elim (fun e => by rw [e]; exact h) (t w')
theorem vx_n {args : Array Value} {s : State} : ∀ w ∈ ([] : List Cond), w.before args s = true := fun _ h => nomatch h
theorem vx_own {args : Array Value} {s : State} {L : List Cond} (h1 : ∀ w ∈ L.filter vx_no, w.before args s = true)
    (hU : (Cond.isRef (.static Bundle.tN "UNASSIGNED_STACK" Bundle.steD)).before args s = true) (hN : (Cond.isRef (.static Bundle.tN "SUPPRESSED_SENTINEL" Bundle.listD)).before args s = true)
    (lU : (Cond.laysStatic Bundle.tN "UNASSIGNED_STACK" Bundle.steD).before args s = true) (lN : (Cond.laysStatic Bundle.tN "SUPPRESSED_SENTINEL" Bundle.listD).before args s = true) : ∀ w ∈ L, w.before args s = true := by
  intro w hw
  by_cases e1 : w = .isRef (.static Bundle.tN "UNASSIGNED_STACK" Bundle.steD)
  · rw [e1]; exact hU
  · by_cases e2 : w = .isRef (.static Bundle.tN "SUPPRESSED_SENTINEL" Bundle.listD)
    · rw [e2]; exact hN
    · by_cases e3 : w = .laysStatic Bundle.tN "UNASSIGNED_STACK" Bundle.steD
      · rw [e3]; exact lU
      · by_cases e4 : w = .laysStatic Bundle.tN "SUPPRESSED_SENTINEL" Bundle.listD
        · rw [e4]; exact lN
        · exact h1 w (List.mem_filter.mpr ⟨hw, by unfold vx_no; rw [decide_eq_true e1, decide_eq_true e2, decide_eq_true e3, decide_eq_true e4]; rfl⟩)
def vx_L (C n d : String) (A : Nat → Prop) (U : State) (H : Heap) : Prop := ∃ (c : ClassId) (k : Class) (i : Nat) (f : Field) (a : Nat) (cell : Cell), U.vm.findClass C = some c ∧ U.fieldFound? C n d = some (c, k, i, f) ∧ f.isStatic = true ∧ k.statics = some a ∧ H[a]? = some cell ∧ cell.vm.isStatics = true ∧ cell.cls = c ∧ f.slot < cell.slots.size ∧ k.staticTypes[f.slot]? = some f.type ∧ ¬ A a
theorem vx_L.moved {C n d : String} {A : Nat → Prop} {u U : State} {H : Heap} (hvm : u.vm.Alike U.vm) (h : vx_L C n d A u H) : vx_L C n d A U H := by
  obtain ⟨c, k, i, f, a, cell, h1, h2, h3, h4, h5, h6, h7, h8, h9, h10⟩ := h
  obtain ⟨k', hi', he⟩ := State.fieldFound?_setVm hvm h2
  exact ⟨c, k', i, f, a, cell, by rw [hvm.findClass]; exact h1, hi', h3, by rw [he]; exact h4, h5, h6, h7, h8, by rw [he]; exact h9, h10⟩
theorem vx_L.kept {C n d : String} {A : Nat → Prop} {U : State} {H H1 : Heap} (h : vx_L C n d A U H) (hq : ∀ a : Nat, a < H.size → ¬ A a → H1[a]? = H[a]?) : vx_L C n d A U H1 := by
  obtain ⟨c, k, i, f, a, cell, h1, h2, h3, h4, h5, h6, h7, h8, h9, h10⟩ := h
  exact ⟨c, k, i, f, a, cell, h1, h2, h3, h4, by rw [hq a (Array.getElem?_eq_some_iff.mp h5).1 h10]; exact h5, h6, h7, h8, h9, h10⟩
theorem vx_L.narrow {C n d : String} {A B : Nat → Prop} {U : State} {H : Heap} (h : vx_L C n d A U H) (hAB : ∀ q, B q → A q) : vx_L C n d B U H := by
  obtain ⟨c, k, i, f, a, cell, h1, h2, h3, h4, h5, h6, h7, h8, h9, h10⟩ := h
  exact ⟨c, k, i, f, a, cell, h1, h2, h3, h4, h5, h6, h7, h8, h9, fun z => h10 (hAB _ z)⟩
theorem vx_L.word {C n d : String} {A : Nat → Prop} {s : State} {args : Array Value} (h : vx_L C n d A s s.heap) : (Cond.laysStatic C n d).before args s = true := by
  obtain ⟨c, k, i, f, a, cell, h1, h2, h3, h4, h5, h6, h7, h8, h9, -⟩ := h
  show (Cond.laysStatic C n d).holds args s none s [] = true
  exact Cond.laysStatic_of h1 h2 h3 h4 h5 h6 h7 h8 h9
def vx_Zq (C n d : String) (A : Nat → Prop) (U : State) (H : Heap) : Prop := va_Zq C n d A U H ∧ vx_L C n d A U H
theorem vx_Zq.moved {C n d : String} {A : Nat → Prop} {u U : State} {H : Heap} (hvm : u.vm.Alike U.vm) (h : vx_Zq C n d A u H) : vx_Zq C n d A U H := ⟨va_Zq.moved hvm h.1, vx_L.moved hvm h.2⟩
theorem vx_Zq.kept {C n d : String} {A : Nat → Prop} {U : State} {H H1 : Heap} (h : vx_Zq C n d A U H) (hq : ∀ a : Nat, a < H.size → ¬ A a → H1[a]? = H[a]?) : vx_Zq C n d A U H1 := ⟨va_Zq.kept h.1 hq, vx_L.kept h.2 hq⟩
theorem vx_Zq.narrow {C n d : String} {A B : Nat → Prop} {U : State} {H : Heap} (h : vx_Zq C n d A U H) (hAB : ∀ q, B q → A q) : vx_Zq C n d B U H := ⟨va_Zq.narrow h.1 hAB, vx_L.narrow h.2 hAB⟩
theorem vx_Zqof {args : Array Value} {s : State} {C n d : String} {A : Nat → Prop} (hl : (Cond.laysStatic C n d).before args s = true) (hini : (Cond.initialized C).before args s = true) (h : (Cond.isRef (.static C n d)).before args s = true) (hA : ∀ a : Nat, a < s.heap.size → ¬ A a) : vx_Zq C n d A s s.heap := by
  refine ⟨va_Zqof hl hini h hA, ?_⟩
  obtain ⟨c, k, i, f, a, cell, h1, h2, h3, h4, h5, h6, h7, h8, h9⟩ := Cond.laysStatic_spec hl
  exact ⟨c, k, i, f, a, cell, h1, h2, h3, h4, h5, h6, h7, h8, h9, hA a (Array.getElem?_eq_some_iff.mp h5).1⟩
theorem vx_isRef {C n d : String} {v : Value} {A : Nat → Prop} {s : State} {args : Array Value} (h : va_Z C n d v A s s.heap) (hv : v.isRef = true) : (Cond.isRef (.static C n d)).before args s = true := by
  obtain ⟨cf, kf, fi, f, a, cell, h1, h2, h3, h4, h5, h6, h7, -⟩ := h
  have he : (Term.static C n d).eval args s none [] s = some v := by
    simp [Term.eval, State.fieldNamed?, h1, h2, h4, h5, h6, h7]
  simp only [Cond.before, Cond.holds, Cond.value, he]
  cases v <;> simp_all [Value.isRef]
theorem vx_isRefq {C n d : String} {A : Nat → Prop} {s : State} {args : Array Value} (h : va_Zq C n d A s s.heap) : (Cond.isRef (.static C n d)).before args s = true := by
  rcases h with h | ⟨t, h⟩
  · exact vx_isRef h rfl
  · exact vx_isRef h rfl
theorem vx_rebase {T : State} (X : Stand p l e R s m args below meth c T locs cells slots) {R' : Room} (hf : R'.frames ≤ R.frames) (hl : R'.locals ≤ R.locals) (hc : cells + R'.cells ≤ R.cells) (hs : slots + R'.slots ≤ R.slots) :
    Stand p l e R' ((T.setVm s.vm).setFrames (.invoking m args :: below)) m args below meth c T [] 0 0 := by
  have htop : (T.setVm s.vm).topJava?.isSome := X.here.top
  have hF : ((T.setVm s.vm).setFrames (.invoking m args :: below)).frames = .invoking m args :: below := State.frames_setFrames _ (State.cur_lt_of_top htop)
  obtain ⟨g₀, hg0⟩ := Option.isSome_iff_exists.mp htop
  obtain ⟨r, hr⟩ := State.topJava?_eq_some.mp hg0
  have hl9 : e.platform.stackLimits (T.setVm s.vm).me = e.platform.stackLimits s.me := X.limits
  have hb9 : (T.setVm s.vm).me.stackBytes = s.me.stackBytes := X.bytes
  refine ⟨X.admits, X.cas, X.clock, hF, ?_, X.hears, X.method, X.code, X.here, X.tail, X.warmed, ?_, ?_, ?_⟩
  · have h := X.room
    have hU : ((T.setVm s.vm).setFrames (.invoking m args :: below)).localsInUse = s.localsInUse := by
      rw [State.localsInUse_invoking hF (meth := meth) (c := c) X.method X.code, State.localsInUse_invoking X.frames X.method X.code]
    simp only [State.hasRoom, Bool.and_eq_true, decide_eq_true_eq] at h ⊢
    obtain ⟨⟨⟨⟨h1, h2, h3, h4, h5, h6⟩, h7⟩, h8⟩, h9⟩ := h
    rw [X.frames, List.length_cons] at h2 h3
    have q1 := X.heapSize
    have q2 := X.used
    simp only [hF, hU, List.length_cons, State.stackLimits_setFrames, State.stackBytes_setFrames, hl9, hb9]
    refine ⟨⟨⟨⟨by omega, by omega, by omega, by omega, by omega, h6⟩, ?_⟩, ?_⟩, X.book⟩
    · show T.heap.size + R'.cells ≤ e.platform.maxCells
      omega
    · show T.slotsUsed + R'.slots ≤ e.platform.maxSlots
      omega
  · rw [State.stackLimits_setFrames]; rfl
  · rw [State.stackBytes_setFrames]; rfl
  · refine ⟨?_, Nat.le_refl _, Nat.le_refl _, ?_, ?_, fun a c9 h9 => ⟨c9, h9, rfl, rfl, fun _ _ => rfl⟩⟩
    · obtain ⟨t, ht, -⟩ := State.frames_cons hr
      show T.setVm s.vm = { ((T.setVm s.vm).setFrames (.invoking m args :: below)).setFrames (T.setVm s.vm).frames with heap := T.heap, slotsUsed := T.slotsUsed }
      rw [State.setFrames_setFrames, State.setFrames_self ht]
      rfl
    · show T.slotsUsed = T.slotsUsed + ((T.heap.toList.drop T.heap.size).map (·.slots.size)).sum
      rw [List.drop_eq_nil_of_le (Nat.le_of_eq Array.length_toList)]
      rfl
    · show ((T.heap.toList.drop T.heap.size).map (·.slots.size)).sum ≤ 0
      rw [List.drop_eq_nil_of_le (Nat.le_of_eq Array.length_toList)]
      exact Nat.le_refl _
theorem vx_throw0 {cc : ByteArray} {pc : Nat} (hexec : p.tables.exec = Jvm.exec) (hb : c.code = cc) (hl : l.stackTraces = false) {own cls : String} {names : List String} {ik ic mc ms : Nat} {A : Nat → Prop}
    (hown : s.vm.findClass own = some m.cls) (hcls : Bundle.fit cls = true) (hnames : ∀ n ∈ names, Bundle.fit n = true)
    (hk : (Cond.classLink own ik cls).before args s = true) (hini : (Cond.initialized cls).before args s = true) (hat : ∀ w ∈ vx_at0 own ic cls names, w.before args s = true)
    (hgood : ∀ w ∈ Cond.classLink own ik cls :: Cond.initialized cls :: vx_at0 own ic cls names, vx_ot w = true)
    (hU : vx_Zq Bundle.tN "UNASSIGNED_STACK" Bundle.steD A s s.heap) (hN : vx_Zq Bundle.tN "SUPPRESSED_SENTINEL" Bundle.listD A s s.heap) (hS : va_S A s.heap H locs) (hsize : ls.size = c.maxLocals)
    (d0 : decode cc pc = .ok (.new ik, 3)) (d3 : decode cc (pc + 3) = .ok (.dup, 1)) (d4 : decode cc (pc + 4) = .ok (.invokespecial ic, 3)) (d7 : decode cc (pc + 7) = .ok (.athrow, 1))
    (hout : ∀ x ∈ c.exceptionTable.toList, covers x (pc + 7) = false)
    (hRframes : names.length + 3 < R.frames) (hRlocals : (rest.map fun v => v.category).sum + (13 * (names.length + 1) + 42) ≤ R.locals) (hRcells : cells + 1 ≤ R.cells) (hRslots : slots + 6 ≤ R.slots) (hlocks : meth.locks = false)
    (hx : ∀ t : State, s.vm.Alike t.vm → H.size ≤ t.heap.size → (∀ q : Nat, q < H.size → t.heap[q]? = H[q]?) → XC cls s t)
    (hf : ∀ z ∈ locs, free z.base) (hc : cells + 1 ≤ mc) (hs : slots + 6 ≤ ms) :
    W p l e R s m args below meth c H locs cells slots (vx_MQ below Qc XC args s mc ms free) (F0 m pc ls rest) := by
  intro T hT X
  have htr : e.platform.stackTraces = false := (show e.platform.stackTraces = l.stackTraces by rw [X.admits.platform]).trans hl
  have Y := vx_rebase X (R' := { frames := R.frames, locals := R.locals, cells := 1, slots := 6 }) (Nat.le_refl _) (Nat.le_refl _) hRcells hRslots
  obtain ⟨s', hA⟩ : ∃ z, z = (T.setVm s.vm).setFrames (.invoking m args :: below) := ⟨_, rfl⟩
  rw [← hA] at Y
  have hvm : s'.vm = s.vm := by rw [hA]; rfl
  have hhp : s'.heap = H := by rw [hA]; exact hT
  have hW0 : s.WarmedH s'.vm := by rw [hvm]; exact State.WarmedH.refl s
  have hat' : ∀ w ∈ vx_at0 own ic cls names, w.before args s' = true := fun w hw => vx_ot_at hW0 hvm.symm (hgood w (List.mem_cons_of_mem _ (List.mem_cons_of_mem _ hw))) (hat w hw)
  have hk' : (Cond.classLink own ik cls).before args s' = true := vx_ot_at hW0 hvm.symm (hgood _ List.mem_cons_self) hk
  have hini' : (Cond.initialized cls).before args s' = true := vx_ot_at hW0 hvm.symm (hgood _ (List.mem_cons_of_mem _ List.mem_cons_self)) hini
  have hU' : vx_Zq Bundle.tN "UNASSIGNED_STACK" Bundle.steD A s' s'.heap := by rw [hhp]; exact vx_Zq.moved hW0.alike (hU.kept hS.2.1)
  have hN' : vx_Zq Bundle.tN "SUPPRESSED_SENTINEL" Bundle.listD A s' s'.heap := by rw [hhp]; exact vx_Zq.moved hW0.alike (hN.kept hS.2.1)
  have h : ∀ w ∈ Bundle.ownAtoms0 own ic cls names, w.before args s' = true := vx_own hat' (vx_isRefq hU'.1) (vx_isRefq hN'.1) hU'.2.word hN'.2.word
  have hown' : s'.vm.findClass own = some m.cls := by rw [hvm]; exact hown
  have hins : (Cond.instantiable cls 6).before args s' = true := h _ (by simp [Bundle.ownAtoms0])
  obtain ⟨vm₁, cX, kX, hfX, hkX, -, -, X₁, st1⟩ := Y.newCold hexec (own := own) (C := cls) (index := ik) (n := 6) hown' hk' hins hini'
    (g := F0 m pc ls rest) rfl (by rw [hb]; exact d0) (Nat.le_refl _) (Nat.le_refl _)
  generalize hT1 : (T.setVm vm₁).pushCell { cls := cX, slots := kX.instanceTypes.map defaultValue, vm := .none } = T1 at X₁ st1
  have hcat : (Value.ref T.heap.size).category = 1 := rfl
  have hcellA : T1.heap[T.heap.size]? = some (freshCell cX kX) := by rw [← hT1]; exact State.heap_pushCell_size _ _
  have d3' : decode c.code (pc + 3) = .ok (.dup, 1) := by rw [hb]; exact d3
  obtain ⟨U, hsteps, hrun, hend, hW, hsame, ce, hce, hO⟩ := X₁.ctorThrow0 hexec htr (own := own) (cls := cls) (names := names) (ic := ic) hown' hcls hnames h (fun x hx => nomatch hx) hfX hkX hcellA (by rw [hhp, hT]; exact Nat.le_refl _)
    (g := { method := m, pc := pc + 4, locals := ls, stack := .ref T.heap.size :: .ref T.heap.size :: rest, locked := none }) rfl hsize rfl rfl (rest := rest) rfl
    (by rw [hb]; exact d4) (by rw [hb]; exact d7) hout hRframes (by simp only [List.map_cons, List.sum_cons, hcat]; omega) hlocks
  obtain ⟨f1, f2⟩ := vx_frame hsame
  rw [hhp] at f1 f2
  have hWs : s.WarmedH U.vm := State.WarmedH.trans hW0 hW
  have hcl : s.vm.findClass cls = some ce.cls := by
    have h9 := hO.cls
    rw [hvm] at h9
    exact h9
  have hall : s.sameButNew ({ U with vm := s.vm } : State) locs mc ms := by
    subst hA
    obtain ⟨e1, e2⟩ := hsame
    rw [State.setFrames_setFrames] at e1
    have h2 : (T.setVm s.vm).sameButNew ({ U with vm := s.vm } : State) [] (0 + 1) (0 + 6) := ⟨e1, e2⟩
    have h3 := X.same.trans h2
    rw [List.append_nil] at h3
    exact h3.mono hc hs
  refine ⟨U, ?_, .threw T.heap.size, hrun, hend, Or.inr ⟨T.heap.size, rfl, cls, ce, locs, hx U hWs.alike f1 (fun q hq => f2 q hq (fun z hz => nomatch hz)), hce, hO.vm, hcl, hWs, hall, hf⟩⟩
  refine st1 _ ?_
  show Steps p.tables e below (T1.setTop { method := m, pc := pc + 3, locals := ls, stack := .ref T.heap.size :: rest, locked := none }) _
  jvm_step X₁.here [X₁.here.top, hexec, d3', Value.category]
  exact hsteps
theorem vx_throwS {cc : ByteArray} {pc : Nat} (hexec : p.tables.exec = Jvm.exec) (hb : c.code = cc) (hl : l.stackTraces = false) {own cls text : String} {names : List String} {ik is ic mc ms sa : Nat} {A : Nat → Prop}
    (hown : s.vm.findClass own = some m.cls) (hcls : Bundle.fit cls = true) (hnames : ∀ n ∈ names, Bundle.fit n = true)
    (hk : (Cond.classLink own ik cls).before args s = true) (hini : (Cond.initialized cls).before args s = true) (hstr : vk_R own is text sa s) (hat : ∀ w ∈ vx_atS own ic cls names, w.before args s = true)
    (hgood : ∀ w ∈ Cond.classLink own ik cls :: Cond.initialized cls :: vx_atS own ic cls names, vx_ot w = true)
    (hU : vx_Zq Bundle.tN "UNASSIGNED_STACK" Bundle.steD A s s.heap) (hN : vx_Zq Bundle.tN "SUPPRESSED_SENTINEL" Bundle.listD A s s.heap) (hS : va_S A s.heap H locs) (hsize : ls.size = c.maxLocals)
    (d0 : decode cc pc = .ok (.new ik, 3)) (d3 : decode cc (pc + 3) = .ok (.dup, 1)) (d4 : decode cc (pc + 4) = .ok (.ldc is, 2)) (d6 : decode cc (pc + 6) = .ok (.invokespecial ic, 3)) (d9 : decode cc (pc + 9) = .ok (.athrow, 1))
    (hout : ∀ x ∈ c.exceptionTable.toList, covers x (pc + 9) = false)
    (hRframes : names.length + 3 < R.frames) (hRlocals : (rest.map fun v => v.category).sum + (13 * (names.length + 1) + 43) ≤ R.locals) (hRcells : cells + 1 ≤ R.cells) (hRslots : slots + 6 ≤ R.slots) (hlocks : meth.locks = false)
    (hx : ∀ t : State, s.vm.Alike t.vm → H.size ≤ t.heap.size → (∀ q : Nat, q < H.size → t.heap[q]? = H[q]?) → XC cls s t)
    (hf : ∀ z ∈ locs, free z.base) (hc : cells + 1 ≤ mc) (hs : slots + 6 ≤ ms) :
    W p l e R s m args below meth c H locs cells slots (vx_MQ below Qc XC args s mc ms free) (F0 m pc ls rest) := by
  intro T hT X
  have htr : e.platform.stackTraces = false := (show e.platform.stackTraces = l.stackTraces by rw [X.admits.platform]).trans hl
  have Y := vx_rebase X (R' := { frames := R.frames, locals := R.locals, cells := 1, slots := 6 }) (Nat.le_refl _) (Nat.le_refl _) hRcells hRslots
  obtain ⟨s', hA⟩ : ∃ z, z = (T.setVm s.vm).setFrames (.invoking m args :: below) := ⟨_, rfl⟩
  rw [← hA] at Y
  have hvm : s'.vm = s.vm := by rw [hA]; rfl
  have hhp : s'.heap = H := by rw [hA]; exact hT
  have hW0 : s.WarmedH s'.vm := by rw [hvm]; exact State.WarmedH.refl s
  have hat' : ∀ w ∈ vx_atS own ic cls names, w.before args s' = true := fun w hw => vx_ot_at hW0 hvm.symm (hgood w (List.mem_cons_of_mem _ (List.mem_cons_of_mem _ hw))) (hat w hw)
  have hk' : (Cond.classLink own ik cls).before args s' = true := vx_ot_at hW0 hvm.symm (hgood _ List.mem_cons_self) hk
  have hini' : (Cond.initialized cls).before args s' = true := vx_ot_at hW0 hvm.symm (hgood _ (List.mem_cons_of_mem _ List.mem_cons_self)) hini
  have hU' : vx_Zq Bundle.tN "UNASSIGNED_STACK" Bundle.steD A s' s'.heap := by rw [hhp]; exact vx_Zq.moved hW0.alike (hU.kept hS.2.1)
  have hN' : vx_Zq Bundle.tN "SUPPRESSED_SENTINEL" Bundle.listD A s' s'.heap := by rw [hhp]; exact vx_Zq.moved hW0.alike (hN.kept hS.2.1)
  have h : ∀ w ∈ Bundle.ownAtoms own ic cls names, w.before args s' = true := vx_own hat' (vx_isRefq hU'.1) (vx_isRefq hN'.1) hU'.2.word hN'.2.word
  have hown' : s'.vm.findClass own = some m.cls := by rw [hvm]; exact hown
  have hins : (Cond.instantiable cls 6).before args s' = true := h _ (by simp [Bundle.ownAtoms])
  obtain ⟨vm₁, cX, kX, hfX, hkX, -, -, X₁, st1⟩ := Y.newCold hexec (own := own) (C := cls) (index := ik) (n := 6) hown' hk' hins hini'
    (g := F0 m pc ls rest) rfl (by rw [hb]; exact d0) (Nat.le_refl _) (Nat.le_refl _)
  generalize hT1 : (T.setVm vm₁).pushCell { cls := cX, slots := kX.instanceTypes.map defaultValue, vm := .none } = T1 at X₁ st1
  have hcat : (Value.ref T.heap.size).category = 1 := rfl
  have hcellA : T1.heap[T.heap.size]? = some (freshCell cX kX) := by rw [← hT1]; exact State.heap_pushCell_size _ _
  have d3' : decode c.code (pc + 3) = .ok (.dup, 1) := by rw [hb]; exact d3
  have d4' : decode c.code (pc + 4) = .ok (.ldc is, 2) := by rw [hb]; exact d4
  have hstr' : vk_R own is text sa s' := vk_R.warm hW0 hstr
  obtain ⟨U, hsteps, hrun, hend, hW, hsame, ce, hce, hO⟩ := X₁.ctorThrowS hexec htr (own := own) (cls := cls) (names := names) (ic := ic) hown' hcls hnames h (fun x hx => nomatch hx) hfX hkX hcellA (by rw [hhp, hT]; exact Nat.le_refl _) (msg := .ref sa) rfl
    (g := { method := m, pc := pc + 6, locals := ls, stack := .ref sa :: .ref T.heap.size :: .ref T.heap.size :: rest, locked := none }) rfl hsize rfl rfl (rest := rest) rfl
    (by rw [hb]; exact d6) (by rw [hb]; exact d9) hout hRframes (by simp only [List.map_cons, List.sum_cons, hcat]; omega) hlocks
  obtain ⟨f1, f2⟩ := vx_frame hsame
  rw [hhp] at f1 f2
  have hWs : s.WarmedH U.vm := State.WarmedH.trans hW0 hW
  have hcl : s.vm.findClass cls = some ce.cls := by
    have h9 := hO.cls
    rw [hvm] at h9
    exact h9
  have hall : s.sameButNew ({ U with vm := s.vm } : State) locs mc ms := by
    subst hA
    obtain ⟨e1, e2⟩ := hsame
    rw [State.setFrames_setFrames] at e1
    have h2 : (T.setVm s.vm).sameButNew ({ U with vm := s.vm } : State) [] (0 + 1) (0 + 6) := ⟨e1, e2⟩
    have h3 := X.same.trans h2
    rw [List.append_nil] at h3
    exact h3.mono hc hs
  refine ⟨U, ?_, .threw T.heap.size, hrun, hend, Or.inr ⟨T.heap.size, rfl, cls, ce, locs, hx U hWs.alike f1 (fun q hq => f2 q hq (fun z hz => nomatch hz)), hce, hO.vm, hcl, hWs, hall, hf⟩⟩
  refine st1 _ ?_
  show Steps p.tables e below (T1.setTop { method := m, pc := pc + 3, locals := ls, stack := .ref T.heap.size :: rest, locked := none }) _
  jvm_step X₁.here [X₁.here.top, hexec, d3', Value.category]
  exact X₁.ldcString hexec (own := own) (text := text) (index := is) (a := sa) hown' hstr'.1 hstr'.2
    (g := { method := m, pc := pc + 4, locals := ls, stack := .ref T.heap.size :: .ref T.heap.size :: rest, locked := none }) rfl d4' _ hsteps
theorem vx_throwSW {cc : ByteArray} {pc : Nat} (hexec : p.tables.exec = Jvm.exec) (hb : c.code = cc) (hl : l.stackTraces = false) {own cls text : String} {names : List String} {ik is ic mc ms sa : Nat} {A : Nat → Prop}
    (hown : s.vm.findClass own = some m.cls) (hcls : Bundle.fit cls = true) (hnames : ∀ n ∈ names, Bundle.fit n = true)
    (hk : (Cond.classLink own ik cls).before args s = true) (hini : (Cond.initialized cls).before args s = true) (hstr : vk_R own is text sa s) (hat : ∀ w ∈ vx_atS own ic cls names, w.before args s = true)
    (hgood : ∀ w ∈ Cond.classLink own ik cls :: Cond.initialized cls :: vx_atS own ic cls names, vx_ot w = true)
    (hU : vx_Zq Bundle.tN "UNASSIGNED_STACK" Bundle.steD A s s.heap) (hN : vx_Zq Bundle.tN "SUPPRESSED_SENTINEL" Bundle.listD A s s.heap) (hS : va_S A s.heap H locs) (hsize : ls.size = c.maxLocals)
    (d0 : decode cc pc = .ok (.new ik, 3)) (d3 : decode cc (pc + 3) = .ok (.dup, 1)) (d4 : decode cc (pc + 4) = .ok (.ldc_w is, 3)) (d7 : decode cc (pc + 7) = .ok (.invokespecial ic, 3)) (d10 : decode cc (pc + 10) = .ok (.athrow, 1))
    (hout : ∀ x ∈ c.exceptionTable.toList, covers x (pc + 10) = false)
    (hRframes : names.length + 3 < R.frames) (hRlocals : (rest.map fun v => v.category).sum + (13 * (names.length + 1) + 43) ≤ R.locals) (hRcells : cells + 1 ≤ R.cells) (hRslots : slots + 6 ≤ R.slots) (hlocks : meth.locks = false)
    (hx : ∀ t : State, s.vm.Alike t.vm → H.size ≤ t.heap.size → (∀ q : Nat, q < H.size → t.heap[q]? = H[q]?) → XC cls s t)
    (hf : ∀ z ∈ locs, free z.base) (hc : cells + 1 ≤ mc) (hs : slots + 6 ≤ ms) :
    W p l e R s m args below meth c H locs cells slots (vx_MQ below Qc XC args s mc ms free) (F0 m pc ls rest) := by
  intro T hT X
  have htr : e.platform.stackTraces = false := (show e.platform.stackTraces = l.stackTraces by rw [X.admits.platform]).trans hl
  have Y := vx_rebase X (R' := { frames := R.frames, locals := R.locals, cells := 1, slots := 6 }) (Nat.le_refl _) (Nat.le_refl _) hRcells hRslots
  obtain ⟨s', hA⟩ : ∃ z, z = (T.setVm s.vm).setFrames (.invoking m args :: below) := ⟨_, rfl⟩
  rw [← hA] at Y
  have hvm : s'.vm = s.vm := by rw [hA]; rfl
  have hhp : s'.heap = H := by rw [hA]; exact hT
  have hW0 : s.WarmedH s'.vm := by rw [hvm]; exact State.WarmedH.refl s
  have hat' : ∀ w ∈ vx_atS own ic cls names, w.before args s' = true := fun w hw => vx_ot_at hW0 hvm.symm (hgood w (List.mem_cons_of_mem _ (List.mem_cons_of_mem _ hw))) (hat w hw)
  have hk' : (Cond.classLink own ik cls).before args s' = true := vx_ot_at hW0 hvm.symm (hgood _ List.mem_cons_self) hk
  have hini' : (Cond.initialized cls).before args s' = true := vx_ot_at hW0 hvm.symm (hgood _ (List.mem_cons_of_mem _ List.mem_cons_self)) hini
  have hU' : vx_Zq Bundle.tN "UNASSIGNED_STACK" Bundle.steD A s' s'.heap := by rw [hhp]; exact vx_Zq.moved hW0.alike (hU.kept hS.2.1)
  have hN' : vx_Zq Bundle.tN "SUPPRESSED_SENTINEL" Bundle.listD A s' s'.heap := by rw [hhp]; exact vx_Zq.moved hW0.alike (hN.kept hS.2.1)
  have h : ∀ w ∈ Bundle.ownAtoms own ic cls names, w.before args s' = true := vx_own hat' (vx_isRefq hU'.1) (vx_isRefq hN'.1) hU'.2.word hN'.2.word
  have hown' : s'.vm.findClass own = some m.cls := by rw [hvm]; exact hown
  have hins : (Cond.instantiable cls 6).before args s' = true := h _ (by simp [Bundle.ownAtoms])
  obtain ⟨vm₁, cX, kX, hfX, hkX, -, -, X₁, st1⟩ := Y.newCold hexec (own := own) (C := cls) (index := ik) (n := 6) hown' hk' hins hini'
    (g := F0 m pc ls rest) rfl (by rw [hb]; exact d0) (Nat.le_refl _) (Nat.le_refl _)
  generalize hT1 : (T.setVm vm₁).pushCell { cls := cX, slots := kX.instanceTypes.map defaultValue, vm := .none } = T1 at X₁ st1
  have hcat : (Value.ref T.heap.size).category = 1 := rfl
  have hcellA : T1.heap[T.heap.size]? = some (freshCell cX kX) := by rw [← hT1]; exact State.heap_pushCell_size _ _
  have d3' : decode c.code (pc + 3) = .ok (.dup, 1) := by rw [hb]; exact d3
  have d4' : decode c.code (pc + 4) = .ok (.ldc_w is, 3) := by rw [hb]; exact d4
  have hstr' : vk_R own is text sa s' := vk_R.warm hW0 hstr
  obtain ⟨U, hsteps, hrun, hend, hW, hsame, ce, hce, hO⟩ := X₁.ctorThrowS hexec htr (own := own) (cls := cls) (names := names) (ic := ic) hown' hcls hnames h (fun x hx => nomatch hx) hfX hkX hcellA (by rw [hhp, hT]; exact Nat.le_refl _) (msg := .ref sa) rfl
    (g := { method := m, pc := pc + 7, locals := ls, stack := .ref sa :: .ref T.heap.size :: .ref T.heap.size :: rest, locked := none }) rfl hsize rfl rfl (rest := rest) rfl
    (by rw [hb]; exact d7) (by rw [hb]; exact d10) hout hRframes (by simp only [List.map_cons, List.sum_cons, hcat]; omega) hlocks
  obtain ⟨f1, f2⟩ := vx_frame hsame
  rw [hhp] at f1 f2
  have hWs : s.WarmedH U.vm := State.WarmedH.trans hW0 hW
  have hcl : s.vm.findClass cls = some ce.cls := by
    have h9 := hO.cls
    rw [hvm] at h9
    exact h9
  have hall : s.sameButNew ({ U with vm := s.vm } : State) locs mc ms := by
    subst hA
    obtain ⟨e1, e2⟩ := hsame
    rw [State.setFrames_setFrames] at e1
    have h2 : (T.setVm s.vm).sameButNew ({ U with vm := s.vm } : State) [] (0 + 1) (0 + 6) := ⟨e1, e2⟩
    have h3 := X.same.trans h2
    rw [List.append_nil] at h3
    exact h3.mono hc hs
  refine ⟨U, ?_, .threw T.heap.size, hrun, hend, Or.inr ⟨T.heap.size, rfl, cls, ce, locs, hx U hWs.alike f1 (fun q hq => f2 q hq (fun z hz => nomatch hz)), hce, hO.vm, hcl, hWs, hall, hf⟩⟩
  refine st1 _ ?_
  show Steps p.tables e below (T1.setTop { method := m, pc := pc + 3, locals := ls, stack := .ref T.heap.size :: rest, locked := none }) _
  jvm_step X₁.here [X₁.here.top, hexec, d3', Value.category]
  exact X₁.ldcStringW hexec (own := own) (text := text) (index := is) (a := sa) hown' hstr'.1 hstr'.2
    (g := { method := m, pc := pc + 4, locals := ls, stack := .ref T.heap.size :: .ref T.heap.size :: rest, locked := none }) rfl d4' _ hsteps
end Ends
section Bodies
variable {l : Launch}
theorem vx_ofW {y : MethodName} {ws ws' : List Cond} {rm : Room} {Pc : Array Value → State → Prop} {Qc : Array Value → State → Outcome → State → Prop} {XC : String → State → State → Prop} {mc ms : Nat} {free : Addr → Prop} {cc : ByteArray} {maxL : Nat} {ret : Option FieldType}
    (hy : plainName y.cls = true) (hw : ws = Cond.code y cc maxL ret :: ws')
    (body : ∀ p e s m args below meth c s₁, BodyLoose p l y (headSpec ws rm) cc maxL ret e s m args below meth c s₁ → c.maxLocals = maxL → (∀ x ∈ c.exceptionTable.toList, False) → Pc args s →
      W p l e (headSpec ws rm).room s m args below meth c s.heap [] 0 0 (vx_MQ below Qc XC args s mc ms free) (entryFrame m args maxL)) : vx_Met l y ws rm Pc Qc XC mc ms free := by
  refine MetFree.of_bodyS (code := cc) (maxLocals := maxL) (ret := ret) hy ?_ ?_
  · intro args s m h hn
    obtain ⟨meth, c, h1, h2, h3, h4, h5, h6, -, -⟩ := Cond.code_spec hn (atoms_spec (ws := ws) h _ (by rw [hw]; exact List.mem_cons_self))
    exact ⟨meth, c, h1, h2, h3, h4, h5, h6⟩
  · intro p e s m args below meth c s₁ B hml hP _
    have hh0 : s₁.heap = s.heap := by rw [B.state]; rfl
    have ht : ∀ x ∈ c.exceptionTable.toList, False := by
      obtain ⟨meth9, c9, h1, h2, -, -, -, -, h7, -⟩ := Cond.code_spec B.named (atoms_spec (ws := ws) B.pre _ (by rw [hw]; exact List.mem_cons_self))
      cases Option.some.inj (h1.symm.trans B.method)
      cases Option.some.inj (h2.symm.trans (Stand.of_body B).code)
      intro x hx
      rw [Array.isEmpty_iff.mp h7] at hx
      cases hx
    obtain ⟨t, a1, o, b1, b2, b3⟩ := body p e s m args below meth c s₁ B hml ht hP s₁ hh0 (Stand.of_body B)
    exact ⟨t, o, a1, b1, b2, b3⟩
theorem vx_table {p : Program} {x y : MethodName} {S : Spec} {cc bytes : ByteArray} {maxL maxL' : Nat} {ret ret' : Option FieldType} {e : Env} {s s₁ : State} {m : MethodId} {args : Array Value} {below : List Frame} {meth : Method} {c : Code} {hh : List (Nat × Nat × Nat × Nat)}
    (B : BodyLoose p l y S cc maxL ret e s m args below meth c s₁) (h : (Cond.codeWith y bytes maxL' ret' hh).before args s = true) : c.exceptionTable.toList = tableOf hh := by
  obtain ⟨m9, meth9, c9, hn9, h1, h2, -, -, h6, -⟩ := Cond.codeWith_spec h
  cases Option.some.inj (hn9.symm.trans B.named)
  cases Option.some.inj (h1.symm.trans B.method)
  cases Option.some.inj (h2.symm.trans (Stand.of_body B).code)
  rw [← h6, table_eq]
end Bodies
end VXA
section VXS
variable {p : Program} {l : Launch} {e : Env} {R : Room} {s : State} {m : MethodId} {args : Array Value} {below : List Frame} {meth : Method} {c : Code} {T : State} {H : Heap} {locs : List Loc} {cells slots : Nat}
abbrev vx_CSW (R : Room) (s : State) (args : Array Value) (own : String) (index : Nat) (y : MethodName) (bytes : ByteArray) (maxL : Nat) (ret : Option FieldType) (hh : List (Nat × Nat × Nat × Nat)) (ws : List Cond) (rm : Room) (mc ms n : Nat) : Prop :=
  (rm.cells = mc ∧ rm.slots = ms ∧ rm.frames + 1 ≤ R.frames ∧ 8 + (maxL + 11) + rm.locals ≤ R.locals ∧ (∀ w ∈ ws, ∀ (a' : Array Value) (U : State), s.WarmedH U.vm → w.before a' U = true) ∧ Cond.codeWith y bytes maxL ret hh ∈ ws) ∧
  (Cond.codeWith y bytes maxL ret hh).before args s = true ∧ (Cond.initialized y.cls).before args s = true ∧ (y.cls ≠ "java/lang/invoke/MethodHandle" ∧ y.cls ≠ "java/lang/invoke/VarHandle") ∧
  (∀ sig, parseMethodDescriptor y.desc = some sig → n = sig.parameters.length) ∧ (Cond.methodLink own index y).before args s = true ∧ (Cond.static y).before args s = true
theorem vx_cwSW {own : String} {index maxL mc ms : Nat} {y : MethodName} {bytes : ByteArray} {ret : Option FieldType} {hh : List (Nat × Nat × Nat × Nat)} {Ts ws ws' : List Cond} {rm : Room} (n : Nat) (ht : ∀ w ∈ Ts, w.before args s = true) (hT : GoodIn Ts (va_wsS own index y ws)) (hw : ws = Cond.codeWith y bytes maxL ret hh :: ws') (hrc : rm.cells = mc) (hrs : rm.slots = ms)
    (hd : y.cls ≠ "java/lang/invoke/MethodHandle" ∧ y.cls ≠ "java/lang/invoke/VarHandle" ∧ (parseMethodDescriptor y.desc).map (fun d => d.parameters.length) = some n) (hR : rm.frames + 1 ≤ R.frames ∧ 8 + (maxL + 11) + rm.locals ≤ R.locals) :
    vx_CSW R s args own index y bytes maxL ret hh ws rm mc ms n := by
  have ok : ∀ w ∈ va_wsS own index y ws, w.before args s = true := fun w h => ht w (hT w h).1
  have hG : GoodIn Ts ws := fun w h => hT w (by unfold va_wsS; exact List.mem_append_right _ h)
  have hc : Cond.codeWith y bytes maxL ret hh ∈ ws := by rw [hw]; exact List.mem_cons_self
  refine ⟨⟨hrc, hrs, hR.1, hR.2, pay_in ht hG, hc⟩, ht _ (hG _ hc).1, ok _ (by simp [va_wsS]), ⟨hd.1, hd.2.1⟩, fun sig h => ?_, ok _ (by simp [va_wsS]), ok _ (by simp [va_wsS])⟩
  have h2 := hd.2.2
  rw [h] at h2
  exact (Option.some.inj h2).symm
theorem vx_callSW (X : Stand p l e R s m args below meth c T locs cells slots) (hexec : p.tables.exec = Jvm.exec) {own : String} {index : Nat} {y : MethodName} {bytes : ByteArray} {maxL : Nat} {ret : Option FieldType} {hh : List (Nat × Nat × Nat × Nat)}
    (hown : s.vm.findClass own = some m.cls) (hlink : (Cond.methodLink own index y).before args s = true) (hstat : (Cond.static y).before args s = true) (hinit : (Cond.initialized y.cls).before args s = true)
    (hcode : (Cond.codeWith y bytes maxL ret hh).before args s = true) (hy : y.cls ≠ "java/lang/invoke/MethodHandle" ∧ y.cls ≠ "java/lang/invoke/VarHandle")
    {W9 : Nat} {Pre : Pt → Array Value → Prop} {Post : Pt → Array Value → Option Value → Pt → Prop} (hK : Back l R p e below s args y 3 W9 Pre Post)
    {g : JFrame} (hg : g.method = m) (hsize : g.locals.size = c.maxLocals) {argsL rest : List Value} (hlen : ∀ sig, parseMethodDescriptor y.desc = some sig → argsL.length = sig.parameters.length)
    (hstack : g.stack = argsL.reverse ++ rest) (hW : 2 * g.monitorRoom + (rest.map fun v => v.category).sum ≤ W9) (hdg : decode c.code g.pc = .ok (.invokestatic index, 3))
    (hpre : ∀ vm₁, s.WarmedH vm₁ → Pre ⟨T.setVm vm₁, locs, cells, slots⟩ argsL.toArray) :
    ∃ (v : Option Value) (vm₁ : Vm) (B : Pt), s.WarmedH vm₁ ∧ Stand p l e R s m args below meth c B.U B.locs B.cells B.slots ∧ Post ⟨T.setVm vm₁, locs, cells, slots⟩ argsL.toArray v B ∧
      ∀ target, Steps p.tables e below (B.U.setTop { g with pc := g.pc + 3, stack := v.toList ++ rest }) target → Steps p.tables e below (T.setTop g) target := by
  obtain ⟨mk, methM, cM, hnamed, hmethM, -, -, -, -, -, -, hsigM⟩ := Cond.codeWith_spec hcode
  have hstatic : methM.isStatic = true := Cond.static_spec hnamed hmethM hstat
  obtain ⟨kP, hkP, -⟩ := className_of_methodNamed hnamed
  have hinitP : kP.init = .initialized := Cond.initialized_spec (findClass_of_methodNamed hnamed) hkP hinit
  obtain ⟨vm₁, X₁, hstep₁⟩ := X.invokestatic hexec hown hlink hnamed hmethM hstatic hkP hinitP hy (g := g) hg (argsL := argsL) (rest := rest) (hlen _ hsigM) hstack hdg
  obtain ⟨v, B, X', hpost, hsteps⟩ := hK m meth c ⟨T.setVm vm₁, locs, cells, slots⟩ { g with stack := rest } (.invokestatic index) mk argsL.toArray X₁ hg hsize hdg hW (X₁.named hnamed) (hpre vm₁ X₁.warmed)
  exact ⟨v, vm₁, B, X₁.warmed, X', hpost, fun target h => hstep₁ _ fun acts => by rw [doInvoke_state]; exact hsteps.trans h⟩
theorem vx_runSW {y : MethodName} {bytes cc : ByteArray} {maxL nL mc ms n index : Nat} {ret : Option FieldType} {hh : List (Nat × Nat × Nat × Nat)} {ws : List Cond} {rm : Room} {Pc : Array Value → State → Prop} {Qc : Array Value → State → Outcome → State → Prop} {free : Addr → Prop} {Ts : List Cond} {own : String} {As rest : List Value} {g : JFrame}
    (S : CallFix p m c cc nL s args Ts own) (hM : Met l y ws rm Pc Qc mc ms free) (cw : vx_CSW R s args own index y bytes maxL ret hh ws rm mc ms n) (hp : PreS s H Pc As)
    (hg : g.method = m) (hn : As.length = n) (hsize : g.locals.size = nL) (hstack : g.stack = As.reverse ++ rest) (hW : 2 * g.monitorRoom + (rest.map fun v => v.category).sum ≤ 8) (hdg : decode cc g.pc = .ok (.invokestatic index, 3)) (hf : cells + mc ≤ R.cells ∧ slots + ms ≤ R.slots) :
    va_Run p l e R s m args below meth c H locs cells slots mc ms g rest (Qc As.toArray) (free) := by
  obtain ⟨⟨hrc, hrs, hfr, hlo, hws, hcw⟩, hcode, hini, hy, hlen, hl, hstt⟩ := cw
  have hK : Back l R p e below s args y 3 8 (PreOf R mc ms Pc) (PostOf Qc mc ms free) := va_backW (hh := hh) (bytes := bytes) (maxL := maxL) (ret := ret) hM hp.1 hrc hrs hfr hlo hws hcw (fun a' U hW => word_at hW (Or.inl (by first | rfl | simp [Cond.onTables, Cond.keeps, Cond.steady])) hini)
  obtain ⟨hx, hb, hml, ho, -⟩ := S
  intro T hT X
  obtain ⟨v, vm₁, ⟨U', l2, c2, s2⟩, hW₁, X', ⟨g', mk, t, L, e1, e2, hq, h1, hL, h2, h3⟩, st⟩ := vx_callSW X hx (hh := hh) (bytes := bytes) (maxL := maxL) (ret := ret) ho hl hstt hini hcode hy hK hg (hsize.trans hml.symm) (argsL := As) (rest := rest) (fun sig h => hn.trans (hlen sig h)) hstack hW (by rw [hb]; exact hdg)
    (fun vm₁ hW₁ => ⟨hf.1, hf.2, hp.2 (T.setVm vm₁) hT hW₁⟩)
  dsimp only [Pt.U, Pt.locs, Pt.cells, Pt.slots] at X' e1 e2 h1 h2 h3 st
  subst h1; subst h2; subst h3
  exact ⟨v, (T.setVm vm₁).calling g' mk As.toArray, t, U', L, hT, X', hL, e1, e2, hq, st⟩
theorem vx_outP {p : Program} {l : Launch} {e : Env} {R : Room} {s : State} {m : MethodId} {args : Array Value} {below : List Frame} {meth : Method} {c : Code} {H : Heap} {locs : List Loc} {cells slots : Nat} {free : Addr → Prop} {ls : Array Slot} {rest : List Value} {Qc : Array Value → State → Outcome → State → Prop} {XC : String → State → State → Prop}
    {pc : Nat} {own E : String} {ce : Cell} {q : Addr} {mc ms : Nat} (hown : s.vm.findClass own = some m.cls) (hlocks : meth.locks = false)
    (hpass : ∀ z ∈ c.exceptionTable.toList, covers z pc = false ∨ (z.catchType ≠ 0 ∧ ∃ nm : String, (Cond.classLink own z.catchType nm).before args s = true ∧ va_Nc E nm s)) (hcell : H[q]? = some ce) (hv : ce.vm = .none) (hcl : s.vm.findClass E = some ce.cls)
    (hx : ∀ t : State, t.heap = H → s.vm.Alike t.vm → XC E s t) (hf : ∀ z ∈ locs, free z.base) (hc : cells ≤ mc) (hs : slots ≤ ms) :
    vx_W p l e R s m args below meth c H locs cells slots (vx_MQ below Qc XC args s mc ms free) (F0 m pc ls rest) q := by
  intro T hT X
  have hpl : e.platform.magicAccessors = ({} : Platform).magicAccessors := by rw [X.admits.platform]
  obtain ⟨vm', hW', X', st⟩ := X.outThrough hlocks q (g := F0 m pc ls rest) rfl rfl rfl (cell := ce) (by rw [hT]; exact hcell) (by rw [hv]; rfl)
    (by obtain ⟨k9, h9, -⟩ := Vm.findClass_spec hcl; exact ⟨k9, h9⟩) (fun z hz => by
      rcases hpass z hz with h | ⟨hz0, nm, hl1, hn1⟩
      · exact Or.inl h
      · obtain ⟨c6, hc6, hcl6⟩ := Cond.classLink_spec hown hl1 e.platform hpl
        obtain ⟨a8, b8, h1, h2, h3⟩ := hn1
        cases Option.some.inj (h1.symm.trans hcl)
        cases Option.some.inj (h2.symm.trans hc6)
        exact Or.inr ⟨hz0, _, hcl6, h3⟩)
  obtain ⟨g₀, hfr⟩ := X'.frames_eq
  have hcell9 : ((T.setVm vm').setFrames (.throwing q :: below)).heap[q]? = some ce := by
    show T.heap[q]? = some ce
    rw [hT]; exact hcell
  have hend : Ended ((T.setVm vm').setFrames (.throwing q :: below)) below (.threw q) := State.frames_setFrames _ (State.cur_lt_of_frames hfr)
  refine ⟨(T.setVm vm').setFrames (.throwing q :: below), ?_, .threw q, X'.here.running, hend, Or.inr ⟨q, rfl, E, ce, locs, hx _ hT (X'.ends _).1.alike, hcell9, hv, hcl, (X'.ends _).1, (X'.ends _).2.mono hc hs, hf⟩⟩
  rw [X.pushThrowing_eq]
  exact st
theorem vx_lt {D : va_G} {cl : List vw_C} {ws : va_W} {H1 : Heap} (h : va_P D cl ws H1) {k : Nat} {q : Nat × va_E} (hk : ws[k]? = some q) : q.1 < H1.size := (h k q hk).lt
end VXS
section VXH
section
variable {l : Launch} {R : Room} {p : Program} {e : Env} {below : List Frame} {s : State} {sargs : Array Value} {y : MethodName} {len W9 : Nat}
theorem vx_backW {ws : List Cond} {rm : Room} {Pc : Array Value → State → Prop} {Qc : Array Value → State → Outcome → State → Prop} {XC : String → State → State → Prop} {mc ms : Nat} {free : Addr → Prop} {bytes : ByteArray} {maxL : Nat} {ret : Option FieldType} {hh : List (Nat × Nat × Nat × Nat)}
    (hM : vx_Met l y ws rm Pc Qc XC mc ms free) (hblind : FrameBlind Pc) (hrc : rm.cells = mc) (hrs : rm.slots = ms)
    (hframes : rm.frames + 1 ≤ R.frames) (hlocals : W9 + (maxL + 11) + rm.locals ≤ R.locals)
    (hws : ∀ w ∈ ws, ∀ a' U, s.WarmedH U.vm → w.before a' U = true) (hcode : Cond.codeWith y bytes maxL ret hh ∈ ws) (hinit : ∀ a' U, s.WarmedH U.vm → (Cond.initialized y.cls).before a' U = true) :
    vx_Back l R p e below s sargs y len W9 (PreOf R mc ms Pc) (PostOf Qc mc ms free) (vx_Post XC mc ms free) := by
  intro m meth c A g ig mk a X hg hsize hdg hW hn hp
  have h1 : (headSpec ws rm).pre.before a A.U = true := atoms_intro fun w hw => hws w hw _ _ X.warmed
  have h2 : (Cond.codeWith y bytes maxL ret hh).before a A.U = true := hws _ hcode _ _ X.warmed
  have h3 : (Cond.initialized y.cls).before a A.U = true := hinit _ _ X.warmed
  have h4 : A.cells + (headSpec ws rm).room.cells ≤ R.cells := by rw [show (headSpec ws rm).room.cells = mc from hrc]; exact hp.1
  have h5 : A.slots + (headSpec ws rm).room.slots ≤ R.slots := by rw [show (headSpec ws rm).room.slots = ms from hrs]; exact hp.2.1
  have hPc : Pc a (A.U.calling g mk a) := hblind _ _ _ _ hp.2.2
  obtain ⟨U, Ls, c0, s0⟩ := A
  dsimp only [Pt.U, Pt.locs, Pt.cells, Pt.slots] at h1 h2 h3 h4 h5 X hn hPc ⊢
  obtain ⟨m9, methY, cY, hn9, hmY, hcY, -, hlY, -⟩ := Cond.codeWith_spec h2
  cases Option.some.inj (hn9.symm.trans hn)
  obtain ⟨kY, hkY, -⟩ := className_of_methodNamed hn
  have hinitY : kY.init = .initialized := Cond.initialized_spec (findClass_of_methodNamed hn) hkY h3
  have h : At U g.method c below := by rw [hg]; exact X.here
  have hlocals9 : W9 + (maxL + 11) + (headSpec ws rm).room.locals ≤ R.locals := hlocals
  have happ : (headSpec ws rm).appliesLoose y e.platform (U.calling g mk a) = true :=
    Spec.appliesLoose_calling (g := g) h hdg hn hkY hinitY
      (X.room_calling (g := g) (R' := (headSpec ws rm).room) hsize hmY hcY hframes (by rw [hlY]; omega) h4 h5) h1
  obtain ⟨mid, hmid⟩ := h.above
  have hfr : (U.setTop g).frames = (.java g :: mid) ++ below := by rw [State.frames_setTop' g h.top, hmid]; rfl
  obtain ⟨o, s₂, hsteps, -, hend, hq⟩ := Steps.callFree hM p X.admits X.cas X.clock (acts := []) hfr happ hPc trivial
  have hq' : vx_Q Qc XC mc ms free a (U.calling g mk a) o s₂ := hq
  rw [State.frames_setTop' g h.top] at hend
  obtain ⟨g₀, hg0⟩ := Option.isSome_iff_exists.mp h.top
  obtain ⟨r, hr⟩ := State.topJava?_eq_some.mp hg0
  have hr' : (({ U with heap := s₂.heap, slotsUsed := s₂.slotsUsed } : State).setVm s₂.vm).frames = .java g₀ :: r := hr
  rcases hq' with ⟨hqc, L, hfe, hL⟩ | ⟨q, rfl, E, ce, L, hx, hce, hcv, hcl, hW₂, hsm, hL⟩
  · obtain ⟨⟨v, rfl⟩, hW₂, e2, q2, q3, q4, q5, q6⟩ := id hfe
    have e3 : s₂ = ({ (U.calling g mk a).setFrames s₂.frames with heap := s₂.heap, slotsUsed := s₂.slotsUsed } : State).setVm s₂.vm := by
      have : s₂ = ({ s₂ with vm := (U.calling g mk a).vm } : State).setVm s₂.vm := rfl
      rw [e2] at this
      exact this
    obtain ⟨c₂, i₂, len₂, hc₂, hd₂, hf₂⟩ := hend
    have hW' : U.WarmedH s₂.vm := hW₂
    have hcc : c₂ = c := by
      have h1 : s₂.code? g.method = U.code? g.method := by
        rw [State.code?_eq, State.code?_eq, hW'.alike.method?]
      exact Option.some.inj (hc₂.symm.trans (h1.trans h.code))
    subst hcc
    have hlen : len₂ = len := by rw [hdg] at hd₂; cases hd₂; rfl
    subst hlen
    have hs₂ : s₂ = (({ U with heap := s₂.heap, slotsUsed := s₂.slotsUsed } : State).setVm s₂.vm).setTop { g with pc := g.pc + len₂, stack := v.toList ++ g.stack } := by
      refine e3.trans ?_
      rw [hf₂, State.calling_eq h.top, State.setFrames_setFrames, State.setTop_of_frames _ hr', hr]
      rfl
    have hsame : U.sameButNew ({ U with heap := s₂.heap, slotsUsed := s₂.slotsUsed } : State) L mc ms := by
      refine ⟨?_, q2, q3, q4, q5, q6⟩
      obtain ⟨t, ht, -⟩ := State.frames_cons hr
      show ({ U with heap := s₂.heap, slotsUsed := s₂.slotsUsed } : State) = { U.setFrames U.frames with heap := s₂.heap, slotsUsed := s₂.slotsUsed }
      rw [State.setFrames_self ht]
    subst hg
    refine Or.inl ⟨v, ⟨(({ U with heap := s₂.heap, slotsUsed := s₂.slotsUsed } : State).setVm s₂.vm), Ls ++ L, c0 + mc, s0 + ms⟩,
      ⟨X.admits, X.cas, X.clock, X.frames, X.room, X.hears, X.method, X.code, (X.here.setHeapUsed s₂.heap s₂.slotsUsed).setVm hW'.alike, X.tail, State.WarmedH.trans X.warmed hW', X.limits, X.bytes, X.same.trans (hsame.setVm s.vm)⟩,
      ⟨g, mk, s₂, L, rfl, rfl, hqc, rfl, hL, rfl, rfl⟩, ?_⟩
    show Steps p.tables e below _ ((({ U with heap := s₂.heap, slotsUsed := s₂.slotsUsed } : State).setVm s₂.vm).setTop { g with pc := g.pc + len₂, stack := v.toList ++ g.stack })
    rw [← hs₂]
    exact hsteps
  · obtain ⟨e2, q2, q3, q4, q5, q6⟩ := id hsm
    have e3 : s₂ = ({ (U.calling g mk a).setFrames s₂.frames with heap := s₂.heap, slotsUsed := s₂.slotsUsed } : State).setVm s₂.vm := by
      have : s₂ = ({ s₂ with vm := (U.calling g mk a).vm } : State).setVm s₂.vm := rfl
      rw [e2] at this
      exact this
    have hf₂ : s₂.frames = .throwing q :: .java g :: U.frames.tail := hend
    have hW' : U.WarmedH s₂.vm := hW₂
    have hs₂ : s₂ = ((({ U with heap := s₂.heap, slotsUsed := s₂.slotsUsed } : State).setVm s₂.vm).setTop g).pushFrame (.throwing q) := by
      refine e3.trans ?_
      rw [hf₂, State.calling_eq h.top, State.setFrames_setFrames, State.pushFrame, State.frames_setTop _ hr', State.setTop_of_frames _ hr', State.setFrames_setFrames, hr]
      rfl
    have hsame : U.sameButNew ({ U with heap := s₂.heap, slotsUsed := s₂.slotsUsed } : State) L mc ms := by
      refine ⟨?_, q2, q3, q4, q5, q6⟩
      obtain ⟨t, ht, -⟩ := State.frames_cons hr
      show ({ U with heap := s₂.heap, slotsUsed := s₂.slotsUsed } : State) = { U.setFrames U.frames with heap := s₂.heap, slotsUsed := s₂.slotsUsed }
      rw [State.setFrames_self ht]
    subst hg
    refine Or.inr ⟨q, ⟨(({ U with heap := s₂.heap, slotsUsed := s₂.slotsUsed } : State).setVm s₂.vm), Ls ++ L, c0 + mc, s0 + ms⟩,
      ⟨X.admits, X.cas, X.clock, X.frames, X.room, X.hears, X.method, X.code, (X.here.setHeapUsed s₂.heap s₂.slotsUsed).setVm hW'.alike, X.tail, State.WarmedH.trans X.warmed hW', X.limits, X.bytes, X.same.trans (hsame.setVm s.vm)⟩,
      ⟨g, mk, s₂, L, E, ce, rfl, rfl, hx, hce, hcv, hcl, rfl, hL, rfl, rfl⟩, ?_⟩
    show Steps p.tables e below _ (((({ U with heap := s₂.heap, slotsUsed := s₂.slotsUsed } : State).setVm s₂.vm).setTop g).pushFrame (.throwing q))
    rw [← hs₂]
    exact hsteps
end
variable {p : Program} {l : Launch} {e : Env} {R : Room} {s : State} {m : MethodId} {args : Array Value} {below : List Frame} {meth : Method} {c : Code} {T : State} {H : Heap} {locs : List Loc} {cells slots : Nat}
theorem vx_callVX (X : Stand p l e R s m args below meth c T locs cells slots) (hexec : p.tables.exec = Jvm.exec) {own C : String} {index : Nat} {y : MethodName} {bytes : ByteArray} {maxL : Nat} {ret : Option FieldType} {hh : List (Nat × Nat × Nat × Nat)}
    (hown : s.vm.findClass own = some m.cls) (hlink : (Cond.methodLink own index y).before args s = true) (hinst : (Cond.instanceMethod y).before args s = true) (hsel : (Cond.selects C y y).before args s = true)
    (hcode : (Cond.codeWith y bytes maxL ret hh).before args s = true) (hy : y.cls ≠ "java/lang/invoke/MethodHandle" ∧ y.cls ≠ "java/lang/invoke/VarHandle")
    {W9 : Nat} {Pre : Pt → Array Value → Prop} {Post : Pt → Array Value → Option Value → Pt → Prop} {PostX : Pt → Array Value → Addr → Pt → Prop} (hK : vx_Back l R p e below s args y 3 W9 Pre Post PostX)
    {b : Addr} {cellB : Cell} (hcell : T.heap[b]? = some cellB) (hobj : cellB.vm.isStatics = false) (hcls : s.vm.findClass C = some cellB.cls)
    {g : JFrame} (hg : g.method = m) (hsize : g.locals.size = c.maxLocals) {argsL rest : List Value} (hlen : ∀ sig, parseMethodDescriptor y.desc = some sig → argsL.length = sig.parameters.length)
    (hstack : g.stack = argsL.reverse ++ .ref b :: rest) (hW : 2 * g.monitorRoom + (rest.map fun v => v.category).sum ≤ W9) (hdg : decode c.code g.pc = .ok (.invokevirtual index, 3))
    (hpre : ∀ vm₁, s.WarmedH vm₁ → Pre ⟨T.setVm vm₁, locs, cells, slots⟩ (Value.ref b :: argsL).toArray) :
    (∃ (v : Option Value) (vm₁ : Vm) (B : Pt), s.WarmedH vm₁ ∧ Stand p l e R s m args below meth c B.U B.locs B.cells B.slots ∧ Post ⟨T.setVm vm₁, locs, cells, slots⟩ (Value.ref b :: argsL).toArray v B ∧
      ∀ target, Steps p.tables e below (B.U.setTop { g with pc := g.pc + 3, stack := v.toList ++ rest }) target → Steps p.tables e below (T.setTop g) target) ∨
    (∃ (q : Addr) (vm₁ : Vm) (B : Pt), s.WarmedH vm₁ ∧ Stand p l e R s m args below meth c B.U B.locs B.cells B.slots ∧ PostX ⟨T.setVm vm₁, locs, cells, slots⟩ (Value.ref b :: argsL).toArray q B ∧
      Steps p.tables e below (T.setTop g) ((B.U.setTop { g with stack := rest }).pushFrame (.throwing q))) := by
  obtain ⟨mk, methM, hnamed, hmethM, hstM, habM⟩ := Cond.instanceMethod_spec hinst
  obtain ⟨m8, methM', cM, hn8, hmethM', -, -, -, -, -, -, hsigM⟩ := Cond.codeWith_spec hcode
  cases Option.some.inj (hn8.symm.trans hnamed)
  cases hmethM.symm.trans hmethM'
  obtain ⟨c2, r2, m2, q1, q2, q3, q4, kP, hkP, hkPi⟩ := Cond.selects_spec hsel
  cases hcls.symm.trans q1
  cases (State.methodFound?_of_named hnamed hy).symm.trans q2
  cases hnamed.symm.trans q3
  have hselP : selectMethod e.platform s.vm cellB.cls mk = .method mk := by rw [Launch.admits_selectMethod X.admits]; exact q4
  obtain ⟨vm₁, X₁, hstep₁⟩ := X.invokevirtual hexec hown hlink hnamed hmethM hstM hkP hkPi hy (a := b) (cell := cellB) hcell
    (fun z h => by rw [h] at hobj; cases hobj) hselP hmethM habM hkP hkPi (g := g) hg (argsL := argsL) (rest := rest) (hlen _ hsigM) hstack hdg
  rcases hK m meth c ⟨T.setVm vm₁, locs, cells, slots⟩ { g with stack := rest } (.invokevirtual index) mk (Value.ref b :: argsL).toArray X₁ hg hsize hdg hW (X₁.named hnamed) (hpre vm₁ X₁.warmed) with ⟨v, B, X', hpost, hsteps⟩ | ⟨q, B, X', hpost, hsteps⟩
  · exact Or.inl ⟨v, vm₁, B, X₁.warmed, X', hpost, fun target h => hstep₁ _ fun acts => by rw [doInvoke_state]; exact hsteps.trans h⟩
  · exact Or.inr ⟨q, vm₁, B, X₁.warmed, X', hpost, hstep₁ _ fun acts => by rw [doInvoke_state]; exact hsteps⟩
theorem vx_callSX (X : Stand p l e R s m args below meth c T locs cells slots) (hexec : p.tables.exec = Jvm.exec) {own : String} {index : Nat} {y : MethodName} {bytes : ByteArray} {maxL : Nat} {ret : Option FieldType} {hh : List (Nat × Nat × Nat × Nat)}
    (hown : s.vm.findClass own = some m.cls) (hlink : (Cond.methodLink own index y).before args s = true) (hstat : (Cond.static y).before args s = true) (hinit : (Cond.initialized y.cls).before args s = true)
    (hcode : (Cond.codeWith y bytes maxL ret hh).before args s = true) (hy : y.cls ≠ "java/lang/invoke/MethodHandle" ∧ y.cls ≠ "java/lang/invoke/VarHandle")
    {W9 : Nat} {Pre : Pt → Array Value → Prop} {Post : Pt → Array Value → Option Value → Pt → Prop} {PostX : Pt → Array Value → Addr → Pt → Prop} (hK : vx_Back l R p e below s args y 3 W9 Pre Post PostX)
    {g : JFrame} (hg : g.method = m) (hsize : g.locals.size = c.maxLocals) {argsL rest : List Value} (hlen : ∀ sig, parseMethodDescriptor y.desc = some sig → argsL.length = sig.parameters.length)
    (hstack : g.stack = argsL.reverse ++ rest) (hW : 2 * g.monitorRoom + (rest.map fun v => v.category).sum ≤ W9) (hdg : decode c.code g.pc = .ok (.invokestatic index, 3))
    (hpre : ∀ vm₁, s.WarmedH vm₁ → Pre ⟨T.setVm vm₁, locs, cells, slots⟩ argsL.toArray) :
    (∃ (v : Option Value) (vm₁ : Vm) (B : Pt), s.WarmedH vm₁ ∧ Stand p l e R s m args below meth c B.U B.locs B.cells B.slots ∧ Post ⟨T.setVm vm₁, locs, cells, slots⟩ argsL.toArray v B ∧
      ∀ target, Steps p.tables e below (B.U.setTop { g with pc := g.pc + 3, stack := v.toList ++ rest }) target → Steps p.tables e below (T.setTop g) target) ∨
    (∃ (q : Addr) (vm₁ : Vm) (B : Pt), s.WarmedH vm₁ ∧ Stand p l e R s m args below meth c B.U B.locs B.cells B.slots ∧ PostX ⟨T.setVm vm₁, locs, cells, slots⟩ argsL.toArray q B ∧
      Steps p.tables e below (T.setTop g) ((B.U.setTop { g with stack := rest }).pushFrame (.throwing q))) := by
  obtain ⟨mk, methM, cM, hnamed, hmethM, -, -, -, -, -, -, hsigM⟩ := Cond.codeWith_spec hcode
  have hstatic : methM.isStatic = true := Cond.static_spec hnamed hmethM hstat
  obtain ⟨kP, hkP, -⟩ := className_of_methodNamed hnamed
  have hinitP : kP.init = .initialized := Cond.initialized_spec (findClass_of_methodNamed hnamed) hkP hinit
  obtain ⟨vm₁, X₁, hstep₁⟩ := X.invokestatic hexec hown hlink hnamed hmethM hstatic hkP hinitP hy (g := g) hg (argsL := argsL) (rest := rest) (hlen _ hsigM) hstack hdg
  rcases hK m meth c ⟨T.setVm vm₁, locs, cells, slots⟩ { g with stack := rest } (.invokestatic index) mk argsL.toArray X₁ hg hsize hdg hW (X₁.named hnamed) (hpre vm₁ X₁.warmed) with ⟨v, B, X', hpost, hsteps⟩ | ⟨q, B, X', hpost, hsteps⟩
  · exact Or.inl ⟨v, vm₁, B, X₁.warmed, X', hpost, fun target h => hstep₁ _ fun acts => by rw [doInvoke_state]; exact hsteps.trans h⟩
  · exact Or.inr ⟨q, vm₁, B, X₁.warmed, X', hpost, hstep₁ _ fun acts => by rw [doInvoke_state]; exact hsteps⟩
theorem vx_callVW (X : Stand p l e R s m args below meth c T locs cells slots) (hexec : p.tables.exec = Jvm.exec) {own C : String} {index : Nat} {y : MethodName} {bytes : ByteArray} {maxL : Nat} {ret : Option FieldType} {hh : List (Nat × Nat × Nat × Nat)}
    (hown : s.vm.findClass own = some m.cls) (hlink : (Cond.methodLink own index y).before args s = true) (hinst : (Cond.instanceMethod y).before args s = true) (hsel : (Cond.selects C y y).before args s = true)
    (hcode : (Cond.codeWith y bytes maxL ret hh).before args s = true) (hy : y.cls ≠ "java/lang/invoke/MethodHandle" ∧ y.cls ≠ "java/lang/invoke/VarHandle")
    {W9 : Nat} {Pre : Pt → Array Value → Prop} {Post : Pt → Array Value → Option Value → Pt → Prop} (hK : Back l R p e below s args y 3 W9 Pre Post)
    {b : Addr} {cellB : Cell} (hcell : T.heap[b]? = some cellB) (hobj : cellB.vm.isStatics = false) (hcls : s.vm.findClass C = some cellB.cls)
    {g : JFrame} (hg : g.method = m) (hsize : g.locals.size = c.maxLocals) {argsL rest : List Value} (hlen : ∀ sig, parseMethodDescriptor y.desc = some sig → argsL.length = sig.parameters.length)
    (hstack : g.stack = argsL.reverse ++ .ref b :: rest) (hW : 2 * g.monitorRoom + (rest.map fun v => v.category).sum ≤ W9) (hdg : decode c.code g.pc = .ok (.invokevirtual index, 3))
    (hpre : ∀ vm₁, s.WarmedH vm₁ → Pre ⟨T.setVm vm₁, locs, cells, slots⟩ (Value.ref b :: argsL).toArray) :
    ∃ (v : Option Value) (vm₁ : Vm) (B : Pt), s.WarmedH vm₁ ∧ Stand p l e R s m args below meth c B.U B.locs B.cells B.slots ∧ Post ⟨T.setVm vm₁, locs, cells, slots⟩ (Value.ref b :: argsL).toArray v B ∧
      ∀ target, Steps p.tables e below (B.U.setTop { g with pc := g.pc + 3, stack := v.toList ++ rest }) target → Steps p.tables e below (T.setTop g) target := by
  obtain ⟨mk, methM, hnamed, hmethM, hstM, habM⟩ := Cond.instanceMethod_spec hinst
  obtain ⟨m8, methM', cM, hn8, hmethM', -, -, -, -, -, -, hsigM⟩ := Cond.codeWith_spec hcode
  cases Option.some.inj (hn8.symm.trans hnamed)
  cases hmethM.symm.trans hmethM'
  obtain ⟨c2, r2, m2, q1, q2, q3, q4, kP, hkP, hkPi⟩ := Cond.selects_spec hsel
  cases hcls.symm.trans q1
  cases (State.methodFound?_of_named hnamed hy).symm.trans q2
  cases hnamed.symm.trans q3
  have hselP : selectMethod e.platform s.vm cellB.cls mk = .method mk := by rw [Launch.admits_selectMethod X.admits]; exact q4
  obtain ⟨vm₁, X₁, hstep₁⟩ := X.invokevirtual hexec hown hlink hnamed hmethM hstM hkP hkPi hy (a := b) (cell := cellB) hcell
    (fun z h => by rw [h] at hobj; cases hobj) hselP hmethM habM hkP hkPi (g := g) hg (argsL := argsL) (rest := rest) (hlen _ hsigM) hstack hdg
  obtain ⟨v, B, X', hpost, hsteps⟩ := hK m meth c ⟨T.setVm vm₁, locs, cells, slots⟩ { g with stack := rest } (.invokevirtual index) mk (Value.ref b :: argsL).toArray X₁ hg hsize hdg hW (X₁.named hnamed) (hpre vm₁ X₁.warmed)
  exact ⟨v, vm₁, B, X₁.warmed, X', hpost, fun target h => hstep₁ _ fun acts => by rw [doInvoke_state]; exact hsteps.trans h⟩
abbrev vx_CVW (R : Room) (s : State) (args : Array Value) (own C : String) (index : Nat) (y : MethodName) (bytes : ByteArray) (maxL : Nat) (ret : Option FieldType) (hh : List (Nat × Nat × Nat × Nat)) (ws : List Cond) (rm : Room) (mc ms n : Nat) : Prop :=
  (rm.cells = mc ∧ rm.slots = ms ∧ rm.frames + 1 ≤ R.frames ∧ 8 + (maxL + 11) + rm.locals ≤ R.locals ∧ (∀ w ∈ ws, ∀ (a' : Array Value) (U : State), s.WarmedH U.vm → w.before a' U = true) ∧ Cond.codeWith y bytes maxL ret hh ∈ ws) ∧
  (Cond.codeWith y bytes maxL ret hh).before args s = true ∧ (Cond.initialized y.cls).before args s = true ∧ (y.cls ≠ "java/lang/invoke/MethodHandle" ∧ y.cls ≠ "java/lang/invoke/VarHandle") ∧
  (∀ sig, parseMethodDescriptor y.desc = some sig → n = sig.parameters.length) ∧ (Cond.methodLink own index y).before args s = true ∧ (Cond.instanceMethod y).before args s = true ∧ (Cond.selects C y y).before args s = true
theorem vx_cwVW {own C : String} {index maxL mc ms : Nat} {y : MethodName} {bytes : ByteArray} {ret : Option FieldType} {hh : List (Nat × Nat × Nat × Nat)} {Ts ws ws' : List Cond} {rm : Room} (n : Nat) (ht : ∀ w ∈ Ts, w.before args s = true) (hT : GoodIn Ts (wsV own index C y ws)) (hw : ws = Cond.codeWith y bytes maxL ret hh :: ws') (hrc : rm.cells = mc) (hrs : rm.slots = ms)
    (hd : y.cls = C ∧ y.cls ≠ "java/lang/invoke/MethodHandle" ∧ y.cls ≠ "java/lang/invoke/VarHandle" ∧ (parseMethodDescriptor y.desc).map (fun d => d.parameters.length) = some n) (hR : rm.frames + 1 ≤ R.frames ∧ 8 + (maxL + 11) + rm.locals ≤ R.locals) :
    vx_CVW R s args own C index y bytes maxL ret hh ws rm mc ms n := by
  obtain ⟨hC, hd⟩ := hd
  subst hC
  have ok : ∀ w ∈ wsV own index y.cls y ws, w.before args s = true := fun w h => ht w (hT w h).1
  have hG : GoodIn Ts ws := fun w h => hT w (by unfold wsV; exact List.mem_append_right _ h)
  have hc : Cond.codeWith y bytes maxL ret hh ∈ ws := by rw [hw]; exact List.mem_cons_self
  refine ⟨⟨hrc, hrs, hR.1, hR.2, pay_in ht hG, hc⟩, ht _ (hG _ hc).1, ok _ (by simp [wsV]), ⟨hd.1, hd.2.1⟩, fun sig h => ?_, ok _ (by simp [wsV]), ok _ (by simp [wsV]), ok _ (by simp [wsV])⟩
  have h2 := hd.2.2
  rw [h] at h2
  exact (Option.some.inj h2).symm
theorem vx_runVW {y : MethodName} {bytes cc : ByteArray} {maxL nL mc ms n index : Nat} {ret : Option FieldType} {hh : List (Nat × Nat × Nat × Nat)} {ws : List Cond} {rm : Room} {Pc : Array Value → State → Prop} {Qc : Array Value → State → Outcome → State → Prop} {free : Addr → Prop} {Ts : List Cond} {own C : String} {b : Addr} {As rest : List Value} {g : JFrame}
    (S : CallFix p m c cc nL s args Ts own) (hM : Met l y ws rm Pc Qc mc ms free) (cw : vx_CVW R s args own C index y bytes maxL ret hh ws rm mc ms n) (hp : PreV s H C b Pc As)
    (hg : g.method = m) (hn : As.length = n) (hsize : g.locals.size = nL) (hstack : g.stack = As.reverse ++ .ref b :: rest) (hW : 2 * g.monitorRoom + (rest.map fun v => v.category).sum ≤ 8) (hdg : decode cc g.pc = .ok (.invokevirtual index, 3)) (hf : cells + mc ≤ R.cells ∧ slots + ms ≤ R.slots) :
    va_Run p l e R s m args below meth c H locs cells slots mc ms g rest (Qc (Value.ref b :: As).toArray) free := by
  obtain ⟨⟨hrc, hrs, hfr, hlo, hws, hcw⟩, hcode, hini, hy, hlen, hl, hin, hse⟩ := cw
  have hK : Back l R p e below s args y 3 8 (PreOf R mc ms Pc) (PostOf Qc mc ms free) := va_backW (hh := hh) (bytes := bytes) (maxL := maxL) (ret := ret) hM hp.1 hrc hrs hfr hlo hws hcw (fun a' U hW => word_at hW (Or.inl (by first | rfl | simp [Cond.onTables, Cond.keeps, Cond.steady])) hini)
  obtain ⟨hx, hb, hml, ho, -⟩ := S
  obtain ⟨-, ⟨cellB, hcB, hoB, hclB⟩, hPc⟩ := hp
  intro T hT X
  obtain ⟨v, vm₁, ⟨U', l2, c2, s2⟩, hW₁, X', ⟨g', mk, t, L, e1, e2, hq, h1, hL, h2, h3⟩, st⟩ := vx_callVW X hx (C := C) (hh := hh) (bytes := bytes) (maxL := maxL) (ret := ret) ho hl hin hse hcode hy hK (by rw [hT]; exact hcB) hoB hclB hg (hsize.trans hml.symm) (argsL := As) (rest := rest) (fun sig h => hn.trans (hlen sig h)) hstack hW (by rw [hb]; exact hdg)
    (fun vm₁ hW₁ => ⟨hf.1, hf.2, hPc (T.setVm vm₁) hT hW₁⟩)
  dsimp only [Pt.U, Pt.locs, Pt.cells, Pt.slots] at X' e1 e2 h1 h2 h3 st
  subst h1; subst h2; subst h3
  exact ⟨v, (T.setVm vm₁).calling g' mk (Value.ref b :: As).toArray, t, U', L, hT, X', hL, e1, e2, hq, st⟩
section
variable {y : MethodName} {bytes cc : ByteArray} {maxL nL mc ms n index : Nat} {ret : Option FieldType} {ws : List Cond} {rm : Room} {Pc : Array Value → State → Prop} {Qc : Array Value → State → Outcome → State → Prop} {XC : String → State → State → Prop} {free : Addr → Prop} {Ts : List Cond} {own C : String} {b : Addr} {As rest : List Value} {g : JFrame}
theorem vx_runVX {hh : List (Nat × Nat × Nat × Nat)} (S : CallFix p m c cc nL s args Ts own) (hM : vx_Met l y ws rm Pc Qc XC mc ms free) (cw : vx_CVW R s args own C index y bytes maxL ret hh ws rm mc ms n) (hp : PreV s H C b Pc As)
    (hg : g.method = m) (hn : As.length = n) (hsize : g.locals.size = nL) (hstack : g.stack = As.reverse ++ .ref b :: rest) (hW : 2 * g.monitorRoom + (rest.map fun v => v.category).sum ≤ 8) (hdg : decode cc g.pc = .ok (.invokevirtual index, 3)) (hf : cells + mc ≤ R.cells ∧ slots + ms ≤ R.slots) :
    vx_Run p l e R s m args below meth c H locs cells slots mc ms g rest (Qc (Value.ref b :: As).toArray) XC free := by
  obtain ⟨⟨hrc, hrs, hfr, hlo, hws, hcw⟩, hcode, hini, hy, hlen, hl, hin, hse⟩ := cw
  have hK : vx_Back l R p e below s args y 3 8 (PreOf R mc ms Pc) (PostOf Qc mc ms free) (vx_Post XC mc ms free) := vx_backW (hh := hh) (bytes := bytes) (maxL := maxL) (ret := ret) hM hp.1 hrc hrs hfr hlo hws hcw (fun a' U hW => word_at hW (Or.inl (by first | rfl | simp [Cond.onTables, Cond.keeps, Cond.steady])) hini)
  obtain ⟨hx, hb, hml, ho, -⟩ := S
  obtain ⟨-, ⟨cellB, hcB, hoB, hclB⟩, hPc⟩ := hp
  intro T hT X
  rcases vx_callVX X hx (C := C) (hh := hh) (bytes := bytes) (maxL := maxL) (ret := ret) ho hl hin hse hcode hy hK (by rw [hT]; exact hcB) hoB hclB hg (hsize.trans hml.symm) (argsL := As) (rest := rest) (fun sig h => hn.trans (hlen sig h)) hstack hW (by rw [hb]; exact hdg)
    (fun vm₁ hW₁ => ⟨hf.1, hf.2, hPc (T.setVm vm₁) hT hW₁⟩) with ⟨v, vm₁, ⟨U', l2, c2, s2⟩, hW₁, X', ⟨g', mk, t, L, e1, e2, hq, h1, hL, h2, h3⟩, st⟩ | ⟨q, vm₁, ⟨U', l2, c2, s2⟩, hW₁, X', ⟨g', mk, t, L, E, ce, e1, e2, hq, hce, hcv, hcl, h1, hL, h2, h3⟩, st⟩
  · dsimp only [Pt.U, Pt.locs, Pt.cells, Pt.slots] at X' e1 e2 h1 h2 h3 st
    subst h1; subst h2; subst h3
    exact Or.inl ⟨v, (T.setVm vm₁).calling g' mk (Value.ref b :: As).toArray, t, U', L, hT, X', hL, e1, e2, hq, st⟩
  · dsimp only [Pt.U, Pt.locs, Pt.cells, Pt.slots] at X' e1 e2 h1 h2 h3 st hcl
    subst h1; subst h2; subst h3
    exact Or.inr ⟨q, (T.setVm vm₁).calling g' mk (Value.ref b :: As).toArray, t, U', L, E, ce, hT, X', hL, e1, e2, hq, hce, hcv, vx_cls hW₁ hcl, st⟩
theorem vx_runSX {hh : List (Nat × Nat × Nat × Nat)} (S : CallFix p m c cc nL s args Ts own) (hM : vx_Met l y ws rm Pc Qc XC mc ms free) (cw : vx_CSW R s args own index y bytes maxL ret hh ws rm mc ms n) (hp : PreS s H Pc As)
    (hg : g.method = m) (hn : As.length = n) (hsize : g.locals.size = nL) (hstack : g.stack = As.reverse ++ rest) (hW : 2 * g.monitorRoom + (rest.map fun v => v.category).sum ≤ 8) (hdg : decode cc g.pc = .ok (.invokestatic index, 3)) (hf : cells + mc ≤ R.cells ∧ slots + ms ≤ R.slots) :
    vx_Run p l e R s m args below meth c H locs cells slots mc ms g rest (Qc As.toArray) XC free := by
  obtain ⟨⟨hrc, hrs, hfr, hlo, hws, hcw⟩, hcode, hini, hy, hlen, hl, hstt⟩ := cw
  have hK : vx_Back l R p e below s args y 3 8 (PreOf R mc ms Pc) (PostOf Qc mc ms free) (vx_Post XC mc ms free) := vx_backW (hh := hh) (bytes := bytes) (maxL := maxL) (ret := ret) hM hp.1 hrc hrs hfr hlo hws hcw (fun a' U hW => word_at hW (Or.inl (by first | rfl | simp [Cond.onTables, Cond.keeps, Cond.steady])) hini)
  obtain ⟨hx, hb, hml, ho, -⟩ := S
  intro T hT X
  rcases vx_callSX X hx (hh := hh) (bytes := bytes) (maxL := maxL) (ret := ret) ho hl hstt hini hcode hy hK hg (hsize.trans hml.symm) (argsL := As) (rest := rest) (fun sig h => hn.trans (hlen sig h)) hstack hW (by rw [hb]; exact hdg)
    (fun vm₁ hW₁ => ⟨hf.1, hf.2, hp.2 (T.setVm vm₁) hT hW₁⟩) with ⟨v, vm₁, ⟨U', l2, c2, s2⟩, hW₁, X', ⟨g', mk, t, L, e1, e2, hq, h1, hL, h2, h3⟩, st⟩ | ⟨q, vm₁, ⟨U', l2, c2, s2⟩, hW₁, X', ⟨g', mk, t, L, E, ce, e1, e2, hq, hce, hcv, hcl, h1, hL, h2, h3⟩, st⟩
  · dsimp only [Pt.U, Pt.locs, Pt.cells, Pt.slots] at X' e1 e2 h1 h2 h3 st
    subst h1; subst h2; subst h3
    exact Or.inl ⟨v, (T.setVm vm₁).calling g' mk As.toArray, t, U', L, hT, X', hL, e1, e2, hq, st⟩
  · dsimp only [Pt.U, Pt.locs, Pt.cells, Pt.slots] at X' e1 e2 h1 h2 h3 st hcl
    subst h1; subst h2; subst h3
    exact Or.inr ⟨q, (T.setVm vm₁).calling g' mk As.toArray, t, U', L, E, ce, hT, X', hL, e1, e2, hq, hce, hcv, vx_cls hW₁ hcl, st⟩
end
end VXH
theorem vx_ofWH {l : Launch} {y : MethodName} {ws ws' : List Cond} {rm : Room} {Pc : Array Value → State → Prop} {Qc : Array Value → State → Outcome → State → Prop} {XC : String → State → State → Prop} {mc ms : Nat} {free : Addr → Prop} {cc : ByteArray} {maxL : Nat} {ret : Option FieldType} {hh : List (Nat × Nat × Nat × Nat)}
    (hy : plainName y.cls = true) (hw : ws = Cond.codeWith y cc maxL ret hh :: ws')
    (body : ∀ p e s m args below meth c s₁, BodyLoose p l y (headSpec ws rm) cc maxL ret e s m args below meth c s₁ → c.maxLocals = maxL → Pc args s →
      W p l e (headSpec ws rm).room s m args below meth c s.heap [] 0 0 (vx_MQ below Qc XC args s mc ms free) (entryFrame m args maxL)) : vx_Met l y ws rm Pc Qc XC mc ms free := by
  refine MetFree.of_bodyS (code := cc) (maxLocals := maxL) (ret := ret) hy ?_ ?_
  · intro args s m h hn
    obtain ⟨m9, meth, c, hn9, h1, h2, h3, h4, -, h5, h6, -⟩ := Cond.codeWith_spec (atoms_spec (ws := ws) h _ (by rw [hw]; exact List.mem_cons_self))
    cases hn.symm.trans hn9
    exact ⟨meth, c, h1, h2, h3, h4, h5, h6⟩
  · intro p e s m args below meth c s₁ B hml hP _
    have hh0 : s₁.heap = s.heap := by rw [B.state]; rfl
    obtain ⟨t, a1, o, b1, b2, b3⟩ := body p e s m args below meth c s₁ B hml hP s₁ hh0 (Stand.of_body B)
    exact ⟨t, o, a1, b1, b2, b3⟩
end
section
def wW : List Cond := lw_tbl.filter goodWord
theorem wW_good : ∀ w ∈ wW, goodWord w = true := fun w h => (List.mem_filter.mp h).2
theorem wW_in : ∀ w ∈ wW, w ∈ lw_tbl := fun w h => (List.mem_filter.mp h).1
theorem wW_t {w : Cond} (i : Nat) (h : tables_1[i]? = some w) (hg : goodWord w = true) : w ∈ wW := List.mem_filter.mpr ⟨List.mem_append_right _ (List.mem_of_getElem? h), hg⟩
theorem wW_s {w : Cond} (i : Nat) (h : (k2_sels lw_privs)[i]? = some w) (hg : goodWord w = true) : w ∈ wW := List.mem_filter.mpr ⟨List.mem_append_left _ (List.mem_of_getElem? h), hg⟩
def R_Gap : String := "RingMasters$Gap"
def F_Gap : u_T := fun k => match k with
  | 0 => ("RingMasters$Gap", "sum", "I", false)
  | _ => ("RingMasters$Gap", "years", "I", false)
def t_Gap : Nat → FieldType := fun k => match k with
  | 0 => .int
  | _ => .int
theorem n_Gap : ∀ a, a < 2 → ∀ b, b < 2 → a ≠ b → (F_Gap a).2.1 ≠ (F_Gap b).2.1 := by decide +kernel
theorem t_Gap_ok : ∀ k, k < 2 → parseFieldDescriptor (F_Gap k).2.2.1 = some (t_Gap k) := by decide +kernel
theorem i_Gap : ∀ w ∈ u_ws R_Gap F_Gap 2, w ∈ wW := by decide +kernel
def R_Rob : String := "RingMasters$Robust"
def F_Rob : u_T := fun k => match k with
  | 0 => ("RingMasters$Robust", "taken", "I", false)
  | 1 => ("RingMasters$Robust", "sum", "I", false)
  | 2 => ("RingMasters$Robust", "smallest", "I", false)
  | _ => ("RingMasters$Robust", "largest", "I", false)
def t_Rob : Nat → FieldType := fun k => match k with
  | 0 => .int
  | 1 => .int
  | 2 => .int
  | _ => .int
theorem n_Rob : ∀ a, a < 4 → ∀ b, b < 4 → a ≠ b → (F_Rob a).2.1 ≠ (F_Rob b).2.1 := by decide +kernel
theorem t_Rob_ok : ∀ k, k < 4 → parseFieldDescriptor (F_Rob k).2.2.1 = some (t_Rob k) := by decide +kernel
theorem i_Rob : ∀ w ∈ u_ws R_Rob F_Rob 4, w ∈ wW := by decide +kernel
def R_Row : String := "RingMasters$Row"
def F_Row : u_T := fun k => match k with
  | 0 => ("RingMasters$Row", "even", "[I", true)
  | _ => ("RingMasters$Row", "start", "I", false)
def t_Row : Nat → FieldType := fun k => match k with
  | 0 => .array (.int)
  | _ => .int
theorem n_Row : ∀ a, a < 2 → ∀ b, b < 2 → a ≠ b → (F_Row a).2.1 ≠ (F_Row b).2.1 := by decide +kernel
theorem t_Row_ok : ∀ k, k < 2 → parseFieldDescriptor (F_Row k).2.2.1 = some (t_Row k) := by decide +kernel
theorem i_Row : ∀ w ∈ u_ws R_Row F_Row 2, w ∈ wW := by decide +kernel
def R_Men : String := "RingMasters$Mean"
def F_Men : u_T := fun k => match k with
  | 0 => ("RingMasters$Mean", "starts", "[I", true)
  | 1 => ("RingMasters$Mean", "first", "I", true)
  | 2 => ("RingMasters$Mean", "last", "I", true)
  | 3 => ("RingMasters$Mean", "members", "I", true)
  | 4 => ("RingMasters$Mean", "values", "[I", true)
  | _ => ("RingMasters$Mean", "depths", "[I", true)
def t_Men : Nat → FieldType := fun k => match k with
  | 0 => .array (.int)
  | 1 => .int
  | 2 => .int
  | 3 => .int
  | 4 => .array (.int)
  | _ => .array (.int)
theorem n_Men : ∀ a, a < 6 → ∀ b, b < 6 → a ≠ b → (F_Men a).2.1 ≠ (F_Men b).2.1 := by decide +kernel
theorem t_Men_ok : ∀ k, k < 6 → parseFieldDescriptor (F_Men k).2.2.1 = some (t_Men k) := by decide +kernel
theorem i_Men : ∀ w ∈ u_ws R_Men F_Men 6, w ∈ wW := by decide +kernel
def R_Rm : String := "RingMasters"
def F_Rm : u_T := fun k => match k with
  | 0 => ("RingMasters", "pad", "[I", true)
  | 1 => ("RingMasters", "padLength", "I", false)
  | 2 => ("RingMasters", "rows", "[LRingMasters$Row;", true)
  | 3 => ("RingMasters", "rowCount", "I", false)
  | 4 => ("RingMasters", "means", "[LRingMasters$Mean;", true)
  | 5 => ("RingMasters", "meanCount", "I", false)
  | 6 => ("RingMasters", "weights", "[I", true)
  | 7 => ("RingMasters", "robust", "LRingMasters$Robust;", true)
  | 8 => ("RingMasters", "tried", "LRingMasters$Gap;", true)
  | 9 => ("RingMasters", "nearest", "LRingMasters$Gap;", true)
  | 10 => ("RingMasters", "gaps", "[LRingMasters$Gap;", true)
  | _ => ("RingMasters", "dates", "[I", true)
def t_Rm : Nat → FieldType := fun k => match k with
  | 0 => .array (.int)
  | 1 => .int
  | 2 => .array (.object "RingMasters$Row")
  | 3 => .int
  | 4 => .array (.object "RingMasters$Mean")
  | 5 => .int
  | 6 => .array (.int)
  | 7 => .object "RingMasters$Robust"
  | 8 => .object "RingMasters$Gap"
  | 9 => .object "RingMasters$Gap"
  | 10 => .array (.object "RingMasters$Gap")
  | _ => .array (.int)
theorem n_Rm : ∀ a, a < 12 → ∀ b, b < 12 → a ≠ b → (F_Rm a).2.1 ≠ (F_Rm b).2.1 := by decide +kernel
theorem t_Rm_ok : ∀ k, k < 12 → parseFieldDescriptor (F_Rm k).2.2.1 = some (t_Rm k) := by decide +kernel
theorem i_Rm : ∀ w ∈ u_ws R_Rm F_Rm 12, w ∈ wW := by decide +kernel
def R_Mo : String := "RingMastersModel"
def F_Mo : u_T := fun k => match k with
  | 0 => ("RingMastersModel", "thrown", "I", false)
  | 1 => ("RingMastersModel", "padded", "I", false)
  | 2 => ("RingMastersModel", "pad", "[I", true)
  | 3 => ("RingMastersModel", "series", "I", false)
  | 4 => ("RingMastersModel", "sizes", "[I", true)
  | 5 => ("RingMastersModel", "evens", "[I", true)
  | 6 => ("RingMastersModel", "places", "[I", true)
  | 7 => ("RingMastersModel", "masters", "I", false)
  | 8 => ("RingMastersModel", "lay", "[I", true)
  | 9 => ("RingMastersModel", "firsts", "[I", true)
  | 10 => ("RingMastersModel", "lasts", "[I", true)
  | 11 => ("RingMastersModel", "weights", "[I", true)
  | 12 => ("RingMastersModel", "sum", "I", false)
  | 13 => ("RingMastersModel", "years", "I", false)
  | 14 => ("RingMastersModel", "dated", "I", false)
  | 15 => ("RingMastersModel", "datedSum", "I", false)
  | 16 => ("RingMastersModel", "datedYears", "I", false)
  | 17 => ("RingMastersModel", "dates", "[I", true)
  | 18 => ("RingMastersModel", "sums", "[I", true)
  | _ => ("RingMastersModel", "counts", "[I", true)
def t_Mo : Nat → FieldType := fun k => match k with
  | 0 => .int
  | 1 => .int
  | 2 => .array (.int)
  | 3 => .int
  | 4 => .array (.int)
  | 5 => .array (.int)
  | 6 => .array (.int)
  | 7 => .int
  | 8 => .array (.int)
  | 9 => .array (.int)
  | 10 => .array (.int)
  | 11 => .array (.int)
  | 12 => .int
  | 13 => .int
  | 14 => .int
  | 15 => .int
  | 16 => .int
  | 17 => .array (.int)
  | 18 => .array (.int)
  | _ => .array (.int)
theorem n_Mo : ∀ a, a < 20 → ∀ b, b < 20 → a ≠ b → (F_Mo a).2.1 ≠ (F_Mo b).2.1 := by decide +kernel
theorem t_Mo_ok : ∀ k, k < 20 → parseFieldDescriptor (F_Mo k).2.2.1 = some (t_Mo k) := by decide +kernel
theorem i_Mo : ∀ w ∈ u_ws R_Mo F_Mo 20, w ∈ wW := by decide +kernel
def R_L : String := "RingMastersLaw"
abbrev xCl : List vw_C := [(R_Gap, F_Gap, 2), (R_Rob, F_Rob, 4), (R_Row, F_Row, 2), (R_Men, F_Men, 6), (R_Rm, F_Rm, 12), (R_Mo, F_Mo, 20)]
abbrev b_Rm_init : ByteArray := prog_1_method_1_code
def y_Rm_init : MethodName := ⟨"RingMasters", "<init>", "()V"⟩
def w_Rm_init : List Cond := .code y_Rm_init b_Rm_init 2 none :: wW
abbrev b_Rob_init : ByteArray := prog_4_method_1_code
def y_Rob_init : MethodName := ⟨"RingMasters$Robust", "<init>", "()V"⟩
def w_Rob_init : List Cond := .code y_Rob_init b_Rob_init 1 none :: wW
abbrev b_Gap_init : ByteArray := prog_2_method_1_code
def y_Gap_init : MethodName := ⟨"RingMasters$Gap", "<init>", "()V"⟩
def w_Gap_init : List Cond := .code y_Gap_init b_Gap_init 1 none :: wW
abbrev b_L_ring : ByteArray := method_3_code
def y_L_ring : MethodName := ⟨"RingMastersLaw", "ring", "(LRingMasters;I[J)I"⟩
def w_L_ring : List Cond := .codeWith y_L_ring b_L_ring 4 (some FieldType.int) [(0, 9, 12, 13), (0, 9, 15, 15)] :: wW
abbrev b_Rm_ring : ByteArray := prog_1_method_2_code
def y_Rm_ring : MethodName := ⟨"RingMasters", "ring", "(I)I"⟩
def w_Rm_ring : List Cond := .code y_Rm_ring b_Rm_ring 2 (some FieldType.int) :: wW
abbrev b_L_series : ByteArray := method_4_code
def y_L_series : MethodName := ⟨"RingMastersLaw", "series", "(LRingMasters;[J)I"⟩
def w_L_series : List Cond := .codeWith y_L_series b_L_series 3 (some FieldType.int) [(0, 8, 11, 13)] :: wW
abbrev b_Rm_series : ByteArray := prog_1_method_3_code
def y_Rm_series : MethodName := ⟨"RingMasters", "series", "()I"⟩
def w_Rm_series : List Cond := .code y_Rm_series b_Rm_series 1 (some FieldType.int) :: wW
abbrev b_Rm_evenedPad : ByteArray := prog_1_method_24_code
def y_Rm_evenedPad : MethodName := ⟨"RingMasters", "evenedPad", "()[I"⟩
def w_Rm_evenedPad : List Cond := .code y_Rm_evenedPad b_Rm_evenedPad 4 (some (FieldType.array FieldType.int)) :: wW
abbrev b_JM_min : ByteArray := prog_13_method_69_code
def y_JM_min : MethodName := ⟨"java/lang/Math", "min", "(II)I"⟩
def w_JM_min : List Cond := .code y_JM_min b_JM_min 2 (some FieldType.int) :: wW
abbrev b_Row_init : ByteArray := prog_5_method_1_code
def y_Row_init : MethodName := ⟨"RingMasters$Row", "<init>", "([I)V"⟩
def w_Row_init : List Cond := .code y_Row_init b_Row_init 2 none :: wW
abbrev b_L_evened : ByteArray := method_5_code
def y_L_evened : MethodName := ⟨"RingMastersLaw", "evened", "(LRingMasters;II[J)I"⟩
def w_L_evened : List Cond := .codeWith y_L_evened b_L_evened 5 (some FieldType.int) [(0, 10, 13, 25)] :: wW
abbrev b_Rm_evened : ByteArray := prog_1_method_4_code
def y_Rm_evened : MethodName := ⟨"RingMasters", "evened", "(II)I"⟩
def w_Rm_evened : List Cond := .code y_Rm_evened b_Rm_evened 4 (some FieldType.int) :: wW
abbrev b_Rm_rowOf : ByteArray := prog_1_method_19_code
def y_Rm_rowOf : MethodName := ⟨"RingMasters", "rowOf", "(I)LRingMasters$Row;"⟩
def w_Rm_rowOf : List Cond := .code y_Rm_rowOf b_Rm_rowOf 2 (some (FieldType.object "RingMasters$Row")) :: wW
abbrev b_L_place : ByteArray := method_6_code
def y_L_place : MethodName := ⟨"RingMastersLaw", "place", "(LRingMasters;II[J)I"⟩
def w_L_place : List Cond := .codeWith y_L_place b_L_place 5 (some FieldType.int) [(0, 10, 13, 25), (0, 10, 17, 15)] :: wW
abbrev b_Rm_place : ByteArray := prog_1_method_5_code
def y_Rm_place : MethodName := ⟨"RingMasters", "place", "(II)I"⟩
def w_Rm_place : List Cond := .code y_Rm_place b_Rm_place 5 (some FieldType.int) :: wW
abbrev b_L_master : ByteArray := method_7_code
def y_L_master : MethodName := ⟨"RingMastersLaw", "master", "(LRingMasters;I[J)I"⟩
def w_L_master : List Cond := .codeWith y_L_master b_L_master 4 (some FieldType.int) [(0, 9, 12, 13), (0, 9, 15, 15)] :: wW
abbrev b_Rm_master : ByteArray := prog_1_method_6_code
def y_Rm_master : MethodName := ⟨"RingMasters", "master", "(I)I"⟩
def w_Rm_master : List Cond := .code y_Rm_master b_Rm_master 4 (some FieldType.int) :: wW
abbrev b_Rm_membersOf : ByteArray := prog_1_method_26_code
def y_Rm_membersOf : MethodName := ⟨"RingMasters", "membersOf", "(I)I"⟩
def w_Rm_membersOf : List Cond := .code y_Rm_membersOf b_Rm_membersOf 4 (some FieldType.int) :: wW
abbrev b_Rm_startsOf : ByteArray := prog_1_method_27_code
def y_Rm_startsOf : MethodName := ⟨"RingMasters", "startsOf", "(I)[I"⟩
def w_Rm_startsOf : List Cond := .code y_Rm_startsOf b_Rm_startsOf 4 (some (FieldType.array FieldType.int)) :: wW
abbrev b_JA_fill : ByteArray := prog_17_method_103_code
def y_JA_fill : MethodName := ⟨"java/util/Arrays", "fill", "([II)V"⟩
def w_JA_fill : List Cond := .code y_JA_fill b_JA_fill 4 none :: wW
abbrev b_Rm_firstYearOf : ByteArray := prog_1_method_28_code
def y_Rm_firstYearOf : MethodName := ⟨"RingMasters", "firstYearOf", "(I)I"⟩
def w_Rm_firstYearOf : List Cond := .code y_Rm_firstYearOf b_Rm_firstYearOf 4 (some FieldType.int) :: wW
abbrev b_Rm_lastYearOf : ByteArray := prog_1_method_29_code
def y_Rm_lastYearOf : MethodName := ⟨"RingMasters", "lastYearOf", "(I)I"⟩
def w_Rm_lastYearOf : List Cond := .code y_Rm_lastYearOf b_Rm_lastYearOf 4 (some FieldType.int) :: wW
abbrev b_Row_lastYear : ByteArray := prog_5_method_2_code
def y_Row_lastYear : MethodName := ⟨"RingMasters$Row", "lastYear", "()I"⟩
def w_Row_lastYear : List Cond := .code y_Row_lastYear b_Row_lastYear 1 (some FieldType.int) :: wW
abbrev b_JM_max : ByteArray := prog_13_method_65_code
def y_JM_max : MethodName := ⟨"java/lang/Math", "max", "(II)I"⟩
def w_JM_max : List Cond := .code y_JM_max b_JM_max 2 (some FieldType.int) :: wW
abbrev b_JI_bitCount : ByteArray := prog_12_method_49_code
def y_JI_bitCount : MethodName := ⟨"java/lang/Integer", "bitCount", "(I)I"⟩
def w_JI_bitCount : List Cond := .code y_JI_bitCount b_JI_bitCount 1 (some FieldType.int) :: wW
abbrev b_Men_init : ByteArray := prog_3_method_1_code
def y_Men_init : MethodName := ⟨"RingMasters$Mean", "<init>", "([IIII)V"⟩
def w_Men_init : List Cond := .code y_Men_init b_Men_init 6 none :: wW
abbrev b_Rm_fillValues : ByteArray := prog_1_method_30_code
def y_Rm_fillValues : MethodName := ⟨"RingMasters", "fillValues", "(LRingMasters$Mean;)V"⟩
def w_Rm_fillValues : List Cond := .code y_Rm_fillValues b_Rm_fillValues 3 none :: wW
abbrev b_Rm_gather : ByteArray := prog_1_method_31_code
def y_Rm_gather : MethodName := ⟨"RingMasters", "gather", "([III)V"⟩
def w_Rm_gather : List Cond := .code y_Rm_gather b_Rm_gather 6 none :: wW
abbrev b_Rob_clear : ByteArray := prog_4_method_2_code
def y_Rob_clear : MethodName := ⟨"RingMasters$Robust", "clear", "()V"⟩
def w_Rob_clear : List Cond := .code y_Rob_clear b_Rob_clear 1 none :: wW
abbrev b_Row_ringIn : ByteArray := prog_5_method_3_code
def y_Row_ringIn : MethodName := ⟨"RingMasters$Row", "ringIn", "(II)I"⟩
def w_Row_ringIn : List Cond := .code y_Row_ringIn b_Row_ringIn 4 (some FieldType.int) :: wW
abbrev b_Rob_take : ByteArray := prog_4_method_3_code
def y_Rob_take : MethodName := ⟨"RingMasters$Robust", "take", "(I)V"⟩
def w_Rob_take : List Cond := .code y_Rob_take b_Rob_take 2 none :: wW
abbrev b_Rob_answer : ByteArray := prog_4_method_4_code
def y_Rob_answer : MethodName := ⟨"RingMasters$Robust", "answer", "()I"⟩
def w_Rob_answer : List Cond := .code y_Rob_answer b_Rob_answer 1 (some FieldType.int) :: wW
abbrev b_L_about : ByteArray := method_8_code
def y_L_about : MethodName := ⟨"RingMastersLaw", "about", "(LRingMasters;II[J)I"⟩
def w_L_about : List Cond := .codeWith y_L_about b_L_about 5 (some FieldType.int) [(0, 10, 13, 25)] :: wW
abbrev b_Rm_about : ByteArray := prog_1_method_7_code
def y_Rm_about : MethodName := ⟨"RingMasters", "about", "(II)I"⟩
def w_Rm_about : List Cond := .code y_Rm_about b_Rm_about 4 (some FieldType.int) :: wW
abbrev b_Rm_meanOf : ByteArray := prog_1_method_20_code
def y_Rm_meanOf : MethodName := ⟨"RingMasters", "meanOf", "(I)LRingMasters$Mean;"⟩
def w_Rm_meanOf : List Cond := .code y_Rm_meanOf b_Rm_meanOf 2 (some (FieldType.object "RingMasters$Mean")) :: wW
abbrev b_L_at : ByteArray := method_9_code
def y_L_at : MethodName := ⟨"RingMastersLaw", "at", "(LRingMasters;II[J)I"⟩
def w_L_at : List Cond := .codeWith y_L_at b_L_at 5 (some FieldType.int) [(0, 10, 13, 25)] :: wW
abbrev b_Rm_at : ByteArray := prog_1_method_8_code
def y_Rm_at : MethodName := ⟨"RingMasters", "at", "(II)I"⟩
def w_Rm_at : List Cond := .code y_Rm_at b_Rm_at 4 (some FieldType.int) :: wW
abbrev b_Rm_placeInMaster : ByteArray := prog_1_method_21_code
def y_Rm_placeInMaster : MethodName := ⟨"RingMasters", "placeInMaster", "(LRingMasters$Mean;I)I"⟩
def w_Rm_placeInMaster : List Cond := .code y_Rm_placeInMaster b_Rm_placeInMaster 2 (some FieldType.int) :: wW
abbrev b_L_depth : ByteArray := method_10_code
def y_L_depth : MethodName := ⟨"RingMastersLaw", "depth", "(LRingMasters;II[J)I"⟩
def w_L_depth : List Cond := .codeWith y_L_depth b_L_depth 5 (some FieldType.int) [(0, 10, 13, 25)] :: wW
abbrev b_Rm_depth : ByteArray := prog_1_method_9_code
def y_Rm_depth : MethodName := ⟨"RingMasters", "depth", "(II)I"⟩
def w_Rm_depth : List Cond := .code y_Rm_depth b_Rm_depth 4 (some FieldType.int) :: wW
abbrev b_L_leftOut : ByteArray := method_11_code
def y_L_leftOut : MethodName := ⟨"RingMastersLaw", "leftOut", "(LRingMasters;III[J)I"⟩
def w_L_leftOut : List Cond := .codeWith y_L_leftOut b_L_leftOut 6 (some FieldType.int) [(0, 12, 15, 25)] :: wW
abbrev b_Rm_leftOut : ByteArray := prog_1_method_10_code
def y_Rm_leftOut : MethodName := ⟨"RingMasters", "leftOut", "(III)I"⟩
def w_Rm_leftOut : List Cond := .code y_Rm_leftOut b_Rm_leftOut 5 (some FieldType.int) :: wW
abbrev b_Rm_checkSumOrYears : ByteArray := prog_1_method_22_code
def y_Rm_checkSumOrYears : MethodName := ⟨"RingMasters", "checkSumOrYears", "(I)V"⟩
def w_Rm_checkSumOrYears : List Cond := .code y_Rm_checkSumOrYears b_Rm_checkSumOrYears 1 none :: wW
abbrev b_Rm_measureFromOthers : ByteArray := prog_1_method_32_code
def y_Rm_measureFromOthers : MethodName := ⟨"RingMasters", "measureFromOthers", "(LRingMasters$Mean;I)V"⟩
def w_Rm_measureFromOthers : List Cond := .code y_Rm_measureFromOthers b_Rm_measureFromOthers 6 none :: wW
abbrev b_Gap_clear : ByteArray := prog_2_method_2_code
def y_Gap_clear : MethodName := ⟨"RingMasters$Gap", "clear", "()V"⟩
def w_Gap_clear : List Cond := .code y_Gap_clear b_Gap_clear 1 none :: wW
abbrev b_Gap_add : ByteArray := prog_2_method_3_code
def y_Gap_add : MethodName := ⟨"RingMasters$Gap", "add", "(II)V"⟩
def w_Gap_add : List Cond := .code y_Gap_add b_Gap_add 3 none :: wW
abbrev b_JM_abs : ByteArray := prog_13_method_59_code
def y_JM_abs : MethodName := ⟨"java/lang/Math", "abs", "(I)I"⟩
def w_JM_abs : List Cond := .code y_JM_abs b_JM_abs 1 (some FieldType.int) :: wW
abbrev b_Gap_sumOrYears : ByteArray := prog_2_method_5_code
def y_Gap_sumOrYears : MethodName := ⟨"RingMasters$Gap", "sumOrYears", "(I)I"⟩
def w_Gap_sumOrYears : List Cond := .code y_Gap_sumOrYears b_Gap_sumOrYears 2 (some FieldType.int) :: wW
abbrev b_L_distance : ByteArray := method_12_code
def y_L_distance : MethodName := ⟨"RingMastersLaw", "distance", "(LRingMasters;IIII[J)I"⟩
def w_L_distance : List Cond := .codeWith y_L_distance b_L_distance 7 (some FieldType.int) [(0, 14, 17, 25)] :: wW
abbrev b_Rm_distance : ByteArray := prog_1_method_11_code
def y_Rm_distance : MethodName := ⟨"RingMasters", "distance", "(IIII)I"⟩
def w_Rm_distance : List Cond := .code y_Rm_distance b_Rm_distance 7 (some FieldType.int) :: wW
abbrev b_Rm_measure : ByteArray := prog_1_method_33_code
def y_Rm_measure : MethodName := ⟨"RingMasters", "measure", "(LRingMasters$Row;LRingMasters$Mean;I)V"⟩
def w_Rm_measure : List Cond := .code y_Rm_measure b_Rm_measure 8 none :: wW
abbrev b_L_date : ByteArray := method_13_code
def y_L_date : MethodName := ⟨"RingMastersLaw", "date", "(LRingMasters;III[J)I"⟩
def w_L_date : List Cond := .codeWith y_L_date b_L_date 6 (some FieldType.int) [(0, 12, 15, 25), (0, 12, 19, 15)] :: wW
abbrev b_Rm_date : ByteArray := prog_1_method_12_code
def y_Rm_date : MethodName := ⟨"RingMasters", "date", "(III)I"⟩
def w_Rm_date : List Cond := .code y_Rm_date b_Rm_date 6 (some FieldType.int) :: wW
abbrev b_Rm_checkLeast : ByteArray := prog_1_method_23_code
def y_Rm_checkLeast : MethodName := ⟨"RingMasters", "checkLeast", "(I)V"⟩
def w_Rm_checkLeast : List Cond := .code y_Rm_checkLeast b_Rm_checkLeast 1 none :: wW
abbrev b_Rm_nearestYear : ByteArray := prog_1_method_34_code
def y_Rm_nearestYear : MethodName := ⟨"RingMasters", "nearestYear", "(LRingMasters$Row;LRingMasters$Mean;I)I"⟩
def w_Rm_nearestYear : List Cond := .code y_Rm_nearestYear b_Rm_nearestYear 6 (some FieldType.int) :: wW
abbrev b_Gap_lessThan : ByteArray := prog_2_method_6_code
def y_Gap_lessThan : MethodName := ⟨"RingMasters$Gap", "lessThan", "(LRingMasters$Gap;)Z"⟩
def w_Gap_lessThan : List Cond := .code y_Gap_lessThan b_Gap_lessThan 4 (some FieldType.boolean) :: wW
abbrev b_Gap_become : ByteArray := prog_2_method_4_code
def y_Gap_become : MethodName := ⟨"RingMasters$Gap", "become", "(LRingMasters$Gap;)V"⟩
def w_Gap_become : List Cond := .code y_Gap_become b_Gap_become 2 none :: wW
abbrev b_L_agrees : ByteArray := method_14_code
def y_L_agrees : MethodName := ⟨"RingMastersLaw", "agrees", "(LRingMasters;III[J)I"⟩
def w_L_agrees : List Cond := .codeWith y_L_agrees b_L_agrees 6 (some FieldType.int) [(0, 19, 22, 25), (0, 19, 26, 15)] :: wW
abbrev b_Rm_agrees : ByteArray := prog_1_method_13_code
def y_Rm_agrees : MethodName := ⟨"RingMasters", "agrees", "(III)Z"⟩
def w_Rm_agrees : List Cond := .code y_Rm_agrees b_Rm_agrees 8 (some FieldType.boolean) :: wW
abbrev b_L_source : ByteArray := method_15_code
def y_L_source : MethodName := ⟨"RingMastersLaw", "source", "(LRingMasters;III[J)I"⟩
def w_L_source : List Cond := .codeWith y_L_source b_L_source 6 (some FieldType.int) [(0, 12, 15, 25), (0, 12, 19, 15)] :: wW
abbrev b_Rm_source : ByteArray := prog_1_method_14_code
def y_Rm_source : MethodName := ⟨"RingMasters", "source", "(III)I"⟩
def w_Rm_source : List Cond := .code y_Rm_source b_Rm_source 6 (some FieldType.int) :: wW
abbrev b_Rm_nearerThan : ByteArray := prog_1_method_35_code
def y_Rm_nearerThan : MethodName := ⟨"RingMasters", "nearerThan", "(I)I"⟩
def w_Rm_nearerThan : List Cond := .code y_Rm_nearerThan b_Rm_nearerThan 5 (some FieldType.int) :: wW
abbrev b_L_sapwood : ByteArray := method_16_code
def y_L_sapwood : MethodName := ⟨"RingMastersLaw", "sapwood", "(LRingMasters;II[J)I"⟩
def w_L_sapwood : List Cond := .codeWith y_L_sapwood b_L_sapwood 5 (some FieldType.int) [(0, 10, 13, 15)] :: wW
abbrev b_Rm_sapwood : ByteArray := prog_1_method_15_code
def y_Rm_sapwood : MethodName := ⟨"RingMasters", "sapwood", "(II)I"⟩
def w_Rm_sapwood : List Cond := .code y_Rm_sapwood b_Rm_sapwood 4 (some FieldType.int) :: wW
abbrev b_L_felling : ByteArray := method_17_code
def y_L_felling : MethodName := ⟨"RingMastersLaw", "felling", "(LRingMasters;IIII[J)I"⟩
def w_L_felling : List Cond := .codeWith y_L_felling b_L_felling 7 (some FieldType.int) [(0, 14, 17, 25), (0, 14, 21, 13), (0, 14, 25, 15)] :: wW
abbrev b_Rm_felling : ByteArray := prog_1_method_16_code
def y_Rm_felling : MethodName := ⟨"RingMasters", "felling", "(IIII)I"⟩
def w_Rm_felling : List Cond := .code y_Rm_felling b_Rm_felling 7 (some FieldType.int) :: wW
abbrev b_Rm_shortestYears : ByteArray := prog_1_method_36_code
def y_Rm_shortestYears : MethodName := ⟨"RingMasters", "shortestYears", "(IIII)I"⟩
def w_Rm_shortestYears : List Cond := .code y_Rm_shortestYears b_Rm_shortestYears 11 (some FieldType.int) :: wW
abbrev b_Rm_endOfShare : ByteArray := prog_1_method_37_code
def y_Rm_endOfShare : MethodName := ⟨"RingMasters", "endOfShare", "(IJI)I"⟩
def w_Rm_endOfShare : List Cond := .code y_Rm_endOfShare b_Rm_endOfShare 8 (some FieldType.int) :: wW
abbrev b_L_sameTree : ByteArray := method_18_code
def y_L_sameTree : MethodName := ⟨"RingMastersLaw", "sameTree", "(LRingMasters;II[J)I"⟩
def w_L_sameTree : List Cond := .codeWith y_L_sameTree b_L_sameTree 5 (some FieldType.int) [(0, 17, 20, 25)] :: wW
abbrev b_Rm_sameTree : ByteArray := prog_1_method_17_code
def y_Rm_sameTree : MethodName := ⟨"RingMasters", "sameTree", "(II)Z"⟩
def w_Rm_sameTree : List Cond := .code y_Rm_sameTree b_Rm_sameTree 7 (some FieldType.boolean) :: wW
abbrev b_L_count : ByteArray := method_19_code
def y_L_count : MethodName := ⟨"RingMastersLaw", "count", "(LRingMasters;I[J)I"⟩
def w_L_count : List Cond := .codeWith y_L_count b_L_count 4 (some FieldType.int) [(0, 9, 12, 25)] :: wW
abbrev b_Rm_count : ByteArray := prog_1_method_18_code
def y_Rm_count : MethodName := ⟨"RingMasters", "count", "(I)I"⟩
def w_Rm_count : List Cond := .code y_Rm_count b_Rm_count 2 (some FieldType.int) :: wW
abbrev b_Rm_floatingRows : ByteArray := prog_1_method_25_code
def y_Rm_floatingRows : MethodName := ⟨"RingMasters", "floatingRows", "()I"⟩
def w_Rm_floatingRows : List Cond := .code y_Rm_floatingRows b_Rm_floatingRows 3 (some FieldType.int) :: wW
abbrev b_Mo_init : ByteArray := prog_7_method_1_code
def y_Mo_init : MethodName := ⟨"RingMastersModel", "<init>", "()V"⟩
def w_Mo_init : List Cond := .code y_Mo_init b_Mo_init 2 none :: wW
abbrev b_Mo_thrown : ByteArray := prog_7_method_2_code
def y_Mo_thrown : MethodName := ⟨"RingMastersModel", "thrown", "()I"⟩
def w_Mo_thrown : List Cond := .code y_Mo_thrown b_Mo_thrown 1 (some FieldType.int) :: wW
abbrev b_Mo_ring : ByteArray := prog_7_method_7_code
def y_Mo_ring : MethodName := ⟨"RingMastersModel", "ring", "(I)I"⟩
def w_Mo_ring : List Cond := .code y_Mo_ring b_Mo_ring 2 (some FieldType.int) :: wW
abbrev b_Mo_within : ByteArray := prog_7_method_4_code
def y_Mo_within : MethodName := ⟨"RingMastersModel", "within", "(III)Z"⟩
def w_Mo_within : List Cond := .code y_Mo_within b_Mo_within 3 (some FieldType.boolean) :: wW
abbrev b_Mo_goes : ByteArray := prog_7_method_3_code
def y_Mo_goes : MethodName := ⟨"RingMastersModel", "goes", "(ZZZ)Z"⟩
def w_Mo_goes : List Cond := .code y_Mo_goes b_Mo_goes 4 (some FieldType.boolean) :: wW
abbrev b_Mo_series : ByteArray := prog_7_method_8_code
def y_Mo_series : MethodName := ⟨"RingMastersModel", "series", "()I"⟩
def w_Mo_series : List Cond := .code y_Mo_series b_Mo_series 4 (some FieldType.int) :: wW
abbrev b_Mo_evened : ByteArray := prog_7_method_10_code
def y_Mo_evened : MethodName := ⟨"RingMastersModel", "evened", "(II)I"⟩
def w_Mo_evened : List Cond := .code y_Mo_evened b_Mo_evened 4 (some FieldType.int) :: wW
abbrev b_Mo_isSeries : ByteArray := prog_7_method_5_code
def y_Mo_isSeries : MethodName := ⟨"RingMastersModel", "isSeries", "(I)Z"⟩
def w_Mo_isSeries : List Cond := .code y_Mo_isSeries b_Mo_isSeries 2 (some FieldType.boolean) :: wW
abbrev b_Mo_even : ByteArray := prog_7_method_9_code
def y_Mo_even : MethodName := ⟨"RingMastersModel", "even", "(II)I"⟩
def w_Mo_even : List Cond := .code y_Mo_even b_Mo_even 3 (some FieldType.int) :: wW
abbrev b_Mo_place : ByteArray := prog_7_method_11_code
def y_Mo_place : MethodName := ⟨"RingMastersModel", "place", "(II)I"⟩
def w_Mo_place : List Cond := .code y_Mo_place b_Mo_place 4 (some FieldType.int) :: wW
abbrev b_Mo_master : ByteArray := prog_7_method_12_code
def y_Mo_master : MethodName := ⟨"RingMastersModel", "master", "(I)I"⟩
def w_Mo_master : List Cond := .code y_Mo_master b_Mo_master 6 (some FieldType.int) :: wW
abbrev b_Mo_about : ByteArray := prog_7_method_16_code
def y_Mo_about : MethodName := ⟨"RingMastersModel", "about", "(II)I"⟩
def w_Mo_about : List Cond := .code y_Mo_about b_Mo_about 5 (some FieldType.int) :: wW
abbrev b_Mo_isMaster : ByteArray := prog_7_method_6_code
def y_Mo_isMaster : MethodName := ⟨"RingMastersModel", "isMaster", "(I)Z"⟩
def w_Mo_isMaster : List Cond := .code y_Mo_isMaster b_Mo_isMaster 2 (some FieldType.boolean) :: wW
abbrev b_Mo_at : ByteArray := prog_7_method_18_code
def y_Mo_at : MethodName := ⟨"RingMastersModel", "at", "(II)I"⟩
def w_Mo_at : List Cond := .code y_Mo_at b_Mo_at 3 (some FieldType.int) :: wW
abbrev b_Mo_isYear : ByteArray := prog_7_method_17_code
def y_Mo_isYear : MethodName := ⟨"RingMastersModel", "isYear", "(II)Z"⟩
def w_Mo_isYear : List Cond := .code y_Mo_isYear b_Mo_isYear 3 (some FieldType.boolean) :: wW
abbrev b_Mo_valueOf : ByteArray := prog_7_method_15_code
def y_Mo_valueOf : MethodName := ⟨"RingMastersModel", "valueOf", "(III)I"⟩
def w_Mo_valueOf : List Cond := .code y_Mo_valueOf b_Mo_valueOf 10 (some FieldType.int) :: wW
abbrev b_Mo_has : ByteArray := prog_7_method_13_code
def y_Mo_has : MethodName := ⟨"RingMastersModel", "has", "(III)Z"⟩
def w_Mo_has : List Cond := .code y_Mo_has b_Mo_has 5 (some FieldType.boolean) :: wW
abbrev b_Mo_depth : ByteArray := prog_7_method_19_code
def y_Mo_depth : MethodName := ⟨"RingMastersModel", "depth", "(II)I"⟩
def w_Mo_depth : List Cond := .code y_Mo_depth b_Mo_depth 3 (some FieldType.int) :: wW
abbrev b_Mo_depthOf : ByteArray := prog_7_method_14_code
def y_Mo_depthOf : MethodName := ⟨"RingMastersModel", "depthOf", "(III)I"⟩
def w_Mo_depthOf : List Cond := .code y_Mo_depthOf b_Mo_depthOf 6 (some FieldType.int) :: wW
abbrev b_Mo_leftOut : ByteArray := prog_7_method_22_code
def y_Mo_leftOut : MethodName := ⟨"RingMastersModel", "leftOut", "(III)I"⟩
def w_Mo_leftOut : List Cond := .code y_Mo_leftOut b_Mo_leftOut 5 (some FieldType.int) :: wW
abbrev b_Mo_measure : ByteArray := prog_7_method_20_code
def y_Mo_measure : MethodName := ⟨"RingMastersModel", "measure", "(IIII)V"⟩
def w_Mo_measure : List Cond := .code y_Mo_measure b_Mo_measure 9 none :: wW
abbrev b_Mo_distance : ByteArray := prog_7_method_23_code
def y_Mo_distance : MethodName := ⟨"RingMastersModel", "distance", "(IIII)I"⟩
def w_Mo_distance : List Cond := .code y_Mo_distance b_Mo_distance 5 (some FieldType.int) :: wW
abbrev b_Mo_date : ByteArray := prog_7_method_26_code
def y_Mo_date : MethodName := ⟨"RingMastersModel", "date", "(III)I"⟩
def w_Mo_date : List Cond := .code y_Mo_date b_Mo_date 4 (some FieldType.int) :: wW
abbrev b_Mo_isLeast : ByteArray := prog_7_method_25_code
def y_Mo_isLeast : MethodName := ⟨"RingMastersModel", "isLeast", "(I)Z"⟩
def w_Mo_isLeast : List Cond := .code y_Mo_isLeast b_Mo_isLeast 1 (some FieldType.boolean) :: wW
abbrev b_Mo_seek : ByteArray := prog_7_method_24_code
def y_Mo_seek : MethodName := ⟨"RingMastersModel", "seek", "(III)V"⟩
def w_Mo_seek : List Cond := .code y_Mo_seek b_Mo_seek 5 none :: wW
abbrev b_Mo_isLess : ByteArray := prog_7_method_21_code
def y_Mo_isLess : MethodName := ⟨"RingMastersModel", "isLess", "(IIII)Z"⟩
def w_Mo_isLess : List Cond := .code y_Mo_isLess b_Mo_isLess 6 (some FieldType.boolean) :: wW
abbrev b_Mo_agrees : ByteArray := prog_7_method_27_code
def y_Mo_agrees : MethodName := ⟨"RingMastersModel", "agrees", "(III)Z"⟩
def w_Mo_agrees : List Cond := .code y_Mo_agrees b_Mo_agrees 8 (some FieldType.boolean) :: wW
abbrev b_Mo_source : ByteArray := prog_7_method_28_code
def y_Mo_source : MethodName := ⟨"RingMastersModel", "source", "(III)I"⟩
def w_Mo_source : List Cond := .code y_Mo_source b_Mo_source 10 (some FieldType.int) :: wW
abbrev b_Mo_sapwood : ByteArray := prog_7_method_29_code
def y_Mo_sapwood : MethodName := ⟨"RingMastersModel", "sapwood", "(II)I"⟩
def w_Mo_sapwood : List Cond := .code y_Mo_sapwood b_Mo_sapwood 4 (some FieldType.int) :: wW
abbrev b_Mo_felling : ByteArray := prog_7_method_30_code
def y_Mo_felling : MethodName := ⟨"RingMastersModel", "felling", "(IIII)I"⟩
def w_Mo_felling : List Cond := .code y_Mo_felling b_Mo_felling 13 (some FieldType.int) :: wW
abbrev b_Mo_sameTree : ByteArray := prog_7_method_31_code
def y_Mo_sameTree : MethodName := ⟨"RingMastersModel", "sameTree", "(II)Z"⟩
def w_Mo_sameTree : List Cond := .code y_Mo_sameTree b_Mo_sameTree 8 (some FieldType.boolean) :: wW
abbrev b_Mo_count : ByteArray := prog_7_method_32_code
def y_Mo_count : MethodName := ⟨"RingMastersModel", "count", "(I)I"⟩
def w_Mo_count : List Cond := .code y_Mo_count b_Mo_count 4 (some FieldType.int) :: wW
end
section
theorem kw_0 : (Cond.initialized "RingMastersLaw") ∈ wW := wW_t 0 (by decide +kernel) (by decide +kernel)
theorem kw_1 : (Cond.initialized "RingMasters") ∈ wW := wW_t 1 (by decide +kernel) (by decide +kernel)
theorem kw_2 : (Cond.initialized "RingMasters$Robust") ∈ wW := wW_t 2 (by decide +kernel) (by decide +kernel)
theorem kw_3 : (Cond.initialized "RingMasters$Gap") ∈ wW := wW_t 3 (by decide +kernel) (by decide +kernel)
theorem kw_4 : (Cond.initialized "RingMastersModel") ∈ wW := wW_t 4 (by decide +kernel) (by decide +kernel)
theorem kw_5 : (Cond.initialized "java/lang/Throwable") ∈ wW := wW_t 5 (by decide +kernel) (by decide +kernel)
theorem kw_6 : (Cond.initialized "java/lang/Exception") ∈ wW := wW_t 6 (by decide +kernel) (by decide +kernel)
theorem kw_7 : (Cond.initialized "java/lang/RuntimeException") ∈ wW := wW_t 7 (by decide +kernel) (by decide +kernel)
theorem kw_8 : (Cond.initialized "java/lang/IllegalStateException") ∈ wW := wW_t 8 (by decide +kernel) (by decide +kernel)
theorem kw_9 : (Cond.initialized "java/lang/IllegalArgumentException") ∈ wW := wW_t 9 (by decide +kernel) (by decide +kernel)
theorem kw_10 : (Cond.initialized "RingMasters$Row") ∈ wW := wW_t 10 (by decide +kernel) (by decide +kernel)
theorem kw_11 : (Cond.initialized "java/lang/Math") ∈ wW := wW_t 11 (by decide +kernel) (by decide +kernel)
theorem kw_12 : (Cond.initialized "java/lang/IndexOutOfBoundsException") ∈ wW := wW_t 12 (by decide +kernel) (by decide +kernel)
theorem kw_13 : (Cond.initialized "RingMasters$Mean") ∈ wW := wW_t 13 (by decide +kernel) (by decide +kernel)
theorem kw_14 : (Cond.initialized "java/util/Arrays") ∈ wW := wW_t 14 (by decide +kernel) (by decide +kernel)
theorem kw_15 : (Cond.initialized "java/lang/Integer") ∈ wW := wW_t 15 (by decide +kernel) (by decide +kernel)
theorem kw_16 : (Cond.classLink "RingMastersLaw" 8 "RingMasters") ∈ wW := wW_t 16 (by decide +kernel) (by decide +kernel)
theorem kw_17 : (Cond.instantiable "RingMasters" 12) ∈ wW := wW_t 17 (by decide +kernel) (by decide +kernel)
theorem kw_18 : (Cond.methodLink "RingMastersLaw" 73 ⟨"RingMasters", "<init>", "()V"⟩) ∈ wW := wW_t 18 (by decide +kernel) (by decide +kernel)
theorem kw_19 : (Cond.instanceMethod ⟨"RingMasters", "<init>", "()V"⟩) ∈ wW := wW_t 19 (by decide +kernel) (by decide +kernel)
theorem kw_20 : (Cond.code ⟨"RingMasters", "<init>", "()V"⟩ prog_1_method_1_code 2 none) ∈ wW := wW_t 20 (by decide +kernel) (by decide +kernel)
theorem kw_21 : (Cond.methodLink "RingMasters" 3 ⟨"java/lang/Object", "<init>", "()V"⟩) ∈ wW := wW_t 21 (by decide +kernel) (by decide +kernel)
theorem kw_22 : (Cond.instanceMethod ⟨"java/lang/Object", "<init>", "()V"⟩) ∈ wW := wW_t 22 (by decide +kernel) (by decide +kernel)
theorem kw_23 : (Cond.code ⟨"java/lang/Object", "<init>", "()V"⟩ object_method_1_code 1 none) ∈ wW := wW_t 23 (by decide +kernel) (by decide +kernel)
theorem kw_24 : (Cond.classLink "RingMasters" 17 "RingMasters$Row") ∈ wW := wW_t 24 (by decide +kernel) (by decide +kernel)
theorem kw_26 : (Cond.classLink "RingMasters" 26 "RingMasters$Mean") ∈ wW := wW_t 26 (by decide +kernel) (by decide +kernel)
theorem kw_28 : (Cond.classLink "RingMasters" 38 "RingMasters$Robust") ∈ wW := wW_t 28 (by decide +kernel) (by decide +kernel)
theorem kw_29 : (Cond.instantiable "RingMasters$Robust" 4) ∈ wW := wW_t 29 (by decide +kernel) (by decide +kernel)
theorem kw_31 : (Cond.instanceMethod ⟨"RingMasters$Robust", "<init>", "()V"⟩) ∈ wW := wW_t 31 (by decide +kernel) (by decide +kernel)
theorem kw_32 : (Cond.code ⟨"RingMasters$Robust", "<init>", "()V"⟩ prog_4_method_1_code 1 none) ∈ wW := wW_t 32 (by decide +kernel) (by decide +kernel)
theorem kw_33 : (Cond.methodLink "RingMasters$Robust" 3 ⟨"java/lang/Object", "<init>", "()V"⟩) ∈ wW := wW_t 33 (by decide +kernel) (by decide +kernel)
theorem kw_34 : (Cond.fieldLink "RingMasters$Robust" 9 "RingMasters$Robust" "taken" "I") ∈ wW := wW_t 34 (by decide +kernel) (by decide +kernel)
theorem kw_36 : (Cond.fieldLink "RingMasters$Robust" 15 "RingMasters$Robust" "sum" "I") ∈ wW := wW_t 36 (by decide +kernel) (by decide +kernel)
theorem kw_37 : (Cond.fieldLink "RingMasters$Robust" 18 "RingMasters$Robust" "smallest" "I") ∈ wW := wW_t 37 (by decide +kernel) (by decide +kernel)
theorem kw_38 : (Cond.fieldLink "RingMasters$Robust" 21 "RingMasters$Robust" "largest" "I") ∈ wW := wW_t 38 (by decide +kernel) (by decide +kernel)
theorem kw_39 : (Cond.lays "RingMasters$Robust" "RingMasters$Robust" "taken" "I") ∈ wW := wW_t 39 (by decide +kernel) (by decide +kernel)
theorem kw_41 : (Cond.lays "RingMasters$Robust" "RingMasters$Robust" "sum" "I") ∈ wW := wW_t 41 (by decide +kernel) (by decide +kernel)
theorem kw_43 : (Cond.lays "RingMasters$Robust" "RingMasters$Robust" "smallest" "I") ∈ wW := wW_t 43 (by decide +kernel) (by decide +kernel)
theorem kw_45 : (Cond.lays "RingMasters$Robust" "RingMasters$Robust" "largest" "I") ∈ wW := wW_t 45 (by decide +kernel) (by decide +kernel)
theorem kw_48 : (Cond.arrayClass FieldType.int) ∈ wW := wW_t 48 (by decide +kernel) (by decide +kernel)
theorem kw_49 : (Cond.classLink "RingMasters" 45 "RingMasters$Gap") ∈ wW := wW_t 49 (by decide +kernel) (by decide +kernel)
theorem kw_50 : (Cond.instantiable "RingMasters$Gap" 2) ∈ wW := wW_t 50 (by decide +kernel) (by decide +kernel)
theorem kw_52 : (Cond.instanceMethod ⟨"RingMasters$Gap", "<init>", "()V"⟩) ∈ wW := wW_t 52 (by decide +kernel) (by decide +kernel)
theorem kw_53 : (Cond.code ⟨"RingMasters$Gap", "<init>", "()V"⟩ prog_2_method_1_code 1 none) ∈ wW := wW_t 53 (by decide +kernel) (by decide +kernel)
theorem kw_54 : (Cond.methodLink "RingMasters$Gap" 1 ⟨"java/lang/Object", "<init>", "()V"⟩) ∈ wW := wW_t 54 (by decide +kernel) (by decide +kernel)
theorem kw_55 : (Cond.fieldLink "RingMasters$Gap" 7 "RingMasters$Gap" "sum" "I") ∈ wW := wW_t 55 (by decide +kernel) (by decide +kernel)
theorem kw_57 : (Cond.fieldLink "RingMasters$Gap" 13 "RingMasters$Gap" "years" "I") ∈ wW := wW_t 57 (by decide +kernel) (by decide +kernel)
theorem kw_59 : (Cond.lays "RingMasters$Gap" "RingMasters$Gap" "sum" "I") ∈ wW := wW_t 59 (by decide +kernel) (by decide +kernel)
theorem kw_61 : (Cond.lays "RingMasters$Gap" "RingMasters$Gap" "years" "I") ∈ wW := wW_t 61 (by decide +kernel) (by decide +kernel)
theorem kw_65 : (Cond.fieldLink "RingMasters" 9 "RingMasters" "pad" "[I") ∈ wW := wW_t 65 (by decide +kernel) (by decide +kernel)
theorem kw_66 : (Cond.fieldLink "RingMasters" 13 "RingMasters" "padLength" "I") ∈ wW := wW_t 66 (by decide +kernel) (by decide +kernel)
theorem kw_67 : (Cond.fieldLink "RingMasters" 19 "RingMasters" "rows" "[LRingMasters$Row;") ∈ wW := wW_t 67 (by decide +kernel) (by decide +kernel)
theorem kw_68 : (Cond.fieldLink "RingMasters" 23 "RingMasters" "rowCount" "I") ∈ wW := wW_t 68 (by decide +kernel) (by decide +kernel)
theorem kw_69 : (Cond.fieldLink "RingMasters" 28 "RingMasters" "means" "[LRingMasters$Mean;") ∈ wW := wW_t 69 (by decide +kernel) (by decide +kernel)
theorem kw_70 : (Cond.fieldLink "RingMasters" 32 "RingMasters" "meanCount" "I") ∈ wW := wW_t 70 (by decide +kernel) (by decide +kernel)
theorem kw_71 : (Cond.fieldLink "RingMasters" 35 "RingMasters" "weights" "[I") ∈ wW := wW_t 71 (by decide +kernel) (by decide +kernel)
theorem kw_72 : (Cond.fieldLink "RingMasters" 41 "RingMasters" "robust" "LRingMasters$Robust;") ∈ wW := wW_t 72 (by decide +kernel) (by decide +kernel)
theorem kw_73 : (Cond.fieldLink "RingMasters" 48 "RingMasters" "tried" "LRingMasters$Gap;") ∈ wW := wW_t 73 (by decide +kernel) (by decide +kernel)
theorem kw_74 : (Cond.fieldLink "RingMasters" 52 "RingMasters" "nearest" "LRingMasters$Gap;") ∈ wW := wW_t 74 (by decide +kernel) (by decide +kernel)
theorem kw_75 : (Cond.fieldLink "RingMasters" 55 "RingMasters" "gaps" "[LRingMasters$Gap;") ∈ wW := wW_t 75 (by decide +kernel) (by decide +kernel)
theorem kw_76 : (Cond.fieldLink "RingMasters" 59 "RingMasters" "dates" "[I") ∈ wW := wW_t 76 (by decide +kernel) (by decide +kernel)
theorem kw_77 : (Cond.laysFinal "RingMasters" "RingMasters" "pad" "[I") ∈ wW := wW_t 77 (by decide +kernel) (by decide +kernel)
theorem kw_79 : (Cond.lays "RingMasters" "RingMasters" "padLength" "I") ∈ wW := wW_t 79 (by decide +kernel) (by decide +kernel)
theorem kw_81 : (Cond.laysFinal "RingMasters" "RingMasters" "rows" "[LRingMasters$Row;") ∈ wW := wW_t 81 (by decide +kernel) (by decide +kernel)
theorem kw_83 : (Cond.lays "RingMasters" "RingMasters" "rowCount" "I") ∈ wW := wW_t 83 (by decide +kernel) (by decide +kernel)
theorem kw_85 : (Cond.laysFinal "RingMasters" "RingMasters" "means" "[LRingMasters$Mean;") ∈ wW := wW_t 85 (by decide +kernel) (by decide +kernel)
theorem kw_87 : (Cond.lays "RingMasters" "RingMasters" "meanCount" "I") ∈ wW := wW_t 87 (by decide +kernel) (by decide +kernel)
theorem kw_89 : (Cond.laysFinal "RingMasters" "RingMasters" "weights" "[I") ∈ wW := wW_t 89 (by decide +kernel) (by decide +kernel)
theorem kw_91 : (Cond.laysFinal "RingMasters" "RingMasters" "robust" "LRingMasters$Robust;") ∈ wW := wW_t 91 (by decide +kernel) (by decide +kernel)
theorem kw_93 : (Cond.laysFinal "RingMasters" "RingMasters" "tried" "LRingMasters$Gap;") ∈ wW := wW_t 93 (by decide +kernel) (by decide +kernel)
theorem kw_95 : (Cond.laysFinal "RingMasters" "RingMasters" "nearest" "LRingMasters$Gap;") ∈ wW := wW_t 95 (by decide +kernel) (by decide +kernel)
theorem kw_97 : (Cond.laysFinal "RingMasters" "RingMasters" "gaps" "[LRingMasters$Gap;") ∈ wW := wW_t 97 (by decide +kernel) (by decide +kernel)
theorem kw_99 : (Cond.laysFinal "RingMasters" "RingMasters" "dates" "[I") ∈ wW := wW_t 99 (by decide +kernel) (by decide +kernel)
theorem kw_102 : (Cond.methodLink "RingMastersLaw" 77 ⟨"RingMastersLaw", "ring", "(LRingMasters;I[J)I"⟩) ∈ wW := wW_t 102 (by decide +kernel) (by decide +kernel)
theorem kw_103 : (Cond.static ⟨"RingMastersLaw", "ring", "(LRingMasters;I[J)I"⟩) ∈ wW := wW_t 103 (by decide +kernel) (by decide +kernel)
theorem kw_104 : (Cond.codeWith ⟨"RingMastersLaw", "ring", "(LRingMasters;I[J)I"⟩ method_3_code 4 (some FieldType.int) [(0, 9, 12, 13), (0, 9, 15, 15)]) ∈ wW := wW_t 104 (by decide +kernel) (by decide +kernel)
theorem kw_105 : (Cond.classLink "RingMastersLaw" 13 "java/lang/IllegalStateException") ∈ wW := wW_t 105 (by decide +kernel) (by decide +kernel)
theorem kw_106 : (Cond.classLink "RingMastersLaw" 15 "java/lang/IllegalArgumentException") ∈ wW := wW_t 106 (by decide +kernel) (by decide +kernel)
theorem kw_107 : (Cond.methodLink "RingMastersLaw" 7 ⟨"RingMasters", "ring", "(I)I"⟩) ∈ wW := wW_t 107 (by decide +kernel) (by decide +kernel)
theorem kw_108 : (Cond.instanceMethod ⟨"RingMasters", "ring", "(I)I"⟩) ∈ wW := wW_t 108 (by decide +kernel) (by decide +kernel)
theorem kw_109 : (Cond.selects "RingMasters" ⟨"RingMasters", "ring", "(I)I"⟩ ⟨"RingMasters", "ring", "(I)I"⟩) ∈ wW := wW_t 109 (by decide +kernel) (by decide +kernel)
theorem kw_110 : (Cond.code ⟨"RingMasters", "ring", "(I)I"⟩ prog_1_method_2_code 2 (some FieldType.int)) ∈ wW := wW_t 110 (by decide +kernel) (by decide +kernel)
theorem kw_111 : (Cond.classLink "RingMasters" 62 "java/lang/IllegalStateException") ∈ wW := wW_t 111 (by decide +kernel) (by decide +kernel)
theorem kw_112 : (Cond.instantiable "java/lang/IllegalStateException" 6) ∈ wW := wW_t 112 (by decide +kernel) (by decide +kernel)
theorem kw_120 : (Cond.selects "java/lang/IllegalStateException" ⟨"java/lang/Throwable", "fillInStackTrace", "(I)Ljava/lang/Throwable;"⟩ ⟨"java/lang/Throwable", "fillInStackTrace", "(I)Ljava/lang/Throwable;"⟩) ∈ wW := wW_t 120 (by decide +kernel) (by decide +kernel)
theorem kw_121 : (Cond.selects "java/lang/IllegalStateException" ⟨"java/lang/Throwable", "fillInStackTrace", "()Ljava/lang/Throwable;"⟩ ⟨"java/lang/Throwable", "fillInStackTrace", "()Ljava/lang/Throwable;"⟩) ∈ wW := wW_t 121 (by decide +kernel) (by decide +kernel)
theorem kw_122 : (Cond.lays "java/lang/IllegalStateException" "java/lang/Throwable" "cause" "Ljava/lang/Throwable;") ∈ wW := wW_t 122 (by decide +kernel) (by decide +kernel)
theorem kw_123 : (Cond.lays "java/lang/Throwable" "java/lang/Throwable" "cause" "Ljava/lang/Throwable;") ∈ wW := wW_t 123 (by decide +kernel) (by decide +kernel)
theorem kw_124 : (Cond.lays "java/lang/IllegalStateException" "java/lang/Throwable" "stackTrace" "[Ljava/lang/StackTraceElement;") ∈ wW := wW_t 124 (by decide +kernel) (by decide +kernel)
theorem kw_125 : (Cond.lays "java/lang/Throwable" "java/lang/Throwable" "stackTrace" "[Ljava/lang/StackTraceElement;") ∈ wW := wW_t 125 (by decide +kernel) (by decide +kernel)
theorem kw_126 : (Cond.lays "java/lang/IllegalStateException" "java/lang/Throwable" "suppressedExceptions" "Ljava/util/List;") ∈ wW := wW_t 126 (by decide +kernel) (by decide +kernel)
theorem kw_127 : (Cond.lays "java/lang/Throwable" "java/lang/Throwable" "suppressedExceptions" "Ljava/util/List;") ∈ wW := wW_t 127 (by decide +kernel) (by decide +kernel)
theorem kw_128 : (Cond.lays "java/lang/IllegalStateException" "java/lang/Throwable" "detailMessage" "Ljava/lang/String;") ∈ wW := wW_t 128 (by decide +kernel) (by decide +kernel)
theorem kw_129 : (Cond.lays "java/lang/Throwable" "java/lang/Throwable" "detailMessage" "Ljava/lang/String;") ∈ wW := wW_t 129 (by decide +kernel) (by decide +kernel)
theorem kw_130 : (Cond.lays "java/lang/IllegalStateException" "java/lang/Throwable" "backtrace" "Ljava/lang/Object;") ∈ wW := wW_t 130 (by decide +kernel) (by decide +kernel)
theorem kw_131 : (Cond.lays "java/lang/Throwable" "java/lang/Throwable" "backtrace" "Ljava/lang/Object;") ∈ wW := wW_t 131 (by decide +kernel) (by decide +kernel)
theorem kw_132 : (Cond.fieldLink "java/lang/Throwable" 198 "java/lang/Throwable" "backtrace" "Ljava/lang/Object;") ∈ wW := wW_t 132 (by decide +kernel) (by decide +kernel)
theorem kw_134 : (Cond.instanceMethod ⟨"java/lang/Throwable", "<init>", "()V"⟩) ∈ wW := wW_t 134 (by decide +kernel) (by decide +kernel)
theorem kw_135 : (Cond.code ⟨"java/lang/Throwable", "<init>", "()V"⟩ prog_16_method_1_code 1 none) ∈ wW := wW_t 135 (by decide +kernel) (by decide +kernel)
theorem kw_136 : (Cond.methodLink "java/lang/Throwable" 1 ⟨"java/lang/Object", "<init>", "()V"⟩) ∈ wW := wW_t 136 (by decide +kernel) (by decide +kernel)
theorem kw_137 : (Cond.fieldLink "java/lang/Throwable" 13 "java/lang/Throwable" "UNASSIGNED_STACK" "[Ljava/lang/StackTraceElement;") ∈ wW := wW_t 137 (by decide +kernel) (by decide +kernel)
theorem kw_139 : (Cond.fieldLink "java/lang/Throwable" 20 "java/lang/Throwable" "SUPPRESSED_SENTINEL" "Ljava/util/List;") ∈ wW := wW_t 139 (by decide +kernel) (by decide +kernel)
theorem kw_141 : (Cond.methodLink "java/lang/Throwable" 27 ⟨"java/lang/Throwable", "fillInStackTrace", "()Ljava/lang/Throwable;"⟩) ∈ wW := wW_t 141 (by decide +kernel) (by decide +kernel)
theorem kw_142 : (Cond.instanceMethod ⟨"java/lang/Throwable", "fillInStackTrace", "()Ljava/lang/Throwable;"⟩) ∈ wW := wW_t 142 (by decide +kernel) (by decide +kernel)
theorem kw_144 : (Cond.selects "java/lang/IllegalArgumentException" ⟨"java/lang/Throwable", "fillInStackTrace", "()Ljava/lang/Throwable;"⟩ ⟨"java/lang/Throwable", "fillInStackTrace", "()Ljava/lang/Throwable;"⟩) ∈ wW := wW_t 144 (by decide +kernel) (by decide +kernel)
theorem kw_145 : (Cond.selects "java/lang/IndexOutOfBoundsException" ⟨"java/lang/Throwable", "fillInStackTrace", "()Ljava/lang/Throwable;"⟩ ⟨"java/lang/Throwable", "fillInStackTrace", "()Ljava/lang/Throwable;"⟩) ∈ wW := wW_t 145 (by decide +kernel) (by decide +kernel)
theorem kw_147 : (Cond.methodLink "java/lang/Throwable" 202 ⟨"java/lang/Throwable", "fillInStackTrace", "(I)Ljava/lang/Throwable;"⟩) ∈ wW := wW_t 147 (by decide +kernel) (by decide +kernel)
theorem kw_149 : (Cond.instanceMethod ⟨"java/lang/Throwable", "fillInStackTrace", "(I)Ljava/lang/Throwable;"⟩) ∈ wW := wW_t 149 (by decide +kernel) (by decide +kernel)
theorem kw_150 : (Cond.instantiable "java/lang/Throwable" 6) ∈ wW := wW_t 150 (by decide +kernel) (by decide +kernel)
theorem kw_153 : (Cond.methodLink "RingMasters" 66 ⟨"java/lang/IllegalStateException", "<init>", "(Ljava/lang/String;)V"⟩) ∈ wW := wW_t 153 (by decide +kernel) (by decide +kernel)
theorem kw_154 : (Cond.instanceMethod ⟨"java/lang/IllegalStateException", "<init>", "(Ljava/lang/String;)V"⟩) ∈ wW := wW_t 154 (by decide +kernel) (by decide +kernel)
theorem kw_155 : (Cond.code ⟨"java/lang/IllegalStateException", "<init>", "(Ljava/lang/String;)V"⟩ prog_10_method_2_code 2 none) ∈ wW := wW_t 155 (by decide +kernel) (by decide +kernel)
theorem kw_156 : (Cond.methodLink "java/lang/IllegalStateException" 7 ⟨"java/lang/RuntimeException", "<init>", "(Ljava/lang/String;)V"⟩) ∈ wW := wW_t 156 (by decide +kernel) (by decide +kernel)
theorem kw_157 : (Cond.instanceMethod ⟨"java/lang/RuntimeException", "<init>", "(Ljava/lang/String;)V"⟩) ∈ wW := wW_t 157 (by decide +kernel) (by decide +kernel)
theorem kw_158 : (Cond.code ⟨"java/lang/RuntimeException", "<init>", "(Ljava/lang/String;)V"⟩ prog_14_method_2_code 2 none) ∈ wW := wW_t 158 (by decide +kernel) (by decide +kernel)
theorem kw_159 : (Cond.methodLink "java/lang/RuntimeException" 7 ⟨"java/lang/Exception", "<init>", "(Ljava/lang/String;)V"⟩) ∈ wW := wW_t 159 (by decide +kernel) (by decide +kernel)
theorem kw_160 : (Cond.instanceMethod ⟨"java/lang/Exception", "<init>", "(Ljava/lang/String;)V"⟩) ∈ wW := wW_t 160 (by decide +kernel) (by decide +kernel)
theorem kw_161 : (Cond.code ⟨"java/lang/Exception", "<init>", "(Ljava/lang/String;)V"⟩ prog_8_method_2_code 2 none) ∈ wW := wW_t 161 (by decide +kernel) (by decide +kernel)
theorem kw_162 : (Cond.methodLink "java/lang/Exception" 7 ⟨"java/lang/Throwable", "<init>", "(Ljava/lang/String;)V"⟩) ∈ wW := wW_t 162 (by decide +kernel) (by decide +kernel)
theorem kw_163 : (Cond.instanceMethod ⟨"java/lang/Throwable", "<init>", "(Ljava/lang/String;)V"⟩) ∈ wW := wW_t 163 (by decide +kernel) (by decide +kernel)
theorem kw_164 : (Cond.code ⟨"java/lang/Throwable", "<init>", "(Ljava/lang/String;)V"⟩ prog_16_method_2_code 2 none) ∈ wW := wW_t 164 (by decide +kernel) (by decide +kernel)
theorem kw_165 : (Cond.fieldLink "java/lang/Throwable" 198 "java/lang/Throwable" "backtrace" "Ljava/lang/Object;") ∈ wW := wW_t 165 (by decide +kernel) (by decide +kernel)
theorem kw_166 : (Cond.fieldLink "java/lang/Throwable" 31 "java/lang/Throwable" "detailMessage" "Ljava/lang/String;") ∈ wW := wW_t 166 (by decide +kernel) (by decide +kernel)
theorem kw_167 : (Cond.fieldLink "java/lang/Throwable" 7 "java/lang/Throwable" "cause" "Ljava/lang/Throwable;") ∈ wW := wW_t 167 (by decide +kernel) (by decide +kernel)
theorem kw_168 : (Cond.fieldLink "java/lang/Throwable" 17 "java/lang/Throwable" "stackTrace" "[Ljava/lang/StackTraceElement;") ∈ wW := wW_t 168 (by decide +kernel) (by decide +kernel)
theorem kw_169 : (Cond.fieldLink "java/lang/Throwable" 24 "java/lang/Throwable" "suppressedExceptions" "Ljava/util/List;") ∈ wW := wW_t 169 (by decide +kernel) (by decide +kernel)
theorem kw_174 : (Cond.lays "java/lang/IllegalStateException" "java/lang/Throwable" "depth" "I") ∈ wW := wW_t 174 (by decide +kernel) (by decide +kernel)
theorem kw_178 : (Cond.arrayClass FieldType.byte) ∈ wW := wW_t 178 (by decide +kernel) (by decide +kernel)
theorem kw_179 : (Cond.classLink "RingMasters" 69 "java/lang/IllegalArgumentException") ∈ wW := wW_t 179 (by decide +kernel) (by decide +kernel)
theorem kw_180 : (Cond.instantiable "java/lang/IllegalArgumentException" 6) ∈ wW := wW_t 180 (by decide +kernel) (by decide +kernel)
theorem kw_182 : (Cond.selects "java/lang/IllegalArgumentException" ⟨"java/lang/Throwable", "fillInStackTrace", "(I)Ljava/lang/Throwable;"⟩ ⟨"java/lang/Throwable", "fillInStackTrace", "(I)Ljava/lang/Throwable;"⟩) ∈ wW := wW_t 182 (by decide +kernel) (by decide +kernel)
theorem kw_183 : (Cond.lays "java/lang/IllegalArgumentException" "java/lang/Throwable" "cause" "Ljava/lang/Throwable;") ∈ wW := wW_t 183 (by decide +kernel) (by decide +kernel)
theorem kw_184 : (Cond.lays "java/lang/IllegalArgumentException" "java/lang/Throwable" "stackTrace" "[Ljava/lang/StackTraceElement;") ∈ wW := wW_t 184 (by decide +kernel) (by decide +kernel)
theorem kw_185 : (Cond.lays "java/lang/IllegalArgumentException" "java/lang/Throwable" "suppressedExceptions" "Ljava/util/List;") ∈ wW := wW_t 185 (by decide +kernel) (by decide +kernel)
theorem kw_186 : (Cond.lays "java/lang/IllegalArgumentException" "java/lang/Throwable" "detailMessage" "Ljava/lang/String;") ∈ wW := wW_t 186 (by decide +kernel) (by decide +kernel)
theorem kw_187 : (Cond.lays "java/lang/IllegalArgumentException" "java/lang/Throwable" "backtrace" "Ljava/lang/Object;") ∈ wW := wW_t 187 (by decide +kernel) (by decide +kernel)
theorem kw_189 : (Cond.methodLink "RingMasters" 73 ⟨"java/lang/IllegalArgumentException", "<init>", "(Ljava/lang/String;)V"⟩) ∈ wW := wW_t 189 (by decide +kernel) (by decide +kernel)
theorem kw_190 : (Cond.instanceMethod ⟨"java/lang/IllegalArgumentException", "<init>", "(Ljava/lang/String;)V"⟩) ∈ wW := wW_t 190 (by decide +kernel) (by decide +kernel)
theorem kw_191 : (Cond.code ⟨"java/lang/IllegalArgumentException", "<init>", "(Ljava/lang/String;)V"⟩ prog_9_method_2_code 2 none) ∈ wW := wW_t 191 (by decide +kernel) (by decide +kernel)
theorem kw_192 : (Cond.methodLink "java/lang/IllegalArgumentException" 7 ⟨"java/lang/RuntimeException", "<init>", "(Ljava/lang/String;)V"⟩) ∈ wW := wW_t 192 (by decide +kernel) (by decide +kernel)
theorem kw_193 : (Cond.lays "java/lang/IllegalArgumentException" "java/lang/Throwable" "depth" "I") ∈ wW := wW_t 193 (by decide +kernel) (by decide +kernel)
theorem kw_195 : (Cond.methodLink "RingMastersLaw" 86 ⟨"RingMastersLaw", "series", "(LRingMasters;[J)I"⟩) ∈ wW := wW_t 195 (by decide +kernel) (by decide +kernel)
theorem kw_196 : (Cond.static ⟨"RingMastersLaw", "series", "(LRingMasters;[J)I"⟩) ∈ wW := wW_t 196 (by decide +kernel) (by decide +kernel)
theorem kw_197 : (Cond.codeWith ⟨"RingMastersLaw", "series", "(LRingMasters;[J)I"⟩ method_4_code 3 (some FieldType.int) [(0, 8, 11, 13)]) ∈ wW := wW_t 197 (by decide +kernel) (by decide +kernel)
theorem kw_198 : (Cond.methodLink "RingMastersLaw" 17 ⟨"RingMasters", "series", "()I"⟩) ∈ wW := wW_t 198 (by decide +kernel) (by decide +kernel)
theorem kw_199 : (Cond.instanceMethod ⟨"RingMasters", "series", "()I"⟩) ∈ wW := wW_t 199 (by decide +kernel) (by decide +kernel)
theorem kw_200 : (Cond.selects "RingMasters" ⟨"RingMasters", "series", "()I"⟩ ⟨"RingMasters", "series", "()I"⟩) ∈ wW := wW_t 200 (by decide +kernel) (by decide +kernel)
theorem kw_201 : (Cond.code ⟨"RingMasters", "series", "()I"⟩ prog_1_method_3_code 1 (some FieldType.int)) ∈ wW := wW_t 201 (by decide +kernel) (by decide +kernel)
theorem kw_203 : (Cond.instantiable "RingMasters$Row" 2) ∈ wW := wW_t 203 (by decide +kernel) (by decide +kernel)
theorem kw_204 : (Cond.methodLink "RingMasters" 76 ⟨"RingMasters", "evenedPad", "()[I"⟩) ∈ wW := wW_t 204 (by decide +kernel) (by decide +kernel)
theorem kw_206 : (Cond.instanceMethod ⟨"RingMasters", "evenedPad", "()[I"⟩) ∈ wW := wW_t 206 (by decide +kernel) (by decide +kernel)
theorem kw_207 : (Cond.code ⟨"RingMasters", "evenedPad", "()[I"⟩ prog_1_method_24_code 4 (some (FieldType.array FieldType.int))) ∈ wW := wW_t 207 (by decide +kernel) (by decide +kernel)
theorem kw_208 : (Cond.methodLink "RingMasters" 235 ⟨"java/lang/Math", "min", "(II)I"⟩) ∈ wW := wW_t 208 (by decide +kernel) (by decide +kernel)
theorem kw_209 : (Cond.static ⟨"java/lang/Math", "min", "(II)I"⟩) ∈ wW := wW_t 209 (by decide +kernel) (by decide +kernel)
theorem kw_210 : (Cond.code ⟨"java/lang/Math", "min", "(II)I"⟩ prog_13_method_69_code 2 (some FieldType.int)) ∈ wW := wW_t 210 (by decide +kernel) (by decide +kernel)
theorem kw_211 : (Cond.methodLink "RingMasters" 80 ⟨"RingMasters$Row", "<init>", "([I)V"⟩) ∈ wW := wW_t 211 (by decide +kernel) (by decide +kernel)
theorem kw_212 : (Cond.instanceMethod ⟨"RingMasters$Row", "<init>", "([I)V"⟩) ∈ wW := wW_t 212 (by decide +kernel) (by decide +kernel)
theorem kw_213 : (Cond.code ⟨"RingMasters$Row", "<init>", "([I)V"⟩ prog_5_method_1_code 2 none) ∈ wW := wW_t 213 (by decide +kernel) (by decide +kernel)
theorem kw_214 : (Cond.methodLink "RingMasters$Row" 3 ⟨"java/lang/Object", "<init>", "()V"⟩) ∈ wW := wW_t 214 (by decide +kernel) (by decide +kernel)
theorem kw_215 : (Cond.fieldLink "RingMasters$Row" 9 "RingMasters$Row" "even" "[I") ∈ wW := wW_t 215 (by decide +kernel) (by decide +kernel)
theorem kw_217 : (Cond.fieldLink "RingMasters$Row" 15 "RingMasters$Row" "start" "I") ∈ wW := wW_t 217 (by decide +kernel) (by decide +kernel)
theorem kw_219 : (Cond.laysFinal "RingMasters$Row" "RingMasters$Row" "even" "[I") ∈ wW := wW_t 219 (by decide +kernel) (by decide +kernel)
theorem kw_221 : (Cond.lays "RingMasters$Row" "RingMasters$Row" "start" "I") ∈ wW := wW_t 221 (by decide +kernel) (by decide +kernel)
theorem kw_224 : (Cond.methodLink "RingMastersLaw" 90 ⟨"RingMastersLaw", "evened", "(LRingMasters;II[J)I"⟩) ∈ wW := wW_t 224 (by decide +kernel) (by decide +kernel)
theorem kw_225 : (Cond.static ⟨"RingMastersLaw", "evened", "(LRingMasters;II[J)I"⟩) ∈ wW := wW_t 225 (by decide +kernel) (by decide +kernel)
theorem kw_226 : (Cond.codeWith ⟨"RingMastersLaw", "evened", "(LRingMasters;II[J)I"⟩ method_5_code 5 (some FieldType.int) [(0, 10, 13, 25)]) ∈ wW := wW_t 226 (by decide +kernel) (by decide +kernel)
theorem kw_227 : (Cond.classLink "RingMastersLaw" 25 "java/lang/IndexOutOfBoundsException") ∈ wW := wW_t 227 (by decide +kernel) (by decide +kernel)
theorem kw_228 : (Cond.methodLink "RingMastersLaw" 21 ⟨"RingMasters", "evened", "(II)I"⟩) ∈ wW := wW_t 228 (by decide +kernel) (by decide +kernel)
theorem kw_229 : (Cond.instanceMethod ⟨"RingMasters", "evened", "(II)I"⟩) ∈ wW := wW_t 229 (by decide +kernel) (by decide +kernel)
theorem kw_230 : (Cond.selects "RingMasters" ⟨"RingMasters", "evened", "(II)I"⟩ ⟨"RingMasters", "evened", "(II)I"⟩) ∈ wW := wW_t 230 (by decide +kernel) (by decide +kernel)
theorem kw_231 : (Cond.code ⟨"RingMasters", "evened", "(II)I"⟩ prog_1_method_4_code 4 (some FieldType.int)) ∈ wW := wW_t 231 (by decide +kernel) (by decide +kernel)
theorem kw_232 : (Cond.methodLink "RingMasters" 83 ⟨"RingMasters", "rowOf", "(I)LRingMasters$Row;"⟩) ∈ wW := wW_t 232 (by decide +kernel) (by decide +kernel)
theorem kw_234 : (Cond.instanceMethod ⟨"RingMasters", "rowOf", "(I)LRingMasters$Row;"⟩) ∈ wW := wW_t 234 (by decide +kernel) (by decide +kernel)
theorem kw_235 : (Cond.code ⟨"RingMasters", "rowOf", "(I)LRingMasters$Row;"⟩ prog_1_method_19_code 2 (some (FieldType.object "RingMasters$Row"))) ∈ wW := wW_t 235 (by decide +kernel) (by decide +kernel)
theorem kw_236 : (Cond.classLink "RingMasters" 90 "java/lang/IndexOutOfBoundsException") ∈ wW := wW_t 236 (by decide +kernel) (by decide +kernel)
theorem kw_237 : (Cond.instantiable "java/lang/IndexOutOfBoundsException" 6) ∈ wW := wW_t 237 (by decide +kernel) (by decide +kernel)
theorem kw_239 : (Cond.selects "java/lang/IndexOutOfBoundsException" ⟨"java/lang/Throwable", "fillInStackTrace", "(I)Ljava/lang/Throwable;"⟩ ⟨"java/lang/Throwable", "fillInStackTrace", "(I)Ljava/lang/Throwable;"⟩) ∈ wW := wW_t 239 (by decide +kernel) (by decide +kernel)
theorem kw_240 : (Cond.lays "java/lang/IndexOutOfBoundsException" "java/lang/Throwable" "cause" "Ljava/lang/Throwable;") ∈ wW := wW_t 240 (by decide +kernel) (by decide +kernel)
theorem kw_241 : (Cond.lays "java/lang/IndexOutOfBoundsException" "java/lang/Throwable" "stackTrace" "[Ljava/lang/StackTraceElement;") ∈ wW := wW_t 241 (by decide +kernel) (by decide +kernel)
theorem kw_242 : (Cond.lays "java/lang/IndexOutOfBoundsException" "java/lang/Throwable" "suppressedExceptions" "Ljava/util/List;") ∈ wW := wW_t 242 (by decide +kernel) (by decide +kernel)
theorem kw_243 : (Cond.lays "java/lang/IndexOutOfBoundsException" "java/lang/Throwable" "detailMessage" "Ljava/lang/String;") ∈ wW := wW_t 243 (by decide +kernel) (by decide +kernel)
theorem kw_244 : (Cond.lays "java/lang/IndexOutOfBoundsException" "java/lang/Throwable" "backtrace" "Ljava/lang/Object;") ∈ wW := wW_t 244 (by decide +kernel) (by decide +kernel)
theorem kw_246 : (Cond.methodLink "RingMasters" 94 ⟨"java/lang/IndexOutOfBoundsException", "<init>", "(Ljava/lang/String;)V"⟩) ∈ wW := wW_t 246 (by decide +kernel) (by decide +kernel)
theorem kw_247 : (Cond.instanceMethod ⟨"java/lang/IndexOutOfBoundsException", "<init>", "(Ljava/lang/String;)V"⟩) ∈ wW := wW_t 247 (by decide +kernel) (by decide +kernel)
theorem kw_248 : (Cond.code ⟨"java/lang/IndexOutOfBoundsException", "<init>", "(Ljava/lang/String;)V"⟩ prog_11_method_2_code 2 none) ∈ wW := wW_t 248 (by decide +kernel) (by decide +kernel)
theorem kw_249 : (Cond.methodLink "java/lang/IndexOutOfBoundsException" 7 ⟨"java/lang/RuntimeException", "<init>", "(Ljava/lang/String;)V"⟩) ∈ wW := wW_t 249 (by decide +kernel) (by decide +kernel)
theorem kw_250 : (Cond.lays "java/lang/IndexOutOfBoundsException" "java/lang/Throwable" "depth" "I") ∈ wW := wW_t 250 (by decide +kernel) (by decide +kernel)
theorem kw_253 : (Cond.methodLink "RingMastersLaw" 94 ⟨"RingMastersLaw", "place", "(LRingMasters;II[J)I"⟩) ∈ wW := wW_t 253 (by decide +kernel) (by decide +kernel)
theorem kw_254 : (Cond.static ⟨"RingMastersLaw", "place", "(LRingMasters;II[J)I"⟩) ∈ wW := wW_t 254 (by decide +kernel) (by decide +kernel)
theorem kw_255 : (Cond.codeWith ⟨"RingMastersLaw", "place", "(LRingMasters;II[J)I"⟩ method_6_code 5 (some FieldType.int) [(0, 10, 13, 25), (0, 10, 17, 15)]) ∈ wW := wW_t 255 (by decide +kernel) (by decide +kernel)
theorem kw_256 : (Cond.methodLink "RingMastersLaw" 27 ⟨"RingMasters", "place", "(II)I"⟩) ∈ wW := wW_t 256 (by decide +kernel) (by decide +kernel)
theorem kw_257 : (Cond.instanceMethod ⟨"RingMasters", "place", "(II)I"⟩) ∈ wW := wW_t 257 (by decide +kernel) (by decide +kernel)
theorem kw_258 : (Cond.selects "RingMasters" ⟨"RingMasters", "place", "(II)I"⟩ ⟨"RingMasters", "place", "(II)I"⟩) ∈ wW := wW_t 258 (by decide +kernel) (by decide +kernel)
theorem kw_259 : (Cond.code ⟨"RingMasters", "place", "(II)I"⟩ prog_1_method_5_code 5 (some FieldType.int)) ∈ wW := wW_t 259 (by decide +kernel) (by decide +kernel)
theorem kw_261 : (Cond.methodLink "RingMastersLaw" 97 ⟨"RingMastersLaw", "master", "(LRingMasters;I[J)I"⟩) ∈ wW := wW_t 261 (by decide +kernel) (by decide +kernel)
theorem kw_262 : (Cond.static ⟨"RingMastersLaw", "master", "(LRingMasters;I[J)I"⟩) ∈ wW := wW_t 262 (by decide +kernel) (by decide +kernel)
theorem kw_263 : (Cond.codeWith ⟨"RingMastersLaw", "master", "(LRingMasters;I[J)I"⟩ method_7_code 4 (some FieldType.int) [(0, 9, 12, 13), (0, 9, 15, 15)]) ∈ wW := wW_t 263 (by decide +kernel) (by decide +kernel)
theorem kw_264 : (Cond.methodLink "RingMastersLaw" 30 ⟨"RingMasters", "master", "(I)I"⟩) ∈ wW := wW_t 264 (by decide +kernel) (by decide +kernel)
theorem kw_265 : (Cond.instanceMethod ⟨"RingMasters", "master", "(I)I"⟩) ∈ wW := wW_t 265 (by decide +kernel) (by decide +kernel)
theorem kw_266 : (Cond.selects "RingMasters" ⟨"RingMasters", "master", "(I)I"⟩ ⟨"RingMasters", "master", "(I)I"⟩) ∈ wW := wW_t 266 (by decide +kernel) (by decide +kernel)
theorem kw_267 : (Cond.code ⟨"RingMasters", "master", "(I)I"⟩ prog_1_method_6_code 4 (some FieldType.int)) ∈ wW := wW_t 267 (by decide +kernel) (by decide +kernel)
theorem kw_270 : (Cond.methodLink "RingMasters" 104 ⟨"RingMasters", "membersOf", "(I)I"⟩) ∈ wW := wW_t 270 (by decide +kernel) (by decide +kernel)
theorem kw_272 : (Cond.instanceMethod ⟨"RingMasters", "membersOf", "(I)I"⟩) ∈ wW := wW_t 272 (by decide +kernel) (by decide +kernel)
theorem kw_273 : (Cond.code ⟨"RingMasters", "membersOf", "(I)I"⟩ prog_1_method_26_code 4 (some FieldType.int)) ∈ wW := wW_t 273 (by decide +kernel) (by decide +kernel)
theorem kw_274 : (Cond.instantiable "RingMasters$Mean" 6) ∈ wW := wW_t 274 (by decide +kernel) (by decide +kernel)
theorem kw_275 : (Cond.methodLink "RingMasters" 108 ⟨"RingMasters", "startsOf", "(I)[I"⟩) ∈ wW := wW_t 275 (by decide +kernel) (by decide +kernel)
theorem kw_277 : (Cond.instanceMethod ⟨"RingMasters", "startsOf", "(I)[I"⟩) ∈ wW := wW_t 277 (by decide +kernel) (by decide +kernel)
theorem kw_278 : (Cond.code ⟨"RingMasters", "startsOf", "(I)[I"⟩ prog_1_method_27_code 4 (some (FieldType.array FieldType.int))) ∈ wW := wW_t 278 (by decide +kernel) (by decide +kernel)
theorem kw_279 : (Cond.methodLink "RingMasters" 240 ⟨"java/util/Arrays", "fill", "([II)V"⟩) ∈ wW := wW_t 279 (by decide +kernel) (by decide +kernel)
theorem kw_280 : (Cond.static ⟨"java/util/Arrays", "fill", "([II)V"⟩) ∈ wW := wW_t 280 (by decide +kernel) (by decide +kernel)
theorem kw_281 : (Cond.code ⟨"java/util/Arrays", "fill", "([II)V"⟩ prog_17_method_103_code 4 none) ∈ wW := wW_t 281 (by decide +kernel) (by decide +kernel)
theorem kw_282 : (Cond.methodLink "RingMasters" 112 ⟨"RingMasters", "firstYearOf", "(I)I"⟩) ∈ wW := wW_t 282 (by decide +kernel) (by decide +kernel)
theorem kw_284 : (Cond.instanceMethod ⟨"RingMasters", "firstYearOf", "(I)I"⟩) ∈ wW := wW_t 284 (by decide +kernel) (by decide +kernel)
theorem kw_285 : (Cond.code ⟨"RingMasters", "firstYearOf", "(I)I"⟩ prog_1_method_28_code 4 (some FieldType.int)) ∈ wW := wW_t 285 (by decide +kernel) (by decide +kernel)
theorem kw_286 : (Cond.methodLink "RingMasters" 115 ⟨"RingMasters", "lastYearOf", "(I)I"⟩) ∈ wW := wW_t 286 (by decide +kernel) (by decide +kernel)
theorem kw_288 : (Cond.instanceMethod ⟨"RingMasters", "lastYearOf", "(I)I"⟩) ∈ wW := wW_t 288 (by decide +kernel) (by decide +kernel)
theorem kw_289 : (Cond.code ⟨"RingMasters", "lastYearOf", "(I)I"⟩ prog_1_method_29_code 4 (some FieldType.int)) ∈ wW := wW_t 289 (by decide +kernel) (by decide +kernel)
theorem kw_290 : (Cond.methodLink "RingMasters" 203 ⟨"RingMasters$Row", "lastYear", "()I"⟩) ∈ wW := wW_t 290 (by decide +kernel) (by decide +kernel)
theorem kw_291 : (Cond.instanceMethod ⟨"RingMasters$Row", "lastYear", "()I"⟩) ∈ wW := wW_t 291 (by decide +kernel) (by decide +kernel)
theorem kw_292 : (Cond.selects "RingMasters$Row" ⟨"RingMasters$Row", "lastYear", "()I"⟩ ⟨"RingMasters$Row", "lastYear", "()I"⟩) ∈ wW := wW_t 292 (by decide +kernel) (by decide +kernel)
theorem kw_293 : (Cond.code ⟨"RingMasters$Row", "lastYear", "()I"⟩ prog_5_method_2_code 1 (some FieldType.int)) ∈ wW := wW_t 293 (by decide +kernel) (by decide +kernel)
theorem kw_294 : (Cond.methodLink "RingMasters" 246 ⟨"java/lang/Math", "max", "(II)I"⟩) ∈ wW := wW_t 294 (by decide +kernel) (by decide +kernel)
theorem kw_295 : (Cond.static ⟨"java/lang/Math", "max", "(II)I"⟩) ∈ wW := wW_t 295 (by decide +kernel) (by decide +kernel)
theorem kw_296 : (Cond.code ⟨"java/lang/Math", "max", "(II)I"⟩ prog_13_method_65_code 2 (some FieldType.int)) ∈ wW := wW_t 296 (by decide +kernel) (by decide +kernel)
theorem kw_297 : (Cond.methodLink "RingMasters" 118 ⟨"java/lang/Integer", "bitCount", "(I)I"⟩) ∈ wW := wW_t 297 (by decide +kernel) (by decide +kernel)
theorem kw_298 : (Cond.static ⟨"java/lang/Integer", "bitCount", "(I)I"⟩) ∈ wW := wW_t 298 (by decide +kernel) (by decide +kernel)
theorem kw_299 : (Cond.code ⟨"java/lang/Integer", "bitCount", "(I)I"⟩ prog_12_method_49_code 1 (some FieldType.int)) ∈ wW := wW_t 299 (by decide +kernel) (by decide +kernel)
theorem kw_300 : (Cond.constant "java/lang/Integer" 265 1431655765) ∈ wW := wW_t 300 (by decide +kernel) (by decide +kernel)
theorem kw_301 : (Cond.constant "java/lang/Integer" 266 858993459) ∈ wW := wW_t 301 (by decide +kernel) (by decide +kernel)
theorem kw_302 : (Cond.constant "java/lang/Integer" 267 252645135) ∈ wW := wW_t 302 (by decide +kernel) (by decide +kernel)
theorem kw_303 : (Cond.methodLink "RingMasters" 123 ⟨"RingMasters$Mean", "<init>", "([IIII)V"⟩) ∈ wW := wW_t 303 (by decide +kernel) (by decide +kernel)
theorem kw_304 : (Cond.instanceMethod ⟨"RingMasters$Mean", "<init>", "([IIII)V"⟩) ∈ wW := wW_t 304 (by decide +kernel) (by decide +kernel)
theorem kw_305 : (Cond.code ⟨"RingMasters$Mean", "<init>", "([IIII)V"⟩ prog_3_method_1_code 6 none) ∈ wW := wW_t 305 (by decide +kernel) (by decide +kernel)
theorem kw_306 : (Cond.methodLink "RingMasters$Mean" 1 ⟨"java/lang/Object", "<init>", "()V"⟩) ∈ wW := wW_t 306 (by decide +kernel) (by decide +kernel)
theorem kw_307 : (Cond.methodLink "RingMasters$Mean" 23 ⟨"java/lang/Math", "max", "(II)I"⟩) ∈ wW := wW_t 307 (by decide +kernel) (by decide +kernel)
theorem kw_308 : (Cond.fieldLink "RingMasters$Mean" 7 "RingMasters$Mean" "starts" "[I") ∈ wW := wW_t 308 (by decide +kernel) (by decide +kernel)
theorem kw_310 : (Cond.fieldLink "RingMasters$Mean" 13 "RingMasters$Mean" "first" "I") ∈ wW := wW_t 310 (by decide +kernel) (by decide +kernel)
theorem kw_312 : (Cond.fieldLink "RingMasters$Mean" 17 "RingMasters$Mean" "last" "I") ∈ wW := wW_t 312 (by decide +kernel) (by decide +kernel)
theorem kw_314 : (Cond.fieldLink "RingMasters$Mean" 20 "RingMasters$Mean" "members" "I") ∈ wW := wW_t 314 (by decide +kernel) (by decide +kernel)
theorem kw_316 : (Cond.fieldLink "RingMasters$Mean" 29 "RingMasters$Mean" "values" "[I") ∈ wW := wW_t 316 (by decide +kernel) (by decide +kernel)
theorem kw_318 : (Cond.fieldLink "RingMasters$Mean" 32 "RingMasters$Mean" "depths" "[I") ∈ wW := wW_t 318 (by decide +kernel) (by decide +kernel)
theorem kw_320 : (Cond.laysFinal "RingMasters$Mean" "RingMasters$Mean" "starts" "[I") ∈ wW := wW_t 320 (by decide +kernel) (by decide +kernel)
theorem kw_322 : (Cond.laysFinal "RingMasters$Mean" "RingMasters$Mean" "first" "I") ∈ wW := wW_t 322 (by decide +kernel) (by decide +kernel)
theorem kw_324 : (Cond.laysFinal "RingMasters$Mean" "RingMasters$Mean" "last" "I") ∈ wW := wW_t 324 (by decide +kernel) (by decide +kernel)
theorem kw_326 : (Cond.laysFinal "RingMasters$Mean" "RingMasters$Mean" "members" "I") ∈ wW := wW_t 326 (by decide +kernel) (by decide +kernel)
theorem kw_328 : (Cond.laysFinal "RingMasters$Mean" "RingMasters$Mean" "values" "[I") ∈ wW := wW_t 328 (by decide +kernel) (by decide +kernel)
theorem kw_330 : (Cond.laysFinal "RingMasters$Mean" "RingMasters$Mean" "depths" "[I") ∈ wW := wW_t 330 (by decide +kernel) (by decide +kernel)
theorem kw_333 : (Cond.methodLink "RingMasters" 126 ⟨"RingMasters", "fillValues", "(LRingMasters$Mean;)V"⟩) ∈ wW := wW_t 333 (by decide +kernel) (by decide +kernel)
theorem kw_335 : (Cond.instanceMethod ⟨"RingMasters", "fillValues", "(LRingMasters$Mean;)V"⟩) ∈ wW := wW_t 335 (by decide +kernel) (by decide +kernel)
theorem kw_336 : (Cond.code ⟨"RingMasters", "fillValues", "(LRingMasters$Mean;)V"⟩ prog_1_method_30_code 3 none) ∈ wW := wW_t 336 (by decide +kernel) (by decide +kernel)
theorem kw_337 : (Cond.methodLink "RingMasters" 249 ⟨"RingMasters", "gather", "([III)V"⟩) ∈ wW := wW_t 337 (by decide +kernel) (by decide +kernel)
theorem kw_339 : (Cond.instanceMethod ⟨"RingMasters", "gather", "([III)V"⟩) ∈ wW := wW_t 339 (by decide +kernel) (by decide +kernel)
theorem kw_340 : (Cond.code ⟨"RingMasters", "gather", "([III)V"⟩ prog_1_method_31_code 6 none) ∈ wW := wW_t 340 (by decide +kernel) (by decide +kernel)
theorem kw_341 : (Cond.methodLink "RingMasters" 259 ⟨"RingMasters$Robust", "clear", "()V"⟩) ∈ wW := wW_t 341 (by decide +kernel) (by decide +kernel)
theorem kw_342 : (Cond.instanceMethod ⟨"RingMasters$Robust", "clear", "()V"⟩) ∈ wW := wW_t 342 (by decide +kernel) (by decide +kernel)
theorem kw_343 : (Cond.selects "RingMasters$Robust" ⟨"RingMasters$Robust", "clear", "()V"⟩ ⟨"RingMasters$Robust", "clear", "()V"⟩) ∈ wW := wW_t 343 (by decide +kernel) (by decide +kernel)
theorem kw_344 : (Cond.code ⟨"RingMasters$Robust", "clear", "()V"⟩ prog_4_method_2_code 1 none) ∈ wW := wW_t 344 (by decide +kernel) (by decide +kernel)
theorem kw_345 : (Cond.methodLink "RingMasters" 214 ⟨"RingMasters$Row", "ringIn", "(II)I"⟩) ∈ wW := wW_t 345 (by decide +kernel) (by decide +kernel)
theorem kw_346 : (Cond.instanceMethod ⟨"RingMasters$Row", "ringIn", "(II)I"⟩) ∈ wW := wW_t 346 (by decide +kernel) (by decide +kernel)
theorem kw_347 : (Cond.selects "RingMasters$Row" ⟨"RingMasters$Row", "ringIn", "(II)I"⟩ ⟨"RingMasters$Row", "ringIn", "(II)I"⟩) ∈ wW := wW_t 347 (by decide +kernel) (by decide +kernel)
theorem kw_348 : (Cond.code ⟨"RingMasters$Row", "ringIn", "(II)I"⟩ prog_5_method_3_code 4 (some FieldType.int)) ∈ wW := wW_t 348 (by decide +kernel) (by decide +kernel)
theorem kw_349 : (Cond.methodLink "RingMasters" 260 ⟨"RingMasters$Robust", "take", "(I)V"⟩) ∈ wW := wW_t 349 (by decide +kernel) (by decide +kernel)
theorem kw_350 : (Cond.instanceMethod ⟨"RingMasters$Robust", "take", "(I)V"⟩) ∈ wW := wW_t 350 (by decide +kernel) (by decide +kernel)
theorem kw_351 : (Cond.selects "RingMasters$Robust" ⟨"RingMasters$Robust", "take", "(I)V"⟩ ⟨"RingMasters$Robust", "take", "(I)V"⟩) ∈ wW := wW_t 351 (by decide +kernel) (by decide +kernel)
theorem kw_352 : (Cond.code ⟨"RingMasters$Robust", "take", "(I)V"⟩ prog_4_method_3_code 2 none) ∈ wW := wW_t 352 (by decide +kernel) (by decide +kernel)
theorem kw_353 : (Cond.methodLink "RingMasters$Robust" 24 ⟨"java/lang/Math", "min", "(II)I"⟩) ∈ wW := wW_t 353 (by decide +kernel) (by decide +kernel)
theorem kw_354 : (Cond.methodLink "RingMasters$Robust" 30 ⟨"java/lang/Math", "max", "(II)I"⟩) ∈ wW := wW_t 354 (by decide +kernel) (by decide +kernel)
theorem kw_355 : (Cond.methodLink "RingMasters" 253 ⟨"RingMasters$Robust", "answer", "()I"⟩) ∈ wW := wW_t 355 (by decide +kernel) (by decide +kernel)
theorem kw_356 : (Cond.instanceMethod ⟨"RingMasters$Robust", "answer", "()I"⟩) ∈ wW := wW_t 356 (by decide +kernel) (by decide +kernel)
theorem kw_357 : (Cond.selects "RingMasters$Robust" ⟨"RingMasters$Robust", "answer", "()I"⟩ ⟨"RingMasters$Robust", "answer", "()I"⟩) ∈ wW := wW_t 357 (by decide +kernel) (by decide +kernel)
theorem kw_358 : (Cond.code ⟨"RingMasters$Robust", "answer", "()I"⟩ prog_4_method_4_code 1 (some FieldType.int)) ∈ wW := wW_t 358 (by decide +kernel) (by decide +kernel)
theorem kw_359 : (Cond.methodLink "RingMastersLaw" 100 ⟨"RingMastersLaw", "about", "(LRingMasters;II[J)I"⟩) ∈ wW := wW_t 359 (by decide +kernel) (by decide +kernel)
theorem kw_360 : (Cond.static ⟨"RingMastersLaw", "about", "(LRingMasters;II[J)I"⟩) ∈ wW := wW_t 360 (by decide +kernel) (by decide +kernel)
theorem kw_361 : (Cond.codeWith ⟨"RingMastersLaw", "about", "(LRingMasters;II[J)I"⟩ method_8_code 5 (some FieldType.int) [(0, 10, 13, 25)]) ∈ wW := wW_t 361 (by decide +kernel) (by decide +kernel)
theorem kw_362 : (Cond.methodLink "RingMastersLaw" 33 ⟨"RingMasters", "about", "(II)I"⟩) ∈ wW := wW_t 362 (by decide +kernel) (by decide +kernel)
theorem kw_363 : (Cond.instanceMethod ⟨"RingMasters", "about", "(II)I"⟩) ∈ wW := wW_t 363 (by decide +kernel) (by decide +kernel)
theorem kw_364 : (Cond.selects "RingMasters" ⟨"RingMasters", "about", "(II)I"⟩ ⟨"RingMasters", "about", "(II)I"⟩) ∈ wW := wW_t 364 (by decide +kernel) (by decide +kernel)
theorem kw_365 : (Cond.code ⟨"RingMasters", "about", "(II)I"⟩ prog_1_method_7_code 4 (some FieldType.int)) ∈ wW := wW_t 365 (by decide +kernel) (by decide +kernel)
theorem kw_366 : (Cond.methodLink "RingMasters" 130 ⟨"RingMasters", "meanOf", "(I)LRingMasters$Mean;"⟩) ∈ wW := wW_t 366 (by decide +kernel) (by decide +kernel)
theorem kw_368 : (Cond.instanceMethod ⟨"RingMasters", "meanOf", "(I)LRingMasters$Mean;"⟩) ∈ wW := wW_t 368 (by decide +kernel) (by decide +kernel)
theorem kw_369 : (Cond.code ⟨"RingMasters", "meanOf", "(I)LRingMasters$Mean;"⟩ prog_1_method_20_code 2 (some (FieldType.object "RingMasters$Mean"))) ∈ wW := wW_t 369 (by decide +kernel) (by decide +kernel)
theorem kw_372 : (Cond.methodLink "RingMastersLaw" 103 ⟨"RingMastersLaw", "at", "(LRingMasters;II[J)I"⟩) ∈ wW := wW_t 372 (by decide +kernel) (by decide +kernel)
theorem kw_373 : (Cond.static ⟨"RingMastersLaw", "at", "(LRingMasters;II[J)I"⟩) ∈ wW := wW_t 373 (by decide +kernel) (by decide +kernel)
theorem kw_374 : (Cond.codeWith ⟨"RingMastersLaw", "at", "(LRingMasters;II[J)I"⟩ method_9_code 5 (some FieldType.int) [(0, 10, 13, 25)]) ∈ wW := wW_t 374 (by decide +kernel) (by decide +kernel)
theorem kw_375 : (Cond.methodLink "RingMastersLaw" 36 ⟨"RingMasters", "at", "(II)I"⟩) ∈ wW := wW_t 375 (by decide +kernel) (by decide +kernel)
theorem kw_376 : (Cond.instanceMethod ⟨"RingMasters", "at", "(II)I"⟩) ∈ wW := wW_t 376 (by decide +kernel) (by decide +kernel)
theorem kw_377 : (Cond.selects "RingMasters" ⟨"RingMasters", "at", "(II)I"⟩ ⟨"RingMasters", "at", "(II)I"⟩) ∈ wW := wW_t 377 (by decide +kernel) (by decide +kernel)
theorem kw_378 : (Cond.code ⟨"RingMasters", "at", "(II)I"⟩ prog_1_method_8_code 4 (some FieldType.int)) ∈ wW := wW_t 378 (by decide +kernel) (by decide +kernel)
theorem kw_379 : (Cond.methodLink "RingMasters" 148 ⟨"RingMasters", "placeInMaster", "(LRingMasters$Mean;I)I"⟩) ∈ wW := wW_t 379 (by decide +kernel) (by decide +kernel)
theorem kw_380 : (Cond.static ⟨"RingMasters", "placeInMaster", "(LRingMasters$Mean;I)I"⟩) ∈ wW := wW_t 380 (by decide +kernel) (by decide +kernel)
theorem kw_381 : (Cond.code ⟨"RingMasters", "placeInMaster", "(LRingMasters$Mean;I)I"⟩ prog_1_method_21_code 2 (some FieldType.int)) ∈ wW := wW_t 381 (by decide +kernel) (by decide +kernel)
theorem kw_382 : (Cond.methodLink "RingMastersLaw" 106 ⟨"RingMastersLaw", "depth", "(LRingMasters;II[J)I"⟩) ∈ wW := wW_t 382 (by decide +kernel) (by decide +kernel)
theorem kw_383 : (Cond.static ⟨"RingMastersLaw", "depth", "(LRingMasters;II[J)I"⟩) ∈ wW := wW_t 383 (by decide +kernel) (by decide +kernel)
theorem kw_384 : (Cond.codeWith ⟨"RingMastersLaw", "depth", "(LRingMasters;II[J)I"⟩ method_10_code 5 (some FieldType.int) [(0, 10, 13, 25)]) ∈ wW := wW_t 384 (by decide +kernel) (by decide +kernel)
theorem kw_385 : (Cond.methodLink "RingMastersLaw" 39 ⟨"RingMasters", "depth", "(II)I"⟩) ∈ wW := wW_t 385 (by decide +kernel) (by decide +kernel)
theorem kw_386 : (Cond.instanceMethod ⟨"RingMasters", "depth", "(II)I"⟩) ∈ wW := wW_t 386 (by decide +kernel) (by decide +kernel)
theorem kw_387 : (Cond.selects "RingMasters" ⟨"RingMasters", "depth", "(II)I"⟩ ⟨"RingMasters", "depth", "(II)I"⟩) ∈ wW := wW_t 387 (by decide +kernel) (by decide +kernel)
theorem kw_388 : (Cond.code ⟨"RingMasters", "depth", "(II)I"⟩ prog_1_method_9_code 4 (some FieldType.int)) ∈ wW := wW_t 388 (by decide +kernel) (by decide +kernel)
theorem kw_389 : (Cond.methodLink "RingMastersLaw" 109 ⟨"RingMastersLaw", "leftOut", "(LRingMasters;III[J)I"⟩) ∈ wW := wW_t 389 (by decide +kernel) (by decide +kernel)
theorem kw_390 : (Cond.static ⟨"RingMastersLaw", "leftOut", "(LRingMasters;III[J)I"⟩) ∈ wW := wW_t 390 (by decide +kernel) (by decide +kernel)
theorem kw_391 : (Cond.codeWith ⟨"RingMastersLaw", "leftOut", "(LRingMasters;III[J)I"⟩ method_11_code 6 (some FieldType.int) [(0, 12, 15, 25)]) ∈ wW := wW_t 391 (by decide +kernel) (by decide +kernel)
theorem kw_392 : (Cond.methodLink "RingMastersLaw" 42 ⟨"RingMasters", "leftOut", "(III)I"⟩) ∈ wW := wW_t 392 (by decide +kernel) (by decide +kernel)
theorem kw_393 : (Cond.instanceMethod ⟨"RingMasters", "leftOut", "(III)I"⟩) ∈ wW := wW_t 393 (by decide +kernel) (by decide +kernel)
theorem kw_394 : (Cond.selects "RingMasters" ⟨"RingMasters", "leftOut", "(III)I"⟩ ⟨"RingMasters", "leftOut", "(III)I"⟩) ∈ wW := wW_t 394 (by decide +kernel) (by decide +kernel)
theorem kw_395 : (Cond.code ⟨"RingMasters", "leftOut", "(III)I"⟩ prog_1_method_10_code 5 (some FieldType.int)) ∈ wW := wW_t 395 (by decide +kernel) (by decide +kernel)
theorem kw_396 : (Cond.methodLink "RingMasters" 155 ⟨"RingMasters", "checkSumOrYears", "(I)V"⟩) ∈ wW := wW_t 396 (by decide +kernel) (by decide +kernel)
theorem kw_397 : (Cond.static ⟨"RingMasters", "checkSumOrYears", "(I)V"⟩) ∈ wW := wW_t 397 (by decide +kernel) (by decide +kernel)
theorem kw_398 : (Cond.code ⟨"RingMasters", "checkSumOrYears", "(I)V"⟩ prog_1_method_22_code 1 none) ∈ wW := wW_t 398 (by decide +kernel) (by decide +kernel)
theorem kw_400 : (Cond.methodLink "RingMasters" 164 ⟨"RingMasters", "measureFromOthers", "(LRingMasters$Mean;I)V"⟩) ∈ wW := wW_t 400 (by decide +kernel) (by decide +kernel)
theorem kw_402 : (Cond.instanceMethod ⟨"RingMasters", "measureFromOthers", "(LRingMasters$Mean;I)V"⟩) ∈ wW := wW_t 402 (by decide +kernel) (by decide +kernel)
theorem kw_403 : (Cond.code ⟨"RingMasters", "measureFromOthers", "(LRingMasters$Mean;I)V"⟩ prog_1_method_32_code 6 none) ∈ wW := wW_t 403 (by decide +kernel) (by decide +kernel)
theorem kw_404 : (Cond.methodLink "RingMasters" 211 ⟨"RingMasters$Gap", "clear", "()V"⟩) ∈ wW := wW_t 404 (by decide +kernel) (by decide +kernel)
theorem kw_405 : (Cond.instanceMethod ⟨"RingMasters$Gap", "clear", "()V"⟩) ∈ wW := wW_t 405 (by decide +kernel) (by decide +kernel)
theorem kw_406 : (Cond.selects "RingMasters$Gap" ⟨"RingMasters$Gap", "clear", "()V"⟩ ⟨"RingMasters$Gap", "clear", "()V"⟩) ∈ wW := wW_t 406 (by decide +kernel) (by decide +kernel)
theorem kw_407 : (Cond.code ⟨"RingMasters$Gap", "clear", "()V"⟩ prog_2_method_2_code 1 none) ∈ wW := wW_t 407 (by decide +kernel) (by decide +kernel)
theorem kw_408 : (Cond.methodLink "RingMasters" 218 ⟨"RingMasters$Gap", "add", "(II)V"⟩) ∈ wW := wW_t 408 (by decide +kernel) (by decide +kernel)
theorem kw_409 : (Cond.instanceMethod ⟨"RingMasters$Gap", "add", "(II)V"⟩) ∈ wW := wW_t 409 (by decide +kernel) (by decide +kernel)
theorem kw_410 : (Cond.selects "RingMasters$Gap" ⟨"RingMasters$Gap", "add", "(II)V"⟩ ⟨"RingMasters$Gap", "add", "(II)V"⟩) ∈ wW := wW_t 410 (by decide +kernel) (by decide +kernel)
theorem kw_411 : (Cond.code ⟨"RingMasters$Gap", "add", "(II)V"⟩ prog_2_method_3_code 3 none) ∈ wW := wW_t 411 (by decide +kernel) (by decide +kernel)
theorem kw_412 : (Cond.methodLink "RingMasters$Gap" 16 ⟨"java/lang/Math", "abs", "(I)I"⟩) ∈ wW := wW_t 412 (by decide +kernel) (by decide +kernel)
theorem kw_413 : (Cond.static ⟨"java/lang/Math", "abs", "(I)I"⟩) ∈ wW := wW_t 413 (by decide +kernel) (by decide +kernel)
theorem kw_414 : (Cond.code ⟨"java/lang/Math", "abs", "(I)I"⟩ prog_13_method_59_code 1 (some FieldType.int)) ∈ wW := wW_t 414 (by decide +kernel) (by decide +kernel)
theorem kw_415 : (Cond.methodLink "RingMasters" 168 ⟨"RingMasters$Gap", "sumOrYears", "(I)I"⟩) ∈ wW := wW_t 415 (by decide +kernel) (by decide +kernel)
theorem kw_416 : (Cond.instanceMethod ⟨"RingMasters$Gap", "sumOrYears", "(I)I"⟩) ∈ wW := wW_t 416 (by decide +kernel) (by decide +kernel)
theorem kw_417 : (Cond.selects "RingMasters$Gap" ⟨"RingMasters$Gap", "sumOrYears", "(I)I"⟩ ⟨"RingMasters$Gap", "sumOrYears", "(I)I"⟩) ∈ wW := wW_t 417 (by decide +kernel) (by decide +kernel)
theorem kw_418 : (Cond.code ⟨"RingMasters$Gap", "sumOrYears", "(I)I"⟩ prog_2_method_5_code 2 (some FieldType.int)) ∈ wW := wW_t 418 (by decide +kernel) (by decide +kernel)
theorem kw_419 : (Cond.methodLink "RingMastersLaw" 113 ⟨"RingMastersLaw", "distance", "(LRingMasters;IIII[J)I"⟩) ∈ wW := wW_t 419 (by decide +kernel) (by decide +kernel)
theorem kw_420 : (Cond.static ⟨"RingMastersLaw", "distance", "(LRingMasters;IIII[J)I"⟩) ∈ wW := wW_t 420 (by decide +kernel) (by decide +kernel)
theorem kw_421 : (Cond.codeWith ⟨"RingMastersLaw", "distance", "(LRingMasters;IIII[J)I"⟩ method_12_code 7 (some FieldType.int) [(0, 14, 17, 25)]) ∈ wW := wW_t 421 (by decide +kernel) (by decide +kernel)
theorem kw_422 : (Cond.methodLink "RingMastersLaw" 46 ⟨"RingMasters", "distance", "(IIII)I"⟩) ∈ wW := wW_t 422 (by decide +kernel) (by decide +kernel)
theorem kw_423 : (Cond.instanceMethod ⟨"RingMasters", "distance", "(IIII)I"⟩) ∈ wW := wW_t 423 (by decide +kernel) (by decide +kernel)
theorem kw_424 : (Cond.selects "RingMasters" ⟨"RingMasters", "distance", "(IIII)I"⟩ ⟨"RingMasters", "distance", "(IIII)I"⟩) ∈ wW := wW_t 424 (by decide +kernel) (by decide +kernel)
theorem kw_425 : (Cond.code ⟨"RingMasters", "distance", "(IIII)I"⟩ prog_1_method_11_code 7 (some FieldType.int)) ∈ wW := wW_t 425 (by decide +kernel) (by decide +kernel)
theorem kw_426 : (Cond.methodLink "RingMasters" 171 ⟨"RingMasters", "measure", "(LRingMasters$Row;LRingMasters$Mean;I)V"⟩) ∈ wW := wW_t 426 (by decide +kernel) (by decide +kernel)
theorem kw_428 : (Cond.instanceMethod ⟨"RingMasters", "measure", "(LRingMasters$Row;LRingMasters$Mean;I)V"⟩) ∈ wW := wW_t 428 (by decide +kernel) (by decide +kernel)
theorem kw_429 : (Cond.code ⟨"RingMasters", "measure", "(LRingMasters$Row;LRingMasters$Mean;I)V"⟩ prog_1_method_33_code 8 none) ∈ wW := wW_t 429 (by decide +kernel) (by decide +kernel)
theorem kw_430 : (Cond.methodLink "RingMastersLaw" 117 ⟨"RingMastersLaw", "date", "(LRingMasters;III[J)I"⟩) ∈ wW := wW_t 430 (by decide +kernel) (by decide +kernel)
theorem kw_431 : (Cond.static ⟨"RingMastersLaw", "date", "(LRingMasters;III[J)I"⟩) ∈ wW := wW_t 431 (by decide +kernel) (by decide +kernel)
theorem kw_432 : (Cond.codeWith ⟨"RingMastersLaw", "date", "(LRingMasters;III[J)I"⟩ method_13_code 6 (some FieldType.int) [(0, 12, 15, 25), (0, 12, 19, 15)]) ∈ wW := wW_t 432 (by decide +kernel) (by decide +kernel)
theorem kw_433 : (Cond.methodLink "RingMastersLaw" 50 ⟨"RingMasters", "date", "(III)I"⟩) ∈ wW := wW_t 433 (by decide +kernel) (by decide +kernel)
theorem kw_434 : (Cond.instanceMethod ⟨"RingMasters", "date", "(III)I"⟩) ∈ wW := wW_t 434 (by decide +kernel) (by decide +kernel)
theorem kw_435 : (Cond.selects "RingMasters" ⟨"RingMasters", "date", "(III)I"⟩ ⟨"RingMasters", "date", "(III)I"⟩) ∈ wW := wW_t 435 (by decide +kernel) (by decide +kernel)
theorem kw_436 : (Cond.code ⟨"RingMasters", "date", "(III)I"⟩ prog_1_method_12_code 6 (some FieldType.int)) ∈ wW := wW_t 436 (by decide +kernel) (by decide +kernel)
theorem kw_437 : (Cond.methodLink "RingMasters" 175 ⟨"RingMasters", "checkLeast", "(I)V"⟩) ∈ wW := wW_t 437 (by decide +kernel) (by decide +kernel)
theorem kw_438 : (Cond.static ⟨"RingMasters", "checkLeast", "(I)V"⟩) ∈ wW := wW_t 438 (by decide +kernel) (by decide +kernel)
theorem kw_439 : (Cond.code ⟨"RingMasters", "checkLeast", "(I)V"⟩ prog_1_method_23_code 1 none) ∈ wW := wW_t 439 (by decide +kernel) (by decide +kernel)
theorem kw_441 : (Cond.methodLink "RingMasters" 178 ⟨"RingMasters", "nearestYear", "(LRingMasters$Row;LRingMasters$Mean;I)I"⟩) ∈ wW := wW_t 441 (by decide +kernel) (by decide +kernel)
theorem kw_443 : (Cond.instanceMethod ⟨"RingMasters", "nearestYear", "(LRingMasters$Row;LRingMasters$Mean;I)I"⟩) ∈ wW := wW_t 443 (by decide +kernel) (by decide +kernel)
theorem kw_444 : (Cond.code ⟨"RingMasters", "nearestYear", "(LRingMasters$Row;LRingMasters$Mean;I)I"⟩ prog_1_method_34_code 6 (some FieldType.int)) ∈ wW := wW_t 444 (by decide +kernel) (by decide +kernel)
theorem kw_445 : (Cond.methodLink "RingMasters" 263 ⟨"RingMasters$Gap", "lessThan", "(LRingMasters$Gap;)Z"⟩) ∈ wW := wW_t 445 (by decide +kernel) (by decide +kernel)
theorem kw_446 : (Cond.instanceMethod ⟨"RingMasters$Gap", "lessThan", "(LRingMasters$Gap;)Z"⟩) ∈ wW := wW_t 446 (by decide +kernel) (by decide +kernel)
theorem kw_447 : (Cond.selects "RingMasters$Gap" ⟨"RingMasters$Gap", "lessThan", "(LRingMasters$Gap;)Z"⟩ ⟨"RingMasters$Gap", "lessThan", "(LRingMasters$Gap;)Z"⟩) ∈ wW := wW_t 447 (by decide +kernel) (by decide +kernel)
theorem kw_448 : (Cond.code ⟨"RingMasters$Gap", "lessThan", "(LRingMasters$Gap;)Z"⟩ prog_2_method_6_code 4 (some FieldType.boolean)) ∈ wW := wW_t 448 (by decide +kernel) (by decide +kernel)
theorem kw_449 : (Cond.methodLink "RingMasters" 186 ⟨"RingMasters$Gap", "become", "(LRingMasters$Gap;)V"⟩) ∈ wW := wW_t 449 (by decide +kernel) (by decide +kernel)
theorem kw_450 : (Cond.instanceMethod ⟨"RingMasters$Gap", "become", "(LRingMasters$Gap;)V"⟩) ∈ wW := wW_t 450 (by decide +kernel) (by decide +kernel)
theorem kw_451 : (Cond.selects "RingMasters$Gap" ⟨"RingMasters$Gap", "become", "(LRingMasters$Gap;)V"⟩ ⟨"RingMasters$Gap", "become", "(LRingMasters$Gap;)V"⟩) ∈ wW := wW_t 451 (by decide +kernel) (by decide +kernel)
theorem kw_452 : (Cond.code ⟨"RingMasters$Gap", "become", "(LRingMasters$Gap;)V"⟩ prog_2_method_4_code 2 none) ∈ wW := wW_t 452 (by decide +kernel) (by decide +kernel)
theorem kw_453 : (Cond.methodLink "RingMastersLaw" 120 ⟨"RingMastersLaw", "agrees", "(LRingMasters;III[J)I"⟩) ∈ wW := wW_t 453 (by decide +kernel) (by decide +kernel)
theorem kw_454 : (Cond.static ⟨"RingMastersLaw", "agrees", "(LRingMasters;III[J)I"⟩) ∈ wW := wW_t 454 (by decide +kernel) (by decide +kernel)
theorem kw_455 : (Cond.codeWith ⟨"RingMastersLaw", "agrees", "(LRingMasters;III[J)I"⟩ method_14_code 6 (some FieldType.int) [(0, 19, 22, 25), (0, 19, 26, 15)]) ∈ wW := wW_t 455 (by decide +kernel) (by decide +kernel)
theorem kw_456 : (Cond.methodLink "RingMastersLaw" 53 ⟨"RingMasters", "agrees", "(III)Z"⟩) ∈ wW := wW_t 456 (by decide +kernel) (by decide +kernel)
theorem kw_457 : (Cond.instanceMethod ⟨"RingMasters", "agrees", "(III)Z"⟩) ∈ wW := wW_t 457 (by decide +kernel) (by decide +kernel)
theorem kw_458 : (Cond.selects "RingMasters" ⟨"RingMasters", "agrees", "(III)Z"⟩ ⟨"RingMasters", "agrees", "(III)Z"⟩) ∈ wW := wW_t 458 (by decide +kernel) (by decide +kernel)
theorem kw_459 : (Cond.code ⟨"RingMasters", "agrees", "(III)Z"⟩ prog_1_method_13_code 8 (some FieldType.boolean)) ∈ wW := wW_t 459 (by decide +kernel) (by decide +kernel)
theorem kw_460 : (Cond.methodLink "RingMastersLaw" 123 ⟨"RingMastersLaw", "source", "(LRingMasters;III[J)I"⟩) ∈ wW := wW_t 460 (by decide +kernel) (by decide +kernel)
theorem kw_461 : (Cond.static ⟨"RingMastersLaw", "source", "(LRingMasters;III[J)I"⟩) ∈ wW := wW_t 461 (by decide +kernel) (by decide +kernel)
theorem kw_462 : (Cond.codeWith ⟨"RingMastersLaw", "source", "(LRingMasters;III[J)I"⟩ method_15_code 6 (some FieldType.int) [(0, 12, 15, 25), (0, 12, 19, 15)]) ∈ wW := wW_t 462 (by decide +kernel) (by decide +kernel)
theorem kw_463 : (Cond.methodLink "RingMastersLaw" 57 ⟨"RingMasters", "source", "(III)I"⟩) ∈ wW := wW_t 463 (by decide +kernel) (by decide +kernel)
theorem kw_464 : (Cond.instanceMethod ⟨"RingMasters", "source", "(III)I"⟩) ∈ wW := wW_t 464 (by decide +kernel) (by decide +kernel)
theorem kw_465 : (Cond.selects "RingMasters" ⟨"RingMasters", "source", "(III)I"⟩ ⟨"RingMasters", "source", "(III)I"⟩) ∈ wW := wW_t 465 (by decide +kernel) (by decide +kernel)
theorem kw_466 : (Cond.code ⟨"RingMasters", "source", "(III)I"⟩ prog_1_method_14_code 6 (some FieldType.int)) ∈ wW := wW_t 466 (by decide +kernel) (by decide +kernel)
theorem kw_468 : (Cond.methodLink "RingMasters" 190 ⟨"RingMasters", "nearerThan", "(I)I"⟩) ∈ wW := wW_t 468 (by decide +kernel) (by decide +kernel)
theorem kw_470 : (Cond.instanceMethod ⟨"RingMasters", "nearerThan", "(I)I"⟩) ∈ wW := wW_t 470 (by decide +kernel) (by decide +kernel)
theorem kw_471 : (Cond.code ⟨"RingMasters", "nearerThan", "(I)I"⟩ prog_1_method_35_code 5 (some FieldType.int)) ∈ wW := wW_t 471 (by decide +kernel) (by decide +kernel)
theorem kw_472 : (Cond.methodLink "RingMastersLaw" 126 ⟨"RingMastersLaw", "sapwood", "(LRingMasters;II[J)I"⟩) ∈ wW := wW_t 472 (by decide +kernel) (by decide +kernel)
theorem kw_473 : (Cond.static ⟨"RingMastersLaw", "sapwood", "(LRingMasters;II[J)I"⟩) ∈ wW := wW_t 473 (by decide +kernel) (by decide +kernel)
theorem kw_474 : (Cond.codeWith ⟨"RingMastersLaw", "sapwood", "(LRingMasters;II[J)I"⟩ method_16_code 5 (some FieldType.int) [(0, 10, 13, 15)]) ∈ wW := wW_t 474 (by decide +kernel) (by decide +kernel)
theorem kw_475 : (Cond.methodLink "RingMastersLaw" 60 ⟨"RingMasters", "sapwood", "(II)I"⟩) ∈ wW := wW_t 475 (by decide +kernel) (by decide +kernel)
theorem kw_476 : (Cond.instanceMethod ⟨"RingMasters", "sapwood", "(II)I"⟩) ∈ wW := wW_t 476 (by decide +kernel) (by decide +kernel)
theorem kw_477 : (Cond.selects "RingMasters" ⟨"RingMasters", "sapwood", "(II)I"⟩ ⟨"RingMasters", "sapwood", "(II)I"⟩) ∈ wW := wW_t 477 (by decide +kernel) (by decide +kernel)
theorem kw_478 : (Cond.code ⟨"RingMasters", "sapwood", "(II)I"⟩ prog_1_method_15_code 4 (some FieldType.int)) ∈ wW := wW_t 478 (by decide +kernel) (by decide +kernel)
theorem kw_481 : (Cond.methodLink "RingMastersLaw" 129 ⟨"RingMastersLaw", "felling", "(LRingMasters;IIII[J)I"⟩) ∈ wW := wW_t 481 (by decide +kernel) (by decide +kernel)
theorem kw_482 : (Cond.static ⟨"RingMastersLaw", "felling", "(LRingMasters;IIII[J)I"⟩) ∈ wW := wW_t 482 (by decide +kernel) (by decide +kernel)
theorem kw_483 : (Cond.codeWith ⟨"RingMastersLaw", "felling", "(LRingMasters;IIII[J)I"⟩ method_17_code 7 (some FieldType.int) [(0, 14, 17, 25), (0, 14, 21, 13), (0, 14, 25, 15)]) ∈ wW := wW_t 483 (by decide +kernel) (by decide +kernel)
theorem kw_484 : (Cond.methodLink "RingMastersLaw" 63 ⟨"RingMasters", "felling", "(IIII)I"⟩) ∈ wW := wW_t 484 (by decide +kernel) (by decide +kernel)
theorem kw_485 : (Cond.instanceMethod ⟨"RingMasters", "felling", "(IIII)I"⟩) ∈ wW := wW_t 485 (by decide +kernel) (by decide +kernel)
theorem kw_486 : (Cond.selects "RingMasters" ⟨"RingMasters", "felling", "(IIII)I"⟩ ⟨"RingMasters", "felling", "(IIII)I"⟩) ∈ wW := wW_t 486 (by decide +kernel) (by decide +kernel)
theorem kw_487 : (Cond.code ⟨"RingMasters", "felling", "(IIII)I"⟩ prog_1_method_16_code 7 (some FieldType.int)) ∈ wW := wW_t 487 (by decide +kernel) (by decide +kernel)
theorem kw_491 : (Cond.methodLink "RingMasters" 207 ⟨"RingMasters", "shortestYears", "(IIII)I"⟩) ∈ wW := wW_t 491 (by decide +kernel) (by decide +kernel)
theorem kw_493 : (Cond.instanceMethod ⟨"RingMasters", "shortestYears", "(IIII)I"⟩) ∈ wW := wW_t 493 (by decide +kernel) (by decide +kernel)
theorem kw_494 : (Cond.code ⟨"RingMasters", "shortestYears", "(IIII)I"⟩ prog_1_method_36_code 11 (some FieldType.int)) ∈ wW := wW_t 494 (by decide +kernel) (by decide +kernel)
theorem kw_495 : (Cond.methodLink "RingMasters" 267 ⟨"RingMasters", "endOfShare", "(IJI)I"⟩) ∈ wW := wW_t 495 (by decide +kernel) (by decide +kernel)
theorem kw_497 : (Cond.instanceMethod ⟨"RingMasters", "endOfShare", "(IJI)I"⟩) ∈ wW := wW_t 497 (by decide +kernel) (by decide +kernel)
theorem kw_498 : (Cond.code ⟨"RingMasters", "endOfShare", "(IJI)I"⟩ prog_1_method_37_code 8 (some FieldType.int)) ∈ wW := wW_t 498 (by decide +kernel) (by decide +kernel)
theorem kw_499 : (Cond.methodLink "RingMastersLaw" 132 ⟨"RingMastersLaw", "sameTree", "(LRingMasters;II[J)I"⟩) ∈ wW := wW_t 499 (by decide +kernel) (by decide +kernel)
theorem kw_500 : (Cond.static ⟨"RingMastersLaw", "sameTree", "(LRingMasters;II[J)I"⟩) ∈ wW := wW_t 500 (by decide +kernel) (by decide +kernel)
theorem kw_501 : (Cond.codeWith ⟨"RingMastersLaw", "sameTree", "(LRingMasters;II[J)I"⟩ method_18_code 5 (some FieldType.int) [(0, 17, 20, 25)]) ∈ wW := wW_t 501 (by decide +kernel) (by decide +kernel)
theorem kw_502 : (Cond.methodLink "RingMastersLaw" 66 ⟨"RingMasters", "sameTree", "(II)Z"⟩) ∈ wW := wW_t 502 (by decide +kernel) (by decide +kernel)
theorem kw_503 : (Cond.instanceMethod ⟨"RingMasters", "sameTree", "(II)Z"⟩) ∈ wW := wW_t 503 (by decide +kernel) (by decide +kernel)
theorem kw_504 : (Cond.selects "RingMasters" ⟨"RingMasters", "sameTree", "(II)Z"⟩ ⟨"RingMasters", "sameTree", "(II)Z"⟩) ∈ wW := wW_t 504 (by decide +kernel) (by decide +kernel)
theorem kw_505 : (Cond.code ⟨"RingMasters", "sameTree", "(II)Z"⟩ prog_1_method_17_code 7 (some FieldType.boolean)) ∈ wW := wW_t 505 (by decide +kernel) (by decide +kernel)
theorem kw_506 : (Cond.methodLink "RingMastersLaw" 135 ⟨"RingMastersLaw", "count", "(LRingMasters;I[J)I"⟩) ∈ wW := wW_t 506 (by decide +kernel) (by decide +kernel)
theorem kw_507 : (Cond.static ⟨"RingMastersLaw", "count", "(LRingMasters;I[J)I"⟩) ∈ wW := wW_t 507 (by decide +kernel) (by decide +kernel)
theorem kw_508 : (Cond.codeWith ⟨"RingMastersLaw", "count", "(LRingMasters;I[J)I"⟩ method_19_code 4 (some FieldType.int) [(0, 9, 12, 25)]) ∈ wW := wW_t 508 (by decide +kernel) (by decide +kernel)
theorem kw_509 : (Cond.methodLink "RingMastersLaw" 70 ⟨"RingMasters", "count", "(I)I"⟩) ∈ wW := wW_t 509 (by decide +kernel) (by decide +kernel)
theorem kw_510 : (Cond.instanceMethod ⟨"RingMasters", "count", "(I)I"⟩) ∈ wW := wW_t 510 (by decide +kernel) (by decide +kernel)
theorem kw_511 : (Cond.selects "RingMasters" ⟨"RingMasters", "count", "(I)I"⟩ ⟨"RingMasters", "count", "(I)I"⟩) ∈ wW := wW_t 511 (by decide +kernel) (by decide +kernel)
theorem kw_512 : (Cond.code ⟨"RingMasters", "count", "(I)I"⟩ prog_1_method_18_code 2 (some FieldType.int)) ∈ wW := wW_t 512 (by decide +kernel) (by decide +kernel)
theorem kw_513 : (Cond.methodLink "RingMasters" 228 ⟨"RingMasters", "floatingRows", "()I"⟩) ∈ wW := wW_t 513 (by decide +kernel) (by decide +kernel)
theorem kw_515 : (Cond.instanceMethod ⟨"RingMasters", "floatingRows", "()I"⟩) ∈ wW := wW_t 515 (by decide +kernel) (by decide +kernel)
theorem kw_516 : (Cond.code ⟨"RingMasters", "floatingRows", "()I"⟩ prog_1_method_25_code 3 (some FieldType.int)) ∈ wW := wW_t 516 (by decide +kernel) (by decide +kernel)
theorem kw_517 : (Cond.classLink "RingMastersLaw" 74 "RingMastersModel") ∈ wW := wW_t 517 (by decide +kernel) (by decide +kernel)
theorem kw_518 : (Cond.instantiable "RingMastersModel" 20) ∈ wW := wW_t 518 (by decide +kernel) (by decide +kernel)
theorem kw_519 : (Cond.methodLink "RingMastersLaw" 76 ⟨"RingMastersModel", "<init>", "()V"⟩) ∈ wW := wW_t 519 (by decide +kernel) (by decide +kernel)
theorem kw_520 : (Cond.instanceMethod ⟨"RingMastersModel", "<init>", "()V"⟩) ∈ wW := wW_t 520 (by decide +kernel) (by decide +kernel)
theorem kw_521 : (Cond.code ⟨"RingMastersModel", "<init>", "()V"⟩ prog_7_method_1_code 2 none) ∈ wW := wW_t 521 (by decide +kernel) (by decide +kernel)
theorem kw_522 : (Cond.methodLink "RingMastersModel" 1 ⟨"java/lang/Object", "<init>", "()V"⟩) ∈ wW := wW_t 522 (by decide +kernel) (by decide +kernel)
theorem kw_523 : (Cond.fieldLink "RingMastersModel" 43 "RingMastersModel" "thrown" "I") ∈ wW := wW_t 523 (by decide +kernel) (by decide +kernel)
theorem kw_524 : (Cond.fieldLink "RingMastersModel" 57 "RingMastersModel" "padded" "I") ∈ wW := wW_t 524 (by decide +kernel) (by decide +kernel)
theorem kw_525 : (Cond.fieldLink "RingMastersModel" 7 "RingMastersModel" "pad" "[I") ∈ wW := wW_t 525 (by decide +kernel) (by decide +kernel)
theorem kw_526 : (Cond.fieldLink "RingMastersModel" 47 "RingMastersModel" "series" "I") ∈ wW := wW_t 526 (by decide +kernel) (by decide +kernel)
theorem kw_527 : (Cond.fieldLink "RingMastersModel" 13 "RingMastersModel" "sizes" "[I") ∈ wW := wW_t 527 (by decide +kernel) (by decide +kernel)
theorem kw_528 : (Cond.fieldLink "RingMastersModel" 16 "RingMastersModel" "evens" "[I") ∈ wW := wW_t 528 (by decide +kernel) (by decide +kernel)
theorem kw_529 : (Cond.fieldLink "RingMastersModel" 19 "RingMastersModel" "places" "[I") ∈ wW := wW_t 529 (by decide +kernel) (by decide +kernel)
theorem kw_530 : (Cond.fieldLink "RingMastersModel" 54 "RingMastersModel" "masters" "I") ∈ wW := wW_t 530 (by decide +kernel) (by decide +kernel)
theorem kw_531 : (Cond.fieldLink "RingMastersModel" 22 "RingMastersModel" "lay" "[I") ∈ wW := wW_t 531 (by decide +kernel) (by decide +kernel)
theorem kw_532 : (Cond.fieldLink "RingMastersModel" 25 "RingMastersModel" "firsts" "[I") ∈ wW := wW_t 532 (by decide +kernel) (by decide +kernel)
theorem kw_533 : (Cond.fieldLink "RingMastersModel" 28 "RingMastersModel" "lasts" "[I") ∈ wW := wW_t 533 (by decide +kernel) (by decide +kernel)
theorem kw_534 : (Cond.fieldLink "RingMastersModel" 31 "RingMastersModel" "weights" "[I") ∈ wW := wW_t 534 (by decide +kernel) (by decide +kernel)
theorem kw_535 : (Cond.fieldLink "RingMastersModel" 89 "RingMastersModel" "sum" "I") ∈ wW := wW_t 535 (by decide +kernel) (by decide +kernel)
theorem kw_536 : (Cond.fieldLink "RingMastersModel" 92 "RingMastersModel" "years" "I") ∈ wW := wW_t 536 (by decide +kernel) (by decide +kernel)
theorem kw_537 : (Cond.fieldLink "RingMastersModel" 99 "RingMastersModel" "dated" "I") ∈ wW := wW_t 537 (by decide +kernel) (by decide +kernel)
theorem kw_538 : (Cond.fieldLink "RingMastersModel" 102 "RingMastersModel" "datedSum" "I") ∈ wW := wW_t 538 (by decide +kernel) (by decide +kernel)
theorem kw_539 : (Cond.fieldLink "RingMastersModel" 105 "RingMastersModel" "datedYears" "I") ∈ wW := wW_t 539 (by decide +kernel) (by decide +kernel)
theorem kw_540 : (Cond.fieldLink "RingMastersModel" 34 "RingMastersModel" "dates" "[I") ∈ wW := wW_t 540 (by decide +kernel) (by decide +kernel)
theorem kw_541 : (Cond.fieldLink "RingMastersModel" 37 "RingMastersModel" "sums" "[I") ∈ wW := wW_t 541 (by decide +kernel) (by decide +kernel)
theorem kw_542 : (Cond.fieldLink "RingMastersModel" 40 "RingMastersModel" "counts" "[I") ∈ wW := wW_t 542 (by decide +kernel) (by decide +kernel)
theorem kw_543 : (Cond.lays "RingMastersModel" "RingMastersModel" "thrown" "I") ∈ wW := wW_t 543 (by decide +kernel) (by decide +kernel)
theorem kw_545 : (Cond.lays "RingMastersModel" "RingMastersModel" "padded" "I") ∈ wW := wW_t 545 (by decide +kernel) (by decide +kernel)
theorem kw_547 : (Cond.laysFinal "RingMastersModel" "RingMastersModel" "pad" "[I") ∈ wW := wW_t 547 (by decide +kernel) (by decide +kernel)
theorem kw_549 : (Cond.lays "RingMastersModel" "RingMastersModel" "series" "I") ∈ wW := wW_t 549 (by decide +kernel) (by decide +kernel)
theorem kw_551 : (Cond.laysFinal "RingMastersModel" "RingMastersModel" "sizes" "[I") ∈ wW := wW_t 551 (by decide +kernel) (by decide +kernel)
theorem kw_553 : (Cond.laysFinal "RingMastersModel" "RingMastersModel" "evens" "[I") ∈ wW := wW_t 553 (by decide +kernel) (by decide +kernel)
theorem kw_555 : (Cond.laysFinal "RingMastersModel" "RingMastersModel" "places" "[I") ∈ wW := wW_t 555 (by decide +kernel) (by decide +kernel)
theorem kw_557 : (Cond.lays "RingMastersModel" "RingMastersModel" "masters" "I") ∈ wW := wW_t 557 (by decide +kernel) (by decide +kernel)
theorem kw_559 : (Cond.laysFinal "RingMastersModel" "RingMastersModel" "lay" "[I") ∈ wW := wW_t 559 (by decide +kernel) (by decide +kernel)
theorem kw_561 : (Cond.laysFinal "RingMastersModel" "RingMastersModel" "firsts" "[I") ∈ wW := wW_t 561 (by decide +kernel) (by decide +kernel)
theorem kw_563 : (Cond.laysFinal "RingMastersModel" "RingMastersModel" "lasts" "[I") ∈ wW := wW_t 563 (by decide +kernel) (by decide +kernel)
theorem kw_565 : (Cond.laysFinal "RingMastersModel" "RingMastersModel" "weights" "[I") ∈ wW := wW_t 565 (by decide +kernel) (by decide +kernel)
theorem kw_567 : (Cond.lays "RingMastersModel" "RingMastersModel" "sum" "I") ∈ wW := wW_t 567 (by decide +kernel) (by decide +kernel)
theorem kw_569 : (Cond.lays "RingMastersModel" "RingMastersModel" "years" "I") ∈ wW := wW_t 569 (by decide +kernel) (by decide +kernel)
theorem kw_571 : (Cond.lays "RingMastersModel" "RingMastersModel" "dated" "I") ∈ wW := wW_t 571 (by decide +kernel) (by decide +kernel)
theorem kw_573 : (Cond.lays "RingMastersModel" "RingMastersModel" "datedSum" "I") ∈ wW := wW_t 573 (by decide +kernel) (by decide +kernel)
theorem kw_575 : (Cond.lays "RingMastersModel" "RingMastersModel" "datedYears" "I") ∈ wW := wW_t 575 (by decide +kernel) (by decide +kernel)
theorem kw_577 : (Cond.laysFinal "RingMastersModel" "RingMastersModel" "dates" "[I") ∈ wW := wW_t 577 (by decide +kernel) (by decide +kernel)
theorem kw_579 : (Cond.laysFinal "RingMastersModel" "RingMastersModel" "sums" "[I") ∈ wW := wW_t 579 (by decide +kernel) (by decide +kernel)
theorem kw_581 : (Cond.laysFinal "RingMastersModel" "RingMastersModel" "counts" "[I") ∈ wW := wW_t 581 (by decide +kernel) (by decide +kernel)
theorem kw_584 : (Cond.methodLink "RingMastersLaw" 83 ⟨"RingMastersModel", "thrown", "()I"⟩) ∈ wW := wW_t 584 (by decide +kernel) (by decide +kernel)
theorem kw_585 : (Cond.instanceMethod ⟨"RingMastersModel", "thrown", "()I"⟩) ∈ wW := wW_t 585 (by decide +kernel) (by decide +kernel)
theorem kw_586 : (Cond.selects "RingMastersModel" ⟨"RingMastersModel", "thrown", "()I"⟩ ⟨"RingMastersModel", "thrown", "()I"⟩) ∈ wW := wW_t 586 (by decide +kernel) (by decide +kernel)
theorem kw_587 : (Cond.code ⟨"RingMastersModel", "thrown", "()I"⟩ prog_7_method_2_code 1 (some FieldType.int)) ∈ wW := wW_t 587 (by decide +kernel) (by decide +kernel)
theorem kw_588 : (Cond.methodLink "RingMastersLaw" 82 ⟨"RingMastersModel", "ring", "(I)I"⟩) ∈ wW := wW_t 588 (by decide +kernel) (by decide +kernel)
theorem kw_589 : (Cond.instanceMethod ⟨"RingMastersModel", "ring", "(I)I"⟩) ∈ wW := wW_t 589 (by decide +kernel) (by decide +kernel)
theorem kw_590 : (Cond.selects "RingMastersModel" ⟨"RingMastersModel", "ring", "(I)I"⟩ ⟨"RingMastersModel", "ring", "(I)I"⟩) ∈ wW := wW_t 590 (by decide +kernel) (by decide +kernel)
theorem kw_591 : (Cond.code ⟨"RingMastersModel", "ring", "(I)I"⟩ prog_7_method_7_code 2 (some FieldType.int)) ∈ wW := wW_t 591 (by decide +kernel) (by decide +kernel)
theorem kw_592 : (Cond.methodLink "RingMastersModel" 50 ⟨"RingMastersModel", "within", "(III)Z"⟩) ∈ wW := wW_t 592 (by decide +kernel) (by decide +kernel)
theorem kw_593 : (Cond.static ⟨"RingMastersModel", "within", "(III)Z"⟩) ∈ wW := wW_t 593 (by decide +kernel) (by decide +kernel)
theorem kw_594 : (Cond.code ⟨"RingMastersModel", "within", "(III)Z"⟩ prog_7_method_4_code 3 (some FieldType.boolean)) ∈ wW := wW_t 594 (by decide +kernel) (by decide +kernel)
theorem kw_595 : (Cond.methodLink "RingMastersModel" 60 ⟨"RingMastersModel", "goes", "(ZZZ)Z"⟩) ∈ wW := wW_t 595 (by decide +kernel) (by decide +kernel)
theorem kw_597 : (Cond.instanceMethod ⟨"RingMastersModel", "goes", "(ZZZ)Z"⟩) ∈ wW := wW_t 597 (by decide +kernel) (by decide +kernel)
theorem kw_598 : (Cond.code ⟨"RingMastersModel", "goes", "(ZZZ)Z"⟩ prog_7_method_3_code 4 (some FieldType.boolean)) ∈ wW := wW_t 598 (by decide +kernel) (by decide +kernel)
theorem kw_599 : (Cond.methodLink "RingMastersLaw" 89 ⟨"RingMastersModel", "series", "()I"⟩) ∈ wW := wW_t 599 (by decide +kernel) (by decide +kernel)
theorem kw_600 : (Cond.instanceMethod ⟨"RingMastersModel", "series", "()I"⟩) ∈ wW := wW_t 600 (by decide +kernel) (by decide +kernel)
theorem kw_601 : (Cond.selects "RingMastersModel" ⟨"RingMastersModel", "series", "()I"⟩ ⟨"RingMastersModel", "series", "()I"⟩) ∈ wW := wW_t 601 (by decide +kernel) (by decide +kernel)
theorem kw_602 : (Cond.code ⟨"RingMastersModel", "series", "()I"⟩ prog_7_method_8_code 4 (some FieldType.int)) ∈ wW := wW_t 602 (by decide +kernel) (by decide +kernel)
theorem kw_603 : (Cond.methodLink "RingMastersLaw" 93 ⟨"RingMastersModel", "evened", "(II)I"⟩) ∈ wW := wW_t 603 (by decide +kernel) (by decide +kernel)
theorem kw_604 : (Cond.instanceMethod ⟨"RingMastersModel", "evened", "(II)I"⟩) ∈ wW := wW_t 604 (by decide +kernel) (by decide +kernel)
theorem kw_605 : (Cond.selects "RingMastersModel" ⟨"RingMastersModel", "evened", "(II)I"⟩ ⟨"RingMastersModel", "evened", "(II)I"⟩) ∈ wW := wW_t 605 (by decide +kernel) (by decide +kernel)
theorem kw_606 : (Cond.code ⟨"RingMastersModel", "evened", "(II)I"⟩ prog_7_method_10_code 4 (some FieldType.int)) ∈ wW := wW_t 606 (by decide +kernel) (by decide +kernel)
theorem kw_607 : (Cond.methodLink "RingMastersModel" 64 ⟨"RingMastersModel", "isSeries", "(I)Z"⟩) ∈ wW := wW_t 607 (by decide +kernel) (by decide +kernel)
theorem kw_609 : (Cond.instanceMethod ⟨"RingMastersModel", "isSeries", "(I)Z"⟩) ∈ wW := wW_t 609 (by decide +kernel) (by decide +kernel)
theorem kw_610 : (Cond.code ⟨"RingMastersModel", "isSeries", "(I)Z"⟩ prog_7_method_5_code 2 (some FieldType.boolean)) ∈ wW := wW_t 610 (by decide +kernel) (by decide +kernel)
theorem kw_611 : (Cond.methodLink "RingMastersModel" 68 ⟨"RingMastersModel", "even", "(II)I"⟩) ∈ wW := wW_t 611 (by decide +kernel) (by decide +kernel)
theorem kw_613 : (Cond.instanceMethod ⟨"RingMastersModel", "even", "(II)I"⟩) ∈ wW := wW_t 613 (by decide +kernel) (by decide +kernel)
theorem kw_614 : (Cond.code ⟨"RingMastersModel", "even", "(II)I"⟩ prog_7_method_9_code 3 (some FieldType.int)) ∈ wW := wW_t 614 (by decide +kernel) (by decide +kernel)
theorem kw_615 : (Cond.methodLink "RingMastersLaw" 96 ⟨"RingMastersModel", "place", "(II)I"⟩) ∈ wW := wW_t 615 (by decide +kernel) (by decide +kernel)
theorem kw_616 : (Cond.instanceMethod ⟨"RingMastersModel", "place", "(II)I"⟩) ∈ wW := wW_t 616 (by decide +kernel) (by decide +kernel)
theorem kw_617 : (Cond.selects "RingMastersModel" ⟨"RingMastersModel", "place", "(II)I"⟩ ⟨"RingMastersModel", "place", "(II)I"⟩) ∈ wW := wW_t 617 (by decide +kernel) (by decide +kernel)
theorem kw_618 : (Cond.code ⟨"RingMastersModel", "place", "(II)I"⟩ prog_7_method_11_code 4 (some FieldType.int)) ∈ wW := wW_t 618 (by decide +kernel) (by decide +kernel)
theorem kw_619 : (Cond.methodLink "RingMastersLaw" 99 ⟨"RingMastersModel", "master", "(I)I"⟩) ∈ wW := wW_t 619 (by decide +kernel) (by decide +kernel)
theorem kw_620 : (Cond.instanceMethod ⟨"RingMastersModel", "master", "(I)I"⟩) ∈ wW := wW_t 620 (by decide +kernel) (by decide +kernel)
theorem kw_621 : (Cond.selects "RingMastersModel" ⟨"RingMastersModel", "master", "(I)I"⟩ ⟨"RingMastersModel", "master", "(I)I"⟩) ∈ wW := wW_t 621 (by decide +kernel) (by decide +kernel)
theorem kw_622 : (Cond.code ⟨"RingMastersModel", "master", "(I)I"⟩ prog_7_method_12_code 6 (some FieldType.int)) ∈ wW := wW_t 622 (by decide +kernel) (by decide +kernel)
theorem kw_623 : (Cond.methodLink "RingMastersLaw" 102 ⟨"RingMastersModel", "about", "(II)I"⟩) ∈ wW := wW_t 623 (by decide +kernel) (by decide +kernel)
theorem kw_624 : (Cond.instanceMethod ⟨"RingMastersModel", "about", "(II)I"⟩) ∈ wW := wW_t 624 (by decide +kernel) (by decide +kernel)
theorem kw_625 : (Cond.selects "RingMastersModel" ⟨"RingMastersModel", "about", "(II)I"⟩ ⟨"RingMastersModel", "about", "(II)I"⟩) ∈ wW := wW_t 625 (by decide +kernel) (by decide +kernel)
theorem kw_626 : (Cond.code ⟨"RingMastersModel", "about", "(II)I"⟩ prog_7_method_16_code 5 (some FieldType.int)) ∈ wW := wW_t 626 (by decide +kernel) (by decide +kernel)
theorem kw_627 : (Cond.methodLink "RingMastersModel" 75 ⟨"RingMastersModel", "isMaster", "(I)Z"⟩) ∈ wW := wW_t 627 (by decide +kernel) (by decide +kernel)
theorem kw_629 : (Cond.instanceMethod ⟨"RingMastersModel", "isMaster", "(I)Z"⟩) ∈ wW := wW_t 629 (by decide +kernel) (by decide +kernel)
theorem kw_630 : (Cond.code ⟨"RingMastersModel", "isMaster", "(I)Z"⟩ prog_7_method_6_code 2 (some FieldType.boolean)) ∈ wW := wW_t 630 (by decide +kernel) (by decide +kernel)
theorem kw_631 : (Cond.methodLink "RingMastersLaw" 105 ⟨"RingMastersModel", "at", "(II)I"⟩) ∈ wW := wW_t 631 (by decide +kernel) (by decide +kernel)
theorem kw_632 : (Cond.instanceMethod ⟨"RingMastersModel", "at", "(II)I"⟩) ∈ wW := wW_t 632 (by decide +kernel) (by decide +kernel)
theorem kw_633 : (Cond.selects "RingMastersModel" ⟨"RingMastersModel", "at", "(II)I"⟩ ⟨"RingMastersModel", "at", "(II)I"⟩) ∈ wW := wW_t 633 (by decide +kernel) (by decide +kernel)
theorem kw_634 : (Cond.code ⟨"RingMastersModel", "at", "(II)I"⟩ prog_7_method_18_code 3 (some FieldType.int)) ∈ wW := wW_t 634 (by decide +kernel) (by decide +kernel)
theorem kw_635 : (Cond.methodLink "RingMastersModel" 78 ⟨"RingMastersModel", "isYear", "(II)Z"⟩) ∈ wW := wW_t 635 (by decide +kernel) (by decide +kernel)
theorem kw_637 : (Cond.instanceMethod ⟨"RingMastersModel", "isYear", "(II)Z"⟩) ∈ wW := wW_t 637 (by decide +kernel) (by decide +kernel)
theorem kw_638 : (Cond.code ⟨"RingMastersModel", "isYear", "(II)Z"⟩ prog_7_method_17_code 3 (some FieldType.boolean)) ∈ wW := wW_t 638 (by decide +kernel) (by decide +kernel)
theorem kw_639 : (Cond.methodLink "RingMastersModel" 82 ⟨"RingMastersModel", "valueOf", "(III)I"⟩) ∈ wW := wW_t 639 (by decide +kernel) (by decide +kernel)
theorem kw_641 : (Cond.instanceMethod ⟨"RingMastersModel", "valueOf", "(III)I"⟩) ∈ wW := wW_t 641 (by decide +kernel) (by decide +kernel)
theorem kw_642 : (Cond.code ⟨"RingMastersModel", "valueOf", "(III)I"⟩ prog_7_method_15_code 10 (some FieldType.int)) ∈ wW := wW_t 642 (by decide +kernel) (by decide +kernel)
theorem kw_643 : (Cond.methodLink "RingMastersModel" 72 ⟨"RingMastersModel", "has", "(III)Z"⟩) ∈ wW := wW_t 643 (by decide +kernel) (by decide +kernel)
theorem kw_645 : (Cond.instanceMethod ⟨"RingMastersModel", "has", "(III)Z"⟩) ∈ wW := wW_t 645 (by decide +kernel) (by decide +kernel)
theorem kw_646 : (Cond.code ⟨"RingMastersModel", "has", "(III)Z"⟩ prog_7_method_13_code 5 (some FieldType.boolean)) ∈ wW := wW_t 646 (by decide +kernel) (by decide +kernel)
theorem kw_647 : (Cond.methodLink "RingMastersLaw" 108 ⟨"RingMastersModel", "depth", "(II)I"⟩) ∈ wW := wW_t 647 (by decide +kernel) (by decide +kernel)
theorem kw_648 : (Cond.instanceMethod ⟨"RingMastersModel", "depth", "(II)I"⟩) ∈ wW := wW_t 648 (by decide +kernel) (by decide +kernel)
theorem kw_649 : (Cond.selects "RingMastersModel" ⟨"RingMastersModel", "depth", "(II)I"⟩ ⟨"RingMastersModel", "depth", "(II)I"⟩) ∈ wW := wW_t 649 (by decide +kernel) (by decide +kernel)
theorem kw_650 : (Cond.code ⟨"RingMastersModel", "depth", "(II)I"⟩ prog_7_method_19_code 3 (some FieldType.int)) ∈ wW := wW_t 650 (by decide +kernel) (by decide +kernel)
theorem kw_651 : (Cond.methodLink "RingMastersModel" 86 ⟨"RingMastersModel", "depthOf", "(III)I"⟩) ∈ wW := wW_t 651 (by decide +kernel) (by decide +kernel)
theorem kw_653 : (Cond.instanceMethod ⟨"RingMastersModel", "depthOf", "(III)I"⟩) ∈ wW := wW_t 653 (by decide +kernel) (by decide +kernel)
theorem kw_654 : (Cond.code ⟨"RingMastersModel", "depthOf", "(III)I"⟩ prog_7_method_14_code 6 (some FieldType.int)) ∈ wW := wW_t 654 (by decide +kernel) (by decide +kernel)
theorem kw_655 : (Cond.methodLink "RingMastersLaw" 112 ⟨"RingMastersModel", "leftOut", "(III)I"⟩) ∈ wW := wW_t 655 (by decide +kernel) (by decide +kernel)
theorem kw_656 : (Cond.instanceMethod ⟨"RingMastersModel", "leftOut", "(III)I"⟩) ∈ wW := wW_t 656 (by decide +kernel) (by decide +kernel)
theorem kw_657 : (Cond.selects "RingMastersModel" ⟨"RingMastersModel", "leftOut", "(III)I"⟩ ⟨"RingMastersModel", "leftOut", "(III)I"⟩) ∈ wW := wW_t 657 (by decide +kernel) (by decide +kernel)
theorem kw_658 : (Cond.code ⟨"RingMastersModel", "leftOut", "(III)I"⟩ prog_7_method_22_code 5 (some FieldType.int)) ∈ wW := wW_t 658 (by decide +kernel) (by decide +kernel)
theorem kw_659 : (Cond.methodLink "RingMastersModel" 95 ⟨"RingMastersModel", "measure", "(IIII)V"⟩) ∈ wW := wW_t 659 (by decide +kernel) (by decide +kernel)
theorem kw_661 : (Cond.instanceMethod ⟨"RingMastersModel", "measure", "(IIII)V"⟩) ∈ wW := wW_t 661 (by decide +kernel) (by decide +kernel)
theorem kw_662 : (Cond.code ⟨"RingMastersModel", "measure", "(IIII)V"⟩ prog_7_method_20_code 9 none) ∈ wW := wW_t 662 (by decide +kernel) (by decide +kernel)
theorem kw_663 : (Cond.methodLink "RingMastersLaw" 116 ⟨"RingMastersModel", "distance", "(IIII)I"⟩) ∈ wW := wW_t 663 (by decide +kernel) (by decide +kernel)
theorem kw_664 : (Cond.instanceMethod ⟨"RingMastersModel", "distance", "(IIII)I"⟩) ∈ wW := wW_t 664 (by decide +kernel) (by decide +kernel)
theorem kw_665 : (Cond.selects "RingMastersModel" ⟨"RingMastersModel", "distance", "(IIII)I"⟩ ⟨"RingMastersModel", "distance", "(IIII)I"⟩) ∈ wW := wW_t 665 (by decide +kernel) (by decide +kernel)
theorem kw_666 : (Cond.code ⟨"RingMastersModel", "distance", "(IIII)I"⟩ prog_7_method_23_code 5 (some FieldType.int)) ∈ wW := wW_t 666 (by decide +kernel) (by decide +kernel)
theorem kw_667 : (Cond.methodLink "RingMastersLaw" 119 ⟨"RingMastersModel", "date", "(III)I"⟩) ∈ wW := wW_t 667 (by decide +kernel) (by decide +kernel)
theorem kw_668 : (Cond.instanceMethod ⟨"RingMastersModel", "date", "(III)I"⟩) ∈ wW := wW_t 668 (by decide +kernel) (by decide +kernel)
theorem kw_669 : (Cond.selects "RingMastersModel" ⟨"RingMastersModel", "date", "(III)I"⟩ ⟨"RingMastersModel", "date", "(III)I"⟩) ∈ wW := wW_t 669 (by decide +kernel) (by decide +kernel)
theorem kw_670 : (Cond.code ⟨"RingMastersModel", "date", "(III)I"⟩ prog_7_method_26_code 4 (some FieldType.int)) ∈ wW := wW_t 670 (by decide +kernel) (by decide +kernel)
theorem kw_671 : (Cond.methodLink "RingMastersModel" 112 ⟨"RingMastersModel", "isLeast", "(I)Z"⟩) ∈ wW := wW_t 671 (by decide +kernel) (by decide +kernel)
theorem kw_672 : (Cond.static ⟨"RingMastersModel", "isLeast", "(I)Z"⟩) ∈ wW := wW_t 672 (by decide +kernel) (by decide +kernel)
theorem kw_673 : (Cond.code ⟨"RingMastersModel", "isLeast", "(I)Z"⟩ prog_7_method_25_code 1 (some FieldType.boolean)) ∈ wW := wW_t 673 (by decide +kernel) (by decide +kernel)
theorem kw_674 : (Cond.methodLink "RingMastersModel" 115 ⟨"RingMastersModel", "seek", "(III)V"⟩) ∈ wW := wW_t 674 (by decide +kernel) (by decide +kernel)
theorem kw_676 : (Cond.instanceMethod ⟨"RingMastersModel", "seek", "(III)V"⟩) ∈ wW := wW_t 676 (by decide +kernel) (by decide +kernel)
theorem kw_677 : (Cond.code ⟨"RingMastersModel", "seek", "(III)V"⟩ prog_7_method_24_code 5 none) ∈ wW := wW_t 677 (by decide +kernel) (by decide +kernel)
theorem kw_678 : (Cond.methodLink "RingMastersModel" 108 ⟨"RingMastersModel", "isLess", "(IIII)Z"⟩) ∈ wW := wW_t 678 (by decide +kernel) (by decide +kernel)
theorem kw_679 : (Cond.static ⟨"RingMastersModel", "isLess", "(IIII)Z"⟩) ∈ wW := wW_t 679 (by decide +kernel) (by decide +kernel)
theorem kw_680 : (Cond.code ⟨"RingMastersModel", "isLess", "(IIII)Z"⟩ prog_7_method_21_code 6 (some FieldType.boolean)) ∈ wW := wW_t 680 (by decide +kernel) (by decide +kernel)
theorem kw_681 : (Cond.methodLink "RingMastersLaw" 122 ⟨"RingMastersModel", "agrees", "(III)Z"⟩) ∈ wW := wW_t 681 (by decide +kernel) (by decide +kernel)
theorem kw_682 : (Cond.instanceMethod ⟨"RingMastersModel", "agrees", "(III)Z"⟩) ∈ wW := wW_t 682 (by decide +kernel) (by decide +kernel)
theorem kw_683 : (Cond.selects "RingMastersModel" ⟨"RingMastersModel", "agrees", "(III)Z"⟩ ⟨"RingMastersModel", "agrees", "(III)Z"⟩) ∈ wW := wW_t 683 (by decide +kernel) (by decide +kernel)
theorem kw_684 : (Cond.code ⟨"RingMastersModel", "agrees", "(III)Z"⟩ prog_7_method_27_code 8 (some FieldType.boolean)) ∈ wW := wW_t 684 (by decide +kernel) (by decide +kernel)
theorem kw_685 : (Cond.methodLink "RingMastersLaw" 125 ⟨"RingMastersModel", "source", "(III)I"⟩) ∈ wW := wW_t 685 (by decide +kernel) (by decide +kernel)
theorem kw_686 : (Cond.instanceMethod ⟨"RingMastersModel", "source", "(III)I"⟩) ∈ wW := wW_t 686 (by decide +kernel) (by decide +kernel)
theorem kw_687 : (Cond.selects "RingMastersModel" ⟨"RingMastersModel", "source", "(III)I"⟩ ⟨"RingMastersModel", "source", "(III)I"⟩) ∈ wW := wW_t 687 (by decide +kernel) (by decide +kernel)
theorem kw_688 : (Cond.code ⟨"RingMastersModel", "source", "(III)I"⟩ prog_7_method_28_code 10 (some FieldType.int)) ∈ wW := wW_t 688 (by decide +kernel) (by decide +kernel)
theorem kw_689 : (Cond.methodLink "RingMastersLaw" 128 ⟨"RingMastersModel", "sapwood", "(II)I"⟩) ∈ wW := wW_t 689 (by decide +kernel) (by decide +kernel)
theorem kw_690 : (Cond.instanceMethod ⟨"RingMastersModel", "sapwood", "(II)I"⟩) ∈ wW := wW_t 690 (by decide +kernel) (by decide +kernel)
theorem kw_691 : (Cond.selects "RingMastersModel" ⟨"RingMastersModel", "sapwood", "(II)I"⟩ ⟨"RingMastersModel", "sapwood", "(II)I"⟩) ∈ wW := wW_t 691 (by decide +kernel) (by decide +kernel)
theorem kw_692 : (Cond.code ⟨"RingMastersModel", "sapwood", "(II)I"⟩ prog_7_method_29_code 4 (some FieldType.int)) ∈ wW := wW_t 692 (by decide +kernel) (by decide +kernel)
theorem kw_693 : (Cond.methodLink "RingMastersLaw" 131 ⟨"RingMastersModel", "felling", "(IIII)I"⟩) ∈ wW := wW_t 693 (by decide +kernel) (by decide +kernel)
theorem kw_694 : (Cond.instanceMethod ⟨"RingMastersModel", "felling", "(IIII)I"⟩) ∈ wW := wW_t 694 (by decide +kernel) (by decide +kernel)
theorem kw_695 : (Cond.selects "RingMastersModel" ⟨"RingMastersModel", "felling", "(IIII)I"⟩ ⟨"RingMastersModel", "felling", "(IIII)I"⟩) ∈ wW := wW_t 695 (by decide +kernel) (by decide +kernel)
theorem kw_696 : (Cond.code ⟨"RingMastersModel", "felling", "(IIII)I"⟩ prog_7_method_30_code 13 (some FieldType.int)) ∈ wW := wW_t 696 (by decide +kernel) (by decide +kernel)
theorem kw_697 : (Cond.methodLink "RingMastersLaw" 134 ⟨"RingMastersModel", "sameTree", "(II)Z"⟩) ∈ wW := wW_t 697 (by decide +kernel) (by decide +kernel)
theorem kw_698 : (Cond.instanceMethod ⟨"RingMastersModel", "sameTree", "(II)Z"⟩) ∈ wW := wW_t 698 (by decide +kernel) (by decide +kernel)
theorem kw_699 : (Cond.selects "RingMastersModel" ⟨"RingMastersModel", "sameTree", "(II)Z"⟩ ⟨"RingMastersModel", "sameTree", "(II)Z"⟩) ∈ wW := wW_t 699 (by decide +kernel) (by decide +kernel)
theorem kw_700 : (Cond.code ⟨"RingMastersModel", "sameTree", "(II)Z"⟩ prog_7_method_31_code 8 (some FieldType.boolean)) ∈ wW := wW_t 700 (by decide +kernel) (by decide +kernel)
theorem kw_701 : (Cond.methodLink "RingMastersLaw" 137 ⟨"RingMastersModel", "count", "(I)I"⟩) ∈ wW := wW_t 701 (by decide +kernel) (by decide +kernel)
theorem kw_702 : (Cond.instanceMethod ⟨"RingMastersModel", "count", "(I)I"⟩) ∈ wW := wW_t 702 (by decide +kernel) (by decide +kernel)
theorem kw_703 : (Cond.selects "RingMastersModel" ⟨"RingMastersModel", "count", "(I)I"⟩ ⟨"RingMastersModel", "count", "(I)I"⟩) ∈ wW := wW_t 703 (by decide +kernel) (by decide +kernel)
theorem kw_704 : (Cond.code ⟨"RingMastersModel", "count", "(I)I"⟩ prog_7_method_32_code 4 (some FieldType.int)) ∈ wW := wW_t 704 (by decide +kernel) (by decide +kernel)
theorem kw_705 : (Cond.arrayClass FieldType.long) ∈ wW := wW_t 705 (by decide +kernel) (by decide +kernel)
end
section
theorem d_Rm_init_0 : decode b_Rm_init 0 = .ok (.aload_n 0, 1) := by decide +kernel
theorem d_Rm_init_1 : decode b_Rm_init 1 = .ok (.invokespecial 3, 3) := by decide +kernel
theorem d_Rm_init_4 : decode b_Rm_init 4 = .ok (.aload_n 0, 1) := by decide +kernel
theorem d_Rm_init_5 : decode b_Rm_init 5 = .ok (.bipush 30, 2) := by decide +kernel
theorem d_Rm_init_7 : decode b_Rm_init 7 = .ok (.newarray .int, 2) := by decide +kernel
theorem d_Rm_init_9 : decode b_Rm_init 9 = .ok (.putfield 9, 3) := by decide +kernel
theorem d_Rm_init_12 : decode b_Rm_init 12 = .ok (.aload_n 0, 1) := by decide +kernel
theorem d_Rm_init_13 : decode b_Rm_init 13 = .ok (.iconst 0, 1) := by decide +kernel
theorem d_Rm_init_14 : decode b_Rm_init 14 = .ok (.putfield 13, 3) := by decide +kernel
theorem d_Rm_init_17 : decode b_Rm_init 17 = .ok (.aload_n 0, 1) := by decide +kernel
theorem d_Rm_init_18 : decode b_Rm_init 18 = .ok (.bipush 10, 2) := by decide +kernel
theorem d_Rm_init_20 : decode b_Rm_init 20 = .ok (.anewarray 17, 3) := by decide +kernel
theorem d_Rm_init_23 : decode b_Rm_init 23 = .ok (.putfield 19, 3) := by decide +kernel
theorem d_Rm_init_26 : decode b_Rm_init 26 = .ok (.aload_n 0, 1) := by decide +kernel
theorem d_Rm_init_27 : decode b_Rm_init 27 = .ok (.iconst 0, 1) := by decide +kernel
theorem d_Rm_init_28 : decode b_Rm_init 28 = .ok (.putfield 23, 3) := by decide +kernel
theorem d_Rm_init_31 : decode b_Rm_init 31 = .ok (.aload_n 0, 1) := by decide +kernel
theorem d_Rm_init_32 : decode b_Rm_init 32 = .ok (.bipush 8, 2) := by decide +kernel
theorem d_Rm_init_34 : decode b_Rm_init 34 = .ok (.anewarray 26, 3) := by decide +kernel
theorem d_Rm_init_37 : decode b_Rm_init 37 = .ok (.putfield 28, 3) := by decide +kernel
theorem d_Rm_init_40 : decode b_Rm_init 40 = .ok (.aload_n 0, 1) := by decide +kernel
theorem d_Rm_init_41 : decode b_Rm_init 41 = .ok (.iconst 0, 1) := by decide +kernel
theorem d_Rm_init_42 : decode b_Rm_init 42 = .ok (.putfield 32, 3) := by decide +kernel
theorem d_Rm_init_45 : decode b_Rm_init 45 = .ok (.aload_n 0, 1) := by decide +kernel
theorem d_Rm_init_46 : decode b_Rm_init 46 = .ok (.bipush 61, 2) := by decide +kernel
theorem d_Rm_init_48 : decode b_Rm_init 48 = .ok (.newarray .int, 2) := by decide +kernel
theorem d_Rm_init_50 : decode b_Rm_init 50 = .ok (.putfield 35, 3) := by decide +kernel
theorem d_Rm_init_53 : decode b_Rm_init 53 = .ok (.aload_n 0, 1) := by decide +kernel
theorem d_Rm_init_54 : decode b_Rm_init 54 = .ok (.new 38, 3) := by decide +kernel
theorem d_Rm_init_57 : decode b_Rm_init 57 = .ok (.dup, 1) := by decide +kernel
theorem d_Rm_init_58 : decode b_Rm_init 58 = .ok (.invokespecial 40, 3) := by decide +kernel
theorem d_Rm_init_61 : decode b_Rm_init 61 = .ok (.putfield 41, 3) := by decide +kernel
theorem d_Rm_init_64 : decode b_Rm_init 64 = .ok (.aload_n 0, 1) := by decide +kernel
theorem d_Rm_init_65 : decode b_Rm_init 65 = .ok (.new 45, 3) := by decide +kernel
theorem d_Rm_init_68 : decode b_Rm_init 68 = .ok (.dup, 1) := by decide +kernel
theorem d_Rm_init_69 : decode b_Rm_init 69 = .ok (.invokespecial 47, 3) := by decide +kernel
theorem d_Rm_init_72 : decode b_Rm_init 72 = .ok (.putfield 48, 3) := by decide +kernel
theorem d_Rm_init_75 : decode b_Rm_init 75 = .ok (.aload_n 0, 1) := by decide +kernel
theorem d_Rm_init_76 : decode b_Rm_init 76 = .ok (.new 45, 3) := by decide +kernel
theorem d_Rm_init_79 : decode b_Rm_init 79 = .ok (.dup, 1) := by decide +kernel
theorem d_Rm_init_80 : decode b_Rm_init 80 = .ok (.invokespecial 47, 3) := by decide +kernel
theorem d_Rm_init_83 : decode b_Rm_init 83 = .ok (.putfield 52, 3) := by decide +kernel
theorem d_Rm_init_86 : decode b_Rm_init 86 = .ok (.aload_n 0, 1) := by decide +kernel
theorem d_Rm_init_87 : decode b_Rm_init 87 = .ok (.bipush 8, 2) := by decide +kernel
theorem d_Rm_init_89 : decode b_Rm_init 89 = .ok (.anewarray 45, 3) := by decide +kernel
theorem d_Rm_init_92 : decode b_Rm_init 92 = .ok (.putfield 55, 3) := by decide +kernel
theorem d_Rm_init_95 : decode b_Rm_init 95 = .ok (.iconst 0, 1) := by decide +kernel
theorem d_Rm_init_96 : decode b_Rm_init 96 = .ok (.istore_n 1, 1) := by decide +kernel
theorem d_Rm_init_97 : decode b_Rm_init 97 = .ok (.iload_n 1, 1) := by decide +kernel
theorem d_Rm_init_98 : decode b_Rm_init 98 = .ok (.aload_n 0, 1) := by decide +kernel
theorem d_Rm_init_99 : decode b_Rm_init 99 = .ok (.getfield 55, 3) := by decide +kernel
theorem d_Rm_init_102 : decode b_Rm_init 102 = .ok (.arraylength, 1) := by decide +kernel
theorem d_Rm_init_103 : decode b_Rm_init 103 = .ok (.if_icmp .ge 22, 3) := by decide +kernel
theorem d_Rm_init_106 : decode b_Rm_init 106 = .ok (.aload_n 0, 1) := by decide +kernel
theorem d_Rm_init_107 : decode b_Rm_init 107 = .ok (.getfield 55, 3) := by decide +kernel
theorem d_Rm_init_110 : decode b_Rm_init 110 = .ok (.iload_n 1, 1) := by decide +kernel
theorem d_Rm_init_111 : decode b_Rm_init 111 = .ok (.new 45, 3) := by decide +kernel
theorem d_Rm_init_114 : decode b_Rm_init 114 = .ok (.dup, 1) := by decide +kernel
theorem d_Rm_init_115 : decode b_Rm_init 115 = .ok (.invokespecial 47, 3) := by decide +kernel
theorem d_Rm_init_118 : decode b_Rm_init 118 = .ok (.aastore, 1) := by decide +kernel
theorem d_Rm_init_119 : decode b_Rm_init 119 = .ok (.iinc 1 1, 3) := by decide +kernel
theorem d_Rm_init_122 : decode b_Rm_init 122 = .ok (.goto (-25), 3) := by decide +kernel
theorem d_Rm_init_125 : decode b_Rm_init 125 = .ok (.aload_n 0, 1) := by decide +kernel
theorem d_Rm_init_126 : decode b_Rm_init 126 = .ok (.bipush 8, 2) := by decide +kernel
theorem d_Rm_init_128 : decode b_Rm_init 128 = .ok (.newarray .int, 2) := by decide +kernel
theorem d_Rm_init_130 : decode b_Rm_init 130 = .ok (.putfield 59, 3) := by decide +kernel
theorem d_Rm_init_133 : decode b_Rm_init 133 = .ok (.return_, 1) := by decide +kernel
theorem d_Rm_ring_0 : decode b_Rm_ring 0 = .ok (.aload_n 0, 1) := by decide +kernel
theorem d_Rm_ring_1 : decode b_Rm_ring 1 = .ok (.getfield 13, 3) := by decide +kernel
theorem d_Rm_ring_4 : decode b_Rm_ring 4 = .ok (.bipush 30, 2) := by decide +kernel
theorem d_Rm_ring_6 : decode b_Rm_ring 6 = .ok (.if_icmp .lt 13, 3) := by decide +kernel
theorem d_Rm_ring_9 : decode b_Rm_ring 9 = .ok (.new 62, 3) := by decide +kernel
theorem d_Rm_ring_12 : decode b_Rm_ring 12 = .ok (.dup, 1) := by decide +kernel
theorem d_Rm_ring_13 : decode b_Rm_ring 13 = .ok (.ldc 64, 2) := by decide +kernel
theorem d_Rm_ring_15 : decode b_Rm_ring 15 = .ok (.invokespecial 66, 3) := by decide +kernel
theorem d_Rm_ring_18 : decode b_Rm_ring 18 = .ok (.athrow, 1) := by decide +kernel
theorem d_Rm_ring_19 : decode b_Rm_ring 19 = .ok (.iload_n 1, 1) := by decide +kernel
theorem d_Rm_ring_20 : decode b_Rm_ring 20 = .ok (.iconst 1, 1) := by decide +kernel
theorem d_Rm_ring_21 : decode b_Rm_ring 21 = .ok (.if_icmp .lt 10, 3) := by decide +kernel
theorem d_Rm_ring_24 : decode b_Rm_ring 24 = .ok (.iload_n 1, 1) := by decide +kernel
theorem d_Rm_ring_25 : decode b_Rm_ring 25 = .ok (.sipush 900, 3) := by decide +kernel
theorem d_Rm_ring_28 : decode b_Rm_ring 28 = .ok (.if_icmp .le 13, 3) := by decide +kernel
theorem d_Rm_ring_31 : decode b_Rm_ring 31 = .ok (.new 69, 3) := by decide +kernel
theorem d_Rm_ring_34 : decode b_Rm_ring 34 = .ok (.dup, 1) := by decide +kernel
theorem d_Rm_ring_35 : decode b_Rm_ring 35 = .ok (.ldc 71, 2) := by decide +kernel
theorem d_Rm_ring_37 : decode b_Rm_ring 37 = .ok (.invokespecial 73, 3) := by decide +kernel
theorem d_Rm_ring_40 : decode b_Rm_ring 40 = .ok (.athrow, 1) := by decide +kernel
theorem d_Rm_ring_41 : decode b_Rm_ring 41 = .ok (.aload_n 0, 1) := by decide +kernel
theorem d_Rm_ring_42 : decode b_Rm_ring 42 = .ok (.getfield 9, 3) := by decide +kernel
theorem d_Rm_ring_45 : decode b_Rm_ring 45 = .ok (.aload_n 0, 1) := by decide +kernel
theorem d_Rm_ring_46 : decode b_Rm_ring 46 = .ok (.getfield 13, 3) := by decide +kernel
theorem d_Rm_ring_49 : decode b_Rm_ring 49 = .ok (.iload_n 1, 1) := by decide +kernel
theorem d_Rm_ring_50 : decode b_Rm_ring 50 = .ok (.iastore, 1) := by decide +kernel
theorem d_Rm_ring_51 : decode b_Rm_ring 51 = .ok (.aload_n 0, 1) := by decide +kernel
theorem d_Rm_ring_52 : decode b_Rm_ring 52 = .ok (.dup, 1) := by decide +kernel
theorem d_Rm_ring_53 : decode b_Rm_ring 53 = .ok (.getfield 13, 3) := by decide +kernel
theorem d_Rm_ring_56 : decode b_Rm_ring 56 = .ok (.iconst 1, 1) := by decide +kernel
theorem d_Rm_ring_57 : decode b_Rm_ring 57 = .ok (.iadd, 1) := by decide +kernel
theorem d_Rm_ring_58 : decode b_Rm_ring 58 = .ok (.putfield 13, 3) := by decide +kernel
theorem d_Rm_ring_61 : decode b_Rm_ring 61 = .ok (.aload_n 0, 1) := by decide +kernel
theorem d_Rm_ring_62 : decode b_Rm_ring 62 = .ok (.getfield 13, 3) := by decide +kernel
theorem d_Rm_ring_65 : decode b_Rm_ring 65 = .ok (.ireturn, 1) := by decide +kernel
theorem d_Rm_series_0 : decode b_Rm_series 0 = .ok (.aload_n 0, 1) := by decide +kernel
theorem d_Rm_series_1 : decode b_Rm_series 1 = .ok (.getfield 23, 3) := by decide +kernel
theorem d_Rm_series_4 : decode b_Rm_series 4 = .ok (.bipush 10, 2) := by decide +kernel
theorem d_Rm_series_6 : decode b_Rm_series 6 = .ok (.if_icmp .lt 13, 3) := by decide +kernel
theorem d_Rm_series_9 : decode b_Rm_series 9 = .ok (.new 62, 3) := by decide +kernel
theorem d_Rm_series_12 : decode b_Rm_series 12 = .ok (.dup, 1) := by decide +kernel
theorem d_Rm_series_13 : decode b_Rm_series 13 = .ok (.ldc 74, 2) := by decide +kernel
theorem d_Rm_series_15 : decode b_Rm_series 15 = .ok (.invokespecial 66, 3) := by decide +kernel
theorem d_Rm_series_18 : decode b_Rm_series 18 = .ok (.athrow, 1) := by decide +kernel
theorem d_Rm_series_19 : decode b_Rm_series 19 = .ok (.aload_n 0, 1) := by decide +kernel
theorem d_Rm_series_20 : decode b_Rm_series 20 = .ok (.getfield 13, 3) := by decide +kernel
theorem d_Rm_series_23 : decode b_Rm_series 23 = .ok (.iconst 3, 1) := by decide +kernel
theorem d_Rm_series_24 : decode b_Rm_series 24 = .ok (.if_icmp .ge 5, 3) := by decide +kernel
theorem d_Rm_series_27 : decode b_Rm_series 27 = .ok (.iconst (-1), 1) := by decide +kernel
theorem d_Rm_series_28 : decode b_Rm_series 28 = .ok (.ireturn, 1) := by decide +kernel
theorem d_Rm_series_29 : decode b_Rm_series 29 = .ok (.aload_n 0, 1) := by decide +kernel
theorem d_Rm_series_30 : decode b_Rm_series 30 = .ok (.getfield 19, 3) := by decide +kernel
theorem d_Rm_series_33 : decode b_Rm_series 33 = .ok (.aload_n 0, 1) := by decide +kernel
theorem d_Rm_series_34 : decode b_Rm_series 34 = .ok (.getfield 23, 3) := by decide +kernel
theorem d_Rm_series_37 : decode b_Rm_series 37 = .ok (.new 17, 3) := by decide +kernel
theorem d_Rm_series_40 : decode b_Rm_series 40 = .ok (.dup, 1) := by decide +kernel
theorem d_Rm_series_41 : decode b_Rm_series 41 = .ok (.aload_n 0, 1) := by decide +kernel
theorem d_Rm_series_42 : decode b_Rm_series 42 = .ok (.invokevirtual 76, 3) := by decide +kernel
theorem d_Rm_series_45 : decode b_Rm_series 45 = .ok (.invokespecial 80, 3) := by decide +kernel
theorem d_Rm_series_48 : decode b_Rm_series 48 = .ok (.aastore, 1) := by decide +kernel
theorem d_Rm_series_49 : decode b_Rm_series 49 = .ok (.aload_n 0, 1) := by decide +kernel
theorem d_Rm_series_50 : decode b_Rm_series 50 = .ok (.dup, 1) := by decide +kernel
theorem d_Rm_series_51 : decode b_Rm_series 51 = .ok (.getfield 23, 3) := by decide +kernel
theorem d_Rm_series_54 : decode b_Rm_series 54 = .ok (.iconst 1, 1) := by decide +kernel
theorem d_Rm_series_55 : decode b_Rm_series 55 = .ok (.iadd, 1) := by decide +kernel
theorem d_Rm_series_56 : decode b_Rm_series 56 = .ok (.putfield 23, 3) := by decide +kernel
theorem d_Rm_series_59 : decode b_Rm_series 59 = .ok (.aload_n 0, 1) := by decide +kernel
theorem d_Rm_series_60 : decode b_Rm_series 60 = .ok (.iconst 0, 1) := by decide +kernel
theorem d_Rm_series_61 : decode b_Rm_series 61 = .ok (.putfield 13, 3) := by decide +kernel
theorem d_Rm_series_64 : decode b_Rm_series 64 = .ok (.aload_n 0, 1) := by decide +kernel
theorem d_Rm_series_65 : decode b_Rm_series 65 = .ok (.getfield 23, 3) := by decide +kernel
theorem d_Rm_series_68 : decode b_Rm_series 68 = .ok (.iconst 1, 1) := by decide +kernel
theorem d_Rm_series_69 : decode b_Rm_series 69 = .ok (.isub, 1) := by decide +kernel
theorem d_Rm_series_70 : decode b_Rm_series 70 = .ok (.ireturn, 1) := by decide +kernel
theorem d_Rm_evenedPad_0 : decode b_Rm_evenedPad 0 = .ok (.iconst 0, 1) := by decide +kernel
theorem d_Rm_evenedPad_1 : decode b_Rm_evenedPad 1 = .ok (.istore_n 1, 1) := by decide +kernel
theorem d_Rm_evenedPad_2 : decode b_Rm_evenedPad 2 = .ok (.iconst 0, 1) := by decide +kernel
theorem d_Rm_evenedPad_3 : decode b_Rm_evenedPad 3 = .ok (.istore_n 2, 1) := by decide +kernel
theorem d_Rm_evenedPad_4 : decode b_Rm_evenedPad 4 = .ok (.iload_n 2, 1) := by decide +kernel
theorem d_Rm_evenedPad_5 : decode b_Rm_evenedPad 5 = .ok (.aload_n 0, 1) := by decide +kernel
theorem d_Rm_evenedPad_6 : decode b_Rm_evenedPad 6 = .ok (.getfield 13, 3) := by decide +kernel
theorem d_Rm_evenedPad_9 : decode b_Rm_evenedPad 9 = .ok (.if_icmp .ge 18, 3) := by decide +kernel
theorem d_Rm_evenedPad_12 : decode b_Rm_evenedPad 12 = .ok (.iload_n 1, 1) := by decide +kernel
theorem d_Rm_evenedPad_13 : decode b_Rm_evenedPad 13 = .ok (.aload_n 0, 1) := by decide +kernel
theorem d_Rm_evenedPad_14 : decode b_Rm_evenedPad 14 = .ok (.getfield 9, 3) := by decide +kernel
theorem d_Rm_evenedPad_17 : decode b_Rm_evenedPad 17 = .ok (.iload_n 2, 1) := by decide +kernel
theorem d_Rm_evenedPad_18 : decode b_Rm_evenedPad 18 = .ok (.iaload, 1) := by decide +kernel
theorem d_Rm_evenedPad_19 : decode b_Rm_evenedPad 19 = .ok (.iadd, 1) := by decide +kernel
theorem d_Rm_evenedPad_20 : decode b_Rm_evenedPad 20 = .ok (.istore_n 1, 1) := by decide +kernel
theorem d_Rm_evenedPad_21 : decode b_Rm_evenedPad 21 = .ok (.iinc 2 1, 3) := by decide +kernel
theorem d_Rm_evenedPad_24 : decode b_Rm_evenedPad 24 = .ok (.goto (-20), 3) := by decide +kernel
theorem d_Rm_evenedPad_27 : decode b_Rm_evenedPad 27 = .ok (.aload_n 0, 1) := by decide +kernel
theorem d_Rm_evenedPad_28 : decode b_Rm_evenedPad 28 = .ok (.getfield 13, 3) := by decide +kernel
theorem d_Rm_evenedPad_31 : decode b_Rm_evenedPad 31 = .ok (.newarray .int, 2) := by decide +kernel
theorem d_Rm_evenedPad_33 : decode b_Rm_evenedPad 33 = .ok (.astore_n 2, 1) := by decide +kernel
theorem d_Rm_evenedPad_34 : decode b_Rm_evenedPad 34 = .ok (.iconst 0, 1) := by decide +kernel
theorem d_Rm_evenedPad_35 : decode b_Rm_evenedPad 35 = .ok (.istore_n 3, 1) := by decide +kernel
theorem d_Rm_evenedPad_36 : decode b_Rm_evenedPad 36 = .ok (.iload_n 3, 1) := by decide +kernel
theorem d_Rm_evenedPad_37 : decode b_Rm_evenedPad 37 = .ok (.aload_n 2, 1) := by decide +kernel
theorem d_Rm_evenedPad_38 : decode b_Rm_evenedPad 38 = .ok (.arraylength, 1) := by decide +kernel
theorem d_Rm_evenedPad_39 : decode b_Rm_evenedPad 39 = .ok (.if_icmp .ge 36, 3) := by decide +kernel
theorem d_Rm_evenedPad_42 : decode b_Rm_evenedPad 42 = .ok (.iload_n 1, 1) := by decide +kernel
theorem d_Rm_evenedPad_43 : decode b_Rm_evenedPad 43 = .ok (.ifCond .le 32, 3) := by decide +kernel
theorem d_Rm_evenedPad_46 : decode b_Rm_evenedPad 46 = .ok (.aload_n 2, 1) := by decide +kernel
theorem d_Rm_evenedPad_47 : decode b_Rm_evenedPad 47 = .ok (.iload_n 3, 1) := by decide +kernel
theorem d_Rm_evenedPad_48 : decode b_Rm_evenedPad 48 = .ok (.sipush 400, 3) := by decide +kernel
theorem d_Rm_evenedPad_51 : decode b_Rm_evenedPad 51 = .ok (.bipush 100, 2) := by decide +kernel
theorem d_Rm_evenedPad_53 : decode b_Rm_evenedPad 53 = .ok (.aload_n 0, 1) := by decide +kernel
theorem d_Rm_evenedPad_54 : decode b_Rm_evenedPad 54 = .ok (.getfield 9, 3) := by decide +kernel
theorem d_Rm_evenedPad_57 : decode b_Rm_evenedPad 57 = .ok (.iload_n 3, 1) := by decide +kernel
theorem d_Rm_evenedPad_58 : decode b_Rm_evenedPad 58 = .ok (.iaload, 1) := by decide +kernel
theorem d_Rm_evenedPad_59 : decode b_Rm_evenedPad 59 = .ok (.imul, 1) := by decide +kernel
theorem d_Rm_evenedPad_60 : decode b_Rm_evenedPad 60 = .ok (.aload_n 2, 1) := by decide +kernel
theorem d_Rm_evenedPad_61 : decode b_Rm_evenedPad 61 = .ok (.arraylength, 1) := by decide +kernel
theorem d_Rm_evenedPad_62 : decode b_Rm_evenedPad 62 = .ok (.imul, 1) := by decide +kernel
theorem d_Rm_evenedPad_63 : decode b_Rm_evenedPad 63 = .ok (.iload_n 1, 1) := by decide +kernel
theorem d_Rm_evenedPad_64 : decode b_Rm_evenedPad 64 = .ok (.idiv, 1) := by decide +kernel
theorem d_Rm_evenedPad_65 : decode b_Rm_evenedPad 65 = .ok (.invokestatic 235, 3) := by decide +kernel
theorem d_Rm_evenedPad_68 : decode b_Rm_evenedPad 68 = .ok (.iastore, 1) := by decide +kernel
theorem d_Rm_evenedPad_69 : decode b_Rm_evenedPad 69 = .ok (.iinc 3 1, 3) := by decide +kernel
theorem d_Rm_evenedPad_72 : decode b_Rm_evenedPad 72 = .ok (.goto (-36), 3) := by decide +kernel
theorem d_Rm_evenedPad_75 : decode b_Rm_evenedPad 75 = .ok (.aload_n 2, 1) := by decide +kernel
theorem d_Rm_evenedPad_76 : decode b_Rm_evenedPad 76 = .ok (.areturn, 1) := by decide +kernel
theorem d_Rm_evened_0 : decode b_Rm_evened 0 = .ok (.aload_n 0, 1) := by decide +kernel
theorem d_Rm_evened_1 : decode b_Rm_evened 1 = .ok (.iload_n 1, 1) := by decide +kernel
theorem d_Rm_evened_2 : decode b_Rm_evened 2 = .ok (.invokevirtual 83, 3) := by decide +kernel
theorem d_Rm_evened_5 : decode b_Rm_evened 5 = .ok (.astore_n 3, 1) := by decide +kernel
theorem d_Rm_evened_6 : decode b_Rm_evened 6 = .ok (.iload_n 2, 1) := by decide +kernel
theorem d_Rm_evened_7 : decode b_Rm_evened 7 = .ok (.iconst (-1), 1) := by decide +kernel
theorem d_Rm_evened_8 : decode b_Rm_evened 8 = .ok (.if_icmp .ne 9, 3) := by decide +kernel
theorem d_Rm_evened_11 : decode b_Rm_evened 11 = .ok (.aload_n 3, 1) := by decide +kernel
theorem d_Rm_evened_12 : decode b_Rm_evened 12 = .ok (.getfield 87, 3) := by decide +kernel
theorem d_Rm_evened_15 : decode b_Rm_evened 15 = .ok (.arraylength, 1) := by decide +kernel
theorem d_Rm_evened_16 : decode b_Rm_evened 16 = .ok (.ireturn, 1) := by decide +kernel
theorem d_Rm_evened_17 : decode b_Rm_evened 17 = .ok (.iload_n 2, 1) := by decide +kernel
theorem d_Rm_evened_18 : decode b_Rm_evened 18 = .ok (.ifCond .lt 12, 3) := by decide +kernel
theorem d_Rm_evened_21 : decode b_Rm_evened 21 = .ok (.iload_n 2, 1) := by decide +kernel
theorem d_Rm_evened_22 : decode b_Rm_evened 22 = .ok (.aload_n 3, 1) := by decide +kernel
theorem d_Rm_evened_23 : decode b_Rm_evened 23 = .ok (.getfield 87, 3) := by decide +kernel
theorem d_Rm_evened_26 : decode b_Rm_evened 26 = .ok (.arraylength, 1) := by decide +kernel
theorem d_Rm_evened_27 : decode b_Rm_evened 27 = .ok (.if_icmp .lt 13, 3) := by decide +kernel
theorem d_Rm_evened_30 : decode b_Rm_evened 30 = .ok (.new 90, 3) := by decide +kernel
theorem d_Rm_evened_33 : decode b_Rm_evened 33 = .ok (.dup, 1) := by decide +kernel
theorem d_Rm_evened_34 : decode b_Rm_evened 34 = .ok (.ldc 92, 2) := by decide +kernel
theorem d_Rm_evened_36 : decode b_Rm_evened 36 = .ok (.invokespecial 94, 3) := by decide +kernel
theorem d_Rm_evened_39 : decode b_Rm_evened 39 = .ok (.athrow, 1) := by decide +kernel
theorem d_Rm_evened_40 : decode b_Rm_evened 40 = .ok (.aload_n 3, 1) := by decide +kernel
theorem d_Rm_evened_41 : decode b_Rm_evened 41 = .ok (.getfield 87, 3) := by decide +kernel
theorem d_Rm_evened_44 : decode b_Rm_evened 44 = .ok (.iload_n 2, 1) := by decide +kernel
theorem d_Rm_evened_45 : decode b_Rm_evened 45 = .ok (.iaload, 1) := by decide +kernel
theorem d_Rm_evened_46 : decode b_Rm_evened 46 = .ok (.ireturn, 1) := by decide +kernel
theorem d_Rm_rowOf_0 : decode b_Rm_rowOf 0 = .ok (.iload_n 1, 1) := by decide +kernel
theorem d_Rm_rowOf_1 : decode b_Rm_rowOf 1 = .ok (.ifCond .lt 11, 3) := by decide +kernel
theorem d_Rm_rowOf_4 : decode b_Rm_rowOf 4 = .ok (.iload_n 1, 1) := by decide +kernel
theorem d_Rm_rowOf_5 : decode b_Rm_rowOf 5 = .ok (.aload_n 0, 1) := by decide +kernel
theorem d_Rm_rowOf_6 : decode b_Rm_rowOf 6 = .ok (.getfield 23, 3) := by decide +kernel
theorem d_Rm_rowOf_9 : decode b_Rm_rowOf 9 = .ok (.if_icmp .lt 13, 3) := by decide +kernel
theorem d_Rm_rowOf_12 : decode b_Rm_rowOf 12 = .ok (.new 90, 3) := by decide +kernel
theorem d_Rm_rowOf_15 : decode b_Rm_rowOf 15 = .ok (.dup, 1) := by decide +kernel
theorem d_Rm_rowOf_16 : decode b_Rm_rowOf 16 = .ok (.ldc 231, 2) := by decide +kernel
theorem d_Rm_rowOf_18 : decode b_Rm_rowOf 18 = .ok (.invokespecial 94, 3) := by decide +kernel
theorem d_Rm_rowOf_21 : decode b_Rm_rowOf 21 = .ok (.athrow, 1) := by decide +kernel
theorem d_Rm_rowOf_22 : decode b_Rm_rowOf 22 = .ok (.aload_n 0, 1) := by decide +kernel
theorem d_Rm_rowOf_23 : decode b_Rm_rowOf 23 = .ok (.getfield 19, 3) := by decide +kernel
theorem d_Rm_rowOf_26 : decode b_Rm_rowOf 26 = .ok (.iload_n 1, 1) := by decide +kernel
theorem d_Rm_rowOf_27 : decode b_Rm_rowOf 27 = .ok (.aaload, 1) := by decide +kernel
theorem d_Rm_rowOf_28 : decode b_Rm_rowOf 28 = .ok (.areturn, 1) := by decide +kernel
theorem d_Rm_place_0 : decode b_Rm_place 0 = .ok (.aload_n 0, 1) := by decide +kernel
theorem d_Rm_place_1 : decode b_Rm_place 1 = .ok (.iload_n 1, 1) := by decide +kernel
theorem d_Rm_place_2 : decode b_Rm_place 2 = .ok (.invokevirtual 83, 3) := by decide +kernel
theorem d_Rm_place_5 : decode b_Rm_place 5 = .ok (.astore_n 3, 1) := by decide +kernel
theorem d_Rm_place_6 : decode b_Rm_place 6 = .ok (.iload_n 2, 1) := by decide +kernel
theorem d_Rm_place_7 : decode b_Rm_place 7 = .ok (.iconst (-1), 1) := by decide +kernel
theorem d_Rm_place_8 : decode b_Rm_place 8 = .ok (.if_icmp .lt 10, 3) := by decide +kernel
theorem d_Rm_place_11 : decode b_Rm_place 11 = .ok (.iload_n 2, 1) := by decide +kernel
theorem d_Rm_place_12 : decode b_Rm_place 12 = .ok (.sipush 500, 3) := by decide +kernel
theorem d_Rm_place_15 : decode b_Rm_place 15 = .ok (.if_icmp .le 13, 3) := by decide +kernel
theorem d_Rm_place_18 : decode b_Rm_place 18 = .ok (.new 69, 3) := by decide +kernel
theorem d_Rm_place_21 : decode b_Rm_place 21 = .ok (.dup, 1) := by decide +kernel
theorem d_Rm_place_22 : decode b_Rm_place 22 = .ok (.ldc 95, 2) := by decide +kernel
theorem d_Rm_place_24 : decode b_Rm_place 24 = .ok (.invokespecial 73, 3) := by decide +kernel
theorem d_Rm_place_27 : decode b_Rm_place 27 = .ok (.athrow, 1) := by decide +kernel
theorem d_Rm_place_28 : decode b_Rm_place 28 = .ok (.aload_n 3, 1) := by decide +kernel
theorem d_Rm_place_29 : decode b_Rm_place 29 = .ok (.getfield 97, 3) := by decide +kernel
theorem d_Rm_place_32 : decode b_Rm_place 32 = .ok (.istore 4, 2) := by decide +kernel
theorem d_Rm_place_34 : decode b_Rm_place 34 = .ok (.aload_n 3, 1) := by decide +kernel
theorem d_Rm_place_35 : decode b_Rm_place 35 = .ok (.iload_n 2, 1) := by decide +kernel
theorem d_Rm_place_36 : decode b_Rm_place 36 = .ok (.putfield 97, 3) := by decide +kernel
theorem d_Rm_place_39 : decode b_Rm_place 39 = .ok (.iload 4, 2) := by decide +kernel
theorem d_Rm_place_41 : decode b_Rm_place 41 = .ok (.ireturn, 1) := by decide +kernel
theorem d_Rm_master_0 : decode b_Rm_master 0 = .ok (.aload_n 0, 1) := by decide +kernel
theorem d_Rm_master_1 : decode b_Rm_master 1 = .ok (.getfield 32, 3) := by decide +kernel
theorem d_Rm_master_4 : decode b_Rm_master 4 = .ok (.bipush 8, 2) := by decide +kernel
theorem d_Rm_master_6 : decode b_Rm_master 6 = .ok (.if_icmp .lt 13, 3) := by decide +kernel
theorem d_Rm_master_9 : decode b_Rm_master 9 = .ok (.new 62, 3) := by decide +kernel
theorem d_Rm_master_12 : decode b_Rm_master 12 = .ok (.dup, 1) := by decide +kernel
theorem d_Rm_master_13 : decode b_Rm_master 13 = .ok (.ldc 100, 2) := by decide +kernel
theorem d_Rm_master_15 : decode b_Rm_master 15 = .ok (.invokespecial 66, 3) := by decide +kernel
theorem d_Rm_master_18 : decode b_Rm_master 18 = .ok (.athrow, 1) := by decide +kernel
theorem d_Rm_master_19 : decode b_Rm_master 19 = .ok (.iload_n 1, 1) := by decide +kernel
theorem d_Rm_master_20 : decode b_Rm_master 20 = .ok (.ifCond .lt 10, 3) := by decide +kernel
theorem d_Rm_master_23 : decode b_Rm_master 23 = .ok (.iload_n 1, 1) := by decide +kernel
theorem d_Rm_master_24 : decode b_Rm_master 24 = .ok (.sipush 1023, 3) := by decide +kernel
theorem d_Rm_master_27 : decode b_Rm_master 27 = .ok (.if_icmp .le 13, 3) := by decide +kernel
theorem d_Rm_master_30 : decode b_Rm_master 30 = .ok (.new 69, 3) := by decide +kernel
theorem d_Rm_master_33 : decode b_Rm_master 33 = .ok (.dup, 1) := by decide +kernel
theorem d_Rm_master_34 : decode b_Rm_master 34 = .ok (.ldc 102, 2) := by decide +kernel
theorem d_Rm_master_36 : decode b_Rm_master 36 = .ok (.invokespecial 73, 3) := by decide +kernel
theorem d_Rm_master_39 : decode b_Rm_master 39 = .ok (.athrow, 1) := by decide +kernel
theorem d_Rm_master_40 : decode b_Rm_master 40 = .ok (.aload_n 0, 1) := by decide +kernel
theorem d_Rm_master_41 : decode b_Rm_master 41 = .ok (.iload_n 1, 1) := by decide +kernel
theorem d_Rm_master_42 : decode b_Rm_master 42 = .ok (.invokevirtual 104, 3) := by decide +kernel
theorem d_Rm_master_45 : decode b_Rm_master 45 = .ok (.istore_n 2, 1) := by decide +kernel
theorem d_Rm_master_46 : decode b_Rm_master 46 = .ok (.iload_n 2, 1) := by decide +kernel
theorem d_Rm_master_47 : decode b_Rm_master 47 = .ok (.ifCond .ne 5, 3) := by decide +kernel
theorem d_Rm_master_50 : decode b_Rm_master 50 = .ok (.iconst (-1), 1) := by decide +kernel
theorem d_Rm_master_51 : decode b_Rm_master 51 = .ok (.ireturn, 1) := by decide +kernel
theorem d_Rm_master_52 : decode b_Rm_master 52 = .ok (.new 26, 3) := by decide +kernel
theorem d_Rm_master_55 : decode b_Rm_master 55 = .ok (.dup, 1) := by decide +kernel
theorem d_Rm_master_56 : decode b_Rm_master 56 = .ok (.aload_n 0, 1) := by decide +kernel
theorem d_Rm_master_57 : decode b_Rm_master 57 = .ok (.iload_n 2, 1) := by decide +kernel
theorem d_Rm_master_58 : decode b_Rm_master 58 = .ok (.invokevirtual 108, 3) := by decide +kernel
theorem d_Rm_master_61 : decode b_Rm_master 61 = .ok (.aload_n 0, 1) := by decide +kernel
theorem d_Rm_master_62 : decode b_Rm_master 62 = .ok (.iload_n 2, 1) := by decide +kernel
theorem d_Rm_master_63 : decode b_Rm_master 63 = .ok (.invokevirtual 112, 3) := by decide +kernel
theorem d_Rm_master_66 : decode b_Rm_master 66 = .ok (.aload_n 0, 1) := by decide +kernel
theorem d_Rm_master_67 : decode b_Rm_master 67 = .ok (.iload_n 2, 1) := by decide +kernel
theorem d_Rm_master_68 : decode b_Rm_master 68 = .ok (.invokevirtual 115, 3) := by decide +kernel
theorem d_Rm_master_71 : decode b_Rm_master 71 = .ok (.iload_n 2, 1) := by decide +kernel
theorem d_Rm_master_72 : decode b_Rm_master 72 = .ok (.invokestatic 118, 3) := by decide +kernel
theorem d_Rm_master_75 : decode b_Rm_master 75 = .ok (.invokespecial 123, 3) := by decide +kernel
theorem d_Rm_master_78 : decode b_Rm_master 78 = .ok (.astore_n 3, 1) := by decide +kernel
theorem d_Rm_master_79 : decode b_Rm_master 79 = .ok (.aload_n 0, 1) := by decide +kernel
theorem d_Rm_master_80 : decode b_Rm_master 80 = .ok (.aload_n 3, 1) := by decide +kernel
theorem d_Rm_master_81 : decode b_Rm_master 81 = .ok (.invokevirtual 126, 3) := by decide +kernel
theorem d_Rm_master_84 : decode b_Rm_master 84 = .ok (.aload_n 0, 1) := by decide +kernel
theorem d_Rm_master_85 : decode b_Rm_master 85 = .ok (.getfield 28, 3) := by decide +kernel
theorem d_Rm_master_88 : decode b_Rm_master 88 = .ok (.aload_n 0, 1) := by decide +kernel
theorem d_Rm_master_89 : decode b_Rm_master 89 = .ok (.getfield 32, 3) := by decide +kernel
theorem d_Rm_master_92 : decode b_Rm_master 92 = .ok (.aload_n 3, 1) := by decide +kernel
theorem d_Rm_master_93 : decode b_Rm_master 93 = .ok (.aastore, 1) := by decide +kernel
theorem d_Rm_master_94 : decode b_Rm_master 94 = .ok (.aload_n 0, 1) := by decide +kernel
theorem d_Rm_master_95 : decode b_Rm_master 95 = .ok (.dup, 1) := by decide +kernel
theorem d_Rm_master_96 : decode b_Rm_master 96 = .ok (.getfield 32, 3) := by decide +kernel
theorem d_Rm_master_99 : decode b_Rm_master 99 = .ok (.iconst 1, 1) := by decide +kernel
theorem d_Rm_master_100 : decode b_Rm_master 100 = .ok (.iadd, 1) := by decide +kernel
theorem d_Rm_master_101 : decode b_Rm_master 101 = .ok (.putfield 32, 3) := by decide +kernel
theorem d_Rm_master_104 : decode b_Rm_master 104 = .ok (.aload_n 0, 1) := by decide +kernel
theorem d_Rm_master_105 : decode b_Rm_master 105 = .ok (.getfield 32, 3) := by decide +kernel
theorem d_Rm_master_108 : decode b_Rm_master 108 = .ok (.iconst 1, 1) := by decide +kernel
theorem d_Rm_master_109 : decode b_Rm_master 109 = .ok (.isub, 1) := by decide +kernel
theorem d_Rm_master_110 : decode b_Rm_master 110 = .ok (.ireturn, 1) := by decide +kernel
theorem d_Rm_membersOf_0 : decode b_Rm_membersOf 0 = .ok (.iconst 0, 1) := by decide +kernel
theorem d_Rm_membersOf_1 : decode b_Rm_membersOf 1 = .ok (.istore_n 2, 1) := by decide +kernel
theorem d_Rm_membersOf_2 : decode b_Rm_membersOf 2 = .ok (.iconst 0, 1) := by decide +kernel
theorem d_Rm_membersOf_3 : decode b_Rm_membersOf 3 = .ok (.istore_n 3, 1) := by decide +kernel
theorem d_Rm_membersOf_4 : decode b_Rm_membersOf 4 = .ok (.iload_n 3, 1) := by decide +kernel
theorem d_Rm_membersOf_5 : decode b_Rm_membersOf 5 = .ok (.aload_n 0, 1) := by decide +kernel
theorem d_Rm_membersOf_6 : decode b_Rm_membersOf 6 = .ok (.getfield 23, 3) := by decide +kernel
theorem d_Rm_membersOf_9 : decode b_Rm_membersOf 9 = .ok (.if_icmp .ge 37, 3) := by decide +kernel
theorem d_Rm_membersOf_12 : decode b_Rm_membersOf 12 = .ok (.iload_n 1, 1) := by decide +kernel
theorem d_Rm_membersOf_13 : decode b_Rm_membersOf 13 = .ok (.iload_n 3, 1) := by decide +kernel
theorem d_Rm_membersOf_14 : decode b_Rm_membersOf 14 = .ok (.ishr, 1) := by decide +kernel
theorem d_Rm_membersOf_15 : decode b_Rm_membersOf 15 = .ok (.iconst 1, 1) := by decide +kernel
theorem d_Rm_membersOf_16 : decode b_Rm_membersOf 16 = .ok (.iand, 1) := by decide +kernel
theorem d_Rm_membersOf_17 : decode b_Rm_membersOf 17 = .ok (.iconst 1, 1) := by decide +kernel
theorem d_Rm_membersOf_18 : decode b_Rm_membersOf 18 = .ok (.if_icmp .ne 22, 3) := by decide +kernel
theorem d_Rm_membersOf_21 : decode b_Rm_membersOf 21 = .ok (.aload_n 0, 1) := by decide +kernel
theorem d_Rm_membersOf_22 : decode b_Rm_membersOf 22 = .ok (.getfield 19, 3) := by decide +kernel
theorem d_Rm_membersOf_25 : decode b_Rm_membersOf 25 = .ok (.iload_n 3, 1) := by decide +kernel
theorem d_Rm_membersOf_26 : decode b_Rm_membersOf 26 = .ok (.aaload, 1) := by decide +kernel
theorem d_Rm_membersOf_27 : decode b_Rm_membersOf 27 = .ok (.getfield 97, 3) := by decide +kernel
theorem d_Rm_membersOf_30 : decode b_Rm_membersOf 30 = .ok (.iconst (-1), 1) := by decide +kernel
theorem d_Rm_membersOf_31 : decode b_Rm_membersOf 31 = .ok (.if_icmp .eq 9, 3) := by decide +kernel
theorem d_Rm_membersOf_34 : decode b_Rm_membersOf 34 = .ok (.iload_n 2, 1) := by decide +kernel
theorem d_Rm_membersOf_35 : decode b_Rm_membersOf 35 = .ok (.iconst 1, 1) := by decide +kernel
theorem d_Rm_membersOf_36 : decode b_Rm_membersOf 36 = .ok (.iload_n 3, 1) := by decide +kernel
theorem d_Rm_membersOf_37 : decode b_Rm_membersOf 37 = .ok (.ishl, 1) := by decide +kernel
theorem d_Rm_membersOf_38 : decode b_Rm_membersOf 38 = .ok (.ior, 1) := by decide +kernel
theorem d_Rm_membersOf_39 : decode b_Rm_membersOf 39 = .ok (.istore_n 2, 1) := by decide +kernel
theorem d_Rm_membersOf_40 : decode b_Rm_membersOf 40 = .ok (.iinc 3 1, 3) := by decide +kernel
theorem d_Rm_membersOf_43 : decode b_Rm_membersOf 43 = .ok (.goto (-39), 3) := by decide +kernel
theorem d_Rm_membersOf_46 : decode b_Rm_membersOf 46 = .ok (.iload_n 2, 1) := by decide +kernel
theorem d_Rm_membersOf_47 : decode b_Rm_membersOf 47 = .ok (.ireturn, 1) := by decide +kernel
theorem d_Rm_startsOf_0 : decode b_Rm_startsOf 0 = .ok (.bipush 10, 2) := by decide +kernel
theorem d_Rm_startsOf_2 : decode b_Rm_startsOf 2 = .ok (.newarray .int, 2) := by decide +kernel
theorem d_Rm_startsOf_4 : decode b_Rm_startsOf 4 = .ok (.astore_n 2, 1) := by decide +kernel
theorem d_Rm_startsOf_5 : decode b_Rm_startsOf 5 = .ok (.aload_n 2, 1) := by decide +kernel
theorem d_Rm_startsOf_6 : decode b_Rm_startsOf 6 = .ok (.iconst (-1), 1) := by decide +kernel
theorem d_Rm_startsOf_7 : decode b_Rm_startsOf 7 = .ok (.invokestatic 240, 3) := by decide +kernel
theorem d_Rm_startsOf_10 : decode b_Rm_startsOf 10 = .ok (.iconst 0, 1) := by decide +kernel
theorem d_Rm_startsOf_11 : decode b_Rm_startsOf 11 = .ok (.istore_n 3, 1) := by decide +kernel
theorem d_Rm_startsOf_12 : decode b_Rm_startsOf 12 = .ok (.iload_n 3, 1) := by decide +kernel
theorem d_Rm_startsOf_13 : decode b_Rm_startsOf 13 = .ok (.aload_n 0, 1) := by decide +kernel
theorem d_Rm_startsOf_14 : decode b_Rm_startsOf 14 = .ok (.getfield 23, 3) := by decide +kernel
theorem d_Rm_startsOf_17 : decode b_Rm_startsOf 17 = .ok (.if_icmp .ge 30, 3) := by decide +kernel
theorem d_Rm_startsOf_20 : decode b_Rm_startsOf 20 = .ok (.iload_n 1, 1) := by decide +kernel
theorem d_Rm_startsOf_21 : decode b_Rm_startsOf 21 = .ok (.iload_n 3, 1) := by decide +kernel
theorem d_Rm_startsOf_22 : decode b_Rm_startsOf 22 = .ok (.ishr, 1) := by decide +kernel
theorem d_Rm_startsOf_23 : decode b_Rm_startsOf 23 = .ok (.iconst 1, 1) := by decide +kernel
theorem d_Rm_startsOf_24 : decode b_Rm_startsOf 24 = .ok (.iand, 1) := by decide +kernel
theorem d_Rm_startsOf_25 : decode b_Rm_startsOf 25 = .ok (.iconst 1, 1) := by decide +kernel
theorem d_Rm_startsOf_26 : decode b_Rm_startsOf 26 = .ok (.if_icmp .ne 15, 3) := by decide +kernel
theorem d_Rm_startsOf_29 : decode b_Rm_startsOf 29 = .ok (.aload_n 2, 1) := by decide +kernel
theorem d_Rm_startsOf_30 : decode b_Rm_startsOf 30 = .ok (.iload_n 3, 1) := by decide +kernel
theorem d_Rm_startsOf_31 : decode b_Rm_startsOf 31 = .ok (.aload_n 0, 1) := by decide +kernel
theorem d_Rm_startsOf_32 : decode b_Rm_startsOf 32 = .ok (.getfield 19, 3) := by decide +kernel
theorem d_Rm_startsOf_35 : decode b_Rm_startsOf 35 = .ok (.iload_n 3, 1) := by decide +kernel
theorem d_Rm_startsOf_36 : decode b_Rm_startsOf 36 = .ok (.aaload, 1) := by decide +kernel
theorem d_Rm_startsOf_37 : decode b_Rm_startsOf 37 = .ok (.getfield 97, 3) := by decide +kernel
theorem d_Rm_startsOf_40 : decode b_Rm_startsOf 40 = .ok (.iastore, 1) := by decide +kernel
theorem d_Rm_startsOf_41 : decode b_Rm_startsOf 41 = .ok (.iinc 3 1, 3) := by decide +kernel
theorem d_Rm_startsOf_44 : decode b_Rm_startsOf 44 = .ok (.goto (-32), 3) := by decide +kernel
theorem d_Rm_startsOf_47 : decode b_Rm_startsOf 47 = .ok (.aload_n 2, 1) := by decide +kernel
theorem d_Rm_startsOf_48 : decode b_Rm_startsOf 48 = .ok (.areturn, 1) := by decide +kernel
theorem d_Rm_firstYearOf_0 : decode b_Rm_firstYearOf 0 = .ok (.sipush 500, 3) := by decide +kernel
theorem d_Rm_firstYearOf_3 : decode b_Rm_firstYearOf 3 = .ok (.istore_n 2, 1) := by decide +kernel
theorem d_Rm_firstYearOf_4 : decode b_Rm_firstYearOf 4 = .ok (.iconst 0, 1) := by decide +kernel
theorem d_Rm_firstYearOf_5 : decode b_Rm_firstYearOf 5 = .ok (.istore_n 3, 1) := by decide +kernel
theorem d_Rm_firstYearOf_6 : decode b_Rm_firstYearOf 6 = .ok (.iload_n 3, 1) := by decide +kernel
theorem d_Rm_firstYearOf_7 : decode b_Rm_firstYearOf 7 = .ok (.aload_n 0, 1) := by decide +kernel
theorem d_Rm_firstYearOf_8 : decode b_Rm_firstYearOf 8 = .ok (.getfield 23, 3) := by decide +kernel
theorem d_Rm_firstYearOf_11 : decode b_Rm_firstYearOf 11 = .ok (.if_icmp .ge 32, 3) := by decide +kernel
theorem d_Rm_firstYearOf_14 : decode b_Rm_firstYearOf 14 = .ok (.iload_n 1, 1) := by decide +kernel
theorem d_Rm_firstYearOf_15 : decode b_Rm_firstYearOf 15 = .ok (.iload_n 3, 1) := by decide +kernel
theorem d_Rm_firstYearOf_16 : decode b_Rm_firstYearOf 16 = .ok (.ishr, 1) := by decide +kernel
theorem d_Rm_firstYearOf_17 : decode b_Rm_firstYearOf 17 = .ok (.iconst 1, 1) := by decide +kernel
theorem d_Rm_firstYearOf_18 : decode b_Rm_firstYearOf 18 = .ok (.iand, 1) := by decide +kernel
theorem d_Rm_firstYearOf_19 : decode b_Rm_firstYearOf 19 = .ok (.iconst 1, 1) := by decide +kernel
theorem d_Rm_firstYearOf_20 : decode b_Rm_firstYearOf 20 = .ok (.if_icmp .ne 17, 3) := by decide +kernel
theorem d_Rm_firstYearOf_23 : decode b_Rm_firstYearOf 23 = .ok (.iload_n 2, 1) := by decide +kernel
theorem d_Rm_firstYearOf_24 : decode b_Rm_firstYearOf 24 = .ok (.aload_n 0, 1) := by decide +kernel
theorem d_Rm_firstYearOf_25 : decode b_Rm_firstYearOf 25 = .ok (.getfield 19, 3) := by decide +kernel
end
section
theorem d_Rm_firstYearOf_28 : decode b_Rm_firstYearOf 28 = .ok (.iload_n 3, 1) := by decide +kernel
theorem d_Rm_firstYearOf_29 : decode b_Rm_firstYearOf 29 = .ok (.aaload, 1) := by decide +kernel
theorem d_Rm_firstYearOf_30 : decode b_Rm_firstYearOf 30 = .ok (.getfield 97, 3) := by decide +kernel
theorem d_Rm_firstYearOf_33 : decode b_Rm_firstYearOf 33 = .ok (.invokestatic 235, 3) := by decide +kernel
theorem d_Rm_firstYearOf_36 : decode b_Rm_firstYearOf 36 = .ok (.istore_n 2, 1) := by decide +kernel
theorem d_Rm_firstYearOf_37 : decode b_Rm_firstYearOf 37 = .ok (.iinc 3 1, 3) := by decide +kernel
theorem d_Rm_firstYearOf_40 : decode b_Rm_firstYearOf 40 = .ok (.goto (-34), 3) := by decide +kernel
theorem d_Rm_firstYearOf_43 : decode b_Rm_firstYearOf 43 = .ok (.iload_n 2, 1) := by decide +kernel
theorem d_Rm_firstYearOf_44 : decode b_Rm_firstYearOf 44 = .ok (.ireturn, 1) := by decide +kernel
theorem d_Rm_lastYearOf_0 : decode b_Rm_lastYearOf 0 = .ok (.iconst 0, 1) := by decide +kernel
theorem d_Rm_lastYearOf_1 : decode b_Rm_lastYearOf 1 = .ok (.istore_n 2, 1) := by decide +kernel
theorem d_Rm_lastYearOf_2 : decode b_Rm_lastYearOf 2 = .ok (.iconst 0, 1) := by decide +kernel
theorem d_Rm_lastYearOf_3 : decode b_Rm_lastYearOf 3 = .ok (.istore_n 3, 1) := by decide +kernel
theorem d_Rm_lastYearOf_4 : decode b_Rm_lastYearOf 4 = .ok (.iload_n 3, 1) := by decide +kernel
theorem d_Rm_lastYearOf_5 : decode b_Rm_lastYearOf 5 = .ok (.aload_n 0, 1) := by decide +kernel
theorem d_Rm_lastYearOf_6 : decode b_Rm_lastYearOf 6 = .ok (.getfield 23, 3) := by decide +kernel
theorem d_Rm_lastYearOf_9 : decode b_Rm_lastYearOf 9 = .ok (.if_icmp .ge 32, 3) := by decide +kernel
theorem d_Rm_lastYearOf_12 : decode b_Rm_lastYearOf 12 = .ok (.iload_n 1, 1) := by decide +kernel
theorem d_Rm_lastYearOf_13 : decode b_Rm_lastYearOf 13 = .ok (.iload_n 3, 1) := by decide +kernel
theorem d_Rm_lastYearOf_14 : decode b_Rm_lastYearOf 14 = .ok (.ishr, 1) := by decide +kernel
theorem d_Rm_lastYearOf_15 : decode b_Rm_lastYearOf 15 = .ok (.iconst 1, 1) := by decide +kernel
theorem d_Rm_lastYearOf_16 : decode b_Rm_lastYearOf 16 = .ok (.iand, 1) := by decide +kernel
theorem d_Rm_lastYearOf_17 : decode b_Rm_lastYearOf 17 = .ok (.iconst 1, 1) := by decide +kernel
theorem d_Rm_lastYearOf_18 : decode b_Rm_lastYearOf 18 = .ok (.if_icmp .ne 17, 3) := by decide +kernel
theorem d_Rm_lastYearOf_21 : decode b_Rm_lastYearOf 21 = .ok (.iload_n 2, 1) := by decide +kernel
theorem d_Rm_lastYearOf_22 : decode b_Rm_lastYearOf 22 = .ok (.aload_n 0, 1) := by decide +kernel
theorem d_Rm_lastYearOf_23 : decode b_Rm_lastYearOf 23 = .ok (.getfield 19, 3) := by decide +kernel
theorem d_Rm_lastYearOf_26 : decode b_Rm_lastYearOf 26 = .ok (.iload_n 3, 1) := by decide +kernel
theorem d_Rm_lastYearOf_27 : decode b_Rm_lastYearOf 27 = .ok (.aaload, 1) := by decide +kernel
theorem d_Rm_lastYearOf_28 : decode b_Rm_lastYearOf 28 = .ok (.invokevirtual 203, 3) := by decide +kernel
theorem d_Rm_lastYearOf_31 : decode b_Rm_lastYearOf 31 = .ok (.invokestatic 246, 3) := by decide +kernel
theorem d_Rm_lastYearOf_34 : decode b_Rm_lastYearOf 34 = .ok (.istore_n 2, 1) := by decide +kernel
theorem d_Rm_lastYearOf_35 : decode b_Rm_lastYearOf 35 = .ok (.iinc 3 1, 3) := by decide +kernel
theorem d_Rm_lastYearOf_38 : decode b_Rm_lastYearOf 38 = .ok (.goto (-34), 3) := by decide +kernel
theorem d_Rm_lastYearOf_41 : decode b_Rm_lastYearOf 41 = .ok (.iload_n 2, 1) := by decide +kernel
theorem d_Rm_lastYearOf_42 : decode b_Rm_lastYearOf 42 = .ok (.ireturn, 1) := by decide +kernel
theorem d_Rm_fillValues_0 : decode b_Rm_fillValues 0 = .ok (.iconst 0, 1) := by decide +kernel
theorem d_Rm_fillValues_1 : decode b_Rm_fillValues 1 = .ok (.istore_n 2, 1) := by decide +kernel
theorem d_Rm_fillValues_2 : decode b_Rm_fillValues 2 = .ok (.iload_n 2, 1) := by decide +kernel
theorem d_Rm_fillValues_3 : decode b_Rm_fillValues 3 = .ok (.aload_n 1, 1) := by decide +kernel
theorem d_Rm_fillValues_4 : decode b_Rm_fillValues 4 = .ok (.getfield 145, 3) := by decide +kernel
theorem d_Rm_fillValues_7 : decode b_Rm_fillValues 7 = .ok (.arraylength, 1) := by decide +kernel
theorem d_Rm_fillValues_8 : decode b_Rm_fillValues 8 = .ok (.if_icmp .ge 50, 3) := by decide +kernel
theorem d_Rm_fillValues_11 : decode b_Rm_fillValues 11 = .ok (.aload_n 0, 1) := by decide +kernel
theorem d_Rm_fillValues_12 : decode b_Rm_fillValues 12 = .ok (.aload_n 1, 1) := by decide +kernel
theorem d_Rm_fillValues_13 : decode b_Rm_fillValues 13 = .ok (.getfield 159, 3) := by decide +kernel
theorem d_Rm_fillValues_16 : decode b_Rm_fillValues 16 = .ok (.aload_n 1, 1) := by decide +kernel
theorem d_Rm_fillValues_17 : decode b_Rm_fillValues 17 = .ok (.getfield 134, 3) := by decide +kernel
theorem d_Rm_fillValues_20 : decode b_Rm_fillValues 20 = .ok (.iload_n 2, 1) := by decide +kernel
theorem d_Rm_fillValues_21 : decode b_Rm_fillValues 21 = .ok (.iadd, 1) := by decide +kernel
theorem d_Rm_fillValues_22 : decode b_Rm_fillValues 22 = .ok (.iconst (-1), 1) := by decide +kernel
theorem d_Rm_fillValues_23 : decode b_Rm_fillValues 23 = .ok (.invokevirtual 249, 3) := by decide +kernel
theorem d_Rm_fillValues_26 : decode b_Rm_fillValues 26 = .ok (.aload_n 1, 1) := by decide +kernel
theorem d_Rm_fillValues_27 : decode b_Rm_fillValues 27 = .ok (.getfield 145, 3) := by decide +kernel
theorem d_Rm_fillValues_30 : decode b_Rm_fillValues 30 = .ok (.iload_n 2, 1) := by decide +kernel
theorem d_Rm_fillValues_31 : decode b_Rm_fillValues 31 = .ok (.aload_n 0, 1) := by decide +kernel
theorem d_Rm_fillValues_32 : decode b_Rm_fillValues 32 = .ok (.getfield 41, 3) := by decide +kernel
theorem d_Rm_fillValues_35 : decode b_Rm_fillValues 35 = .ok (.invokevirtual 253, 3) := by decide +kernel
theorem d_Rm_fillValues_38 : decode b_Rm_fillValues 38 = .ok (.iastore, 1) := by decide +kernel
theorem d_Rm_fillValues_39 : decode b_Rm_fillValues 39 = .ok (.aload_n 1, 1) := by decide +kernel
theorem d_Rm_fillValues_40 : decode b_Rm_fillValues 40 = .ok (.getfield 152, 3) := by decide +kernel
theorem d_Rm_fillValues_43 : decode b_Rm_fillValues 43 = .ok (.iload_n 2, 1) := by decide +kernel
theorem d_Rm_fillValues_44 : decode b_Rm_fillValues 44 = .ok (.aload_n 0, 1) := by decide +kernel
theorem d_Rm_fillValues_45 : decode b_Rm_fillValues 45 = .ok (.getfield 41, 3) := by decide +kernel
theorem d_Rm_fillValues_48 : decode b_Rm_fillValues 48 = .ok (.getfield 256, 3) := by decide +kernel
theorem d_Rm_fillValues_51 : decode b_Rm_fillValues 51 = .ok (.iastore, 1) := by decide +kernel
theorem d_Rm_fillValues_52 : decode b_Rm_fillValues 52 = .ok (.iinc 2 1, 3) := by decide +kernel
theorem d_Rm_fillValues_55 : decode b_Rm_fillValues 55 = .ok (.goto (-53), 3) := by decide +kernel
theorem d_Rm_fillValues_58 : decode b_Rm_fillValues 58 = .ok (.return_, 1) := by decide +kernel
theorem d_Rm_gather_0 : decode b_Rm_gather 0 = .ok (.aload_n 0, 1) := by decide +kernel
theorem d_Rm_gather_1 : decode b_Rm_gather 1 = .ok (.getfield 41, 3) := by decide +kernel
theorem d_Rm_gather_4 : decode b_Rm_gather 4 = .ok (.invokevirtual 259, 3) := by decide +kernel
theorem d_Rm_gather_7 : decode b_Rm_gather 7 = .ok (.iconst 0, 1) := by decide +kernel
theorem d_Rm_gather_8 : decode b_Rm_gather 8 = .ok (.istore 4, 2) := by decide +kernel
theorem d_Rm_gather_10 : decode b_Rm_gather 10 = .ok (.iload 4, 2) := by decide +kernel
theorem d_Rm_gather_12 : decode b_Rm_gather 12 = .ok (.aload_n 1, 1) := by decide +kernel
theorem d_Rm_gather_13 : decode b_Rm_gather 13 = .ok (.arraylength, 1) := by decide +kernel
theorem d_Rm_gather_14 : decode b_Rm_gather 14 = .ok (.if_icmp .ge 67, 3) := by decide +kernel
theorem d_Rm_gather_17 : decode b_Rm_gather 17 = .ok (.iload 4, 2) := by decide +kernel
theorem d_Rm_gather_19 : decode b_Rm_gather 19 = .ok (.aload_n 0, 1) := by decide +kernel
theorem d_Rm_gather_20 : decode b_Rm_gather 20 = .ok (.getfield 23, 3) := by decide +kernel
theorem d_Rm_gather_23 : decode b_Rm_gather 23 = .ok (.if_icmp .ge 58, 3) := by decide +kernel
theorem d_Rm_gather_26 : decode b_Rm_gather 26 = .ok (.iload 4, 2) := by decide +kernel
theorem d_Rm_gather_28 : decode b_Rm_gather 28 = .ok (.iload_n 3, 1) := by decide +kernel
theorem d_Rm_gather_29 : decode b_Rm_gather 29 = .ok (.if_icmp .eq 46, 3) := by decide +kernel
theorem d_Rm_gather_32 : decode b_Rm_gather 32 = .ok (.aload_n 1, 1) := by decide +kernel
theorem d_Rm_gather_33 : decode b_Rm_gather 33 = .ok (.iload 4, 2) := by decide +kernel
theorem d_Rm_gather_35 : decode b_Rm_gather 35 = .ok (.iaload, 1) := by decide +kernel
theorem d_Rm_gather_36 : decode b_Rm_gather 36 = .ok (.iconst (-1), 1) := by decide +kernel
theorem d_Rm_gather_37 : decode b_Rm_gather 37 = .ok (.if_icmp .ne 6, 3) := by decide +kernel
theorem d_Rm_gather_40 : decode b_Rm_gather 40 = .ok (.goto 35, 3) := by decide +kernel
theorem d_Rm_gather_43 : decode b_Rm_gather 43 = .ok (.aload_n 0, 1) := by decide +kernel
theorem d_Rm_gather_44 : decode b_Rm_gather 44 = .ok (.getfield 19, 3) := by decide +kernel
theorem d_Rm_gather_47 : decode b_Rm_gather 47 = .ok (.iload 4, 2) := by decide +kernel
theorem d_Rm_gather_49 : decode b_Rm_gather 49 = .ok (.aaload, 1) := by decide +kernel
theorem d_Rm_gather_50 : decode b_Rm_gather 50 = .ok (.iload_n 2, 1) := by decide +kernel
theorem d_Rm_gather_51 : decode b_Rm_gather 51 = .ok (.aload_n 1, 1) := by decide +kernel
theorem d_Rm_gather_52 : decode b_Rm_gather 52 = .ok (.iload 4, 2) := by decide +kernel
theorem d_Rm_gather_54 : decode b_Rm_gather 54 = .ok (.iaload, 1) := by decide +kernel
theorem d_Rm_gather_55 : decode b_Rm_gather 55 = .ok (.invokevirtual 214, 3) := by decide +kernel
theorem d_Rm_gather_58 : decode b_Rm_gather 58 = .ok (.istore 5, 2) := by decide +kernel
theorem d_Rm_gather_60 : decode b_Rm_gather 60 = .ok (.iload 5, 2) := by decide +kernel
theorem d_Rm_gather_62 : decode b_Rm_gather 62 = .ok (.iconst (-1), 1) := by decide +kernel
theorem d_Rm_gather_63 : decode b_Rm_gather 63 = .ok (.if_icmp .eq 12, 3) := by decide +kernel
theorem d_Rm_gather_66 : decode b_Rm_gather 66 = .ok (.aload_n 0, 1) := by decide +kernel
theorem d_Rm_gather_67 : decode b_Rm_gather 67 = .ok (.getfield 41, 3) := by decide +kernel
theorem d_Rm_gather_70 : decode b_Rm_gather 70 = .ok (.iload 5, 2) := by decide +kernel
theorem d_Rm_gather_72 : decode b_Rm_gather 72 = .ok (.invokevirtual 260, 3) := by decide +kernel
theorem d_Rm_gather_75 : decode b_Rm_gather 75 = .ok (.iinc 4 1, 3) := by decide +kernel
theorem d_Rm_gather_78 : decode b_Rm_gather 78 = .ok (.goto (-68), 3) := by decide +kernel
theorem d_Rm_gather_81 : decode b_Rm_gather 81 = .ok (.return_, 1) := by decide +kernel
theorem d_Rm_about_0 : decode b_Rm_about 0 = .ok (.aload_n 0, 1) := by decide +kernel
theorem d_Rm_about_1 : decode b_Rm_about 1 = .ok (.iload_n 1, 1) := by decide +kernel
theorem d_Rm_about_2 : decode b_Rm_about 2 = .ok (.invokevirtual 130, 3) := by decide +kernel
theorem d_Rm_about_5 : decode b_Rm_about 5 = .ok (.astore_n 3, 1) := by decide +kernel
theorem d_Rm_about_6 : decode b_Rm_about 6 = .ok (.iload_n 2, 1) := by decide +kernel
theorem d_Rm_about_7 : decode b_Rm_about 7 = .ok (.tableswitch 40 0 2 #[25, 30, 35], 25) := by decide +kernel
theorem d_Rm_about_32 : decode b_Rm_about 32 = .ok (.aload_n 3, 1) := by decide +kernel
theorem d_Rm_about_33 : decode b_Rm_about 33 = .ok (.getfield 134, 3) := by decide +kernel
theorem d_Rm_about_36 : decode b_Rm_about 36 = .ok (.ireturn, 1) := by decide +kernel
theorem d_Rm_about_37 : decode b_Rm_about 37 = .ok (.aload_n 3, 1) := by decide +kernel
theorem d_Rm_about_38 : decode b_Rm_about 38 = .ok (.getfield 137, 3) := by decide +kernel
theorem d_Rm_about_41 : decode b_Rm_about 41 = .ok (.ireturn, 1) := by decide +kernel
theorem d_Rm_about_42 : decode b_Rm_about 42 = .ok (.aload_n 3, 1) := by decide +kernel
theorem d_Rm_about_43 : decode b_Rm_about 43 = .ok (.getfield 140, 3) := by decide +kernel
theorem d_Rm_about_46 : decode b_Rm_about 46 = .ok (.ireturn, 1) := by decide +kernel
theorem d_Rm_about_47 : decode b_Rm_about 47 = .ok (.new 90, 3) := by decide +kernel
theorem d_Rm_about_50 : decode b_Rm_about 50 = .ok (.dup, 1) := by decide +kernel
theorem d_Rm_about_51 : decode b_Rm_about 51 = .ok (.ldc 143, 2) := by decide +kernel
theorem d_Rm_about_53 : decode b_Rm_about 53 = .ok (.invokespecial 94, 3) := by decide +kernel
theorem d_Rm_about_56 : decode b_Rm_about 56 = .ok (.athrow, 1) := by decide +kernel
theorem d_Rm_meanOf_0 : decode b_Rm_meanOf 0 = .ok (.iload_n 1, 1) := by decide +kernel
theorem d_Rm_meanOf_1 : decode b_Rm_meanOf 1 = .ok (.ifCond .lt 11, 3) := by decide +kernel
theorem d_Rm_meanOf_4 : decode b_Rm_meanOf 4 = .ok (.iload_n 1, 1) := by decide +kernel
theorem d_Rm_meanOf_5 : decode b_Rm_meanOf 5 = .ok (.aload_n 0, 1) := by decide +kernel
theorem d_Rm_meanOf_6 : decode b_Rm_meanOf 6 = .ok (.getfield 32, 3) := by decide +kernel
theorem d_Rm_meanOf_9 : decode b_Rm_meanOf 9 = .ok (.if_icmp .lt 13, 3) := by decide +kernel
theorem d_Rm_meanOf_12 : decode b_Rm_meanOf 12 = .ok (.new 90, 3) := by decide +kernel
theorem d_Rm_meanOf_15 : decode b_Rm_meanOf 15 = .ok (.dup, 1) := by decide +kernel
theorem d_Rm_meanOf_16 : decode b_Rm_meanOf 16 = .ok (.ldc 182, 2) := by decide +kernel
theorem d_Rm_meanOf_18 : decode b_Rm_meanOf 18 = .ok (.invokespecial 94, 3) := by decide +kernel
theorem d_Rm_meanOf_21 : decode b_Rm_meanOf 21 = .ok (.athrow, 1) := by decide +kernel
theorem d_Rm_meanOf_22 : decode b_Rm_meanOf 22 = .ok (.aload_n 0, 1) := by decide +kernel
theorem d_Rm_meanOf_23 : decode b_Rm_meanOf 23 = .ok (.getfield 28, 3) := by decide +kernel
theorem d_Rm_meanOf_26 : decode b_Rm_meanOf 26 = .ok (.iload_n 1, 1) := by decide +kernel
theorem d_Rm_meanOf_27 : decode b_Rm_meanOf 27 = .ok (.aaload, 1) := by decide +kernel
theorem d_Rm_meanOf_28 : decode b_Rm_meanOf 28 = .ok (.areturn, 1) := by decide +kernel
theorem d_Rm_at_0 : decode b_Rm_at 0 = .ok (.aload_n 0, 1) := by decide +kernel
theorem d_Rm_at_1 : decode b_Rm_at 1 = .ok (.iload_n 1, 1) := by decide +kernel
theorem d_Rm_at_2 : decode b_Rm_at 2 = .ok (.invokevirtual 130, 3) := by decide +kernel
theorem d_Rm_at_5 : decode b_Rm_at 5 = .ok (.astore_n 3, 1) := by decide +kernel
theorem d_Rm_at_6 : decode b_Rm_at 6 = .ok (.aload_n 3, 1) := by decide +kernel
theorem d_Rm_at_7 : decode b_Rm_at 7 = .ok (.getfield 145, 3) := by decide +kernel
theorem d_Rm_at_10 : decode b_Rm_at 10 = .ok (.aload_n 3, 1) := by decide +kernel
theorem d_Rm_at_11 : decode b_Rm_at 11 = .ok (.iload_n 2, 1) := by decide +kernel
theorem d_Rm_at_12 : decode b_Rm_at 12 = .ok (.invokestatic 148, 3) := by decide +kernel
theorem d_Rm_at_15 : decode b_Rm_at 15 = .ok (.iaload, 1) := by decide +kernel
theorem d_Rm_at_16 : decode b_Rm_at 16 = .ok (.ireturn, 1) := by decide +kernel
theorem d_Rm_placeInMaster_0 : decode b_Rm_placeInMaster 0 = .ok (.iload_n 1, 1) := by decide +kernel
theorem d_Rm_placeInMaster_1 : decode b_Rm_placeInMaster 1 = .ok (.aload_n 0, 1) := by decide +kernel
theorem d_Rm_placeInMaster_2 : decode b_Rm_placeInMaster 2 = .ok (.getfield 134, 3) := by decide +kernel
theorem d_Rm_placeInMaster_5 : decode b_Rm_placeInMaster 5 = .ok (.if_icmp .lt 11, 3) := by decide +kernel
theorem d_Rm_placeInMaster_8 : decode b_Rm_placeInMaster 8 = .ok (.iload_n 1, 1) := by decide +kernel
theorem d_Rm_placeInMaster_9 : decode b_Rm_placeInMaster 9 = .ok (.aload_n 0, 1) := by decide +kernel
theorem d_Rm_placeInMaster_10 : decode b_Rm_placeInMaster 10 = .ok (.getfield 137, 3) := by decide +kernel
theorem d_Rm_placeInMaster_13 : decode b_Rm_placeInMaster 13 = .ok (.if_icmp .le 13, 3) := by decide +kernel
theorem d_Rm_placeInMaster_16 : decode b_Rm_placeInMaster 16 = .ok (.new 90, 3) := by decide +kernel
theorem d_Rm_placeInMaster_19 : decode b_Rm_placeInMaster 19 = .ok (.dup, 1) := by decide +kernel
theorem d_Rm_placeInMaster_20 : decode b_Rm_placeInMaster 20 = .ok (.ldc 95, 2) := by decide +kernel
theorem d_Rm_placeInMaster_22 : decode b_Rm_placeInMaster 22 = .ok (.invokespecial 94, 3) := by decide +kernel
theorem d_Rm_placeInMaster_25 : decode b_Rm_placeInMaster 25 = .ok (.athrow, 1) := by decide +kernel
theorem d_Rm_placeInMaster_26 : decode b_Rm_placeInMaster 26 = .ok (.iload_n 1, 1) := by decide +kernel
theorem d_Rm_placeInMaster_27 : decode b_Rm_placeInMaster 27 = .ok (.aload_n 0, 1) := by decide +kernel
theorem d_Rm_placeInMaster_28 : decode b_Rm_placeInMaster 28 = .ok (.getfield 134, 3) := by decide +kernel
theorem d_Rm_placeInMaster_31 : decode b_Rm_placeInMaster 31 = .ok (.isub, 1) := by decide +kernel
theorem d_Rm_placeInMaster_32 : decode b_Rm_placeInMaster 32 = .ok (.ireturn, 1) := by decide +kernel
theorem d_Rm_depth_0 : decode b_Rm_depth 0 = .ok (.aload_n 0, 1) := by decide +kernel
theorem d_Rm_depth_1 : decode b_Rm_depth 1 = .ok (.iload_n 1, 1) := by decide +kernel
theorem d_Rm_depth_2 : decode b_Rm_depth 2 = .ok (.invokevirtual 130, 3) := by decide +kernel
theorem d_Rm_depth_5 : decode b_Rm_depth 5 = .ok (.astore_n 3, 1) := by decide +kernel
theorem d_Rm_depth_6 : decode b_Rm_depth 6 = .ok (.aload_n 3, 1) := by decide +kernel
theorem d_Rm_depth_7 : decode b_Rm_depth 7 = .ok (.getfield 152, 3) := by decide +kernel
theorem d_Rm_depth_10 : decode b_Rm_depth 10 = .ok (.aload_n 3, 1) := by decide +kernel
theorem d_Rm_depth_11 : decode b_Rm_depth 11 = .ok (.iload_n 2, 1) := by decide +kernel
theorem d_Rm_depth_12 : decode b_Rm_depth 12 = .ok (.invokestatic 148, 3) := by decide +kernel
theorem d_Rm_depth_15 : decode b_Rm_depth 15 = .ok (.iaload, 1) := by decide +kernel
theorem d_Rm_depth_16 : decode b_Rm_depth 16 = .ok (.ireturn, 1) := by decide +kernel
theorem d_Rm_leftOut_0 : decode b_Rm_leftOut 0 = .ok (.aload_n 0, 1) := by decide +kernel
theorem d_Rm_leftOut_1 : decode b_Rm_leftOut 1 = .ok (.iload_n 1, 1) := by decide +kernel
theorem d_Rm_leftOut_2 : decode b_Rm_leftOut 2 = .ok (.invokevirtual 130, 3) := by decide +kernel
theorem d_Rm_leftOut_5 : decode b_Rm_leftOut 5 = .ok (.astore 4, 2) := by decide +kernel
theorem d_Rm_leftOut_7 : decode b_Rm_leftOut 7 = .ok (.iload_n 3, 1) := by decide +kernel
theorem d_Rm_leftOut_8 : decode b_Rm_leftOut 8 = .ok (.invokestatic 155, 3) := by decide +kernel
theorem d_Rm_leftOut_11 : decode b_Rm_leftOut 11 = .ok (.iload_n 2, 1) := by decide +kernel
theorem d_Rm_leftOut_12 : decode b_Rm_leftOut 12 = .ok (.ifCond .lt 24, 3) := by decide +kernel
theorem d_Rm_leftOut_15 : decode b_Rm_leftOut 15 = .ok (.iload_n 2, 1) := by decide +kernel
theorem d_Rm_leftOut_16 : decode b_Rm_leftOut 16 = .ok (.aload 4, 2) := by decide +kernel
theorem d_Rm_leftOut_18 : decode b_Rm_leftOut 18 = .ok (.getfield 159, 3) := by decide +kernel
theorem d_Rm_leftOut_21 : decode b_Rm_leftOut 21 = .ok (.arraylength, 1) := by decide +kernel
theorem d_Rm_leftOut_22 : decode b_Rm_leftOut 22 = .ok (.if_icmp .ge 14, 3) := by decide +kernel
theorem d_Rm_leftOut_25 : decode b_Rm_leftOut 25 = .ok (.aload 4, 2) := by decide +kernel
theorem d_Rm_leftOut_27 : decode b_Rm_leftOut 27 = .ok (.getfield 159, 3) := by decide +kernel
theorem d_Rm_leftOut_30 : decode b_Rm_leftOut 30 = .ok (.iload_n 2, 1) := by decide +kernel
theorem d_Rm_leftOut_31 : decode b_Rm_leftOut 31 = .ok (.iaload, 1) := by decide +kernel
theorem d_Rm_leftOut_32 : decode b_Rm_leftOut 32 = .ok (.iconst (-1), 1) := by decide +kernel
theorem d_Rm_leftOut_33 : decode b_Rm_leftOut 33 = .ok (.if_icmp .ne 13, 3) := by decide +kernel
theorem d_Rm_leftOut_36 : decode b_Rm_leftOut 36 = .ok (.new 90, 3) := by decide +kernel
theorem d_Rm_leftOut_39 : decode b_Rm_leftOut 39 = .ok (.dup, 1) := by decide +kernel
theorem d_Rm_leftOut_40 : decode b_Rm_leftOut 40 = .ok (.ldc 162, 2) := by decide +kernel
theorem d_Rm_leftOut_42 : decode b_Rm_leftOut 42 = .ok (.invokespecial 94, 3) := by decide +kernel
theorem d_Rm_leftOut_45 : decode b_Rm_leftOut 45 = .ok (.athrow, 1) := by decide +kernel
theorem d_Rm_leftOut_46 : decode b_Rm_leftOut 46 = .ok (.aload_n 0, 1) := by decide +kernel
theorem d_Rm_leftOut_47 : decode b_Rm_leftOut 47 = .ok (.aload 4, 2) := by decide +kernel
theorem d_Rm_leftOut_49 : decode b_Rm_leftOut 49 = .ok (.iload_n 2, 1) := by decide +kernel
theorem d_Rm_leftOut_50 : decode b_Rm_leftOut 50 = .ok (.invokevirtual 164, 3) := by decide +kernel
theorem d_Rm_leftOut_53 : decode b_Rm_leftOut 53 = .ok (.aload_n 0, 1) := by decide +kernel
theorem d_Rm_leftOut_54 : decode b_Rm_leftOut 54 = .ok (.getfield 48, 3) := by decide +kernel
theorem d_Rm_leftOut_57 : decode b_Rm_leftOut 57 = .ok (.iload_n 3, 1) := by decide +kernel
theorem d_Rm_leftOut_58 : decode b_Rm_leftOut 58 = .ok (.invokevirtual 168, 3) := by decide +kernel
theorem d_Rm_leftOut_61 : decode b_Rm_leftOut 61 = .ok (.ireturn, 1) := by decide +kernel
theorem d_Rm_checkSumOrYears_0 : decode b_Rm_checkSumOrYears 0 = .ok (.iload_n 0, 1) := by decide +kernel
theorem d_Rm_checkSumOrYears_1 : decode b_Rm_checkSumOrYears 1 = .ok (.ifCond .lt 8, 3) := by decide +kernel
theorem d_Rm_checkSumOrYears_4 : decode b_Rm_checkSumOrYears 4 = .ok (.iload_n 0, 1) := by decide +kernel
theorem d_Rm_checkSumOrYears_5 : decode b_Rm_checkSumOrYears 5 = .ok (.iconst 1, 1) := by decide +kernel
theorem d_Rm_checkSumOrYears_6 : decode b_Rm_checkSumOrYears 6 = .ok (.if_icmp .le 13, 3) := by decide +kernel
theorem d_Rm_checkSumOrYears_9 : decode b_Rm_checkSumOrYears 9 = .ok (.new 90, 3) := by decide +kernel
theorem d_Rm_checkSumOrYears_12 : decode b_Rm_checkSumOrYears 12 = .ok (.dup, 1) := by decide +kernel
theorem d_Rm_checkSumOrYears_13 : decode b_Rm_checkSumOrYears 13 = .ok (.ldc 143, 2) := by decide +kernel
theorem d_Rm_checkSumOrYears_15 : decode b_Rm_checkSumOrYears 15 = .ok (.invokespecial 94, 3) := by decide +kernel
theorem d_Rm_checkSumOrYears_18 : decode b_Rm_checkSumOrYears 18 = .ok (.athrow, 1) := by decide +kernel
theorem d_Rm_checkSumOrYears_19 : decode b_Rm_checkSumOrYears 19 = .ok (.return_, 1) := by decide +kernel
theorem d_Rm_measureFromOthers_0 : decode b_Rm_measureFromOthers 0 = .ok (.aload_n 0, 1) := by decide +kernel
theorem d_Rm_measureFromOthers_1 : decode b_Rm_measureFromOthers 1 = .ok (.getfield 48, 3) := by decide +kernel
theorem d_Rm_measureFromOthers_4 : decode b_Rm_measureFromOthers 4 = .ok (.invokevirtual 211, 3) := by decide +kernel
theorem d_Rm_measureFromOthers_7 : decode b_Rm_measureFromOthers 7 = .ok (.aload_n 0, 1) := by decide +kernel
theorem d_Rm_measureFromOthers_8 : decode b_Rm_measureFromOthers 8 = .ok (.getfield 19, 3) := by decide +kernel
theorem d_Rm_measureFromOthers_11 : decode b_Rm_measureFromOthers 11 = .ok (.iload_n 2, 1) := by decide +kernel
theorem d_Rm_measureFromOthers_12 : decode b_Rm_measureFromOthers 12 = .ok (.aaload, 1) := by decide +kernel
theorem d_Rm_measureFromOthers_13 : decode b_Rm_measureFromOthers 13 = .ok (.getfield 87, 3) := by decide +kernel
theorem d_Rm_measureFromOthers_16 : decode b_Rm_measureFromOthers 16 = .ok (.astore_n 3, 1) := by decide +kernel
theorem d_Rm_measureFromOthers_17 : decode b_Rm_measureFromOthers 17 = .ok (.iconst 0, 1) := by decide +kernel
theorem d_Rm_measureFromOthers_18 : decode b_Rm_measureFromOthers 18 = .ok (.istore 4, 2) := by decide +kernel
theorem d_Rm_measureFromOthers_20 : decode b_Rm_measureFromOthers 20 = .ok (.iload 4, 2) := by decide +kernel
theorem d_Rm_measureFromOthers_22 : decode b_Rm_measureFromOthers 22 = .ok (.aload_n 3, 1) := by decide +kernel
theorem d_Rm_measureFromOthers_23 : decode b_Rm_measureFromOthers 23 = .ok (.arraylength, 1) := by decide +kernel
theorem d_Rm_measureFromOthers_24 : decode b_Rm_measureFromOthers 24 = .ok (.if_icmp .ge 55, 3) := by decide +kernel
theorem d_Rm_measureFromOthers_27 : decode b_Rm_measureFromOthers 27 = .ok (.aload_n 0, 1) := by decide +kernel
theorem d_Rm_measureFromOthers_28 : decode b_Rm_measureFromOthers 28 = .ok (.aload_n 1, 1) := by decide +kernel
theorem d_Rm_measureFromOthers_29 : decode b_Rm_measureFromOthers 29 = .ok (.getfield 159, 3) := by decide +kernel
theorem d_Rm_measureFromOthers_32 : decode b_Rm_measureFromOthers 32 = .ok (.aload_n 1, 1) := by decide +kernel
theorem d_Rm_measureFromOthers_33 : decode b_Rm_measureFromOthers 33 = .ok (.getfield 159, 3) := by decide +kernel
theorem d_Rm_measureFromOthers_36 : decode b_Rm_measureFromOthers 36 = .ok (.iload_n 2, 1) := by decide +kernel
theorem d_Rm_measureFromOthers_37 : decode b_Rm_measureFromOthers 37 = .ok (.iaload, 1) := by decide +kernel
theorem d_Rm_measureFromOthers_38 : decode b_Rm_measureFromOthers 38 = .ok (.iload 4, 2) := by decide +kernel
theorem d_Rm_measureFromOthers_40 : decode b_Rm_measureFromOthers 40 = .ok (.iadd, 1) := by decide +kernel
theorem d_Rm_measureFromOthers_41 : decode b_Rm_measureFromOthers 41 = .ok (.iload_n 2, 1) := by decide +kernel
theorem d_Rm_measureFromOthers_42 : decode b_Rm_measureFromOthers 42 = .ok (.invokevirtual 249, 3) := by decide +kernel
theorem d_Rm_measureFromOthers_45 : decode b_Rm_measureFromOthers 45 = .ok (.aload_n 0, 1) := by decide +kernel
theorem d_Rm_measureFromOthers_46 : decode b_Rm_measureFromOthers 46 = .ok (.getfield 41, 3) := by decide +kernel
theorem d_Rm_measureFromOthers_49 : decode b_Rm_measureFromOthers 49 = .ok (.invokevirtual 253, 3) := by decide +kernel
theorem d_Rm_measureFromOthers_52 : decode b_Rm_measureFromOthers 52 = .ok (.istore 5, 2) := by decide +kernel
theorem d_Rm_measureFromOthers_54 : decode b_Rm_measureFromOthers 54 = .ok (.iload 5, 2) := by decide +kernel
theorem d_Rm_measureFromOthers_56 : decode b_Rm_measureFromOthers 56 = .ok (.iconst (-1), 1) := by decide +kernel
theorem d_Rm_measureFromOthers_57 : decode b_Rm_measureFromOthers 57 = .ok (.if_icmp .eq 16, 3) := by decide +kernel
theorem d_Rm_measureFromOthers_60 : decode b_Rm_measureFromOthers 60 = .ok (.aload_n 0, 1) := by decide +kernel
theorem d_Rm_measureFromOthers_61 : decode b_Rm_measureFromOthers 61 = .ok (.getfield 48, 3) := by decide +kernel
theorem d_Rm_measureFromOthers_64 : decode b_Rm_measureFromOthers 64 = .ok (.aload_n 3, 1) := by decide +kernel
theorem d_Rm_measureFromOthers_65 : decode b_Rm_measureFromOthers 65 = .ok (.iload 4, 2) := by decide +kernel
theorem d_Rm_measureFromOthers_67 : decode b_Rm_measureFromOthers 67 = .ok (.iaload, 1) := by decide +kernel
theorem d_Rm_measureFromOthers_68 : decode b_Rm_measureFromOthers 68 = .ok (.iload 5, 2) := by decide +kernel
theorem d_Rm_measureFromOthers_70 : decode b_Rm_measureFromOthers 70 = .ok (.invokevirtual 218, 3) := by decide +kernel
theorem d_Rm_measureFromOthers_73 : decode b_Rm_measureFromOthers 73 = .ok (.iinc 4 1, 3) := by decide +kernel
theorem d_Rm_measureFromOthers_76 : decode b_Rm_measureFromOthers 76 = .ok (.goto (-56), 3) := by decide +kernel
theorem d_Rm_measureFromOthers_79 : decode b_Rm_measureFromOthers 79 = .ok (.return_, 1) := by decide +kernel
theorem d_Rm_distance_0 : decode b_Rm_distance 0 = .ok (.aload_n 0, 1) := by decide +kernel
theorem d_Rm_distance_1 : decode b_Rm_distance 1 = .ok (.iload_n 1, 1) := by decide +kernel
theorem d_Rm_distance_2 : decode b_Rm_distance 2 = .ok (.invokevirtual 83, 3) := by decide +kernel
theorem d_Rm_distance_5 : decode b_Rm_distance 5 = .ok (.astore 5, 2) := by decide +kernel
theorem d_Rm_distance_7 : decode b_Rm_distance 7 = .ok (.aload_n 0, 1) := by decide +kernel
theorem d_Rm_distance_8 : decode b_Rm_distance 8 = .ok (.iload_n 2, 1) := by decide +kernel
theorem d_Rm_distance_9 : decode b_Rm_distance 9 = .ok (.invokevirtual 130, 3) := by decide +kernel
theorem d_Rm_distance_12 : decode b_Rm_distance 12 = .ok (.astore 6, 2) := by decide +kernel
theorem d_Rm_distance_14 : decode b_Rm_distance 14 = .ok (.iload 4, 2) := by decide +kernel
theorem d_Rm_distance_16 : decode b_Rm_distance 16 = .ok (.invokestatic 155, 3) := by decide +kernel
theorem d_Rm_distance_19 : decode b_Rm_distance 19 = .ok (.aload_n 0, 1) := by decide +kernel
theorem d_Rm_distance_20 : decode b_Rm_distance 20 = .ok (.aload 5, 2) := by decide +kernel
theorem d_Rm_distance_22 : decode b_Rm_distance 22 = .ok (.aload 6, 2) := by decide +kernel
theorem d_Rm_distance_24 : decode b_Rm_distance 24 = .ok (.iload_n 3, 1) := by decide +kernel
theorem d_Rm_distance_25 : decode b_Rm_distance 25 = .ok (.invokevirtual 171, 3) := by decide +kernel
theorem d_Rm_distance_28 : decode b_Rm_distance 28 = .ok (.aload_n 0, 1) := by decide +kernel
theorem d_Rm_distance_29 : decode b_Rm_distance 29 = .ok (.getfield 48, 3) := by decide +kernel
theorem d_Rm_distance_32 : decode b_Rm_distance 32 = .ok (.iload 4, 2) := by decide +kernel
theorem d_Rm_distance_34 : decode b_Rm_distance 34 = .ok (.invokevirtual 168, 3) := by decide +kernel
theorem d_Rm_distance_37 : decode b_Rm_distance 37 = .ok (.ireturn, 1) := by decide +kernel
theorem d_Rm_measure_0 : decode b_Rm_measure 0 = .ok (.aload_n 0, 1) := by decide +kernel
theorem d_Rm_measure_1 : decode b_Rm_measure 1 = .ok (.getfield 48, 3) := by decide +kernel
theorem d_Rm_measure_4 : decode b_Rm_measure 4 = .ok (.invokevirtual 211, 3) := by decide +kernel
theorem d_Rm_measure_7 : decode b_Rm_measure 7 = .ok (.iconst 0, 1) := by decide +kernel
theorem d_Rm_measure_8 : decode b_Rm_measure 8 = .ok (.istore 4, 2) := by decide +kernel
theorem d_Rm_measure_10 : decode b_Rm_measure 10 = .ok (.iload 4, 2) := by decide +kernel
theorem d_Rm_measure_12 : decode b_Rm_measure 12 = .ok (.aload_n 1, 1) := by decide +kernel
theorem d_Rm_measure_13 : decode b_Rm_measure 13 = .ok (.getfield 87, 3) := by decide +kernel
theorem d_Rm_measure_16 : decode b_Rm_measure 16 = .ok (.arraylength, 1) := by decide +kernel
theorem d_Rm_measure_17 : decode b_Rm_measure 17 = .ok (.if_icmp .ge 77, 3) := by decide +kernel
theorem d_Rm_measure_20 : decode b_Rm_measure 20 = .ok (.iload_n 3, 1) := by decide +kernel
theorem d_Rm_measure_21 : decode b_Rm_measure 21 = .ok (.i2l, 1) := by decide +kernel
theorem d_Rm_measure_22 : decode b_Rm_measure 22 = .ok (.iload 4, 2) := by decide +kernel
theorem d_Rm_measure_24 : decode b_Rm_measure 24 = .ok (.i2l, 1) := by decide +kernel
theorem d_Rm_measure_25 : decode b_Rm_measure 25 = .ok (.ladd, 1) := by decide +kernel
theorem d_Rm_measure_26 : decode b_Rm_measure 26 = .ok (.aload_n 2, 1) := by decide +kernel
theorem d_Rm_measure_27 : decode b_Rm_measure 27 = .ok (.getfield 134, 3) := by decide +kernel
theorem d_Rm_measure_30 : decode b_Rm_measure 30 = .ok (.i2l, 1) := by decide +kernel
theorem d_Rm_measure_31 : decode b_Rm_measure 31 = .ok (.lsub, 1) := by decide +kernel
theorem d_Rm_measure_32 : decode b_Rm_measure 32 = .ok (.lstore 5, 2) := by decide +kernel
theorem d_Rm_measure_34 : decode b_Rm_measure 34 = .ok (.lload 5, 2) := by decide +kernel
theorem d_Rm_measure_36 : decode b_Rm_measure 36 = .ok (.lconst 0, 1) := by decide +kernel
theorem d_Rm_measure_37 : decode b_Rm_measure 37 = .ok (.lcmp, 1) := by decide +kernel
theorem d_Rm_measure_38 : decode b_Rm_measure 38 = .ok (.ifCond .lt 50, 3) := by decide +kernel
theorem d_Rm_measure_41 : decode b_Rm_measure 41 = .ok (.lload 5, 2) := by decide +kernel
theorem d_Rm_measure_43 : decode b_Rm_measure 43 = .ok (.aload_n 2, 1) := by decide +kernel
theorem d_Rm_measure_44 : decode b_Rm_measure 44 = .ok (.getfield 145, 3) := by decide +kernel
theorem d_Rm_measure_47 : decode b_Rm_measure 47 = .ok (.arraylength, 1) := by decide +kernel
theorem d_Rm_measure_48 : decode b_Rm_measure 48 = .ok (.i2l, 1) := by decide +kernel
theorem d_Rm_measure_49 : decode b_Rm_measure 49 = .ok (.lcmp, 1) := by decide +kernel
theorem d_Rm_measure_50 : decode b_Rm_measure 50 = .ok (.ifCond .lt 6, 3) := by decide +kernel
theorem d_Rm_measure_53 : decode b_Rm_measure 53 = .ok (.goto 35, 3) := by decide +kernel
theorem d_Rm_measure_56 : decode b_Rm_measure 56 = .ok (.aload_n 2, 1) := by decide +kernel
theorem d_Rm_measure_57 : decode b_Rm_measure 57 = .ok (.getfield 145, 3) := by decide +kernel
theorem d_Rm_measure_60 : decode b_Rm_measure 60 = .ok (.lload 5, 2) := by decide +kernel
theorem d_Rm_measure_62 : decode b_Rm_measure 62 = .ok (.l2i, 1) := by decide +kernel
theorem d_Rm_measure_63 : decode b_Rm_measure 63 = .ok (.iaload, 1) := by decide +kernel
theorem d_Rm_measure_64 : decode b_Rm_measure 64 = .ok (.istore 7, 2) := by decide +kernel
theorem d_Rm_measure_66 : decode b_Rm_measure 66 = .ok (.iload 7, 2) := by decide +kernel
theorem d_Rm_measure_68 : decode b_Rm_measure 68 = .ok (.iconst (-1), 1) := by decide +kernel
theorem d_Rm_measure_69 : decode b_Rm_measure 69 = .ok (.if_icmp .eq 19, 3) := by decide +kernel
theorem d_Rm_measure_72 : decode b_Rm_measure 72 = .ok (.aload_n 0, 1) := by decide +kernel
theorem d_Rm_measure_73 : decode b_Rm_measure 73 = .ok (.getfield 48, 3) := by decide +kernel
theorem d_Rm_measure_76 : decode b_Rm_measure 76 = .ok (.aload_n 1, 1) := by decide +kernel
theorem d_Rm_measure_77 : decode b_Rm_measure 77 = .ok (.getfield 87, 3) := by decide +kernel
theorem d_Rm_measure_80 : decode b_Rm_measure 80 = .ok (.iload 4, 2) := by decide +kernel
theorem d_Rm_measure_82 : decode b_Rm_measure 82 = .ok (.iaload, 1) := by decide +kernel
theorem d_Rm_measure_83 : decode b_Rm_measure 83 = .ok (.iload 7, 2) := by decide +kernel
theorem d_Rm_measure_85 : decode b_Rm_measure 85 = .ok (.invokevirtual 218, 3) := by decide +kernel
theorem d_Rm_measure_88 : decode b_Rm_measure 88 = .ok (.iinc 4 1, 3) := by decide +kernel
theorem d_Rm_measure_91 : decode b_Rm_measure 91 = .ok (.goto (-81), 3) := by decide +kernel
theorem d_Rm_measure_94 : decode b_Rm_measure 94 = .ok (.return_, 1) := by decide +kernel
theorem d_Rm_date_0 : decode b_Rm_date 0 = .ok (.aload_n 0, 1) := by decide +kernel
theorem d_Rm_date_1 : decode b_Rm_date 1 = .ok (.iload_n 1, 1) := by decide +kernel
theorem d_Rm_date_2 : decode b_Rm_date 2 = .ok (.invokevirtual 83, 3) := by decide +kernel
theorem d_Rm_date_5 : decode b_Rm_date 5 = .ok (.astore 4, 2) := by decide +kernel
theorem d_Rm_date_7 : decode b_Rm_date 7 = .ok (.aload_n 0, 1) := by decide +kernel
theorem d_Rm_date_8 : decode b_Rm_date 8 = .ok (.iload_n 2, 1) := by decide +kernel
theorem d_Rm_date_9 : decode b_Rm_date 9 = .ok (.invokevirtual 130, 3) := by decide +kernel
theorem d_Rm_date_12 : decode b_Rm_date 12 = .ok (.astore 5, 2) := by decide +kernel
theorem d_Rm_date_14 : decode b_Rm_date 14 = .ok (.iload_n 3, 1) := by decide +kernel
theorem d_Rm_date_15 : decode b_Rm_date 15 = .ok (.invokestatic 175, 3) := by decide +kernel
theorem d_Rm_date_18 : decode b_Rm_date 18 = .ok (.aload_n 0, 1) := by decide +kernel
theorem d_Rm_date_19 : decode b_Rm_date 19 = .ok (.aload 4, 2) := by decide +kernel
theorem d_Rm_date_21 : decode b_Rm_date 21 = .ok (.aload 5, 2) := by decide +kernel
theorem d_Rm_date_23 : decode b_Rm_date 23 = .ok (.iload_n 3, 1) := by decide +kernel
theorem d_Rm_date_24 : decode b_Rm_date 24 = .ok (.invokevirtual 178, 3) := by decide +kernel
theorem d_Rm_date_27 : decode b_Rm_date 27 = .ok (.ireturn, 1) := by decide +kernel
theorem d_Rm_checkLeast_0 : decode b_Rm_checkLeast 0 = .ok (.iload_n 0, 1) := by decide +kernel
theorem d_Rm_checkLeast_1 : decode b_Rm_checkLeast 1 = .ok (.iconst 2, 1) := by decide +kernel
theorem d_Rm_checkLeast_2 : decode b_Rm_checkLeast 2 = .ok (.if_icmp .lt 9, 3) := by decide +kernel
theorem d_Rm_checkLeast_5 : decode b_Rm_checkLeast 5 = .ok (.iload_n 0, 1) := by decide +kernel
theorem d_Rm_checkLeast_6 : decode b_Rm_checkLeast 6 = .ok (.bipush 30, 2) := by decide +kernel
theorem d_Rm_checkLeast_8 : decode b_Rm_checkLeast 8 = .ok (.if_icmp .le 13, 3) := by decide +kernel
theorem d_Rm_checkLeast_11 : decode b_Rm_checkLeast 11 = .ok (.new 69, 3) := by decide +kernel
theorem d_Rm_checkLeast_14 : decode b_Rm_checkLeast 14 = .ok (.dup, 1) := by decide +kernel
theorem d_Rm_checkLeast_15 : decode b_Rm_checkLeast 15 = .ok (.ldc 233, 2) := by decide +kernel
theorem d_Rm_checkLeast_17 : decode b_Rm_checkLeast 17 = .ok (.invokespecial 73, 3) := by decide +kernel
theorem d_Rm_checkLeast_20 : decode b_Rm_checkLeast 20 = .ok (.athrow, 1) := by decide +kernel
theorem d_Rm_checkLeast_21 : decode b_Rm_checkLeast 21 = .ok (.return_, 1) := by decide +kernel
theorem d_Rm_nearestYear_0 : decode b_Rm_nearestYear 0 = .ok (.sipush (-1000), 3) := by decide +kernel
theorem d_Rm_nearestYear_3 : decode b_Rm_nearestYear 3 = .ok (.istore 4, 2) := by decide +kernel
theorem d_Rm_nearestYear_5 : decode b_Rm_nearestYear 5 = .ok (.aload_n 0, 1) := by decide +kernel
theorem d_Rm_nearestYear_6 : decode b_Rm_nearestYear 6 = .ok (.getfield 52, 3) := by decide +kernel
theorem d_Rm_nearestYear_9 : decode b_Rm_nearestYear 9 = .ok (.invokevirtual 211, 3) := by decide +kernel
theorem d_Rm_nearestYear_12 : decode b_Rm_nearestYear 12 = .ok (.aload_n 2, 1) := by decide +kernel
theorem d_Rm_nearestYear_13 : decode b_Rm_nearestYear 13 = .ok (.getfield 134, 3) := by decide +kernel
theorem d_Rm_nearestYear_16 : decode b_Rm_nearestYear 16 = .ok (.aload_n 1, 1) := by decide +kernel
theorem d_Rm_nearestYear_17 : decode b_Rm_nearestYear 17 = .ok (.getfield 87, 3) := by decide +kernel
theorem d_Rm_nearestYear_20 : decode b_Rm_nearestYear 20 = .ok (.arraylength, 1) := by decide +kernel
theorem d_Rm_nearestYear_21 : decode b_Rm_nearestYear 21 = .ok (.isub, 1) := by decide +kernel
theorem d_Rm_nearestYear_22 : decode b_Rm_nearestYear 22 = .ok (.iconst 1, 1) := by decide +kernel
theorem d_Rm_nearestYear_23 : decode b_Rm_nearestYear 23 = .ok (.iadd, 1) := by decide +kernel
theorem d_Rm_nearestYear_24 : decode b_Rm_nearestYear 24 = .ok (.istore 5, 2) := by decide +kernel
theorem d_Rm_nearestYear_26 : decode b_Rm_nearestYear 26 = .ok (.iload 5, 2) := by decide +kernel
theorem d_Rm_nearestYear_28 : decode b_Rm_nearestYear 28 = .ok (.aload_n 2, 1) := by decide +kernel
theorem d_Rm_nearestYear_29 : decode b_Rm_nearestYear 29 = .ok (.getfield 137, 3) := by decide +kernel
theorem d_Rm_nearestYear_32 : decode b_Rm_nearestYear 32 = .ok (.if_icmp .gt 65, 3) := by decide +kernel
theorem d_Rm_nearestYear_35 : decode b_Rm_nearestYear 35 = .ok (.aload_n 0, 1) := by decide +kernel
theorem d_Rm_nearestYear_36 : decode b_Rm_nearestYear 36 = .ok (.aload_n 1, 1) := by decide +kernel
theorem d_Rm_nearestYear_37 : decode b_Rm_nearestYear 37 = .ok (.aload_n 2, 1) := by decide +kernel
theorem d_Rm_nearestYear_38 : decode b_Rm_nearestYear 38 = .ok (.iload 5, 2) := by decide +kernel
theorem d_Rm_nearestYear_40 : decode b_Rm_nearestYear 40 = .ok (.invokevirtual 171, 3) := by decide +kernel
theorem d_Rm_nearestYear_43 : decode b_Rm_nearestYear 43 = .ok (.aload_n 0, 1) := by decide +kernel
theorem d_Rm_nearestYear_44 : decode b_Rm_nearestYear 44 = .ok (.getfield 48, 3) := by decide +kernel
theorem d_Rm_nearestYear_47 : decode b_Rm_nearestYear 47 = .ok (.getfield 222, 3) := by decide +kernel
end
section
theorem d_Rm_nearestYear_50 : decode b_Rm_nearestYear 50 = .ok (.iload_n 3, 1) := by decide +kernel
theorem d_Rm_nearestYear_51 : decode b_Rm_nearestYear 51 = .ok (.if_icmp .lt 40, 3) := by decide +kernel
theorem d_Rm_nearestYear_54 : decode b_Rm_nearestYear 54 = .ok (.iload 4, 2) := by decide +kernel
theorem d_Rm_nearestYear_56 : decode b_Rm_nearestYear 56 = .ok (.sipush (-1000), 3) := by decide +kernel
theorem d_Rm_nearestYear_59 : decode b_Rm_nearestYear 59 = .ok (.if_icmp .eq 17, 3) := by decide +kernel
theorem d_Rm_nearestYear_62 : decode b_Rm_nearestYear 62 = .ok (.aload_n 0, 1) := by decide +kernel
theorem d_Rm_nearestYear_63 : decode b_Rm_nearestYear 63 = .ok (.getfield 48, 3) := by decide +kernel
theorem d_Rm_nearestYear_66 : decode b_Rm_nearestYear 66 = .ok (.aload_n 0, 1) := by decide +kernel
theorem d_Rm_nearestYear_67 : decode b_Rm_nearestYear 67 = .ok (.getfield 52, 3) := by decide +kernel
theorem d_Rm_nearestYear_70 : decode b_Rm_nearestYear 70 = .ok (.invokevirtual 263, 3) := by decide +kernel
theorem d_Rm_nearestYear_73 : decode b_Rm_nearestYear 73 = .ok (.ifCond .eq 18, 3) := by decide +kernel
theorem d_Rm_nearestYear_76 : decode b_Rm_nearestYear 76 = .ok (.iload 5, 2) := by decide +kernel
theorem d_Rm_nearestYear_78 : decode b_Rm_nearestYear 78 = .ok (.istore 4, 2) := by decide +kernel
theorem d_Rm_nearestYear_80 : decode b_Rm_nearestYear 80 = .ok (.aload_n 0, 1) := by decide +kernel
theorem d_Rm_nearestYear_81 : decode b_Rm_nearestYear 81 = .ok (.getfield 52, 3) := by decide +kernel
theorem d_Rm_nearestYear_84 : decode b_Rm_nearestYear 84 = .ok (.aload_n 0, 1) := by decide +kernel
theorem d_Rm_nearestYear_85 : decode b_Rm_nearestYear 85 = .ok (.getfield 48, 3) := by decide +kernel
theorem d_Rm_nearestYear_88 : decode b_Rm_nearestYear 88 = .ok (.invokevirtual 186, 3) := by decide +kernel
theorem d_Rm_nearestYear_91 : decode b_Rm_nearestYear 91 = .ok (.iinc 5 1, 3) := by decide +kernel
theorem d_Rm_nearestYear_94 : decode b_Rm_nearestYear 94 = .ok (.goto (-68), 3) := by decide +kernel
theorem d_Rm_nearestYear_97 : decode b_Rm_nearestYear 97 = .ok (.iload 4, 2) := by decide +kernel
theorem d_Rm_nearestYear_99 : decode b_Rm_nearestYear 99 = .ok (.ireturn, 1) := by decide +kernel
theorem d_Rm_agrees_0 : decode b_Rm_agrees 0 = .ok (.aload_n 0, 1) := by decide +kernel
theorem d_Rm_agrees_1 : decode b_Rm_agrees 1 = .ok (.iload_n 1, 1) := by decide +kernel
theorem d_Rm_agrees_2 : decode b_Rm_agrees 2 = .ok (.invokevirtual 83, 3) := by decide +kernel
theorem d_Rm_agrees_5 : decode b_Rm_agrees 5 = .ok (.astore 4, 2) := by decide +kernel
theorem d_Rm_agrees_7 : decode b_Rm_agrees 7 = .ok (.iload_n 2, 1) := by decide +kernel
theorem d_Rm_agrees_8 : decode b_Rm_agrees 8 = .ok (.ifCond .lt 12, 3) := by decide +kernel
theorem d_Rm_agrees_11 : decode b_Rm_agrees 11 = .ok (.iload_n 2, 1) := by decide +kernel
theorem d_Rm_agrees_12 : decode b_Rm_agrees 12 = .ok (.aload_n 0, 1) := by decide +kernel
theorem d_Rm_agrees_13 : decode b_Rm_agrees 13 = .ok (.getfield 32, 3) := by decide +kernel
theorem d_Rm_agrees_16 : decode b_Rm_agrees 16 = .ok (.ishr, 1) := by decide +kernel
theorem d_Rm_agrees_17 : decode b_Rm_agrees 17 = .ok (.ifCond .eq 13, 3) := by decide +kernel
theorem d_Rm_agrees_20 : decode b_Rm_agrees 20 = .ok (.new 90, 3) := by decide +kernel
theorem d_Rm_agrees_23 : decode b_Rm_agrees 23 = .ok (.dup, 1) := by decide +kernel
theorem d_Rm_agrees_24 : decode b_Rm_agrees 24 = .ok (.ldc 182, 2) := by decide +kernel
theorem d_Rm_agrees_26 : decode b_Rm_agrees 26 = .ok (.invokespecial 94, 3) := by decide +kernel
theorem d_Rm_agrees_29 : decode b_Rm_agrees 29 = .ok (.athrow, 1) := by decide +kernel
theorem d_Rm_agrees_30 : decode b_Rm_agrees 30 = .ok (.iload_n 3, 1) := by decide +kernel
theorem d_Rm_agrees_31 : decode b_Rm_agrees 31 = .ok (.invokestatic 175, 3) := by decide +kernel
theorem d_Rm_agrees_34 : decode b_Rm_agrees 34 = .ok (.sipush (-1000), 3) := by decide +kernel
theorem d_Rm_agrees_37 : decode b_Rm_agrees 37 = .ok (.istore 5, 2) := by decide +kernel
theorem d_Rm_agrees_39 : decode b_Rm_agrees 39 = .ok (.iconst 0, 1) := by decide +kernel
theorem d_Rm_agrees_40 : decode b_Rm_agrees 40 = .ok (.istore 6, 2) := by decide +kernel
theorem d_Rm_agrees_42 : decode b_Rm_agrees 42 = .ok (.iload 6, 2) := by decide +kernel
theorem d_Rm_agrees_44 : decode b_Rm_agrees 44 = .ok (.aload_n 0, 1) := by decide +kernel
theorem d_Rm_agrees_45 : decode b_Rm_agrees 45 = .ok (.getfield 32, 3) := by decide +kernel
theorem d_Rm_agrees_48 : decode b_Rm_agrees 48 = .ok (.if_icmp .ge 66, 3) := by decide +kernel
theorem d_Rm_agrees_51 : decode b_Rm_agrees 51 = .ok (.iload_n 2, 1) := by decide +kernel
theorem d_Rm_agrees_52 : decode b_Rm_agrees 52 = .ok (.iload 6, 2) := by decide +kernel
theorem d_Rm_agrees_54 : decode b_Rm_agrees 54 = .ok (.ishr, 1) := by decide +kernel
theorem d_Rm_agrees_55 : decode b_Rm_agrees 55 = .ok (.iconst 1, 1) := by decide +kernel
theorem d_Rm_agrees_56 : decode b_Rm_agrees 56 = .ok (.iand, 1) := by decide +kernel
theorem d_Rm_agrees_57 : decode b_Rm_agrees 57 = .ok (.ifCond .ne 6, 3) := by decide +kernel
theorem d_Rm_agrees_60 : decode b_Rm_agrees 60 = .ok (.goto 48, 3) := by decide +kernel
theorem d_Rm_agrees_63 : decode b_Rm_agrees 63 = .ok (.aload_n 0, 1) := by decide +kernel
theorem d_Rm_agrees_64 : decode b_Rm_agrees 64 = .ok (.aload 4, 2) := by decide +kernel
theorem d_Rm_agrees_66 : decode b_Rm_agrees 66 = .ok (.aload_n 0, 1) := by decide +kernel
theorem d_Rm_agrees_67 : decode b_Rm_agrees 67 = .ok (.getfield 28, 3) := by decide +kernel
theorem d_Rm_agrees_70 : decode b_Rm_agrees 70 = .ok (.iload 6, 2) := by decide +kernel
theorem d_Rm_agrees_72 : decode b_Rm_agrees 72 = .ok (.aaload, 1) := by decide +kernel
theorem d_Rm_agrees_73 : decode b_Rm_agrees 73 = .ok (.iload_n 3, 1) := by decide +kernel
theorem d_Rm_agrees_74 : decode b_Rm_agrees 74 = .ok (.invokevirtual 178, 3) := by decide +kernel
theorem d_Rm_agrees_77 : decode b_Rm_agrees 77 = .ok (.istore 7, 2) := by decide +kernel
theorem d_Rm_agrees_79 : decode b_Rm_agrees 79 = .ok (.iload 7, 2) := by decide +kernel
theorem d_Rm_agrees_81 : decode b_Rm_agrees 81 = .ok (.sipush (-1000), 3) := by decide +kernel
theorem d_Rm_agrees_84 : decode b_Rm_agrees 84 = .ok (.if_icmp .eq 18, 3) := by decide +kernel
theorem d_Rm_agrees_87 : decode b_Rm_agrees 87 = .ok (.iload 5, 2) := by decide +kernel
theorem d_Rm_agrees_89 : decode b_Rm_agrees 89 = .ok (.sipush (-1000), 3) := by decide +kernel
theorem d_Rm_agrees_92 : decode b_Rm_agrees 92 = .ok (.if_icmp .eq 12, 3) := by decide +kernel
theorem d_Rm_agrees_95 : decode b_Rm_agrees 95 = .ok (.iload 7, 2) := by decide +kernel
theorem d_Rm_agrees_97 : decode b_Rm_agrees 97 = .ok (.iload 5, 2) := by decide +kernel
theorem d_Rm_agrees_99 : decode b_Rm_agrees 99 = .ok (.if_icmp .eq 5, 3) := by decide +kernel
theorem d_Rm_agrees_102 : decode b_Rm_agrees 102 = .ok (.iconst 0, 1) := by decide +kernel
theorem d_Rm_agrees_103 : decode b_Rm_agrees 103 = .ok (.ireturn, 1) := by decide +kernel
theorem d_Rm_agrees_104 : decode b_Rm_agrees 104 = .ok (.iload 7, 2) := by decide +kernel
theorem d_Rm_agrees_106 : decode b_Rm_agrees 106 = .ok (.istore 5, 2) := by decide +kernel
theorem d_Rm_agrees_108 : decode b_Rm_agrees 108 = .ok (.iinc 6 1, 3) := by decide +kernel
theorem d_Rm_agrees_111 : decode b_Rm_agrees 111 = .ok (.goto (-69), 3) := by decide +kernel
theorem d_Rm_agrees_114 : decode b_Rm_agrees 114 = .ok (.iload 5, 2) := by decide +kernel
theorem d_Rm_agrees_116 : decode b_Rm_agrees 116 = .ok (.sipush (-1000), 3) := by decide +kernel
theorem d_Rm_agrees_119 : decode b_Rm_agrees 119 = .ok (.if_icmp .eq 7, 3) := by decide +kernel
theorem d_Rm_agrees_122 : decode b_Rm_agrees 122 = .ok (.iconst 1, 1) := by decide +kernel
theorem d_Rm_agrees_123 : decode b_Rm_agrees 123 = .ok (.goto 4, 3) := by decide +kernel
theorem d_Rm_agrees_126 : decode b_Rm_agrees 126 = .ok (.iconst 0, 1) := by decide +kernel
theorem d_Rm_agrees_127 : decode b_Rm_agrees 127 = .ok (.ireturn, 1) := by decide +kernel
theorem d_Rm_source_0 : decode b_Rm_source 0 = .ok (.aload_n 0, 1) := by decide +kernel
theorem d_Rm_source_1 : decode b_Rm_source 1 = .ok (.iload_n 1, 1) := by decide +kernel
theorem d_Rm_source_2 : decode b_Rm_source 2 = .ok (.invokevirtual 83, 3) := by decide +kernel
theorem d_Rm_source_5 : decode b_Rm_source 5 = .ok (.astore 4, 2) := by decide +kernel
theorem d_Rm_source_7 : decode b_Rm_source 7 = .ok (.iload_n 3, 1) := by decide +kernel
theorem d_Rm_source_8 : decode b_Rm_source 8 = .ok (.ifCond .ge 13, 3) := by decide +kernel
theorem d_Rm_source_11 : decode b_Rm_source 11 = .ok (.new 90, 3) := by decide +kernel
theorem d_Rm_source_14 : decode b_Rm_source 14 = .ok (.dup, 1) := by decide +kernel
theorem d_Rm_source_15 : decode b_Rm_source 15 = .ok (.ldc 184, 2) := by decide +kernel
theorem d_Rm_source_17 : decode b_Rm_source 17 = .ok (.invokespecial 94, 3) := by decide +kernel
theorem d_Rm_source_20 : decode b_Rm_source 20 = .ok (.athrow, 1) := by decide +kernel
theorem d_Rm_source_21 : decode b_Rm_source 21 = .ok (.iload_n 2, 1) := by decide +kernel
theorem d_Rm_source_22 : decode b_Rm_source 22 = .ok (.invokestatic 175, 3) := by decide +kernel
theorem d_Rm_source_25 : decode b_Rm_source 25 = .ok (.iconst 0, 1) := by decide +kernel
theorem d_Rm_source_26 : decode b_Rm_source 26 = .ok (.istore 5, 2) := by decide +kernel
theorem d_Rm_source_28 : decode b_Rm_source 28 = .ok (.iload 5, 2) := by decide +kernel
theorem d_Rm_source_30 : decode b_Rm_source 30 = .ok (.aload_n 0, 1) := by decide +kernel
theorem d_Rm_source_31 : decode b_Rm_source 31 = .ok (.getfield 32, 3) := by decide +kernel
theorem d_Rm_source_34 : decode b_Rm_source 34 = .ok (.if_icmp .ge 44, 3) := by decide +kernel
theorem d_Rm_source_37 : decode b_Rm_source 37 = .ok (.aload_n 0, 1) := by decide +kernel
theorem d_Rm_source_38 : decode b_Rm_source 38 = .ok (.getfield 59, 3) := by decide +kernel
theorem d_Rm_source_41 : decode b_Rm_source 41 = .ok (.iload 5, 2) := by decide +kernel
theorem d_Rm_source_43 : decode b_Rm_source 43 = .ok (.aload_n 0, 1) := by decide +kernel
theorem d_Rm_source_44 : decode b_Rm_source 44 = .ok (.aload 4, 2) := by decide +kernel
theorem d_Rm_source_46 : decode b_Rm_source 46 = .ok (.aload_n 0, 1) := by decide +kernel
theorem d_Rm_source_47 : decode b_Rm_source 47 = .ok (.getfield 28, 3) := by decide +kernel
theorem d_Rm_source_50 : decode b_Rm_source 50 = .ok (.iload 5, 2) := by decide +kernel
theorem d_Rm_source_52 : decode b_Rm_source 52 = .ok (.aaload, 1) := by decide +kernel
theorem d_Rm_source_53 : decode b_Rm_source 53 = .ok (.iload_n 2, 1) := by decide +kernel
theorem d_Rm_source_54 : decode b_Rm_source 54 = .ok (.invokevirtual 178, 3) := by decide +kernel
theorem d_Rm_source_57 : decode b_Rm_source 57 = .ok (.iastore, 1) := by decide +kernel
theorem d_Rm_source_58 : decode b_Rm_source 58 = .ok (.aload_n 0, 1) := by decide +kernel
theorem d_Rm_source_59 : decode b_Rm_source 59 = .ok (.getfield 55, 3) := by decide +kernel
theorem d_Rm_source_62 : decode b_Rm_source 62 = .ok (.iload 5, 2) := by decide +kernel
theorem d_Rm_source_64 : decode b_Rm_source 64 = .ok (.aaload, 1) := by decide +kernel
theorem d_Rm_source_65 : decode b_Rm_source 65 = .ok (.aload_n 0, 1) := by decide +kernel
theorem d_Rm_source_66 : decode b_Rm_source 66 = .ok (.getfield 52, 3) := by decide +kernel
theorem d_Rm_source_69 : decode b_Rm_source 69 = .ok (.invokevirtual 186, 3) := by decide +kernel
theorem d_Rm_source_72 : decode b_Rm_source 72 = .ok (.iinc 5 1, 3) := by decide +kernel
theorem d_Rm_source_75 : decode b_Rm_source 75 = .ok (.goto (-47), 3) := by decide +kernel
theorem d_Rm_source_78 : decode b_Rm_source 78 = .ok (.iconst 0, 1) := by decide +kernel
theorem d_Rm_source_79 : decode b_Rm_source 79 = .ok (.istore 5, 2) := by decide +kernel
theorem d_Rm_source_81 : decode b_Rm_source 81 = .ok (.iload 5, 2) := by decide +kernel
theorem d_Rm_source_83 : decode b_Rm_source 83 = .ok (.aload_n 0, 1) := by decide +kernel
theorem d_Rm_source_84 : decode b_Rm_source 84 = .ok (.getfield 32, 3) := by decide +kernel
theorem d_Rm_source_87 : decode b_Rm_source 87 = .ok (.if_icmp .ge 35, 3) := by decide +kernel
theorem d_Rm_source_90 : decode b_Rm_source 90 = .ok (.aload_n 0, 1) := by decide +kernel
theorem d_Rm_source_91 : decode b_Rm_source 91 = .ok (.getfield 59, 3) := by decide +kernel
theorem d_Rm_source_94 : decode b_Rm_source 94 = .ok (.iload 5, 2) := by decide +kernel
theorem d_Rm_source_96 : decode b_Rm_source 96 = .ok (.iaload, 1) := by decide +kernel
theorem d_Rm_source_97 : decode b_Rm_source 97 = .ok (.sipush (-1000), 3) := by decide +kernel
theorem d_Rm_source_100 : decode b_Rm_source 100 = .ok (.if_icmp .eq 16, 3) := by decide +kernel
theorem d_Rm_source_103 : decode b_Rm_source 103 = .ok (.aload_n 0, 1) := by decide +kernel
theorem d_Rm_source_104 : decode b_Rm_source 104 = .ok (.iload 5, 2) := by decide +kernel
theorem d_Rm_source_106 : decode b_Rm_source 106 = .ok (.invokevirtual 190, 3) := by decide +kernel
theorem d_Rm_source_109 : decode b_Rm_source 109 = .ok (.iload_n 3, 1) := by decide +kernel
theorem d_Rm_source_110 : decode b_Rm_source 110 = .ok (.if_icmp .ne 6, 3) := by decide +kernel
theorem d_Rm_source_113 : decode b_Rm_source 113 = .ok (.iload 5, 2) := by decide +kernel
theorem d_Rm_source_115 : decode b_Rm_source 115 = .ok (.ireturn, 1) := by decide +kernel
theorem d_Rm_source_116 : decode b_Rm_source 116 = .ok (.iinc 5 1, 3) := by decide +kernel
theorem d_Rm_source_119 : decode b_Rm_source 119 = .ok (.goto (-38), 3) := by decide +kernel
theorem d_Rm_source_122 : decode b_Rm_source 122 = .ok (.iconst (-1), 1) := by decide +kernel
theorem d_Rm_source_123 : decode b_Rm_source 123 = .ok (.ireturn, 1) := by decide +kernel
theorem d_Rm_nearerThan_0 : decode b_Rm_nearerThan 0 = .ok (.iconst 0, 1) := by decide +kernel
theorem d_Rm_nearerThan_1 : decode b_Rm_nearerThan 1 = .ok (.istore_n 2, 1) := by decide +kernel
theorem d_Rm_nearerThan_2 : decode b_Rm_nearerThan 2 = .ok (.iconst 0, 1) := by decide +kernel
theorem d_Rm_nearerThan_3 : decode b_Rm_nearerThan 3 = .ok (.istore_n 3, 1) := by decide +kernel
theorem d_Rm_nearerThan_4 : decode b_Rm_nearerThan 4 = .ok (.iload_n 3, 1) := by decide +kernel
theorem d_Rm_nearerThan_5 : decode b_Rm_nearerThan 5 = .ok (.aload_n 0, 1) := by decide +kernel
theorem d_Rm_nearerThan_6 : decode b_Rm_nearerThan 6 = .ok (.getfield 32, 3) := by decide +kernel
theorem d_Rm_nearerThan_9 : decode b_Rm_nearerThan 9 = .ok (.if_icmp .ge 85, 3) := by decide +kernel
theorem d_Rm_nearerThan_12 : decode b_Rm_nearerThan 12 = .ok (.iload_n 3, 1) := by decide +kernel
theorem d_Rm_nearerThan_13 : decode b_Rm_nearerThan 13 = .ok (.iload_n 1, 1) := by decide +kernel
theorem d_Rm_nearerThan_14 : decode b_Rm_nearerThan 14 = .ok (.if_icmp .eq 74, 3) := by decide +kernel
theorem d_Rm_nearerThan_17 : decode b_Rm_nearerThan 17 = .ok (.aload_n 0, 1) := by decide +kernel
theorem d_Rm_nearerThan_18 : decode b_Rm_nearerThan 18 = .ok (.getfield 59, 3) := by decide +kernel
theorem d_Rm_nearerThan_21 : decode b_Rm_nearerThan 21 = .ok (.iload_n 3, 1) := by decide +kernel
theorem d_Rm_nearerThan_22 : decode b_Rm_nearerThan 22 = .ok (.iaload, 1) := by decide +kernel
theorem d_Rm_nearerThan_23 : decode b_Rm_nearerThan 23 = .ok (.sipush (-1000), 3) := by decide +kernel
theorem d_Rm_nearerThan_26 : decode b_Rm_nearerThan 26 = .ok (.if_icmp .ne 6, 3) := by decide +kernel
theorem d_Rm_nearerThan_29 : decode b_Rm_nearerThan 29 = .ok (.goto 59, 3) := by decide +kernel
theorem d_Rm_nearerThan_32 : decode b_Rm_nearerThan 32 = .ok (.aload_n 0, 1) := by decide +kernel
theorem d_Rm_nearerThan_33 : decode b_Rm_nearerThan 33 = .ok (.getfield 55, 3) := by decide +kernel
theorem d_Rm_nearerThan_36 : decode b_Rm_nearerThan 36 = .ok (.iload_n 1, 1) := by decide +kernel
theorem d_Rm_nearerThan_37 : decode b_Rm_nearerThan 37 = .ok (.aaload, 1) := by decide +kernel
theorem d_Rm_nearerThan_38 : decode b_Rm_nearerThan 38 = .ok (.aload_n 0, 1) := by decide +kernel
theorem d_Rm_nearerThan_39 : decode b_Rm_nearerThan 39 = .ok (.getfield 55, 3) := by decide +kernel
theorem d_Rm_nearerThan_42 : decode b_Rm_nearerThan 42 = .ok (.iload_n 3, 1) := by decide +kernel
theorem d_Rm_nearerThan_43 : decode b_Rm_nearerThan 43 = .ok (.aaload, 1) := by decide +kernel
theorem d_Rm_nearerThan_44 : decode b_Rm_nearerThan 44 = .ok (.invokevirtual 263, 3) := by decide +kernel
theorem d_Rm_nearerThan_47 : decode b_Rm_nearerThan 47 = .ok (.ifCond .ne 7, 3) := by decide +kernel
theorem d_Rm_nearerThan_50 : decode b_Rm_nearerThan 50 = .ok (.iconst 1, 1) := by decide +kernel
theorem d_Rm_nearerThan_51 : decode b_Rm_nearerThan 51 = .ok (.goto 4, 3) := by decide +kernel
theorem d_Rm_nearerThan_54 : decode b_Rm_nearerThan 54 = .ok (.iconst 0, 1) := by decide +kernel
theorem d_Rm_nearerThan_55 : decode b_Rm_nearerThan 55 = .ok (.istore 4, 2) := by decide +kernel
theorem d_Rm_nearerThan_57 : decode b_Rm_nearerThan 57 = .ok (.aload_n 0, 1) := by decide +kernel
theorem d_Rm_nearerThan_58 : decode b_Rm_nearerThan 58 = .ok (.getfield 55, 3) := by decide +kernel
theorem d_Rm_nearerThan_61 : decode b_Rm_nearerThan 61 = .ok (.iload_n 3, 1) := by decide +kernel
theorem d_Rm_nearerThan_62 : decode b_Rm_nearerThan 62 = .ok (.aaload, 1) := by decide +kernel
theorem d_Rm_nearerThan_63 : decode b_Rm_nearerThan 63 = .ok (.aload_n 0, 1) := by decide +kernel
theorem d_Rm_nearerThan_64 : decode b_Rm_nearerThan 64 = .ok (.getfield 55, 3) := by decide +kernel
theorem d_Rm_nearerThan_67 : decode b_Rm_nearerThan 67 = .ok (.iload_n 1, 1) := by decide +kernel
theorem d_Rm_nearerThan_68 : decode b_Rm_nearerThan 68 = .ok (.aaload, 1) := by decide +kernel
theorem d_Rm_nearerThan_69 : decode b_Rm_nearerThan 69 = .ok (.invokevirtual 263, 3) := by decide +kernel
theorem d_Rm_nearerThan_72 : decode b_Rm_nearerThan 72 = .ok (.ifCond .ne 13, 3) := by decide +kernel
theorem d_Rm_nearerThan_75 : decode b_Rm_nearerThan 75 = .ok (.iload 4, 2) := by decide +kernel
theorem d_Rm_nearerThan_77 : decode b_Rm_nearerThan 77 = .ok (.ifCond .eq 11, 3) := by decide +kernel
theorem d_Rm_nearerThan_80 : decode b_Rm_nearerThan 80 = .ok (.iload_n 3, 1) := by decide +kernel
theorem d_Rm_nearerThan_81 : decode b_Rm_nearerThan 81 = .ok (.iload_n 1, 1) := by decide +kernel
theorem d_Rm_nearerThan_82 : decode b_Rm_nearerThan 82 = .ok (.if_icmp .ge 6, 3) := by decide +kernel
theorem d_Rm_nearerThan_85 : decode b_Rm_nearerThan 85 = .ok (.iinc 2 1, 3) := by decide +kernel
theorem d_Rm_nearerThan_88 : decode b_Rm_nearerThan 88 = .ok (.iinc 3 1, 3) := by decide +kernel
theorem d_Rm_nearerThan_91 : decode b_Rm_nearerThan 91 = .ok (.goto (-87), 3) := by decide +kernel
theorem d_Rm_nearerThan_94 : decode b_Rm_nearerThan 94 = .ok (.iload_n 2, 1) := by decide +kernel
theorem d_Rm_nearerThan_95 : decode b_Rm_nearerThan 95 = .ok (.ireturn, 1) := by decide +kernel
theorem d_Rm_sapwood_0 : decode b_Rm_sapwood 0 = .ok (.iload_n 1, 1) := by decide +kernel
theorem d_Rm_sapwood_1 : decode b_Rm_sapwood 1 = .ok (.ifCond .lt 9, 3) := by decide +kernel
theorem d_Rm_sapwood_4 : decode b_Rm_sapwood 4 = .ok (.iload_n 1, 1) := by decide +kernel
theorem d_Rm_sapwood_5 : decode b_Rm_sapwood 5 = .ok (.bipush 60, 2) := by decide +kernel
theorem d_Rm_sapwood_7 : decode b_Rm_sapwood 7 = .ok (.if_icmp .le 13, 3) := by decide +kernel
theorem d_Rm_sapwood_10 : decode b_Rm_sapwood 10 = .ok (.new 69, 3) := by decide +kernel
theorem d_Rm_sapwood_13 : decode b_Rm_sapwood 13 = .ok (.dup, 1) := by decide +kernel
theorem d_Rm_sapwood_14 : decode b_Rm_sapwood 14 = .ok (.ldc 193, 2) := by decide +kernel
theorem d_Rm_sapwood_16 : decode b_Rm_sapwood 16 = .ok (.invokespecial 73, 3) := by decide +kernel
theorem d_Rm_sapwood_19 : decode b_Rm_sapwood 19 = .ok (.athrow, 1) := by decide +kernel
theorem d_Rm_sapwood_20 : decode b_Rm_sapwood 20 = .ok (.iload_n 2, 1) := by decide +kernel
theorem d_Rm_sapwood_21 : decode b_Rm_sapwood 21 = .ok (.ifCond .lt 10, 3) := by decide +kernel
theorem d_Rm_sapwood_24 : decode b_Rm_sapwood 24 = .ok (.iload_n 2, 1) := by decide +kernel
theorem d_Rm_sapwood_25 : decode b_Rm_sapwood 25 = .ok (.sipush 10000, 3) := by decide +kernel
theorem d_Rm_sapwood_28 : decode b_Rm_sapwood 28 = .ok (.if_icmp .le 13, 3) := by decide +kernel
theorem d_Rm_sapwood_31 : decode b_Rm_sapwood 31 = .ok (.new 69, 3) := by decide +kernel
theorem d_Rm_sapwood_34 : decode b_Rm_sapwood 34 = .ok (.dup, 1) := by decide +kernel
theorem d_Rm_sapwood_35 : decode b_Rm_sapwood 35 = .ok (.ldc 195, 2) := by decide +kernel
theorem d_Rm_sapwood_37 : decode b_Rm_sapwood 37 = .ok (.invokespecial 73, 3) := by decide +kernel
theorem d_Rm_sapwood_40 : decode b_Rm_sapwood 40 = .ok (.athrow, 1) := by decide +kernel
theorem d_Rm_sapwood_41 : decode b_Rm_sapwood 41 = .ok (.aload_n 0, 1) := by decide +kernel
theorem d_Rm_sapwood_42 : decode b_Rm_sapwood 42 = .ok (.getfield 35, 3) := by decide +kernel
theorem d_Rm_sapwood_45 : decode b_Rm_sapwood 45 = .ok (.iload_n 1, 1) := by decide +kernel
theorem d_Rm_sapwood_46 : decode b_Rm_sapwood 46 = .ok (.iaload, 1) := by decide +kernel
theorem d_Rm_sapwood_47 : decode b_Rm_sapwood 47 = .ok (.istore_n 3, 1) := by decide +kernel
theorem d_Rm_sapwood_48 : decode b_Rm_sapwood 48 = .ok (.aload_n 0, 1) := by decide +kernel
theorem d_Rm_sapwood_49 : decode b_Rm_sapwood 49 = .ok (.getfield 35, 3) := by decide +kernel
theorem d_Rm_sapwood_52 : decode b_Rm_sapwood 52 = .ok (.iload_n 1, 1) := by decide +kernel
theorem d_Rm_sapwood_53 : decode b_Rm_sapwood 53 = .ok (.iload_n 2, 1) := by decide +kernel
theorem d_Rm_sapwood_54 : decode b_Rm_sapwood 54 = .ok (.iastore, 1) := by decide +kernel
theorem d_Rm_sapwood_55 : decode b_Rm_sapwood 55 = .ok (.iload_n 3, 1) := by decide +kernel
theorem d_Rm_sapwood_56 : decode b_Rm_sapwood 56 = .ok (.ireturn, 1) := by decide +kernel
theorem d_Rm_felling_0 : decode b_Rm_felling 0 = .ok (.aload_n 0, 1) := by decide +kernel
theorem d_Rm_felling_1 : decode b_Rm_felling 1 = .ok (.iload_n 1, 1) := by decide +kernel
theorem d_Rm_felling_2 : decode b_Rm_felling 2 = .ok (.invokevirtual 83, 3) := by decide +kernel
theorem d_Rm_felling_5 : decode b_Rm_felling 5 = .ok (.astore 5, 2) := by decide +kernel
theorem d_Rm_felling_7 : decode b_Rm_felling 7 = .ok (.aload 5, 2) := by decide +kernel
theorem d_Rm_felling_9 : decode b_Rm_felling 9 = .ok (.getfield 97, 3) := by decide +kernel
theorem d_Rm_felling_12 : decode b_Rm_felling 12 = .ok (.iconst (-1), 1) := by decide +kernel
theorem d_Rm_felling_13 : decode b_Rm_felling 13 = .ok (.if_icmp .ne 13, 3) := by decide +kernel
theorem d_Rm_felling_16 : decode b_Rm_felling 16 = .ok (.new 62, 3) := by decide +kernel
theorem d_Rm_felling_19 : decode b_Rm_felling 19 = .ok (.dup, 1) := by decide +kernel
theorem d_Rm_felling_20 : decode b_Rm_felling 20 = .ok (.ldc 197, 2) := by decide +kernel
theorem d_Rm_felling_22 : decode b_Rm_felling 22 = .ok (.invokespecial 66, 3) := by decide +kernel
theorem d_Rm_felling_25 : decode b_Rm_felling 25 = .ok (.athrow, 1) := by decide +kernel
theorem d_Rm_felling_26 : decode b_Rm_felling 26 = .ok (.iload_n 2, 1) := by decide +kernel
theorem d_Rm_felling_27 : decode b_Rm_felling 27 = .ok (.ifCond .lt 13, 3) := by decide +kernel
theorem d_Rm_felling_30 : decode b_Rm_felling 30 = .ok (.iload_n 2, 1) := by decide +kernel
theorem d_Rm_felling_31 : decode b_Rm_felling 31 = .ok (.aload 5, 2) := by decide +kernel
theorem d_Rm_felling_33 : decode b_Rm_felling 33 = .ok (.getfield 87, 3) := by decide +kernel
theorem d_Rm_felling_36 : decode b_Rm_felling 36 = .ok (.arraylength, 1) := by decide +kernel
theorem d_Rm_felling_37 : decode b_Rm_felling 37 = .ok (.if_icmp .le 13, 3) := by decide +kernel
theorem d_Rm_felling_40 : decode b_Rm_felling 40 = .ok (.new 69, 3) := by decide +kernel
theorem d_Rm_felling_43 : decode b_Rm_felling 43 = .ok (.dup, 1) := by decide +kernel
theorem d_Rm_felling_44 : decode b_Rm_felling 44 = .ok (.ldc 199, 2) := by decide +kernel
theorem d_Rm_felling_46 : decode b_Rm_felling 46 = .ok (.invokespecial 73, 3) := by decide +kernel
theorem d_Rm_felling_49 : decode b_Rm_felling 49 = .ok (.athrow, 1) := by decide +kernel
theorem d_Rm_felling_50 : decode b_Rm_felling 50 = .ok (.iload_n 3, 1) := by decide +kernel
theorem d_Rm_felling_51 : decode b_Rm_felling 51 = .ok (.iconst 1, 1) := by decide +kernel
theorem d_Rm_felling_52 : decode b_Rm_felling 52 = .ok (.if_icmp .lt 17, 3) := by decide +kernel
theorem d_Rm_felling_55 : decode b_Rm_felling 55 = .ok (.iload_n 3, 1) := by decide +kernel
theorem d_Rm_felling_56 : decode b_Rm_felling 56 = .ok (.iload 4, 2) := by decide +kernel
theorem d_Rm_felling_58 : decode b_Rm_felling 58 = .ok (.if_icmp .gt 11, 3) := by decide +kernel
theorem d_Rm_felling_61 : decode b_Rm_felling 61 = .ok (.iload 4, 2) := by decide +kernel
theorem d_Rm_felling_63 : decode b_Rm_felling 63 = .ok (.sipush 1000, 3) := by decide +kernel
theorem d_Rm_felling_66 : decode b_Rm_felling 66 = .ok (.if_icmp .le 13, 3) := by decide +kernel
theorem d_Rm_felling_69 : decode b_Rm_felling 69 = .ok (.new 69, 3) := by decide +kernel
theorem d_Rm_felling_72 : decode b_Rm_felling 72 = .ok (.dup, 1) := by decide +kernel
theorem d_Rm_felling_73 : decode b_Rm_felling 73 = .ok (.ldc 201, 2) := by decide +kernel
theorem d_Rm_felling_75 : decode b_Rm_felling 75 = .ok (.invokespecial 73, 3) := by decide +kernel
theorem d_Rm_felling_78 : decode b_Rm_felling 78 = .ok (.athrow, 1) := by decide +kernel
theorem d_Rm_felling_79 : decode b_Rm_felling 79 = .ok (.aload 5, 2) := by decide +kernel
theorem d_Rm_felling_81 : decode b_Rm_felling 81 = .ok (.invokevirtual 203, 3) := by decide +kernel
theorem d_Rm_felling_84 : decode b_Rm_felling 84 = .ok (.iload_n 2, 1) := by decide +kernel
theorem d_Rm_felling_85 : decode b_Rm_felling 85 = .ok (.isub, 1) := by decide +kernel
theorem d_Rm_felling_86 : decode b_Rm_felling 86 = .ok (.istore 6, 2) := by decide +kernel
theorem d_Rm_felling_88 : decode b_Rm_felling 88 = .ok (.aload_n 0, 1) := by decide +kernel
theorem d_Rm_felling_89 : decode b_Rm_felling 89 = .ok (.iload 6, 2) := by decide +kernel
theorem d_Rm_felling_91 : decode b_Rm_felling 91 = .ok (.iload_n 2, 1) := by decide +kernel
theorem d_Rm_felling_92 : decode b_Rm_felling 92 = .ok (.iload_n 3, 1) := by decide +kernel
theorem d_Rm_felling_93 : decode b_Rm_felling 93 = .ok (.iload 4, 2) := by decide +kernel
theorem d_Rm_felling_95 : decode b_Rm_felling 95 = .ok (.invokevirtual 207, 3) := by decide +kernel
theorem d_Rm_felling_98 : decode b_Rm_felling 98 = .ok (.ireturn, 1) := by decide +kernel
theorem d_Rm_shortestYears_0 : decode b_Rm_shortestYears 0 = .ok (.lconst 0, 1) := by decide +kernel
theorem d_Rm_shortestYears_1 : decode b_Rm_shortestYears 1 = .ok (.lstore 5, 2) := by decide +kernel
theorem d_Rm_shortestYears_3 : decode b_Rm_shortestYears 3 = .ok (.iload_n 2, 1) := by decide +kernel
theorem d_Rm_shortestYears_4 : decode b_Rm_shortestYears 4 = .ok (.istore 7, 2) := by decide +kernel
theorem d_Rm_shortestYears_6 : decode b_Rm_shortestYears 6 = .ok (.iload 7, 2) := by decide +kernel
theorem d_Rm_shortestYears_8 : decode b_Rm_shortestYears 8 = .ok (.aload_n 0, 1) := by decide +kernel
theorem d_Rm_shortestYears_9 : decode b_Rm_shortestYears 9 = .ok (.getfield 35, 3) := by decide +kernel
theorem d_Rm_shortestYears_12 : decode b_Rm_shortestYears 12 = .ok (.arraylength, 1) := by decide +kernel
theorem d_Rm_shortestYears_13 : decode b_Rm_shortestYears 13 = .ok (.if_icmp .ge 22, 3) := by decide +kernel
theorem d_Rm_shortestYears_16 : decode b_Rm_shortestYears 16 = .ok (.lload 5, 2) := by decide +kernel
theorem d_Rm_shortestYears_18 : decode b_Rm_shortestYears 18 = .ok (.aload_n 0, 1) := by decide +kernel
theorem d_Rm_shortestYears_19 : decode b_Rm_shortestYears 19 = .ok (.getfield 35, 3) := by decide +kernel
theorem d_Rm_shortestYears_22 : decode b_Rm_shortestYears 22 = .ok (.iload 7, 2) := by decide +kernel
theorem d_Rm_shortestYears_24 : decode b_Rm_shortestYears 24 = .ok (.iaload, 1) := by decide +kernel
theorem d_Rm_shortestYears_25 : decode b_Rm_shortestYears 25 = .ok (.i2l, 1) := by decide +kernel
theorem d_Rm_shortestYears_26 : decode b_Rm_shortestYears 26 = .ok (.ladd, 1) := by decide +kernel
theorem d_Rm_shortestYears_27 : decode b_Rm_shortestYears 27 = .ok (.lstore 5, 2) := by decide +kernel
theorem d_Rm_shortestYears_29 : decode b_Rm_shortestYears 29 = .ok (.iinc 7 1, 3) := by decide +kernel
theorem d_Rm_shortestYears_32 : decode b_Rm_shortestYears 32 = .ok (.goto (-26), 3) := by decide +kernel
theorem d_Rm_shortestYears_35 : decode b_Rm_shortestYears 35 = .ok (.lload 5, 2) := by decide +kernel
theorem d_Rm_shortestYears_37 : decode b_Rm_shortestYears 37 = .ok (.lconst 0, 1) := by decide +kernel
theorem d_Rm_shortestYears_38 : decode b_Rm_shortestYears 38 = .ok (.lcmp, 1) := by decide +kernel
theorem d_Rm_shortestYears_39 : decode b_Rm_shortestYears 39 = .ok (.ifCond .ne 5, 3) := by decide +kernel
theorem d_Rm_shortestYears_42 : decode b_Rm_shortestYears 42 = .ok (.iconst (-1), 1) := by decide +kernel
theorem d_Rm_shortestYears_43 : decode b_Rm_shortestYears 43 = .ok (.ireturn, 1) := by decide +kernel
theorem d_Rm_shortestYears_44 : decode b_Rm_shortestYears 44 = .ok (.iload_n 2, 1) := by decide +kernel
theorem d_Rm_shortestYears_45 : decode b_Rm_shortestYears 45 = .ok (.istore 7, 2) := by decide +kernel
theorem d_Rm_shortestYears_47 : decode b_Rm_shortestYears 47 = .ok (.bipush 60, 2) := by decide +kernel
theorem d_Rm_shortestYears_49 : decode b_Rm_shortestYears 49 = .ok (.istore 8, 2) := by decide +kernel
theorem d_Rm_shortestYears_51 : decode b_Rm_shortestYears 51 = .ok (.iload_n 2, 1) := by decide +kernel
theorem d_Rm_shortestYears_52 : decode b_Rm_shortestYears 52 = .ok (.istore 9, 2) := by decide +kernel
theorem d_Rm_shortestYears_54 : decode b_Rm_shortestYears 54 = .ok (.iload 9, 2) := by decide +kernel
theorem d_Rm_shortestYears_56 : decode b_Rm_shortestYears 56 = .ok (.aload_n 0, 1) := by decide +kernel
theorem d_Rm_shortestYears_57 : decode b_Rm_shortestYears 57 = .ok (.getfield 35, 3) := by decide +kernel
theorem d_Rm_shortestYears_60 : decode b_Rm_shortestYears 60 = .ok (.arraylength, 1) := by decide +kernel
theorem d_Rm_shortestYears_61 : decode b_Rm_shortestYears 61 = .ok (.if_icmp .ge 51, 3) := by decide +kernel
theorem d_Rm_shortestYears_64 : decode b_Rm_shortestYears 64 = .ok (.aload_n 0, 1) := by decide +kernel
theorem d_Rm_shortestYears_65 : decode b_Rm_shortestYears 65 = .ok (.iload 9, 2) := by decide +kernel
theorem d_Rm_shortestYears_67 : decode b_Rm_shortestYears 67 = .ok (.iload_n 3, 1) := by decide +kernel
theorem d_Rm_shortestYears_68 : decode b_Rm_shortestYears 68 = .ok (.i2l, 1) := by decide +kernel
theorem d_Rm_shortestYears_69 : decode b_Rm_shortestYears 69 = .ok (.lload 5, 2) := by decide +kernel
theorem d_Rm_shortestYears_71 : decode b_Rm_shortestYears 71 = .ok (.lmul, 1) := by decide +kernel
theorem d_Rm_shortestYears_72 : decode b_Rm_shortestYears 72 = .ok (.iload 4, 2) := by decide +kernel
theorem d_Rm_shortestYears_74 : decode b_Rm_shortestYears 74 = .ok (.invokevirtual 267, 3) := by decide +kernel
theorem d_Rm_shortestYears_77 : decode b_Rm_shortestYears 77 = .ok (.istore 10, 2) := by decide +kernel
theorem d_Rm_shortestYears_79 : decode b_Rm_shortestYears 79 = .ok (.iload 10, 2) := by decide +kernel
theorem d_Rm_shortestYears_81 : decode b_Rm_shortestYears 81 = .ok (.iconst (-1), 1) := by decide +kernel
theorem d_Rm_shortestYears_82 : decode b_Rm_shortestYears 82 = .ok (.if_icmp .eq 24, 3) := by decide +kernel
theorem d_Rm_shortestYears_85 : decode b_Rm_shortestYears 85 = .ok (.iload 10, 2) := by decide +kernel
theorem d_Rm_shortestYears_87 : decode b_Rm_shortestYears 87 = .ok (.iload 9, 2) := by decide +kernel
theorem d_Rm_shortestYears_89 : decode b_Rm_shortestYears 89 = .ok (.isub, 1) := by decide +kernel
theorem d_Rm_shortestYears_90 : decode b_Rm_shortestYears 90 = .ok (.iload 8, 2) := by decide +kernel
theorem d_Rm_shortestYears_92 : decode b_Rm_shortestYears 92 = .ok (.iload 7, 2) := by decide +kernel
theorem d_Rm_shortestYears_94 : decode b_Rm_shortestYears 94 = .ok (.isub, 1) := by decide +kernel
theorem d_Rm_shortestYears_95 : decode b_Rm_shortestYears 95 = .ok (.if_icmp .ge 11, 3) := by decide +kernel
theorem d_Rm_shortestYears_98 : decode b_Rm_shortestYears 98 = .ok (.iload 9, 2) := by decide +kernel
theorem d_Rm_shortestYears_100 : decode b_Rm_shortestYears 100 = .ok (.istore 7, 2) := by decide +kernel
theorem d_Rm_shortestYears_102 : decode b_Rm_shortestYears 102 = .ok (.iload 10, 2) := by decide +kernel
theorem d_Rm_shortestYears_104 : decode b_Rm_shortestYears 104 = .ok (.istore 8, 2) := by decide +kernel
theorem d_Rm_shortestYears_106 : decode b_Rm_shortestYears 106 = .ok (.iinc 9 1, 3) := by decide +kernel
theorem d_Rm_shortestYears_109 : decode b_Rm_shortestYears 109 = .ok (.goto (-55), 3) := by decide +kernel
theorem d_Rm_shortestYears_112 : decode b_Rm_shortestYears 112 = .ok (.sipush 1000, 3) := by decide +kernel
theorem d_Rm_shortestYears_115 : decode b_Rm_shortestYears 115 = .ok (.iload_n 1, 1) := by decide +kernel
theorem d_Rm_shortestYears_116 : decode b_Rm_shortestYears 116 = .ok (.iload 7, 2) := by decide +kernel
theorem d_Rm_shortestYears_118 : decode b_Rm_shortestYears 118 = .ok (.iadd, 1) := by decide +kernel
theorem d_Rm_shortestYears_119 : decode b_Rm_shortestYears 119 = .ok (.imul, 1) := by decide +kernel
theorem d_Rm_shortestYears_120 : decode b_Rm_shortestYears 120 = .ok (.iload_n 1, 1) := by decide +kernel
theorem d_Rm_shortestYears_121 : decode b_Rm_shortestYears 121 = .ok (.iadd, 1) := by decide +kernel
theorem d_Rm_shortestYears_122 : decode b_Rm_shortestYears 122 = .ok (.iload 8, 2) := by decide +kernel
theorem d_Rm_shortestYears_124 : decode b_Rm_shortestYears 124 = .ok (.iadd, 1) := by decide +kernel
theorem d_Rm_shortestYears_125 : decode b_Rm_shortestYears 125 = .ok (.ireturn, 1) := by decide +kernel
theorem d_Rm_endOfShare_0 : decode b_Rm_endOfShare 0 = .ok (.lconst 0, 1) := by decide +kernel
theorem d_Rm_endOfShare_1 : decode b_Rm_endOfShare 1 = .ok (.lstore 5, 2) := by decide +kernel
theorem d_Rm_endOfShare_3 : decode b_Rm_endOfShare 3 = .ok (.iload_n 1, 1) := by decide +kernel
theorem d_Rm_endOfShare_4 : decode b_Rm_endOfShare 4 = .ok (.istore 7, 2) := by decide +kernel
theorem d_Rm_endOfShare_6 : decode b_Rm_endOfShare 6 = .ok (.iload 7, 2) := by decide +kernel
theorem d_Rm_endOfShare_8 : decode b_Rm_endOfShare 8 = .ok (.aload_n 0, 1) := by decide +kernel
theorem d_Rm_endOfShare_9 : decode b_Rm_endOfShare 9 = .ok (.getfield 35, 3) := by decide +kernel
theorem d_Rm_endOfShare_12 : decode b_Rm_endOfShare 12 = .ok (.arraylength, 1) := by decide +kernel
theorem d_Rm_endOfShare_13 : decode b_Rm_endOfShare 13 = .ok (.if_icmp .ge 36, 3) := by decide +kernel
theorem d_Rm_endOfShare_16 : decode b_Rm_endOfShare 16 = .ok (.lload 5, 2) := by decide +kernel
theorem d_Rm_endOfShare_18 : decode b_Rm_endOfShare 18 = .ok (.aload_n 0, 1) := by decide +kernel
theorem d_Rm_endOfShare_19 : decode b_Rm_endOfShare 19 = .ok (.getfield 35, 3) := by decide +kernel
theorem d_Rm_endOfShare_22 : decode b_Rm_endOfShare 22 = .ok (.iload 7, 2) := by decide +kernel
theorem d_Rm_endOfShare_24 : decode b_Rm_endOfShare 24 = .ok (.iaload, 1) := by decide +kernel
theorem d_Rm_endOfShare_25 : decode b_Rm_endOfShare 25 = .ok (.i2l, 1) := by decide +kernel
theorem d_Rm_endOfShare_26 : decode b_Rm_endOfShare 26 = .ok (.ladd, 1) := by decide +kernel
theorem d_Rm_endOfShare_27 : decode b_Rm_endOfShare 27 = .ok (.lstore 5, 2) := by decide +kernel
theorem d_Rm_endOfShare_29 : decode b_Rm_endOfShare 29 = .ok (.lload 5, 2) := by decide +kernel
theorem d_Rm_endOfShare_31 : decode b_Rm_endOfShare 31 = .ok (.iload 4, 2) := by decide +kernel
theorem d_Rm_endOfShare_33 : decode b_Rm_endOfShare 33 = .ok (.i2l, 1) := by decide +kernel
theorem d_Rm_endOfShare_34 : decode b_Rm_endOfShare 34 = .ok (.lmul, 1) := by decide +kernel
theorem d_Rm_endOfShare_35 : decode b_Rm_endOfShare 35 = .ok (.lload_n 2, 1) := by decide +kernel
theorem d_Rm_endOfShare_36 : decode b_Rm_endOfShare 36 = .ok (.lcmp, 1) := by decide +kernel
theorem d_Rm_endOfShare_37 : decode b_Rm_endOfShare 37 = .ok (.ifCond .lt 6, 3) := by decide +kernel
theorem d_Rm_endOfShare_40 : decode b_Rm_endOfShare 40 = .ok (.iload 7, 2) := by decide +kernel
theorem d_Rm_endOfShare_42 : decode b_Rm_endOfShare 42 = .ok (.ireturn, 1) := by decide +kernel
theorem d_Rm_endOfShare_43 : decode b_Rm_endOfShare 43 = .ok (.iinc 7 1, 3) := by decide +kernel
theorem d_Rm_endOfShare_46 : decode b_Rm_endOfShare 46 = .ok (.goto (-40), 3) := by decide +kernel
theorem d_Rm_endOfShare_49 : decode b_Rm_endOfShare 49 = .ok (.iconst (-1), 1) := by decide +kernel
theorem d_Rm_endOfShare_50 : decode b_Rm_endOfShare 50 = .ok (.ireturn, 1) := by decide +kernel
theorem d_Rm_sameTree_0 : decode b_Rm_sameTree 0 = .ok (.aload_n 0, 1) := by decide +kernel
theorem d_Rm_sameTree_1 : decode b_Rm_sameTree 1 = .ok (.iload_n 1, 1) := by decide +kernel
theorem d_Rm_sameTree_2 : decode b_Rm_sameTree 2 = .ok (.invokevirtual 83, 3) := by decide +kernel
theorem d_Rm_sameTree_5 : decode b_Rm_sameTree 5 = .ok (.astore_n 3, 1) := by decide +kernel
theorem d_Rm_sameTree_6 : decode b_Rm_sameTree 6 = .ok (.aload_n 0, 1) := by decide +kernel
theorem d_Rm_sameTree_7 : decode b_Rm_sameTree 7 = .ok (.iload_n 2, 1) := by decide +kernel
theorem d_Rm_sameTree_8 : decode b_Rm_sameTree 8 = .ok (.invokevirtual 83, 3) := by decide +kernel
theorem d_Rm_sameTree_11 : decode b_Rm_sameTree 11 = .ok (.astore 4, 2) := by decide +kernel
theorem d_Rm_sameTree_13 : decode b_Rm_sameTree 13 = .ok (.aload_n 3, 1) := by decide +kernel
theorem d_Rm_sameTree_14 : decode b_Rm_sameTree 14 = .ok (.getfield 97, 3) := by decide +kernel
theorem d_Rm_sameTree_17 : decode b_Rm_sameTree 17 = .ok (.iconst (-1), 1) := by decide +kernel
theorem d_Rm_sameTree_18 : decode b_Rm_sameTree 18 = .ok (.if_icmp .eq 12, 3) := by decide +kernel
theorem d_Rm_sameTree_21 : decode b_Rm_sameTree 21 = .ok (.aload 4, 2) := by decide +kernel
theorem d_Rm_sameTree_23 : decode b_Rm_sameTree 23 = .ok (.getfield 97, 3) := by decide +kernel
theorem d_Rm_sameTree_26 : decode b_Rm_sameTree 26 = .ok (.iconst (-1), 1) := by decide +kernel
end
section
theorem d_Rm_sameTree_27 : decode b_Rm_sameTree 27 = .ok (.if_icmp .ne 5, 3) := by decide +kernel
theorem d_Rm_sameTree_30 : decode b_Rm_sameTree 30 = .ok (.iconst 0, 1) := by decide +kernel
theorem d_Rm_sameTree_31 : decode b_Rm_sameTree 31 = .ok (.ireturn, 1) := by decide +kernel
theorem d_Rm_sameTree_32 : decode b_Rm_sameTree 32 = .ok (.aload_n 0, 1) := by decide +kernel
theorem d_Rm_sameTree_33 : decode b_Rm_sameTree 33 = .ok (.getfield 48, 3) := by decide +kernel
theorem d_Rm_sameTree_36 : decode b_Rm_sameTree 36 = .ok (.invokevirtual 211, 3) := by decide +kernel
theorem d_Rm_sameTree_39 : decode b_Rm_sameTree 39 = .ok (.iconst 0, 1) := by decide +kernel
theorem d_Rm_sameTree_40 : decode b_Rm_sameTree 40 = .ok (.istore 5, 2) := by decide +kernel
theorem d_Rm_sameTree_42 : decode b_Rm_sameTree 42 = .ok (.iload 5, 2) := by decide +kernel
theorem d_Rm_sameTree_44 : decode b_Rm_sameTree 44 = .ok (.aload_n 3, 1) := by decide +kernel
theorem d_Rm_sameTree_45 : decode b_Rm_sameTree 45 = .ok (.getfield 87, 3) := by decide +kernel
theorem d_Rm_sameTree_48 : decode b_Rm_sameTree 48 = .ok (.arraylength, 1) := by decide +kernel
theorem d_Rm_sameTree_49 : decode b_Rm_sameTree 49 = .ok (.if_icmp .ge 50, 3) := by decide +kernel
theorem d_Rm_sameTree_52 : decode b_Rm_sameTree 52 = .ok (.aload 4, 2) := by decide +kernel
theorem d_Rm_sameTree_54 : decode b_Rm_sameTree 54 = .ok (.aload_n 3, 1) := by decide +kernel
theorem d_Rm_sameTree_55 : decode b_Rm_sameTree 55 = .ok (.getfield 97, 3) := by decide +kernel
theorem d_Rm_sameTree_58 : decode b_Rm_sameTree 58 = .ok (.iload 5, 2) := by decide +kernel
theorem d_Rm_sameTree_60 : decode b_Rm_sameTree 60 = .ok (.iadd, 1) := by decide +kernel
theorem d_Rm_sameTree_61 : decode b_Rm_sameTree 61 = .ok (.aload 4, 2) := by decide +kernel
theorem d_Rm_sameTree_63 : decode b_Rm_sameTree 63 = .ok (.getfield 97, 3) := by decide +kernel
theorem d_Rm_sameTree_66 : decode b_Rm_sameTree 66 = .ok (.invokevirtual 214, 3) := by decide +kernel
theorem d_Rm_sameTree_69 : decode b_Rm_sameTree 69 = .ok (.istore 6, 2) := by decide +kernel
theorem d_Rm_sameTree_71 : decode b_Rm_sameTree 71 = .ok (.iload 6, 2) := by decide +kernel
theorem d_Rm_sameTree_73 : decode b_Rm_sameTree 73 = .ok (.iconst (-1), 1) := by decide +kernel
theorem d_Rm_sameTree_74 : decode b_Rm_sameTree 74 = .ok (.if_icmp .eq 19, 3) := by decide +kernel
theorem d_Rm_sameTree_77 : decode b_Rm_sameTree 77 = .ok (.aload_n 0, 1) := by decide +kernel
theorem d_Rm_sameTree_78 : decode b_Rm_sameTree 78 = .ok (.getfield 48, 3) := by decide +kernel
theorem d_Rm_sameTree_81 : decode b_Rm_sameTree 81 = .ok (.aload_n 3, 1) := by decide +kernel
theorem d_Rm_sameTree_82 : decode b_Rm_sameTree 82 = .ok (.getfield 87, 3) := by decide +kernel
theorem d_Rm_sameTree_85 : decode b_Rm_sameTree 85 = .ok (.iload 5, 2) := by decide +kernel
theorem d_Rm_sameTree_87 : decode b_Rm_sameTree 87 = .ok (.iaload, 1) := by decide +kernel
theorem d_Rm_sameTree_88 : decode b_Rm_sameTree 88 = .ok (.iload 6, 2) := by decide +kernel
theorem d_Rm_sameTree_90 : decode b_Rm_sameTree 90 = .ok (.invokevirtual 218, 3) := by decide +kernel
theorem d_Rm_sameTree_93 : decode b_Rm_sameTree 93 = .ok (.iinc 5 1, 3) := by decide +kernel
theorem d_Rm_sameTree_96 : decode b_Rm_sameTree 96 = .ok (.goto (-54), 3) := by decide +kernel
theorem d_Rm_sameTree_99 : decode b_Rm_sameTree 99 = .ok (.aload_n 0, 1) := by decide +kernel
theorem d_Rm_sameTree_100 : decode b_Rm_sameTree 100 = .ok (.getfield 48, 3) := by decide +kernel
theorem d_Rm_sameTree_103 : decode b_Rm_sameTree 103 = .ok (.getfield 222, 3) := by decide +kernel
theorem d_Rm_sameTree_106 : decode b_Rm_sameTree 106 = .ok (.iconst 5, 1) := by decide +kernel
theorem d_Rm_sameTree_107 : decode b_Rm_sameTree 107 = .ok (.if_icmp .lt 27, 3) := by decide +kernel
theorem d_Rm_sameTree_110 : decode b_Rm_sameTree 110 = .ok (.aload_n 0, 1) := by decide +kernel
theorem d_Rm_sameTree_111 : decode b_Rm_sameTree 111 = .ok (.getfield 48, 3) := by decide +kernel
theorem d_Rm_sameTree_114 : decode b_Rm_sameTree 114 = .ok (.getfield 225, 3) := by decide +kernel
theorem d_Rm_sameTree_117 : decode b_Rm_sameTree 117 = .ok (.bipush 15, 2) := by decide +kernel
theorem d_Rm_sameTree_119 : decode b_Rm_sameTree 119 = .ok (.aload_n 0, 1) := by decide +kernel
theorem d_Rm_sameTree_120 : decode b_Rm_sameTree 120 = .ok (.getfield 48, 3) := by decide +kernel
theorem d_Rm_sameTree_123 : decode b_Rm_sameTree 123 = .ok (.getfield 222, 3) := by decide +kernel
theorem d_Rm_sameTree_126 : decode b_Rm_sameTree 126 = .ok (.imul, 1) := by decide +kernel
theorem d_Rm_sameTree_127 : decode b_Rm_sameTree 127 = .ok (.if_icmp .gt 7, 3) := by decide +kernel
theorem d_Rm_sameTree_130 : decode b_Rm_sameTree 130 = .ok (.iconst 1, 1) := by decide +kernel
theorem d_Rm_sameTree_131 : decode b_Rm_sameTree 131 = .ok (.goto 4, 3) := by decide +kernel
theorem d_Rm_sameTree_134 : decode b_Rm_sameTree 134 = .ok (.iconst 0, 1) := by decide +kernel
theorem d_Rm_sameTree_135 : decode b_Rm_sameTree 135 = .ok (.ireturn, 1) := by decide +kernel
theorem d_Rm_count_0 : decode b_Rm_count 0 = .ok (.iload_n 1, 1) := by decide +kernel
theorem d_Rm_count_1 : decode b_Rm_count 1 = .ok (.tableswitch 51 0 3 #[31, 36, 41, 46], 31) := by decide +kernel
theorem d_Rm_count_32 : decode b_Rm_count 32 = .ok (.aload_n 0, 1) := by decide +kernel
theorem d_Rm_count_33 : decode b_Rm_count 33 = .ok (.getfield 13, 3) := by decide +kernel
theorem d_Rm_count_36 : decode b_Rm_count 36 = .ok (.ireturn, 1) := by decide +kernel
theorem d_Rm_count_37 : decode b_Rm_count 37 = .ok (.aload_n 0, 1) := by decide +kernel
theorem d_Rm_count_38 : decode b_Rm_count 38 = .ok (.getfield 23, 3) := by decide +kernel
theorem d_Rm_count_41 : decode b_Rm_count 41 = .ok (.ireturn, 1) := by decide +kernel
theorem d_Rm_count_42 : decode b_Rm_count 42 = .ok (.aload_n 0, 1) := by decide +kernel
theorem d_Rm_count_43 : decode b_Rm_count 43 = .ok (.getfield 32, 3) := by decide +kernel
theorem d_Rm_count_46 : decode b_Rm_count 46 = .ok (.ireturn, 1) := by decide +kernel
theorem d_Rm_count_47 : decode b_Rm_count 47 = .ok (.aload_n 0, 1) := by decide +kernel
theorem d_Rm_count_48 : decode b_Rm_count 48 = .ok (.invokevirtual 228, 3) := by decide +kernel
theorem d_Rm_count_51 : decode b_Rm_count 51 = .ok (.ireturn, 1) := by decide +kernel
theorem d_Rm_count_52 : decode b_Rm_count 52 = .ok (.new 90, 3) := by decide +kernel
theorem d_Rm_count_55 : decode b_Rm_count 55 = .ok (.dup, 1) := by decide +kernel
theorem d_Rm_count_56 : decode b_Rm_count 56 = .ok (.ldc 143, 2) := by decide +kernel
theorem d_Rm_count_58 : decode b_Rm_count 58 = .ok (.invokespecial 94, 3) := by decide +kernel
theorem d_Rm_count_61 : decode b_Rm_count 61 = .ok (.athrow, 1) := by decide +kernel
theorem d_Rm_floatingRows_0 : decode b_Rm_floatingRows 0 = .ok (.iconst 0, 1) := by decide +kernel
theorem d_Rm_floatingRows_1 : decode b_Rm_floatingRows 1 = .ok (.istore_n 1, 1) := by decide +kernel
theorem d_Rm_floatingRows_2 : decode b_Rm_floatingRows 2 = .ok (.iconst 0, 1) := by decide +kernel
theorem d_Rm_floatingRows_3 : decode b_Rm_floatingRows 3 = .ok (.istore_n 2, 1) := by decide +kernel
theorem d_Rm_floatingRows_4 : decode b_Rm_floatingRows 4 = .ok (.iload_n 2, 1) := by decide +kernel
theorem d_Rm_floatingRows_5 : decode b_Rm_floatingRows 5 = .ok (.aload_n 0, 1) := by decide +kernel
theorem d_Rm_floatingRows_6 : decode b_Rm_floatingRows 6 = .ok (.getfield 23, 3) := by decide +kernel
theorem d_Rm_floatingRows_9 : decode b_Rm_floatingRows 9 = .ok (.if_icmp .ge 25, 3) := by decide +kernel
theorem d_Rm_floatingRows_12 : decode b_Rm_floatingRows 12 = .ok (.aload_n 0, 1) := by decide +kernel
theorem d_Rm_floatingRows_13 : decode b_Rm_floatingRows 13 = .ok (.getfield 19, 3) := by decide +kernel
theorem d_Rm_floatingRows_16 : decode b_Rm_floatingRows 16 = .ok (.iload_n 2, 1) := by decide +kernel
theorem d_Rm_floatingRows_17 : decode b_Rm_floatingRows 17 = .ok (.aaload, 1) := by decide +kernel
theorem d_Rm_floatingRows_18 : decode b_Rm_floatingRows 18 = .ok (.getfield 97, 3) := by decide +kernel
theorem d_Rm_floatingRows_21 : decode b_Rm_floatingRows 21 = .ok (.iconst (-1), 1) := by decide +kernel
theorem d_Rm_floatingRows_22 : decode b_Rm_floatingRows 22 = .ok (.if_icmp .ne 6, 3) := by decide +kernel
theorem d_Rm_floatingRows_25 : decode b_Rm_floatingRows 25 = .ok (.iinc 1 1, 3) := by decide +kernel
theorem d_Rm_floatingRows_28 : decode b_Rm_floatingRows 28 = .ok (.iinc 2 1, 3) := by decide +kernel
theorem d_Rm_floatingRows_31 : decode b_Rm_floatingRows 31 = .ok (.goto (-27), 3) := by decide +kernel
theorem d_Rm_floatingRows_34 : decode b_Rm_floatingRows 34 = .ok (.iload_n 1, 1) := by decide +kernel
theorem d_Rm_floatingRows_35 : decode b_Rm_floatingRows 35 = .ok (.ireturn, 1) := by decide +kernel
end
section
theorem d_Rob_init_0 : decode b_Rob_init 0 = .ok (.aload_n 0, 1) := by decide +kernel
theorem d_Rob_init_1 : decode b_Rob_init 1 = .ok (.invokespecial 3, 3) := by decide +kernel
theorem d_Rob_init_4 : decode b_Rob_init 4 = .ok (.return_, 1) := by decide +kernel
theorem d_Rob_clear_0 : decode b_Rob_clear 0 = .ok (.aload_n 0, 1) := by decide +kernel
theorem d_Rob_clear_1 : decode b_Rob_clear 1 = .ok (.iconst 0, 1) := by decide +kernel
theorem d_Rob_clear_2 : decode b_Rob_clear 2 = .ok (.putfield 9, 3) := by decide +kernel
theorem d_Rob_clear_5 : decode b_Rob_clear 5 = .ok (.aload_n 0, 1) := by decide +kernel
theorem d_Rob_clear_6 : decode b_Rob_clear 6 = .ok (.iconst 0, 1) := by decide +kernel
theorem d_Rob_clear_7 : decode b_Rob_clear 7 = .ok (.putfield 15, 3) := by decide +kernel
theorem d_Rob_clear_10 : decode b_Rob_clear 10 = .ok (.aload_n 0, 1) := by decide +kernel
theorem d_Rob_clear_11 : decode b_Rob_clear 11 = .ok (.iconst 0, 1) := by decide +kernel
theorem d_Rob_clear_12 : decode b_Rob_clear 12 = .ok (.putfield 18, 3) := by decide +kernel
theorem d_Rob_clear_15 : decode b_Rob_clear 15 = .ok (.aload_n 0, 1) := by decide +kernel
theorem d_Rob_clear_16 : decode b_Rob_clear 16 = .ok (.iconst 0, 1) := by decide +kernel
theorem d_Rob_clear_17 : decode b_Rob_clear 17 = .ok (.putfield 21, 3) := by decide +kernel
theorem d_Rob_clear_20 : decode b_Rob_clear 20 = .ok (.return_, 1) := by decide +kernel
theorem d_Rob_take_0 : decode b_Rob_take 0 = .ok (.aload_n 0, 1) := by decide +kernel
theorem d_Rob_take_1 : decode b_Rob_take 1 = .ok (.aload_n 0, 1) := by decide +kernel
theorem d_Rob_take_2 : decode b_Rob_take 2 = .ok (.getfield 9, 3) := by decide +kernel
theorem d_Rob_take_5 : decode b_Rob_take 5 = .ok (.ifCond .ne 7, 3) := by decide +kernel
theorem d_Rob_take_8 : decode b_Rob_take 8 = .ok (.iload_n 1, 1) := by decide +kernel
theorem d_Rob_take_9 : decode b_Rob_take 9 = .ok (.goto 11, 3) := by decide +kernel
theorem d_Rob_take_12 : decode b_Rob_take 12 = .ok (.aload_n 0, 1) := by decide +kernel
theorem d_Rob_take_13 : decode b_Rob_take 13 = .ok (.getfield 18, 3) := by decide +kernel
theorem d_Rob_take_16 : decode b_Rob_take 16 = .ok (.iload_n 1, 1) := by decide +kernel
theorem d_Rob_take_17 : decode b_Rob_take 17 = .ok (.invokestatic 24, 3) := by decide +kernel
theorem d_Rob_take_20 : decode b_Rob_take 20 = .ok (.putfield 18, 3) := by decide +kernel
theorem d_Rob_take_23 : decode b_Rob_take 23 = .ok (.aload_n 0, 1) := by decide +kernel
theorem d_Rob_take_24 : decode b_Rob_take 24 = .ok (.aload_n 0, 1) := by decide +kernel
theorem d_Rob_take_25 : decode b_Rob_take 25 = .ok (.getfield 9, 3) := by decide +kernel
theorem d_Rob_take_28 : decode b_Rob_take 28 = .ok (.ifCond .ne 7, 3) := by decide +kernel
theorem d_Rob_take_31 : decode b_Rob_take 31 = .ok (.iload_n 1, 1) := by decide +kernel
theorem d_Rob_take_32 : decode b_Rob_take 32 = .ok (.goto 11, 3) := by decide +kernel
theorem d_Rob_take_35 : decode b_Rob_take 35 = .ok (.aload_n 0, 1) := by decide +kernel
theorem d_Rob_take_36 : decode b_Rob_take 36 = .ok (.getfield 21, 3) := by decide +kernel
theorem d_Rob_take_39 : decode b_Rob_take 39 = .ok (.iload_n 1, 1) := by decide +kernel
theorem d_Rob_take_40 : decode b_Rob_take 40 = .ok (.invokestatic 30, 3) := by decide +kernel
theorem d_Rob_take_43 : decode b_Rob_take 43 = .ok (.putfield 21, 3) := by decide +kernel
theorem d_Rob_take_46 : decode b_Rob_take 46 = .ok (.aload_n 0, 1) := by decide +kernel
theorem d_Rob_take_47 : decode b_Rob_take 47 = .ok (.dup, 1) := by decide +kernel
theorem d_Rob_take_48 : decode b_Rob_take 48 = .ok (.getfield 15, 3) := by decide +kernel
theorem d_Rob_take_51 : decode b_Rob_take 51 = .ok (.iload_n 1, 1) := by decide +kernel
theorem d_Rob_take_52 : decode b_Rob_take 52 = .ok (.iadd, 1) := by decide +kernel
theorem d_Rob_take_53 : decode b_Rob_take 53 = .ok (.putfield 15, 3) := by decide +kernel
theorem d_Rob_take_56 : decode b_Rob_take 56 = .ok (.aload_n 0, 1) := by decide +kernel
theorem d_Rob_take_57 : decode b_Rob_take 57 = .ok (.dup, 1) := by decide +kernel
theorem d_Rob_take_58 : decode b_Rob_take 58 = .ok (.getfield 9, 3) := by decide +kernel
theorem d_Rob_take_61 : decode b_Rob_take 61 = .ok (.iconst 1, 1) := by decide +kernel
theorem d_Rob_take_62 : decode b_Rob_take 62 = .ok (.iadd, 1) := by decide +kernel
theorem d_Rob_take_63 : decode b_Rob_take 63 = .ok (.putfield 9, 3) := by decide +kernel
theorem d_Rob_take_66 : decode b_Rob_take 66 = .ok (.return_, 1) := by decide +kernel
theorem d_Rob_answer_0 : decode b_Rob_answer 0 = .ok (.aload_n 0, 1) := by decide +kernel
theorem d_Rob_answer_1 : decode b_Rob_answer 1 = .ok (.getfield 9, 3) := by decide +kernel
theorem d_Rob_answer_4 : decode b_Rob_answer 4 = .ok (.ifCond .gt 5, 3) := by decide +kernel
theorem d_Rob_answer_7 : decode b_Rob_answer 7 = .ok (.iconst (-1), 1) := by decide +kernel
theorem d_Rob_answer_8 : decode b_Rob_answer 8 = .ok (.ireturn, 1) := by decide +kernel
theorem d_Rob_answer_9 : decode b_Rob_answer 9 = .ok (.aload_n 0, 1) := by decide +kernel
theorem d_Rob_answer_10 : decode b_Rob_answer 10 = .ok (.getfield 9, 3) := by decide +kernel
theorem d_Rob_answer_13 : decode b_Rob_answer 13 = .ok (.iconst 2, 1) := by decide +kernel
theorem d_Rob_answer_14 : decode b_Rob_answer 14 = .ok (.if_icmp .gt 13, 3) := by decide +kernel
theorem d_Rob_answer_17 : decode b_Rob_answer 17 = .ok (.aload_n 0, 1) := by decide +kernel
theorem d_Rob_answer_18 : decode b_Rob_answer 18 = .ok (.getfield 15, 3) := by decide +kernel
theorem d_Rob_answer_21 : decode b_Rob_answer 21 = .ok (.aload_n 0, 1) := by decide +kernel
theorem d_Rob_answer_22 : decode b_Rob_answer 22 = .ok (.getfield 9, 3) := by decide +kernel
theorem d_Rob_answer_25 : decode b_Rob_answer 25 = .ok (.idiv, 1) := by decide +kernel
theorem d_Rob_answer_26 : decode b_Rob_answer 26 = .ok (.ireturn, 1) := by decide +kernel
theorem d_Rob_answer_27 : decode b_Rob_answer 27 = .ok (.aload_n 0, 1) := by decide +kernel
theorem d_Rob_answer_28 : decode b_Rob_answer 28 = .ok (.getfield 15, 3) := by decide +kernel
theorem d_Rob_answer_31 : decode b_Rob_answer 31 = .ok (.aload_n 0, 1) := by decide +kernel
theorem d_Rob_answer_32 : decode b_Rob_answer 32 = .ok (.getfield 18, 3) := by decide +kernel
theorem d_Rob_answer_35 : decode b_Rob_answer 35 = .ok (.isub, 1) := by decide +kernel
theorem d_Rob_answer_36 : decode b_Rob_answer 36 = .ok (.aload_n 0, 1) := by decide +kernel
theorem d_Rob_answer_37 : decode b_Rob_answer 37 = .ok (.getfield 21, 3) := by decide +kernel
theorem d_Rob_answer_40 : decode b_Rob_answer 40 = .ok (.isub, 1) := by decide +kernel
theorem d_Rob_answer_41 : decode b_Rob_answer 41 = .ok (.aload_n 0, 1) := by decide +kernel
theorem d_Rob_answer_42 : decode b_Rob_answer 42 = .ok (.getfield 9, 3) := by decide +kernel
theorem d_Rob_answer_45 : decode b_Rob_answer 45 = .ok (.iconst 2, 1) := by decide +kernel
theorem d_Rob_answer_46 : decode b_Rob_answer 46 = .ok (.isub, 1) := by decide +kernel
theorem d_Rob_answer_47 : decode b_Rob_answer 47 = .ok (.idiv, 1) := by decide +kernel
theorem d_Rob_answer_48 : decode b_Rob_answer 48 = .ok (.ireturn, 1) := by decide +kernel
end
section
theorem d_Gap_init_0 : decode b_Gap_init 0 = .ok (.aload_n 0, 1) := by decide +kernel
theorem d_Gap_init_1 : decode b_Gap_init 1 = .ok (.invokespecial 1, 3) := by decide +kernel
theorem d_Gap_init_4 : decode b_Gap_init 4 = .ok (.return_, 1) := by decide +kernel
theorem d_Gap_clear_0 : decode b_Gap_clear 0 = .ok (.aload_n 0, 1) := by decide +kernel
theorem d_Gap_clear_1 : decode b_Gap_clear 1 = .ok (.iconst 0, 1) := by decide +kernel
theorem d_Gap_clear_2 : decode b_Gap_clear 2 = .ok (.putfield 7, 3) := by decide +kernel
theorem d_Gap_clear_5 : decode b_Gap_clear 5 = .ok (.aload_n 0, 1) := by decide +kernel
theorem d_Gap_clear_6 : decode b_Gap_clear 6 = .ok (.iconst 0, 1) := by decide +kernel
theorem d_Gap_clear_7 : decode b_Gap_clear 7 = .ok (.putfield 13, 3) := by decide +kernel
theorem d_Gap_clear_10 : decode b_Gap_clear 10 = .ok (.return_, 1) := by decide +kernel
theorem d_Gap_add_0 : decode b_Gap_add 0 = .ok (.aload_n 0, 1) := by decide +kernel
theorem d_Gap_add_1 : decode b_Gap_add 1 = .ok (.dup, 1) := by decide +kernel
theorem d_Gap_add_2 : decode b_Gap_add 2 = .ok (.getfield 7, 3) := by decide +kernel
theorem d_Gap_add_5 : decode b_Gap_add 5 = .ok (.iload_n 1, 1) := by decide +kernel
theorem d_Gap_add_6 : decode b_Gap_add 6 = .ok (.iload_n 2, 1) := by decide +kernel
theorem d_Gap_add_7 : decode b_Gap_add 7 = .ok (.isub, 1) := by decide +kernel
theorem d_Gap_add_8 : decode b_Gap_add 8 = .ok (.invokestatic 16, 3) := by decide +kernel
theorem d_Gap_add_11 : decode b_Gap_add 11 = .ok (.iadd, 1) := by decide +kernel
theorem d_Gap_add_12 : decode b_Gap_add 12 = .ok (.putfield 7, 3) := by decide +kernel
theorem d_Gap_add_15 : decode b_Gap_add 15 = .ok (.aload_n 0, 1) := by decide +kernel
theorem d_Gap_add_16 : decode b_Gap_add 16 = .ok (.dup, 1) := by decide +kernel
theorem d_Gap_add_17 : decode b_Gap_add 17 = .ok (.getfield 13, 3) := by decide +kernel
theorem d_Gap_add_20 : decode b_Gap_add 20 = .ok (.iconst 1, 1) := by decide +kernel
theorem d_Gap_add_21 : decode b_Gap_add 21 = .ok (.iadd, 1) := by decide +kernel
theorem d_Gap_add_22 : decode b_Gap_add 22 = .ok (.putfield 13, 3) := by decide +kernel
theorem d_Gap_add_25 : decode b_Gap_add 25 = .ok (.return_, 1) := by decide +kernel
theorem d_Gap_sumOrYears_0 : decode b_Gap_sumOrYears 0 = .ok (.iload_n 1, 1) := by decide +kernel
theorem d_Gap_sumOrYears_1 : decode b_Gap_sumOrYears 1 = .ok (.ifCond .ne 10, 3) := by decide +kernel
theorem d_Gap_sumOrYears_4 : decode b_Gap_sumOrYears 4 = .ok (.aload_n 0, 1) := by decide +kernel
theorem d_Gap_sumOrYears_5 : decode b_Gap_sumOrYears 5 = .ok (.getfield 7, 3) := by decide +kernel
theorem d_Gap_sumOrYears_8 : decode b_Gap_sumOrYears 8 = .ok (.goto 7, 3) := by decide +kernel
theorem d_Gap_sumOrYears_11 : decode b_Gap_sumOrYears 11 = .ok (.aload_n 0, 1) := by decide +kernel
theorem d_Gap_sumOrYears_12 : decode b_Gap_sumOrYears 12 = .ok (.getfield 13, 3) := by decide +kernel
theorem d_Gap_sumOrYears_15 : decode b_Gap_sumOrYears 15 = .ok (.ireturn, 1) := by decide +kernel
theorem d_Gap_lessThan_0 : decode b_Gap_lessThan 0 = .ok (.aload_n 0, 1) := by decide +kernel
theorem d_Gap_lessThan_1 : decode b_Gap_lessThan 1 = .ok (.getfield 7, 3) := by decide +kernel
theorem d_Gap_lessThan_4 : decode b_Gap_lessThan 4 = .ok (.aload_n 1, 1) := by decide +kernel
theorem d_Gap_lessThan_5 : decode b_Gap_lessThan 5 = .ok (.getfield 13, 3) := by decide +kernel
theorem d_Gap_lessThan_8 : decode b_Gap_lessThan 8 = .ok (.imul, 1) := by decide +kernel
theorem d_Gap_lessThan_9 : decode b_Gap_lessThan 9 = .ok (.istore_n 2, 1) := by decide +kernel
theorem d_Gap_lessThan_10 : decode b_Gap_lessThan 10 = .ok (.aload_n 1, 1) := by decide +kernel
theorem d_Gap_lessThan_11 : decode b_Gap_lessThan 11 = .ok (.getfield 7, 3) := by decide +kernel
theorem d_Gap_lessThan_14 : decode b_Gap_lessThan 14 = .ok (.aload_n 0, 1) := by decide +kernel
theorem d_Gap_lessThan_15 : decode b_Gap_lessThan 15 = .ok (.getfield 13, 3) := by decide +kernel
theorem d_Gap_lessThan_18 : decode b_Gap_lessThan 18 = .ok (.imul, 1) := by decide +kernel
theorem d_Gap_lessThan_19 : decode b_Gap_lessThan 19 = .ok (.istore_n 3, 1) := by decide +kernel
theorem d_Gap_lessThan_20 : decode b_Gap_lessThan 20 = .ok (.iload_n 2, 1) := by decide +kernel
theorem d_Gap_lessThan_21 : decode b_Gap_lessThan 21 = .ok (.iload_n 3, 1) := by decide +kernel
theorem d_Gap_lessThan_22 : decode b_Gap_lessThan 22 = .ok (.if_icmp .lt 19, 3) := by decide +kernel
theorem d_Gap_lessThan_25 : decode b_Gap_lessThan 25 = .ok (.iload_n 2, 1) := by decide +kernel
theorem d_Gap_lessThan_26 : decode b_Gap_lessThan 26 = .ok (.iload_n 3, 1) := by decide +kernel
theorem d_Gap_lessThan_27 : decode b_Gap_lessThan 27 = .ok (.if_icmp .ne 18, 3) := by decide +kernel
theorem d_Gap_lessThan_30 : decode b_Gap_lessThan 30 = .ok (.aload_n 0, 1) := by decide +kernel
theorem d_Gap_lessThan_31 : decode b_Gap_lessThan 31 = .ok (.getfield 13, 3) := by decide +kernel
theorem d_Gap_lessThan_34 : decode b_Gap_lessThan 34 = .ok (.aload_n 1, 1) := by decide +kernel
theorem d_Gap_lessThan_35 : decode b_Gap_lessThan 35 = .ok (.getfield 13, 3) := by decide +kernel
theorem d_Gap_lessThan_38 : decode b_Gap_lessThan 38 = .ok (.if_icmp .le 7, 3) := by decide +kernel
theorem d_Gap_lessThan_41 : decode b_Gap_lessThan 41 = .ok (.iconst 1, 1) := by decide +kernel
theorem d_Gap_lessThan_42 : decode b_Gap_lessThan 42 = .ok (.goto 4, 3) := by decide +kernel
theorem d_Gap_lessThan_45 : decode b_Gap_lessThan 45 = .ok (.iconst 0, 1) := by decide +kernel
theorem d_Gap_lessThan_46 : decode b_Gap_lessThan 46 = .ok (.ireturn, 1) := by decide +kernel
theorem d_Gap_become_0 : decode b_Gap_become 0 = .ok (.aload_n 0, 1) := by decide +kernel
theorem d_Gap_become_1 : decode b_Gap_become 1 = .ok (.aload_n 1, 1) := by decide +kernel
theorem d_Gap_become_2 : decode b_Gap_become 2 = .ok (.getfield 7, 3) := by decide +kernel
theorem d_Gap_become_5 : decode b_Gap_become 5 = .ok (.putfield 7, 3) := by decide +kernel
theorem d_Gap_become_8 : decode b_Gap_become 8 = .ok (.aload_n 0, 1) := by decide +kernel
theorem d_Gap_become_9 : decode b_Gap_become 9 = .ok (.aload_n 1, 1) := by decide +kernel
theorem d_Gap_become_10 : decode b_Gap_become 10 = .ok (.getfield 13, 3) := by decide +kernel
theorem d_Gap_become_13 : decode b_Gap_become 13 = .ok (.putfield 13, 3) := by decide +kernel
theorem d_Gap_become_16 : decode b_Gap_become 16 = .ok (.return_, 1) := by decide +kernel
end
section
theorem d_L_ring_0 : decode b_L_ring 0 = .ok (.aload_n 2, 1) := by decide +kernel
theorem d_L_ring_1 : decode b_L_ring 1 = .ok (.iconst 0, 1) := by decide +kernel
theorem d_L_ring_2 : decode b_L_ring 2 = .ok (.aload_n 0, 1) := by decide +kernel
theorem d_L_ring_3 : decode b_L_ring 3 = .ok (.iload_n 1, 1) := by decide +kernel
theorem d_L_ring_4 : decode b_L_ring 4 = .ok (.invokevirtual 7, 3) := by decide +kernel
theorem d_L_ring_7 : decode b_L_ring 7 = .ok (.i2l, 1) := by decide +kernel
theorem d_L_ring_8 : decode b_L_ring 8 = .ok (.lastore, 1) := by decide +kernel
theorem d_L_ring_9 : decode b_L_ring 9 = .ok (.goto 9, 3) := by decide +kernel
theorem d_L_ring_12 : decode b_L_ring 12 = .ok (.astore_n 3, 1) := by decide +kernel
theorem d_L_ring_13 : decode b_L_ring 13 = .ok (.iconst 1, 1) := by decide +kernel
theorem d_L_ring_14 : decode b_L_ring 14 = .ok (.ireturn, 1) := by decide +kernel
theorem d_L_ring_15 : decode b_L_ring 15 = .ok (.astore_n 3, 1) := by decide +kernel
theorem d_L_ring_16 : decode b_L_ring 16 = .ok (.iconst 2, 1) := by decide +kernel
theorem d_L_ring_17 : decode b_L_ring 17 = .ok (.ireturn, 1) := by decide +kernel
theorem d_L_ring_18 : decode b_L_ring 18 = .ok (.iconst 0, 1) := by decide +kernel
theorem d_L_ring_19 : decode b_L_ring 19 = .ok (.ireturn, 1) := by decide +kernel
theorem d_L_series_0 : decode b_L_series 0 = .ok (.aload_n 1, 1) := by decide +kernel
theorem d_L_series_1 : decode b_L_series 1 = .ok (.iconst 0, 1) := by decide +kernel
theorem d_L_series_2 : decode b_L_series 2 = .ok (.aload_n 0, 1) := by decide +kernel
theorem d_L_series_3 : decode b_L_series 3 = .ok (.invokevirtual 17, 3) := by decide +kernel
theorem d_L_series_6 : decode b_L_series 6 = .ok (.i2l, 1) := by decide +kernel
theorem d_L_series_7 : decode b_L_series 7 = .ok (.lastore, 1) := by decide +kernel
theorem d_L_series_8 : decode b_L_series 8 = .ok (.goto 6, 3) := by decide +kernel
theorem d_L_series_11 : decode b_L_series 11 = .ok (.astore_n 2, 1) := by decide +kernel
theorem d_L_series_12 : decode b_L_series 12 = .ok (.iconst 1, 1) := by decide +kernel
theorem d_L_series_13 : decode b_L_series 13 = .ok (.ireturn, 1) := by decide +kernel
theorem d_L_series_14 : decode b_L_series 14 = .ok (.iconst 0, 1) := by decide +kernel
theorem d_L_series_15 : decode b_L_series 15 = .ok (.ireturn, 1) := by decide +kernel
theorem d_L_evened_0 : decode b_L_evened 0 = .ok (.aload_n 3, 1) := by decide +kernel
theorem d_L_evened_1 : decode b_L_evened 1 = .ok (.iconst 0, 1) := by decide +kernel
theorem d_L_evened_2 : decode b_L_evened 2 = .ok (.aload_n 0, 1) := by decide +kernel
theorem d_L_evened_3 : decode b_L_evened 3 = .ok (.iload_n 1, 1) := by decide +kernel
theorem d_L_evened_4 : decode b_L_evened 4 = .ok (.iload_n 2, 1) := by decide +kernel
theorem d_L_evened_5 : decode b_L_evened 5 = .ok (.invokevirtual 21, 3) := by decide +kernel
theorem d_L_evened_8 : decode b_L_evened 8 = .ok (.i2l, 1) := by decide +kernel
theorem d_L_evened_9 : decode b_L_evened 9 = .ok (.lastore, 1) := by decide +kernel
theorem d_L_evened_10 : decode b_L_evened 10 = .ok (.goto 7, 3) := by decide +kernel
theorem d_L_evened_13 : decode b_L_evened 13 = .ok (.astore 4, 2) := by decide +kernel
theorem d_L_evened_15 : decode b_L_evened 15 = .ok (.iconst 1, 1) := by decide +kernel
theorem d_L_evened_16 : decode b_L_evened 16 = .ok (.ireturn, 1) := by decide +kernel
theorem d_L_evened_17 : decode b_L_evened 17 = .ok (.iconst 0, 1) := by decide +kernel
theorem d_L_evened_18 : decode b_L_evened 18 = .ok (.ireturn, 1) := by decide +kernel
theorem d_L_place_0 : decode b_L_place 0 = .ok (.aload_n 3, 1) := by decide +kernel
theorem d_L_place_1 : decode b_L_place 1 = .ok (.iconst 0, 1) := by decide +kernel
theorem d_L_place_2 : decode b_L_place 2 = .ok (.aload_n 0, 1) := by decide +kernel
theorem d_L_place_3 : decode b_L_place 3 = .ok (.iload_n 1, 1) := by decide +kernel
theorem d_L_place_4 : decode b_L_place 4 = .ok (.iload_n 2, 1) := by decide +kernel
theorem d_L_place_5 : decode b_L_place 5 = .ok (.invokevirtual 27, 3) := by decide +kernel
theorem d_L_place_8 : decode b_L_place 8 = .ok (.i2l, 1) := by decide +kernel
theorem d_L_place_9 : decode b_L_place 9 = .ok (.lastore, 1) := by decide +kernel
theorem d_L_place_10 : decode b_L_place 10 = .ok (.goto 11, 3) := by decide +kernel
theorem d_L_place_13 : decode b_L_place 13 = .ok (.astore 4, 2) := by decide +kernel
theorem d_L_place_15 : decode b_L_place 15 = .ok (.iconst 1, 1) := by decide +kernel
theorem d_L_place_16 : decode b_L_place 16 = .ok (.ireturn, 1) := by decide +kernel
theorem d_L_place_17 : decode b_L_place 17 = .ok (.astore 4, 2) := by decide +kernel
theorem d_L_place_19 : decode b_L_place 19 = .ok (.iconst 2, 1) := by decide +kernel
theorem d_L_place_20 : decode b_L_place 20 = .ok (.ireturn, 1) := by decide +kernel
theorem d_L_place_21 : decode b_L_place 21 = .ok (.iconst 0, 1) := by decide +kernel
theorem d_L_place_22 : decode b_L_place 22 = .ok (.ireturn, 1) := by decide +kernel
theorem d_L_master_0 : decode b_L_master 0 = .ok (.aload_n 2, 1) := by decide +kernel
theorem d_L_master_1 : decode b_L_master 1 = .ok (.iconst 0, 1) := by decide +kernel
theorem d_L_master_2 : decode b_L_master 2 = .ok (.aload_n 0, 1) := by decide +kernel
theorem d_L_master_3 : decode b_L_master 3 = .ok (.iload_n 1, 1) := by decide +kernel
theorem d_L_master_4 : decode b_L_master 4 = .ok (.invokevirtual 30, 3) := by decide +kernel
theorem d_L_master_7 : decode b_L_master 7 = .ok (.i2l, 1) := by decide +kernel
theorem d_L_master_8 : decode b_L_master 8 = .ok (.lastore, 1) := by decide +kernel
theorem d_L_master_9 : decode b_L_master 9 = .ok (.goto 9, 3) := by decide +kernel
theorem d_L_master_12 : decode b_L_master 12 = .ok (.astore_n 3, 1) := by decide +kernel
theorem d_L_master_13 : decode b_L_master 13 = .ok (.iconst 1, 1) := by decide +kernel
theorem d_L_master_14 : decode b_L_master 14 = .ok (.ireturn, 1) := by decide +kernel
theorem d_L_master_15 : decode b_L_master 15 = .ok (.astore_n 3, 1) := by decide +kernel
theorem d_L_master_16 : decode b_L_master 16 = .ok (.iconst 2, 1) := by decide +kernel
theorem d_L_master_17 : decode b_L_master 17 = .ok (.ireturn, 1) := by decide +kernel
theorem d_L_master_18 : decode b_L_master 18 = .ok (.iconst 0, 1) := by decide +kernel
theorem d_L_master_19 : decode b_L_master 19 = .ok (.ireturn, 1) := by decide +kernel
theorem d_L_about_0 : decode b_L_about 0 = .ok (.aload_n 3, 1) := by decide +kernel
theorem d_L_about_1 : decode b_L_about 1 = .ok (.iconst 0, 1) := by decide +kernel
theorem d_L_about_2 : decode b_L_about 2 = .ok (.aload_n 0, 1) := by decide +kernel
theorem d_L_about_3 : decode b_L_about 3 = .ok (.iload_n 1, 1) := by decide +kernel
theorem d_L_about_4 : decode b_L_about 4 = .ok (.iload_n 2, 1) := by decide +kernel
theorem d_L_about_5 : decode b_L_about 5 = .ok (.invokevirtual 33, 3) := by decide +kernel
theorem d_L_about_8 : decode b_L_about 8 = .ok (.i2l, 1) := by decide +kernel
theorem d_L_about_9 : decode b_L_about 9 = .ok (.lastore, 1) := by decide +kernel
theorem d_L_about_10 : decode b_L_about 10 = .ok (.goto 7, 3) := by decide +kernel
theorem d_L_about_13 : decode b_L_about 13 = .ok (.astore 4, 2) := by decide +kernel
theorem d_L_about_15 : decode b_L_about 15 = .ok (.iconst 1, 1) := by decide +kernel
theorem d_L_about_16 : decode b_L_about 16 = .ok (.ireturn, 1) := by decide +kernel
theorem d_L_about_17 : decode b_L_about 17 = .ok (.iconst 0, 1) := by decide +kernel
theorem d_L_about_18 : decode b_L_about 18 = .ok (.ireturn, 1) := by decide +kernel
theorem d_L_at_0 : decode b_L_at 0 = .ok (.aload_n 3, 1) := by decide +kernel
theorem d_L_at_1 : decode b_L_at 1 = .ok (.iconst 0, 1) := by decide +kernel
theorem d_L_at_2 : decode b_L_at 2 = .ok (.aload_n 0, 1) := by decide +kernel
theorem d_L_at_3 : decode b_L_at 3 = .ok (.iload_n 1, 1) := by decide +kernel
theorem d_L_at_4 : decode b_L_at 4 = .ok (.iload_n 2, 1) := by decide +kernel
theorem d_L_at_5 : decode b_L_at 5 = .ok (.invokevirtual 36, 3) := by decide +kernel
theorem d_L_at_8 : decode b_L_at 8 = .ok (.i2l, 1) := by decide +kernel
theorem d_L_at_9 : decode b_L_at 9 = .ok (.lastore, 1) := by decide +kernel
theorem d_L_at_10 : decode b_L_at 10 = .ok (.goto 7, 3) := by decide +kernel
theorem d_L_at_13 : decode b_L_at 13 = .ok (.astore 4, 2) := by decide +kernel
theorem d_L_at_15 : decode b_L_at 15 = .ok (.iconst 1, 1) := by decide +kernel
theorem d_L_at_16 : decode b_L_at 16 = .ok (.ireturn, 1) := by decide +kernel
theorem d_L_at_17 : decode b_L_at 17 = .ok (.iconst 0, 1) := by decide +kernel
theorem d_L_at_18 : decode b_L_at 18 = .ok (.ireturn, 1) := by decide +kernel
theorem d_L_depth_0 : decode b_L_depth 0 = .ok (.aload_n 3, 1) := by decide +kernel
theorem d_L_depth_1 : decode b_L_depth 1 = .ok (.iconst 0, 1) := by decide +kernel
theorem d_L_depth_2 : decode b_L_depth 2 = .ok (.aload_n 0, 1) := by decide +kernel
theorem d_L_depth_3 : decode b_L_depth 3 = .ok (.iload_n 1, 1) := by decide +kernel
theorem d_L_depth_4 : decode b_L_depth 4 = .ok (.iload_n 2, 1) := by decide +kernel
theorem d_L_depth_5 : decode b_L_depth 5 = .ok (.invokevirtual 39, 3) := by decide +kernel
theorem d_L_depth_8 : decode b_L_depth 8 = .ok (.i2l, 1) := by decide +kernel
theorem d_L_depth_9 : decode b_L_depth 9 = .ok (.lastore, 1) := by decide +kernel
theorem d_L_depth_10 : decode b_L_depth 10 = .ok (.goto 7, 3) := by decide +kernel
theorem d_L_depth_13 : decode b_L_depth 13 = .ok (.astore 4, 2) := by decide +kernel
theorem d_L_depth_15 : decode b_L_depth 15 = .ok (.iconst 1, 1) := by decide +kernel
theorem d_L_depth_16 : decode b_L_depth 16 = .ok (.ireturn, 1) := by decide +kernel
theorem d_L_depth_17 : decode b_L_depth 17 = .ok (.iconst 0, 1) := by decide +kernel
theorem d_L_depth_18 : decode b_L_depth 18 = .ok (.ireturn, 1) := by decide +kernel
theorem d_L_leftOut_0 : decode b_L_leftOut 0 = .ok (.aload 4, 2) := by decide +kernel
theorem d_L_leftOut_2 : decode b_L_leftOut 2 = .ok (.iconst 0, 1) := by decide +kernel
theorem d_L_leftOut_3 : decode b_L_leftOut 3 = .ok (.aload_n 0, 1) := by decide +kernel
theorem d_L_leftOut_4 : decode b_L_leftOut 4 = .ok (.iload_n 1, 1) := by decide +kernel
theorem d_L_leftOut_5 : decode b_L_leftOut 5 = .ok (.iload_n 2, 1) := by decide +kernel
theorem d_L_leftOut_6 : decode b_L_leftOut 6 = .ok (.iload_n 3, 1) := by decide +kernel
theorem d_L_leftOut_7 : decode b_L_leftOut 7 = .ok (.invokevirtual 42, 3) := by decide +kernel
theorem d_L_leftOut_10 : decode b_L_leftOut 10 = .ok (.i2l, 1) := by decide +kernel
theorem d_L_leftOut_11 : decode b_L_leftOut 11 = .ok (.lastore, 1) := by decide +kernel
theorem d_L_leftOut_12 : decode b_L_leftOut 12 = .ok (.goto 7, 3) := by decide +kernel
theorem d_L_leftOut_15 : decode b_L_leftOut 15 = .ok (.astore 5, 2) := by decide +kernel
theorem d_L_leftOut_17 : decode b_L_leftOut 17 = .ok (.iconst 1, 1) := by decide +kernel
theorem d_L_leftOut_18 : decode b_L_leftOut 18 = .ok (.ireturn, 1) := by decide +kernel
theorem d_L_leftOut_19 : decode b_L_leftOut 19 = .ok (.iconst 0, 1) := by decide +kernel
theorem d_L_leftOut_20 : decode b_L_leftOut 20 = .ok (.ireturn, 1) := by decide +kernel
theorem d_L_distance_0 : decode b_L_distance 0 = .ok (.aload 5, 2) := by decide +kernel
theorem d_L_distance_2 : decode b_L_distance 2 = .ok (.iconst 0, 1) := by decide +kernel
theorem d_L_distance_3 : decode b_L_distance 3 = .ok (.aload_n 0, 1) := by decide +kernel
theorem d_L_distance_4 : decode b_L_distance 4 = .ok (.iload_n 1, 1) := by decide +kernel
theorem d_L_distance_5 : decode b_L_distance 5 = .ok (.iload_n 2, 1) := by decide +kernel
theorem d_L_distance_6 : decode b_L_distance 6 = .ok (.iload_n 3, 1) := by decide +kernel
theorem d_L_distance_7 : decode b_L_distance 7 = .ok (.iload 4, 2) := by decide +kernel
theorem d_L_distance_9 : decode b_L_distance 9 = .ok (.invokevirtual 46, 3) := by decide +kernel
theorem d_L_distance_12 : decode b_L_distance 12 = .ok (.i2l, 1) := by decide +kernel
theorem d_L_distance_13 : decode b_L_distance 13 = .ok (.lastore, 1) := by decide +kernel
theorem d_L_distance_14 : decode b_L_distance 14 = .ok (.goto 7, 3) := by decide +kernel
theorem d_L_distance_17 : decode b_L_distance 17 = .ok (.astore 6, 2) := by decide +kernel
theorem d_L_distance_19 : decode b_L_distance 19 = .ok (.iconst 1, 1) := by decide +kernel
theorem d_L_distance_20 : decode b_L_distance 20 = .ok (.ireturn, 1) := by decide +kernel
theorem d_L_distance_21 : decode b_L_distance 21 = .ok (.iconst 0, 1) := by decide +kernel
theorem d_L_distance_22 : decode b_L_distance 22 = .ok (.ireturn, 1) := by decide +kernel
theorem d_L_date_0 : decode b_L_date 0 = .ok (.aload 4, 2) := by decide +kernel
theorem d_L_date_2 : decode b_L_date 2 = .ok (.iconst 0, 1) := by decide +kernel
theorem d_L_date_3 : decode b_L_date 3 = .ok (.aload_n 0, 1) := by decide +kernel
theorem d_L_date_4 : decode b_L_date 4 = .ok (.iload_n 1, 1) := by decide +kernel
theorem d_L_date_5 : decode b_L_date 5 = .ok (.iload_n 2, 1) := by decide +kernel
theorem d_L_date_6 : decode b_L_date 6 = .ok (.iload_n 3, 1) := by decide +kernel
theorem d_L_date_7 : decode b_L_date 7 = .ok (.invokevirtual 50, 3) := by decide +kernel
theorem d_L_date_10 : decode b_L_date 10 = .ok (.i2l, 1) := by decide +kernel
theorem d_L_date_11 : decode b_L_date 11 = .ok (.lastore, 1) := by decide +kernel
theorem d_L_date_12 : decode b_L_date 12 = .ok (.goto 11, 3) := by decide +kernel
theorem d_L_date_15 : decode b_L_date 15 = .ok (.astore 5, 2) := by decide +kernel
theorem d_L_date_17 : decode b_L_date 17 = .ok (.iconst 1, 1) := by decide +kernel
theorem d_L_date_18 : decode b_L_date 18 = .ok (.ireturn, 1) := by decide +kernel
theorem d_L_date_19 : decode b_L_date 19 = .ok (.astore 5, 2) := by decide +kernel
theorem d_L_date_21 : decode b_L_date 21 = .ok (.iconst 2, 1) := by decide +kernel
theorem d_L_date_22 : decode b_L_date 22 = .ok (.ireturn, 1) := by decide +kernel
theorem d_L_date_23 : decode b_L_date 23 = .ok (.iconst 0, 1) := by decide +kernel
theorem d_L_date_24 : decode b_L_date 24 = .ok (.ireturn, 1) := by decide +kernel
theorem d_L_agrees_0 : decode b_L_agrees 0 = .ok (.aload 4, 2) := by decide +kernel
theorem d_L_agrees_2 : decode b_L_agrees 2 = .ok (.iconst 0, 1) := by decide +kernel
theorem d_L_agrees_3 : decode b_L_agrees 3 = .ok (.aload_n 0, 1) := by decide +kernel
theorem d_L_agrees_4 : decode b_L_agrees 4 = .ok (.iload_n 1, 1) := by decide +kernel
theorem d_L_agrees_5 : decode b_L_agrees 5 = .ok (.iload_n 2, 1) := by decide +kernel
theorem d_L_agrees_6 : decode b_L_agrees 6 = .ok (.iload_n 3, 1) := by decide +kernel
theorem d_L_agrees_7 : decode b_L_agrees 7 = .ok (.invokevirtual 53, 3) := by decide +kernel
theorem d_L_agrees_10 : decode b_L_agrees 10 = .ok (.ifCond .eq 7, 3) := by decide +kernel
theorem d_L_agrees_13 : decode b_L_agrees 13 = .ok (.lconst 1, 1) := by decide +kernel
theorem d_L_agrees_14 : decode b_L_agrees 14 = .ok (.goto 4, 3) := by decide +kernel
theorem d_L_agrees_17 : decode b_L_agrees 17 = .ok (.lconst 0, 1) := by decide +kernel
theorem d_L_agrees_18 : decode b_L_agrees 18 = .ok (.lastore, 1) := by decide +kernel
theorem d_L_agrees_19 : decode b_L_agrees 19 = .ok (.goto 11, 3) := by decide +kernel
theorem d_L_agrees_22 : decode b_L_agrees 22 = .ok (.astore 5, 2) := by decide +kernel
theorem d_L_agrees_24 : decode b_L_agrees 24 = .ok (.iconst 1, 1) := by decide +kernel
theorem d_L_agrees_25 : decode b_L_agrees 25 = .ok (.ireturn, 1) := by decide +kernel
theorem d_L_agrees_26 : decode b_L_agrees 26 = .ok (.astore 5, 2) := by decide +kernel
theorem d_L_agrees_28 : decode b_L_agrees 28 = .ok (.iconst 2, 1) := by decide +kernel
theorem d_L_agrees_29 : decode b_L_agrees 29 = .ok (.ireturn, 1) := by decide +kernel
theorem d_L_agrees_30 : decode b_L_agrees 30 = .ok (.iconst 0, 1) := by decide +kernel
theorem d_L_agrees_31 : decode b_L_agrees 31 = .ok (.ireturn, 1) := by decide +kernel
theorem d_L_source_0 : decode b_L_source 0 = .ok (.aload 4, 2) := by decide +kernel
theorem d_L_source_2 : decode b_L_source 2 = .ok (.iconst 0, 1) := by decide +kernel
theorem d_L_source_3 : decode b_L_source 3 = .ok (.aload_n 0, 1) := by decide +kernel
theorem d_L_source_4 : decode b_L_source 4 = .ok (.iload_n 1, 1) := by decide +kernel
theorem d_L_source_5 : decode b_L_source 5 = .ok (.iload_n 2, 1) := by decide +kernel
theorem d_L_source_6 : decode b_L_source 6 = .ok (.iload_n 3, 1) := by decide +kernel
theorem d_L_source_7 : decode b_L_source 7 = .ok (.invokevirtual 57, 3) := by decide +kernel
theorem d_L_source_10 : decode b_L_source 10 = .ok (.i2l, 1) := by decide +kernel
theorem d_L_source_11 : decode b_L_source 11 = .ok (.lastore, 1) := by decide +kernel
theorem d_L_source_12 : decode b_L_source 12 = .ok (.goto 11, 3) := by decide +kernel
theorem d_L_source_15 : decode b_L_source 15 = .ok (.astore 5, 2) := by decide +kernel
theorem d_L_source_17 : decode b_L_source 17 = .ok (.iconst 1, 1) := by decide +kernel
theorem d_L_source_18 : decode b_L_source 18 = .ok (.ireturn, 1) := by decide +kernel
theorem d_L_source_19 : decode b_L_source 19 = .ok (.astore 5, 2) := by decide +kernel
theorem d_L_source_21 : decode b_L_source 21 = .ok (.iconst 2, 1) := by decide +kernel
theorem d_L_source_22 : decode b_L_source 22 = .ok (.ireturn, 1) := by decide +kernel
theorem d_L_source_23 : decode b_L_source 23 = .ok (.iconst 0, 1) := by decide +kernel
theorem d_L_source_24 : decode b_L_source 24 = .ok (.ireturn, 1) := by decide +kernel
theorem d_L_sapwood_0 : decode b_L_sapwood 0 = .ok (.aload_n 3, 1) := by decide +kernel
theorem d_L_sapwood_1 : decode b_L_sapwood 1 = .ok (.iconst 0, 1) := by decide +kernel
theorem d_L_sapwood_2 : decode b_L_sapwood 2 = .ok (.aload_n 0, 1) := by decide +kernel
theorem d_L_sapwood_3 : decode b_L_sapwood 3 = .ok (.iload_n 1, 1) := by decide +kernel
theorem d_L_sapwood_4 : decode b_L_sapwood 4 = .ok (.iload_n 2, 1) := by decide +kernel
theorem d_L_sapwood_5 : decode b_L_sapwood 5 = .ok (.invokevirtual 60, 3) := by decide +kernel
theorem d_L_sapwood_8 : decode b_L_sapwood 8 = .ok (.i2l, 1) := by decide +kernel
theorem d_L_sapwood_9 : decode b_L_sapwood 9 = .ok (.lastore, 1) := by decide +kernel
theorem d_L_sapwood_10 : decode b_L_sapwood 10 = .ok (.goto 7, 3) := by decide +kernel
theorem d_L_sapwood_13 : decode b_L_sapwood 13 = .ok (.astore 4, 2) := by decide +kernel
theorem d_L_sapwood_15 : decode b_L_sapwood 15 = .ok (.iconst 1, 1) := by decide +kernel
theorem d_L_sapwood_16 : decode b_L_sapwood 16 = .ok (.ireturn, 1) := by decide +kernel
theorem d_L_sapwood_17 : decode b_L_sapwood 17 = .ok (.iconst 0, 1) := by decide +kernel
theorem d_L_sapwood_18 : decode b_L_sapwood 18 = .ok (.ireturn, 1) := by decide +kernel
theorem d_L_felling_0 : decode b_L_felling 0 = .ok (.aload 5, 2) := by decide +kernel
theorem d_L_felling_2 : decode b_L_felling 2 = .ok (.iconst 0, 1) := by decide +kernel
theorem d_L_felling_3 : decode b_L_felling 3 = .ok (.aload_n 0, 1) := by decide +kernel
theorem d_L_felling_4 : decode b_L_felling 4 = .ok (.iload_n 1, 1) := by decide +kernel
theorem d_L_felling_5 : decode b_L_felling 5 = .ok (.iload_n 2, 1) := by decide +kernel
theorem d_L_felling_6 : decode b_L_felling 6 = .ok (.iload_n 3, 1) := by decide +kernel
theorem d_L_felling_7 : decode b_L_felling 7 = .ok (.iload 4, 2) := by decide +kernel
theorem d_L_felling_9 : decode b_L_felling 9 = .ok (.invokevirtual 63, 3) := by decide +kernel
theorem d_L_felling_12 : decode b_L_felling 12 = .ok (.i2l, 1) := by decide +kernel
theorem d_L_felling_13 : decode b_L_felling 13 = .ok (.lastore, 1) := by decide +kernel
theorem d_L_felling_14 : decode b_L_felling 14 = .ok (.goto 15, 3) := by decide +kernel
theorem d_L_felling_17 : decode b_L_felling 17 = .ok (.astore 6, 2) := by decide +kernel
theorem d_L_felling_19 : decode b_L_felling 19 = .ok (.iconst 1, 1) := by decide +kernel
theorem d_L_felling_20 : decode b_L_felling 20 = .ok (.ireturn, 1) := by decide +kernel
theorem d_L_felling_21 : decode b_L_felling 21 = .ok (.astore 6, 2) := by decide +kernel
theorem d_L_felling_23 : decode b_L_felling 23 = .ok (.iconst 2, 1) := by decide +kernel
theorem d_L_felling_24 : decode b_L_felling 24 = .ok (.ireturn, 1) := by decide +kernel
theorem d_L_felling_25 : decode b_L_felling 25 = .ok (.astore 6, 2) := by decide +kernel
theorem d_L_felling_27 : decode b_L_felling 27 = .ok (.iconst 3, 1) := by decide +kernel
theorem d_L_felling_28 : decode b_L_felling 28 = .ok (.ireturn, 1) := by decide +kernel
theorem d_L_felling_29 : decode b_L_felling 29 = .ok (.iconst 0, 1) := by decide +kernel
theorem d_L_felling_30 : decode b_L_felling 30 = .ok (.ireturn, 1) := by decide +kernel
theorem d_L_sameTree_0 : decode b_L_sameTree 0 = .ok (.aload_n 3, 1) := by decide +kernel
theorem d_L_sameTree_1 : decode b_L_sameTree 1 = .ok (.iconst 0, 1) := by decide +kernel
theorem d_L_sameTree_2 : decode b_L_sameTree 2 = .ok (.aload_n 0, 1) := by decide +kernel
theorem d_L_sameTree_3 : decode b_L_sameTree 3 = .ok (.iload_n 1, 1) := by decide +kernel
theorem d_L_sameTree_4 : decode b_L_sameTree 4 = .ok (.iload_n 2, 1) := by decide +kernel
theorem d_L_sameTree_5 : decode b_L_sameTree 5 = .ok (.invokevirtual 66, 3) := by decide +kernel
theorem d_L_sameTree_8 : decode b_L_sameTree 8 = .ok (.ifCond .eq 7, 3) := by decide +kernel
theorem d_L_sameTree_11 : decode b_L_sameTree 11 = .ok (.lconst 1, 1) := by decide +kernel
theorem d_L_sameTree_12 : decode b_L_sameTree 12 = .ok (.goto 4, 3) := by decide +kernel
theorem d_L_sameTree_15 : decode b_L_sameTree 15 = .ok (.lconst 0, 1) := by decide +kernel
theorem d_L_sameTree_16 : decode b_L_sameTree 16 = .ok (.lastore, 1) := by decide +kernel
theorem d_L_sameTree_17 : decode b_L_sameTree 17 = .ok (.goto 7, 3) := by decide +kernel
theorem d_L_sameTree_20 : decode b_L_sameTree 20 = .ok (.astore 4, 2) := by decide +kernel
theorem d_L_sameTree_22 : decode b_L_sameTree 22 = .ok (.iconst 1, 1) := by decide +kernel
theorem d_L_sameTree_23 : decode b_L_sameTree 23 = .ok (.ireturn, 1) := by decide +kernel
theorem d_L_sameTree_24 : decode b_L_sameTree 24 = .ok (.iconst 0, 1) := by decide +kernel
theorem d_L_sameTree_25 : decode b_L_sameTree 25 = .ok (.ireturn, 1) := by decide +kernel
theorem d_L_count_0 : decode b_L_count 0 = .ok (.aload_n 2, 1) := by decide +kernel
theorem d_L_count_1 : decode b_L_count 1 = .ok (.iconst 0, 1) := by decide +kernel
theorem d_L_count_2 : decode b_L_count 2 = .ok (.aload_n 0, 1) := by decide +kernel
theorem d_L_count_3 : decode b_L_count 3 = .ok (.iload_n 1, 1) := by decide +kernel
theorem d_L_count_4 : decode b_L_count 4 = .ok (.invokevirtual 70, 3) := by decide +kernel
theorem d_L_count_7 : decode b_L_count 7 = .ok (.i2l, 1) := by decide +kernel
theorem d_L_count_8 : decode b_L_count 8 = .ok (.lastore, 1) := by decide +kernel
theorem d_L_count_9 : decode b_L_count 9 = .ok (.goto 6, 3) := by decide +kernel
theorem d_L_count_12 : decode b_L_count 12 = .ok (.astore_n 3, 1) := by decide +kernel
theorem d_L_count_13 : decode b_L_count 13 = .ok (.iconst 1, 1) := by decide +kernel
theorem d_L_count_14 : decode b_L_count 14 = .ok (.ireturn, 1) := by decide +kernel
theorem d_L_count_15 : decode b_L_count 15 = .ok (.iconst 0, 1) := by decide +kernel
theorem d_L_count_16 : decode b_L_count 16 = .ok (.ireturn, 1) := by decide +kernel
end
section
theorem d_Row_init_0 : decode b_Row_init 0 = .ok (.aload_n 0, 1) := by decide +kernel
theorem d_Row_init_1 : decode b_Row_init 1 = .ok (.invokespecial 3, 3) := by decide +kernel
theorem d_Row_init_4 : decode b_Row_init 4 = .ok (.aload_n 0, 1) := by decide +kernel
theorem d_Row_init_5 : decode b_Row_init 5 = .ok (.aload_n 1, 1) := by decide +kernel
theorem d_Row_init_6 : decode b_Row_init 6 = .ok (.putfield 9, 3) := by decide +kernel
theorem d_Row_init_9 : decode b_Row_init 9 = .ok (.aload_n 0, 1) := by decide +kernel
theorem d_Row_init_10 : decode b_Row_init 10 = .ok (.iconst (-1), 1) := by decide +kernel
theorem d_Row_init_11 : decode b_Row_init 11 = .ok (.putfield 15, 3) := by decide +kernel
theorem d_Row_init_14 : decode b_Row_init 14 = .ok (.return_, 1) := by decide +kernel
theorem d_Row_lastYear_0 : decode b_Row_lastYear 0 = .ok (.aload_n 0, 1) := by decide +kernel
theorem d_Row_lastYear_1 : decode b_Row_lastYear 1 = .ok (.getfield 15, 3) := by decide +kernel
theorem d_Row_lastYear_4 : decode b_Row_lastYear 4 = .ok (.aload_n 0, 1) := by decide +kernel
theorem d_Row_lastYear_5 : decode b_Row_lastYear 5 = .ok (.getfield 9, 3) := by decide +kernel
theorem d_Row_lastYear_8 : decode b_Row_lastYear 8 = .ok (.arraylength, 1) := by decide +kernel
theorem d_Row_lastYear_9 : decode b_Row_lastYear 9 = .ok (.iadd, 1) := by decide +kernel
theorem d_Row_lastYear_10 : decode b_Row_lastYear 10 = .ok (.iconst 1, 1) := by decide +kernel
theorem d_Row_lastYear_11 : decode b_Row_lastYear 11 = .ok (.isub, 1) := by decide +kernel
theorem d_Row_lastYear_12 : decode b_Row_lastYear 12 = .ok (.ireturn, 1) := by decide +kernel
theorem d_Row_ringIn_0 : decode b_Row_ringIn 0 = .ok (.iload_n 1, 1) := by decide +kernel
theorem d_Row_ringIn_1 : decode b_Row_ringIn 1 = .ok (.iload_n 2, 1) := by decide +kernel
theorem d_Row_ringIn_2 : decode b_Row_ringIn 2 = .ok (.isub, 1) := by decide +kernel
theorem d_Row_ringIn_3 : decode b_Row_ringIn 3 = .ok (.istore_n 3, 1) := by decide +kernel
theorem d_Row_ringIn_4 : decode b_Row_ringIn 4 = .ok (.iload_n 3, 1) := by decide +kernel
theorem d_Row_ringIn_5 : decode b_Row_ringIn 5 = .ok (.ifCond .lt 21, 3) := by decide +kernel
theorem d_Row_ringIn_8 : decode b_Row_ringIn 8 = .ok (.iload_n 3, 1) := by decide +kernel
theorem d_Row_ringIn_9 : decode b_Row_ringIn 9 = .ok (.aload_n 0, 1) := by decide +kernel
theorem d_Row_ringIn_10 : decode b_Row_ringIn 10 = .ok (.getfield 9, 3) := by decide +kernel
theorem d_Row_ringIn_13 : decode b_Row_ringIn 13 = .ok (.arraylength, 1) := by decide +kernel
theorem d_Row_ringIn_14 : decode b_Row_ringIn 14 = .ok (.if_icmp .ge 12, 3) := by decide +kernel
theorem d_Row_ringIn_17 : decode b_Row_ringIn 17 = .ok (.aload_n 0, 1) := by decide +kernel
theorem d_Row_ringIn_18 : decode b_Row_ringIn 18 = .ok (.getfield 9, 3) := by decide +kernel
theorem d_Row_ringIn_21 : decode b_Row_ringIn 21 = .ok (.iload_n 3, 1) := by decide +kernel
theorem d_Row_ringIn_22 : decode b_Row_ringIn 22 = .ok (.iaload, 1) := by decide +kernel
theorem d_Row_ringIn_23 : decode b_Row_ringIn 23 = .ok (.goto 4, 3) := by decide +kernel
theorem d_Row_ringIn_26 : decode b_Row_ringIn 26 = .ok (.iconst (-1), 1) := by decide +kernel
theorem d_Row_ringIn_27 : decode b_Row_ringIn 27 = .ok (.ireturn, 1) := by decide +kernel
end
section
theorem d_JA_fill_0 : decode b_JA_fill 0 = .ok (.iconst 0, 1) := by decide +kernel
theorem d_JA_fill_1 : decode b_JA_fill 1 = .ok (.istore_n 2, 1) := by decide +kernel
theorem d_JA_fill_2 : decode b_JA_fill 2 = .ok (.aload_n 0, 1) := by decide +kernel
theorem d_JA_fill_3 : decode b_JA_fill 3 = .ok (.arraylength, 1) := by decide +kernel
theorem d_JA_fill_4 : decode b_JA_fill 4 = .ok (.istore_n 3, 1) := by decide +kernel
theorem d_JA_fill_5 : decode b_JA_fill 5 = .ok (.iload_n 2, 1) := by decide +kernel
theorem d_JA_fill_6 : decode b_JA_fill 6 = .ok (.iload_n 3, 1) := by decide +kernel
theorem d_JA_fill_7 : decode b_JA_fill 7 = .ok (.if_icmp .ge 13, 3) := by decide +kernel
theorem d_JA_fill_10 : decode b_JA_fill 10 = .ok (.aload_n 0, 1) := by decide +kernel
theorem d_JA_fill_11 : decode b_JA_fill 11 = .ok (.iload_n 2, 1) := by decide +kernel
theorem d_JA_fill_12 : decode b_JA_fill 12 = .ok (.iload_n 1, 1) := by decide +kernel
theorem d_JA_fill_13 : decode b_JA_fill 13 = .ok (.iastore, 1) := by decide +kernel
theorem d_JA_fill_14 : decode b_JA_fill 14 = .ok (.iinc 2 1, 3) := by decide +kernel
theorem d_JA_fill_17 : decode b_JA_fill 17 = .ok (.goto (-12), 3) := by decide +kernel
theorem d_JA_fill_20 : decode b_JA_fill 20 = .ok (.return_, 1) := by decide +kernel
end
section
theorem d_JI_bitCount_0 : decode b_JI_bitCount 0 = .ok (.iload_n 0, 1) := by decide +kernel
theorem d_JI_bitCount_1 : decode b_JI_bitCount 1 = .ok (.iload_n 0, 1) := by decide +kernel
theorem d_JI_bitCount_2 : decode b_JI_bitCount 2 = .ok (.iconst 1, 1) := by decide +kernel
theorem d_JI_bitCount_3 : decode b_JI_bitCount 3 = .ok (.iushr, 1) := by decide +kernel
theorem d_JI_bitCount_4 : decode b_JI_bitCount 4 = .ok (.ldc_w 265, 3) := by decide +kernel
theorem d_JI_bitCount_7 : decode b_JI_bitCount 7 = .ok (.iand, 1) := by decide +kernel
theorem d_JI_bitCount_8 : decode b_JI_bitCount 8 = .ok (.isub, 1) := by decide +kernel
theorem d_JI_bitCount_9 : decode b_JI_bitCount 9 = .ok (.istore_n 0, 1) := by decide +kernel
theorem d_JI_bitCount_10 : decode b_JI_bitCount 10 = .ok (.iload_n 0, 1) := by decide +kernel
theorem d_JI_bitCount_11 : decode b_JI_bitCount 11 = .ok (.ldc_w 266, 3) := by decide +kernel
theorem d_JI_bitCount_14 : decode b_JI_bitCount 14 = .ok (.iand, 1) := by decide +kernel
theorem d_JI_bitCount_15 : decode b_JI_bitCount 15 = .ok (.iload_n 0, 1) := by decide +kernel
theorem d_JI_bitCount_16 : decode b_JI_bitCount 16 = .ok (.iconst 2, 1) := by decide +kernel
theorem d_JI_bitCount_17 : decode b_JI_bitCount 17 = .ok (.iushr, 1) := by decide +kernel
theorem d_JI_bitCount_18 : decode b_JI_bitCount 18 = .ok (.ldc_w 266, 3) := by decide +kernel
theorem d_JI_bitCount_21 : decode b_JI_bitCount 21 = .ok (.iand, 1) := by decide +kernel
theorem d_JI_bitCount_22 : decode b_JI_bitCount 22 = .ok (.iadd, 1) := by decide +kernel
theorem d_JI_bitCount_23 : decode b_JI_bitCount 23 = .ok (.istore_n 0, 1) := by decide +kernel
theorem d_JI_bitCount_24 : decode b_JI_bitCount 24 = .ok (.iload_n 0, 1) := by decide +kernel
theorem d_JI_bitCount_25 : decode b_JI_bitCount 25 = .ok (.iload_n 0, 1) := by decide +kernel
theorem d_JI_bitCount_26 : decode b_JI_bitCount 26 = .ok (.iconst 4, 1) := by decide +kernel
theorem d_JI_bitCount_27 : decode b_JI_bitCount 27 = .ok (.iushr, 1) := by decide +kernel
theorem d_JI_bitCount_28 : decode b_JI_bitCount 28 = .ok (.iadd, 1) := by decide +kernel
theorem d_JI_bitCount_29 : decode b_JI_bitCount 29 = .ok (.ldc_w 267, 3) := by decide +kernel
theorem d_JI_bitCount_32 : decode b_JI_bitCount 32 = .ok (.iand, 1) := by decide +kernel
theorem d_JI_bitCount_33 : decode b_JI_bitCount 33 = .ok (.istore_n 0, 1) := by decide +kernel
theorem d_JI_bitCount_34 : decode b_JI_bitCount 34 = .ok (.iload_n 0, 1) := by decide +kernel
theorem d_JI_bitCount_35 : decode b_JI_bitCount 35 = .ok (.iload_n 0, 1) := by decide +kernel
theorem d_JI_bitCount_36 : decode b_JI_bitCount 36 = .ok (.bipush 8, 2) := by decide +kernel
theorem d_JI_bitCount_38 : decode b_JI_bitCount 38 = .ok (.iushr, 1) := by decide +kernel
theorem d_JI_bitCount_39 : decode b_JI_bitCount 39 = .ok (.iadd, 1) := by decide +kernel
theorem d_JI_bitCount_40 : decode b_JI_bitCount 40 = .ok (.istore_n 0, 1) := by decide +kernel
theorem d_JI_bitCount_41 : decode b_JI_bitCount 41 = .ok (.iload_n 0, 1) := by decide +kernel
theorem d_JI_bitCount_42 : decode b_JI_bitCount 42 = .ok (.iload_n 0, 1) := by decide +kernel
theorem d_JI_bitCount_43 : decode b_JI_bitCount 43 = .ok (.bipush 16, 2) := by decide +kernel
theorem d_JI_bitCount_45 : decode b_JI_bitCount 45 = .ok (.iushr, 1) := by decide +kernel
theorem d_JI_bitCount_46 : decode b_JI_bitCount 46 = .ok (.iadd, 1) := by decide +kernel
theorem d_JI_bitCount_47 : decode b_JI_bitCount 47 = .ok (.istore_n 0, 1) := by decide +kernel
theorem d_JI_bitCount_48 : decode b_JI_bitCount 48 = .ok (.iload_n 0, 1) := by decide +kernel
theorem d_JI_bitCount_49 : decode b_JI_bitCount 49 = .ok (.bipush 63, 2) := by decide +kernel
theorem d_JI_bitCount_51 : decode b_JI_bitCount 51 = .ok (.iand, 1) := by decide +kernel
theorem d_JI_bitCount_52 : decode b_JI_bitCount 52 = .ok (.ireturn, 1) := by decide +kernel
end
section
theorem d_Men_init_0 : decode b_Men_init 0 = .ok (.aload_n 0, 1) := by decide +kernel
theorem d_Men_init_1 : decode b_Men_init 1 = .ok (.invokespecial 1, 3) := by decide +kernel
theorem d_Men_init_4 : decode b_Men_init 4 = .ok (.aload_n 0, 1) := by decide +kernel
theorem d_Men_init_5 : decode b_Men_init 5 = .ok (.aload_n 1, 1) := by decide +kernel
theorem d_Men_init_6 : decode b_Men_init 6 = .ok (.putfield 7, 3) := by decide +kernel
theorem d_Men_init_9 : decode b_Men_init 9 = .ok (.aload_n 0, 1) := by decide +kernel
theorem d_Men_init_10 : decode b_Men_init 10 = .ok (.iload_n 2, 1) := by decide +kernel
theorem d_Men_init_11 : decode b_Men_init 11 = .ok (.putfield 13, 3) := by decide +kernel
theorem d_Men_init_14 : decode b_Men_init 14 = .ok (.aload_n 0, 1) := by decide +kernel
theorem d_Men_init_15 : decode b_Men_init 15 = .ok (.iload_n 3, 1) := by decide +kernel
theorem d_Men_init_16 : decode b_Men_init 16 = .ok (.putfield 17, 3) := by decide +kernel
theorem d_Men_init_19 : decode b_Men_init 19 = .ok (.aload_n 0, 1) := by decide +kernel
theorem d_Men_init_20 : decode b_Men_init 20 = .ok (.iload 4, 2) := by decide +kernel
theorem d_Men_init_22 : decode b_Men_init 22 = .ok (.putfield 20, 3) := by decide +kernel
theorem d_Men_init_25 : decode b_Men_init 25 = .ok (.iconst 0, 1) := by decide +kernel
theorem d_Men_init_26 : decode b_Men_init 26 = .ok (.iload_n 3, 1) := by decide +kernel
theorem d_Men_init_27 : decode b_Men_init 27 = .ok (.iload_n 2, 1) := by decide +kernel
theorem d_Men_init_28 : decode b_Men_init 28 = .ok (.isub, 1) := by decide +kernel
theorem d_Men_init_29 : decode b_Men_init 29 = .ok (.iconst 1, 1) := by decide +kernel
theorem d_Men_init_30 : decode b_Men_init 30 = .ok (.iadd, 1) := by decide +kernel
theorem d_Men_init_31 : decode b_Men_init 31 = .ok (.invokestatic 23, 3) := by decide +kernel
theorem d_Men_init_34 : decode b_Men_init 34 = .ok (.istore 5, 2) := by decide +kernel
theorem d_Men_init_36 : decode b_Men_init 36 = .ok (.aload_n 0, 1) := by decide +kernel
theorem d_Men_init_37 : decode b_Men_init 37 = .ok (.iload 5, 2) := by decide +kernel
theorem d_Men_init_39 : decode b_Men_init 39 = .ok (.newarray .int, 2) := by decide +kernel
theorem d_Men_init_41 : decode b_Men_init 41 = .ok (.putfield 29, 3) := by decide +kernel
theorem d_Men_init_44 : decode b_Men_init 44 = .ok (.aload_n 0, 1) := by decide +kernel
theorem d_Men_init_45 : decode b_Men_init 45 = .ok (.iload 5, 2) := by decide +kernel
theorem d_Men_init_47 : decode b_Men_init 47 = .ok (.newarray .int, 2) := by decide +kernel
theorem d_Men_init_49 : decode b_Men_init 49 = .ok (.putfield 32, 3) := by decide +kernel
theorem d_Men_init_52 : decode b_Men_init 52 = .ok (.return_, 1) := by decide +kernel
end
section
section XW
abbrev xM : Type := Nat → Option (Nat × va_E)
def xw (D : va_G) (cl : List vw_C) (Hz : Heap) (M : xM) (H : Heap) : Prop := (Hz.size ≤ H.size ∧ ∀ q : Nat, q < Hz.size → H[q]? = Hz[q]?) ∧ ∀ (a r : Nat) (e : va_E), M a = some (r, e) → Hz.size ≤ a ∧ va_at D cl (a, e) H
abbrev xA (Hz : Heap) : Nat → Prop := fun q => Hz.size ≤ q
theorem xw.P {D : va_G} {cl : List vw_C} {Hz : Heap} {M : xM} {H : Heap} (h : xw D cl Hz M H) {a r : Nat} {e : va_E} (ha : M a = some (r, e)) : va_P D cl [(a, e)] H := by
  intro k q hk
  have hz : k < 1 := (List.getElem?_eq_some_iff.mp hk).1
  rw [show k = 0 by omega] at hk
  cases hk
  exact (h.2 a r e ha).2
theorem xw.lt {D : va_G} {cl : List vw_C} {Hz : Heap} {M : xM} {H : Heap} (h : xw D cl Hz M H) {a r : Nat} {e : va_E} (ha : M a = some (r, e)) : a < H.size := va_at.lt (h.2 a r e ha).2
theorem xw.old {D : va_G} {cl : List vw_C} {Hz : Heap} {M : xM} {H : Heap} (h : xw D cl Hz M H) {a r : Nat} {e : va_E} (ha : M a = some (r, e)) : Hz.size ≤ a := (h.2 a r e ha).1
theorem xw.fresh {D : va_G} {cl : List vw_C} {Hz : Heap} {M : xM} {H : Heap} (h : xw D cl Hz M H) : M H.size = none := by
  cases hM : M H.size with
  | none => rfl
  | some x =>
    obtain ⟨r, e⟩ := x
    exact absurd (h.lt hM) (Nat.lt_irrefl _)
theorem xw.set {D : va_G} {cl : List vw_C} {Hz : Heap} {M : xM} {H H1 : Heap} (h : xw D cl Hz M H) {a r r' : Nat} {e e0 : va_E} (ha : M a = some (r', e0)) (hz : H1.size = H.size) (oq : ∀ q : Nat, q ≠ a → H1[q]? = H[q]?) (he : va_at D cl (a, e) H1) : xw D cl Hz (va_up M a (some (r, e))) H1 := by
  refine ⟨⟨by rw [hz]; exact h.1.1, fun q hq => (oq q fun z => by have := h.old ha; omega).trans (h.1.2 q hq)⟩, fun b r2 e2 hb => ?_⟩
  by_cases hab : b = a
  · subst hab
    rw [va_up_self] at hb
    cases hb
    exact ⟨h.old ha, he⟩
  · rw [va_up_ne _ _ hab] at hb
    exact ⟨h.old hb, (h.2 b r2 e2 hb).2.kept (oq b hab)⟩
theorem xw.push {D : va_G} {cl : List vw_C} {Hz : Heap} {M : xM} {H H1 : Heap} (h : xw D cl Hz M H) (r : Nat) {e : va_E} (hz : H1.size = H.size + 1) (oq : ∀ q : Nat, q < H.size → H1[q]? = H[q]?) (he : va_at D cl (H.size, e) H1) : xw D cl Hz (va_up M H.size (some (r, e))) H1 := by
  refine ⟨⟨Nat.le_trans h.1.1 (by omega), fun q hq => (oq q (Nat.lt_of_lt_of_le hq h.1.1)).trans (h.1.2 q hq)⟩, fun b r2 e2 hb => ?_⟩
  by_cases hab : b = H.size
  · subst hab
    rw [va_up_self] at hb
    cases hb
    exact ⟨h.1.1, he⟩
  · rw [va_up_ne _ _ hab] at hb
    exact ⟨h.old hb, (h.2 b r2 e2 hb).2.kept (oq b (h.lt hb))⟩
theorem xw_ne {M : xM} {a b r r' : Nat} {e e' : va_E} (ha : M a = some (r, e)) (hb : M b = some (r', e')) (h : r ≠ r') : a ≠ b := by
  intro z
  subst z
  rw [ha] at hb
  cases hb
  exact h rfl
theorem xw_up {M : xM} {a b r r' : Nat} {e e' : va_E} {x : Option (Nat × va_E)} (hb : M b = some (r', e')) (ha : M a = some (r, e)) (h : r' ≠ r) : va_up M a x b = some (r', e') := (va_up_ne _ _ (xw_ne hb ha h)).trans hb
theorem xw_upn {M : xM} {a b r' : Nat} {e' : va_E} {x : Option (Nat × va_E)} (hb : M b = some (r', e')) (ha : M a = none) : va_up M a x b = some (r', e') := by
  refine (va_up_ne _ _ fun z => ?_).trans hb
  subst z
  rw [ha] at hb
  cases hb
theorem xw_at {M : xM} {a : Nat} {x : Option (Nat × va_E)} : va_up M a x a = x := va_up_self _ _ _
variable {p : Program} {l : Launch} {e : Env} {R : Room} {s : State} {m : MethodId} {args : Array Value} {below : List Frame} {meth : Method} {c : Code} {H : Heap} {locs : List Loc} {cells slots : Nat} {Q : State → Prop}
variable {cc : ByteArray} {pc : Nat} {ls : Array Slot} {rest : List Value} {D : va_G} {cl : List vw_C} {Hz : Heap} {a : Nat} {tys : List (ClassId × FieldType)} {M : xM} {H0 : Heap} {ro : Nat}
theorem x_get (hexec : p.tables.exec = Jvm.exec) (hb : c.code = cc) {own ref C : String} {T : u_T} {N ci index : Nat} {Ts : List Cond} (hts : ∀ w ∈ Ts, w.before args s = true) (hin : ∀ w ∈ u_ws C T N, w ∈ Ts) (hown : s.vm.findClass own = some m.cls) (hK : va_K D cl tys s) (hM : xw D cl Hz M H) {fs : List Value} (he : M a = some (ro, .inr (ci, fs))) (hc : cl[ci]? = some (C, T, N)) (k : Nat) (hk : k < N) (hlink : (Cond.fieldLink own index ref (T k).2.1 (T k).2.2.1).before args s = true) (hsame : ref = (T k).1) {v : Value} (hv : fs[k]? = some v) (hdg : decode cc pc = .ok (.getfield index, 3))
    (kk : W p l e R s m args below meth c H locs cells slots Q (F0 m (pc + 3) ls (v :: rest))) : W p l e R s m args below meth c H locs cells slots Q (F0 m pc ls (.ref a :: rest)) :=
  va_get hexec hb hts hin hown hK (hM.P he) 0 rfl hc k hk hlink (fun x h => by rw [hsame]; exact h) hv hdg kk
theorem x_getN (hexec : p.tables.exec = Jvm.exec) (hb : c.code = cc) {own ref C host : String} {T : u_T} {N ci index : Nat} {Ts : List Cond} (hts : ∀ w ∈ Ts, w.before args s = true) (hin : ∀ w ∈ u_ws C T N, w ∈ Ts) (hown : s.vm.findClass own = some m.cls) (hK : va_K D cl tys s) (hM : xw D cl Hz M H) {fs : List Value} (he : M a = some (ro, .inr (ci, fs))) (hc : cl[ci]? = some (C, T, N)) (k : Nat) (hk : k < N) (hlink : (Cond.fieldLinkNest own index ref (T k).2.1 (T k).2.2.1 host).before args s = true) (hsame : ref = (T k).1) {v : Value} (hv : fs[k]? = some v) (hdg : decode cc pc = .ok (.getfield index, 3))
    (kk : W p l e R s m args below meth c H locs cells slots Q (F0 m (pc + 3) ls (v :: rest))) : W p l e R s m args below meth c H locs cells slots Q (F0 m pc ls (.ref a :: rest)) :=
  va_getN hexec hb hts hin hown hK (hM.P he) 0 rfl hc k hk hlink (fun x h => by rw [hsame]; exact h) hv hdg kk
theorem x_put (hexec : p.tables.exec = Jvm.exec) (hb : c.code = cc) {own ref C : String} {T : u_T} {N ci index : Nat} {Ts : List Cond} (hts : ∀ w ∈ Ts, w.before args s = true) (hin : ∀ w ∈ u_ws C T N, w ∈ Ts) (ty0 : Nat → FieldType) (hty : ∀ k, k < N → parseFieldDescriptor (T k).2.2.1 = some (ty0 k)) (hnm : ∀ a, a < N → ∀ b, b < N → a ≠ b → (T a).2.1 ≠ (T b).2.1) (hown : s.vm.findClass own = some m.cls) (hK : va_K D cl tys s) (hM : xw D cl Hz M H) (hS0 : va_S (xA Hz) H0 H locs) {fs : List Value} (he : M a = some (ro, .inr (ci, fs))) (hc : cl[ci]? = some (C, T, N)) (k : Nat) (hk : k < N) (hlink : (Cond.fieldLink own index ref (T k).2.1 (T k).2.2.1).before args s = true) (hsame : ref = (T k).1) (hfin : (T k).2.2.2 = false) {ty : FieldType} {v : Value} (hd : parseFieldDescriptor (T k).2.2.1 = some ty) (hn : narrow ty v = v) (hfit : fits ty v = true) (hl : k < fs.length)
    (hdg : decode cc pc = .ok (.putfield index, 3)) (kk : ∀ (H1 : Heap) (locs1 : List Loc), xw D cl Hz (va_up M a (some (ro, .inr (ci, fs.set k v)))) H1 → va_S (xA Hz) H0 H1 locs1 → H1.size = H.size → W p l e R s m args below meth c H1 locs1 cells slots Q (F0 m (pc + 3) ls rest)) : W p l e R s m args below meth c H locs cells slots Q (F0 m pc ls (v :: .ref a :: rest)) := by
  have hsame : ∀ x, s.fieldFound? (T k).1 (T k).2.1 (T k).2.2.1 = some x → s.fieldFound? ref (T k).2.1 (T k).2.2.1 = some x := fun x h => by rw [hsame]; exact h
  have hap := va_apart (own := own) hts hin ty0 hty hnm hK hc
  obtain ⟨hz0, r, h1, cell, q1, q2, q3, q4⟩ := hM.2 _ _ _ he
  have hr : r = (C, T, N) := Option.some.inj (h1.symm.trans hc)
  subst hr
  obtain ⟨hS, hfc, kC, hkC, hkind⟩ := hK.1 ci _ hc
  obtain ⟨cf, kf, fi, f, hi, hsl⟩ := hS k hk
  have hlay := hts _ (hin _ (u_in_lay hk))
  unfold u_lay at hlay
  rw [if_neg (by rw [hfin]; decide)] at hlay
  have hst := (u_facts hfc hkC (u_lays hts hin hk) hi).1
  have h6 := u_store hfc hkC hkind hlay hi hd hn hfit
  refine W.putK hexec hb (f := f) ⟨hown, hlink, ⟨_, _, _, hsame _ hi⟩, hst⟩ (by rw [q2]; exact h6) q1 q3 (by rw [hsl]; exact k2_hasslot (q4 k hk)) rfl rfl hdg fun H' e1 e2 e3 => ?_
  rw [hsl] at e1 ⊢
  exact kk H' _ (hM.set he e2 e3 ⟨_, hc, t_OB.to (V := updV (vp_V fs) k v) ⟨_, e1, q2, q3, t_set q4 hap hk v⟩ (fun j _ => vp_updV_set hl v j)⟩) (hS0.put e2 e3 hz0) e2
theorem x_putN (hexec : p.tables.exec = Jvm.exec) (hb : c.code = cc) {own ref C host : String} {T : u_T} {N ci index : Nat} {Ts : List Cond} (hts : ∀ w ∈ Ts, w.before args s = true) (hin : ∀ w ∈ u_ws C T N, w ∈ Ts) (ty0 : Nat → FieldType) (hty : ∀ k, k < N → parseFieldDescriptor (T k).2.2.1 = some (ty0 k)) (hnm : ∀ a, a < N → ∀ b, b < N → a ≠ b → (T a).2.1 ≠ (T b).2.1) (hown : s.vm.findClass own = some m.cls) (hK : va_K D cl tys s) (hM : xw D cl Hz M H) (hS0 : va_S (xA Hz) H0 H locs) {fs : List Value} (he : M a = some (ro, .inr (ci, fs))) (hc : cl[ci]? = some (C, T, N)) (k : Nat) (hk : k < N) (hlink : (Cond.fieldLinkNest own index ref (T k).2.1 (T k).2.2.1 host).before args s = true) (hsame : ref = (T k).1) (hfin : (T k).2.2.2 = false) {ty : FieldType} {v : Value} (hd : parseFieldDescriptor (T k).2.2.1 = some ty) (hn : narrow ty v = v) (hfit : fits ty v = true) (hl : k < fs.length)
    (hdg : decode cc pc = .ok (.putfield index, 3)) (kk : ∀ (H1 : Heap) (locs1 : List Loc), xw D cl Hz (va_up M a (some (ro, .inr (ci, fs.set k v)))) H1 → va_S (xA Hz) H0 H1 locs1 → H1.size = H.size → W p l e R s m args below meth c H1 locs1 cells slots Q (F0 m (pc + 3) ls rest)) : W p l e R s m args below meth c H locs cells slots Q (F0 m pc ls (v :: .ref a :: rest)) := by
  have hsame : ∀ x, s.fieldFound? (T k).1 (T k).2.1 (T k).2.2.1 = some x → s.fieldFound? ref (T k).2.1 (T k).2.2.1 = some x := fun x h => by rw [hsame]; exact h
  have hap := va_apart (own := own) hts hin ty0 hty hnm hK hc
  obtain ⟨hz0, r, h1, cell, q1, q2, q3, q4⟩ := hM.2 _ _ _ he
  have hr : r = (C, T, N) := Option.some.inj (h1.symm.trans hc)
  subst hr
  obtain ⟨hS, hfc, kC, hkC, hkind⟩ := hK.1 ci _ hc
  obtain ⟨cf, kf, fi, f, hi, hsl⟩ := hS k hk
  have hlay := hts _ (hin _ (u_in_lay hk))
  unfold u_lay at hlay
  rw [if_neg (by rw [hfin]; decide)] at hlay
  have hst := (u_facts hfc hkC (u_lays hts hin hk) hi).1
  have h6 := u_store hfc hkC hkind hlay hi hd hn hfit
  refine va_WputK hexec hb (f := f) hown hlink (hsame _ hi) hst (by rw [q2]; exact h6) q1 q3 (by rw [hsl]; exact k2_hasslot (q4 k hk)) rfl rfl hdg fun H' e1 e2 e3 => ?_
  rw [hsl] at e1 ⊢
  exact kk H' _ (hM.set he e2 e3 ⟨_, hc, t_OB.to (V := updV (vp_V fs) k v) ⟨_, e1, q2, q3, t_set q4 hap hk v⟩ (fun j _ => vp_updV_set hl v j)⟩) (hS0.put e2 e3 hz0) e2
theorem x_putF (hexec : p.tables.exec = Jvm.exec) (hb : c.code = cc) {own ref C : String} {T : u_T} {N ci index : Nat} {Ts : List Cond} (hts : ∀ w ∈ Ts, w.before args s = true) (hin : ∀ w ∈ u_ws C T N, w ∈ Ts) (ty0 : Nat → FieldType) (hty : ∀ k, k < N → parseFieldDescriptor (T k).2.2.1 = some (ty0 k)) (hnm : ∀ a, a < N → ∀ b, b < N → a ≠ b → (T a).2.1 ≠ (T b).2.1) (hown : s.vm.findClass own = some m.cls) (hK : va_K D cl tys s) (hM : xw D cl Hz M H) (hS0 : va_S (xA Hz) H0 H locs) {fs : List Value} (he : M a = some (ro, .inr (ci, fs))) (hc : cl[ci]? = some (C, T, N)) (k : Nat) (hk : k < N) (hlink : (Cond.fieldLink own index ref (T k).2.1 (T k).2.2.1).before args s = true) (hsame : ref = (T k).1) (hfin : (T k).2.2.2 = true) (hin2 : meth.name = "<init>") (hdecl : (T k).1 = own) {ty : FieldType} {v : Value} (hd : parseFieldDescriptor (T k).2.2.1 = some ty) (hn : narrow ty v = v) (hfit : fits ty v = true) (hl : k < fs.length)
    (hdg : decode cc pc = .ok (.putfield index, 3)) (kk : ∀ (H1 : Heap) (locs1 : List Loc), xw D cl Hz (va_up M a (some (ro, .inr (ci, fs.set k v)))) H1 → va_S (xA Hz) H0 H1 locs1 → H1.size = H.size → W p l e R s m args below meth c H1 locs1 cells slots Q (F0 m (pc + 3) ls rest)) : W p l e R s m args below meth c H locs cells slots Q (F0 m pc ls (v :: .ref a :: rest)) := by
  have hsame : ∀ x, s.fieldFound? (T k).1 (T k).2.1 (T k).2.2.1 = some x → s.fieldFound? ref (T k).2.1 (T k).2.2.1 = some x := fun x h => by rw [hsame]; exact h
  have hap := va_apart (own := own) hts hin ty0 hty hnm hK hc
  obtain ⟨hz0, r, h1, cell, q1, q2, q3, q4⟩ := hM.2 _ _ _ he
  have hr : r = (C, T, N) := Option.some.inj (h1.symm.trans hc)
  subst hr
  obtain ⟨hS, hfc, kC, hkC, hkind⟩ := hK.1 ci _ hc
  obtain ⟨cf, kf, fi, f, hi, hsl⟩ := hS k hk
  have hlay := hts _ (hin _ (u_in_lay hk))
  unfold u_lay at hlay
  rw [if_pos hfin] at hlay
  have hst := (u_facts hfc hkC (u_lays hts hin hk) hi).1
  have hcf : m.cls = cf := by
    obtain ⟨_, _, c', _, _, _, -, -, hf', -, -, -, hown2, -⟩ := Cond.laysFinal_spec hlay
    have e1 : c' = cf := by have := hi.symm.trans hf'; simp at this; exact this.1.symm
    rw [hdecl] at hown2
    rw [← e1]; exact Option.some.inj (hown.symm.trans hown2)
  have h6 := u_fits hfc hkC hkind (Or.inr hlay) hi hd hn hfit
  refine W.putFinK hexec hb hown hlink (hsame _ hi) hst hcf hin2 (by rw [q2]; exact h6) q1 q3 (by rw [hsl]; exact k2_hasslot (q4 k hk)) rfl rfl hdg fun H' e1 e2 e3 => ?_
  rw [hsl] at e1 ⊢
  exact kk H' _ (hM.set he e2 e3 ⟨_, hc, t_OB.to (V := updV (vp_V fs) k v) ⟨_, e1, q2, q3, t_set q4 hap hk v⟩ (fun j _ => vp_updV_set hl v j)⟩) (hS0.put e2 e3 hz0) e2
theorem x_iald (hexec : p.tables.exec = Jvm.exec) (hb : c.code = cc) (hK : va_K D cl tys s) (hM : xw D cl Hz M H) {cA : ClassId} {n : Nat} {f : Nat → Int32} (ha : M a = some (ro, .inl (cA, n, .inl f))) (t0 : Nat) (ht : tys[t0]? = some (cA, .int)) {i : Int32} {j : Nat} (hi : i = nI j) (hj : j < n) (hn : n < 2 ^ 31) (hdg : decode cc pc = .ok (.iaload, 1))
    (kk : W p l e R s m args below meth c H locs cells slots Q (F0 m (pc + 1) ls (.int (f j) :: rest))) : W p l e R s m args below meth c H locs cells slots Q (F0 m pc ls (.int i :: .ref a :: rest)) := by
  subst hi
  refine va_iald hexec hb hK (hM.P ha) 0 t0 rfl ht (vp_in_nI hj hn) hdg ?_
  rw [nI_clamp (by omega)]
  exact kk
theorem x_lald (hexec : p.tables.exec = Jvm.exec) (hb : c.code = cc) (hK : va_K D cl tys s) (hM : xw D cl Hz M H) {cA : ClassId} {n : Nat} {f : Nat → Int64} (ha : M a = some (ro, .inl (cA, n, .inr (.inl f)))) (t0 : Nat) (ht : tys[t0]? = some (cA, .long)) {i : Int32} {j : Nat} (hi : i = nI j) (hj : j < n) (hn : n < 2 ^ 31) (hdg : decode cc pc = .ok (.laload, 1))
    (kk : W p l e R s m args below meth c H locs cells slots Q (F0 m (pc + 1) ls (.long (f j) :: rest))) : W p l e R s m args below meth c H locs cells slots Q (F0 m pc ls (.int i :: .ref a :: rest)) := by
  subst hi
  refine va_lald hexec hb hK (hM.P ha) 0 t0 rfl ht (vp_in_nI hj hn) hdg ?_
  rw [nI_clamp (by omega)]
  exact kk
theorem x_aldq (hexec : p.tables.exec = Jvm.exec) (hb : c.code = cc) (hK : va_K D cl tys s) (hM : xw D cl Hz M H) {cA : ClassId} {C : String} {n : Nat} {f : Nat → Option Nat} (ha : M a = some (ro, .inl (cA, n, .inr (.inr (.inr (.inr f)))))) (t0 : Nat) (ht : tys[t0]? = some (cA, .object C)) {i : Int32} {j : Nat} (hi : i = nI j) (hj : j < n) (hn : n < 2 ^ 31) {v : Value} (hv : va_rf (f j) = v) (hdg : decode cc pc = .ok (.aaload, 1))
    (kk : W p l e R s m args below meth c H locs cells slots Q (F0 m (pc + 1) ls (v :: rest))) : W p l e R s m args below meth c H locs cells slots Q (F0 m pc ls (.int i :: .ref a :: rest)) := by
  subst hi; subst hv
  refine va_aldq hexec hb hK (hM.P ha) 0 t0 rfl ht (vp_in_nI hj hn) hdg ?_
  rw [nI_clamp (by omega)]
  exact kk
theorem x_alen (hexec : p.tables.exec = Jvm.exec) (hb : c.code = cc) (hK : va_K D cl tys s) (hM : xw D cl Hz M H) {cA : ClassId} {x : vp_A} (ha : M a = some (ro, .inl (cA, x))) (t0 : Nat) {ty : FieldType} (ht : tys[t0]? = some (cA, ty)) {v : Int32} (hv : nI x.1 = v) (hdg : decode cc pc = .ok (.arraylength, 1))
    (kk : W p l e R s m args below meth c H locs cells slots Q (F0 m (pc + 1) ls (.int v :: rest))) : W p l e R s m args below meth c H locs cells slots Q (F0 m pc ls (.ref a :: rest)) :=
  va_alen hexec hb hK (hM.P ha) 0 t0 rfl ht hv hdg kk
theorem x_iast (hexec : p.tables.exec = Jvm.exec) (hb : c.code = cc) (hK : va_K D cl tys s) (hM : xw D cl Hz M H) (hS : va_S (xA Hz) H0 H locs) {cA : ClassId} {n : Nat} {f : Nat → Int32} (ha : M a = some (ro, .inl (cA, n, .inl f))) (t0 : Nat) (ht : tys[t0]? = some (cA, .int)) {i x : Int32} {j : Nat} (hi : i = nI j) (hj : j < n) (hn : n < 2 ^ 31) (hdg : decode cc pc = .ok (.iastore, 1))
    (kk : ∀ (H1 : Heap) (locs1 : List Loc), xw D cl Hz (va_up M a (some (ro, .inl (cA, n, .inl (upd f j x))))) H1 → va_S (xA Hz) H0 H1 locs1 → H1.size = H.size → W p l e R s m args below meth c H1 locs1 cells slots Q (F0 m (pc + 1) ls rest)) : W p l e R s m args below meth c H locs cells slots Q (F0 m pc ls (.int x :: .int i :: .ref a :: rest)) := by
  subst hi
  have hcl : (nI j).toNatClampNeg = j := nI_clamp (by omega)
  obtain ⟨hz0, hat⟩ := hM.2 _ _ _ ha
  refine W.iast hexec hb hat ((hK.2 t0 _ ht).1 n (fun j => .int (f j))) (fun q => by cases q) (by show ¬ (nI j < 0 ∨ (arrV _ _ _).slots.size ≤ _); rw [arrV_size]; exact vp_in_nI hj hn) rfl rfl hdg fun H1 e z oq => ?_
  refine kk H1 _ (hM.set ha z oq ?_) (hS.put z oq hz0) z
  show H1[a]? = some (vp_cell _ _)
  rw [e, hcl]
  rw [vp_cell_i, vp_cell_i, arrV_store]
  congr 2
  funext q
  by_cases hq : q = j
  · subst hq
    simp [updV, upd]
  · simp [updV, upd, hq]
theorem x_last (hexec : p.tables.exec = Jvm.exec) (hb : c.code = cc) (hK : va_K D cl tys s) (hM : xw D cl Hz M H) (hS : va_S (xA Hz) H0 H locs) {cA : ClassId} {n : Nat} {f : Nat → Int64} (ha : M a = some (ro, .inl (cA, n, .inr (.inl f)))) (t0 : Nat) (ht : tys[t0]? = some (cA, .long)) {i : Int32} {x : Int64} {j : Nat} (hi : i = nI j) (hj : j < n) (hn : n < 2 ^ 31) (hdg : decode cc pc = .ok (.lastore, 1))
    (kk : ∀ (H1 : Heap) (locs1 : List Loc), xw D cl Hz (va_up M a (some (ro, .inl (cA, n, .inr (.inl (vp_updL f j x)))))) H1 → va_S (xA Hz) H0 H1 locs1 → H1.size = H.size → W p l e R s m args below meth c H1 locs1 cells slots Q (F0 m (pc + 1) ls rest)) : W p l e R s m args below meth c H locs cells slots Q (F0 m pc ls (.long x :: .int i :: .ref a :: rest)) := by
  subst hi
  have hcl : (nI j).toNatClampNeg = j := nI_clamp (by omega)
  obtain ⟨hz0, hat⟩ := hM.2 _ _ _ ha
  refine W.last hexec hb hat ((hK.2 t0 _ ht).1 n (fun j => .long (f j))) (fun q => by cases q) (by show ¬ (nI j < 0 ∨ (arrV _ _ _).slots.size ≤ _); rw [arrV_size]; exact vp_in_nI hj hn) rfl rfl hdg fun H1 e z oq => ?_
  refine kk H1 _ (hM.set ha z oq ?_) (hS.put z oq hz0) z
  show H1[a]? = some (vp_cell _ _)
  rw [e, hcl]
  rw [vp_cell_l, vp_cell_l, arrV_store]
  congr 2
  funext q
  by_cases hq : q = j
  · subst hq
    simp [updV, vp_updL]
  · simp [updV, vp_updL, hq]
theorem x_astq (hexec : p.tables.exec = Jvm.exec) (hb : c.code = cc) (hK : va_K D cl tys s) (hM : xw D cl Hz M H) (hS : va_S (xA Hz) H0 H locs) {cA : ClassId} {r : vw_C} {n v ci rv : Nat} {vs : List Value} {f : Nat → Option Nat} (ha : M a = some (ro, .inl (cA, n, .inr (.inr (.inr (.inr f)))))) (t0 : Nat) (ht : tys[t0]? = some (cA, .object r.1)) (hv : M v = some (rv, .inr (ci, vs))) (hc : cl[ci]? = some r) {i : Int32} {j : Nat} (hi : i = nI j) (hj : j < n) (hn : n < 2 ^ 31) (hdg : decode cc pc = .ok (.aastore, 1))
    (kk : ∀ (H1 : Heap) (locs1 : List Loc), xw D cl Hz (va_up M a (some (ro, .inl (cA, n, .inr (.inr (.inr (.inr (va_up f j (some v))))))))) H1 → va_S (xA Hz) H0 H1 locs1 → H1.size = H.size → W p l e R s m args below meth c H1 locs1 cells slots Q (F0 m (pc + 1) ls rest)) : W p l e R s m args below meth c H locs cells slots Q (F0 m pc ls (.ref v :: .int i :: .ref a :: rest)) := by
  subst hi
  have hcl2 : (nI j).toNatClampNeg = j := nI_clamp (by omega)
  have hin := vp_in_nI hj hn
  have h0 : ¬ nI j < 0 := fun q => hin (Or.inl q)
  obtain ⟨hz0, hat⟩ := hM.2 _ _ _ ha
  obtain ⟨-, r', hr', cellV, g1, g2, g3, -⟩ := hM.2 _ _ _ hv
  have hcls := (hK.1 ci r hc).2
  obtain ⟨kA, comp, k1, k2, k3, -⟩ := (hK.2 t0 _ ht).2
  have hcomp : comp = D.1 ci := Option.some.inj (k3.symm.trans hcls.1)
  subst hcomp
  obtain ⟨kC, hkC, -⟩ := hcls.2
  refine W.aast hexec hb hat (fun q h => by cases h) (fun h => by cases h) k1 k2 rfl hkC ⟨h0, by show _ < (arrV _ _ _).slots.size; rw [arrV_size, hcl2]; exact hj⟩ g1 (fun q h => by rw [g3] at h; cases h) (by rw [g2]; exact hkC) (by rw [g2]; exact va_assign hcls) rfl rfl hdg fun H1 e z oq => ?_
  refine kk H1 _ (hM.set ha z oq ?_) (hS.put z oq hz0) z
  show H1[a]? = some (vp_cell _ _)
  rw [e, hcl2]
  rw [vp_cell_q, vp_cell_q, arrV_store]
  congr 2
  funext q
  by_cases hq : q = j
  · subst hq
    simp [updV, va_up, va_rf]
  · simp [updV, va_up, hq]
theorem x_new (rn : Nat) (hexec : p.tables.exec = Jvm.exec) (hb : c.code = cc) {own C : String} {T : u_T} {N ci index : Nat} {Ts : List Cond} (hts : ∀ w ∈ Ts, w.before args s = true) (hin : ∀ w ∈ u_ws C T N, w ∈ Ts) (ty : Nat → FieldType) (hty : ∀ k, k < N → parseFieldDescriptor (T k).2.2.1 = some (ty k)) (hown : s.vm.findClass own = some m.cls) (hcl : (Cond.classLink own index C).before args s = true) (hinst : (Cond.instantiable C N).before args s = true) (hini : (Cond.initialized C).before args s = true)
    (hK : va_K D cl tys s) (hM : xw D cl Hz M H) (hS : va_S (xA Hz) H0 H locs) (hc : cl[ci]? = some (C, T, N)) {fs : List Value} (hfs : ∀ j, j < N → defaultValue (ty j) = vp_V fs j) (hcells : cells + 1 ≤ R.cells) (hslots : slots + N ≤ R.slots) (hdg : decode cc pc = .ok (.new index, 3))
    (kk : ∀ (q : Nat) (H1 : Heap), M q = none → xw D cl Hz (va_up M q (some (rn, .inr (ci, fs)))) H1 → va_S (xA Hz) H0 H1 locs →
      W p l e R s m args below meth c H1 locs (cells + 1) (slots + N) Q (F0 m (pc + 3) ls (.ref q :: rest))) : W p l e R s m args below meth c H locs cells slots Q (F0 m pc ls rest) := by
  have hKn := hK.1 ci _ hc
  refine W.newcK hexec hb hown hcl hinst hini rfl hdg hcells hslots hKn.2.1 rfl fun H1 kC hkC e1 z1 o1 => ?_
  exact kk H.size H1 hM.fresh (hM.push rn z1 o1 ⟨_, hc, (u_born ty hts hin hKn hkC e1 hty).to hfs⟩) ⟨Nat.le_trans hS.1 (by omega), fun x h1 h2 => (o1 x (Nat.lt_of_lt_of_le h1 hS.1)).trans (hS.2.1 x h1 h2), hS.2.2⟩
theorem x_newa (rn : Nat) (hexec : p.tables.exec = Jvm.exec) (hb : c.code = cc) {atype : ArrayType} (harr : (Cond.arrayClass (newarray.typeOf atype)).before args s = true) (hK : va_K D cl tys s) (hM : xw D cl Hz M H) (hS : va_S (xA Hz) H0 H locs) (t0 : Nat) {cA : ClassId} (ht : tys[t0]? = some (cA, newarray.typeOf atype))
    {n : Int32} {N' : Nat} {a0 : vp_A} (ha : vp_cell cA a0 = arrV cA N' (fun _ => defaultValue (newarray.typeOf atype))) (hn : n = nI N') (hN : N' < 2 ^ 20) (hbytes : N' * componentBytes (newarray.typeOf atype) ≤ 536870912) (hcells : cells + 1 ≤ R.cells) (hslots : slots + N' ≤ R.slots) (hdg : decode cc pc = .ok (.newarray atype, 2))
    (kk : ∀ (q : Nat) (H1 : Heap), M q = none → xw D cl Hz (va_up M q (some (rn, .inl (cA, a0)))) H1 → va_S (xA Hz) H0 H1 locs →
      W p l e R s m args below meth c H1 locs (cells + 1) (slots + N') Q (F0 m (pc + 2) ls (.ref q :: rest))) : W p l e R s m args below meth c H locs cells slots Q (F0 m pc ls (.int n :: rest)) := by
  subst hn
  refine va_newaK hexec hb harr rfl hdg rfl (nI_pos (by omega)) (nI_clamp (by omega)) hbytes hcells hslots rfl fun H1 cB e1 z1 o1 hAr hNm => ?_
  have hcA : cB = cA := by
    have h9 := (hK.2 t0 _ ht).2
    have h8 : s.vm.findClass ("[" ++ (newarray.typeOf atype).toString) = some cA := by
      revert h9
      cases atype <;> exact fun h => h
    exact Option.some.inj (hNm.symm.trans h8)
  subst hcA
  refine kk H.size H1 hM.fresh (hM.push rn z1 o1 ?_) ⟨Nat.le_trans hS.1 (by omega), fun x h1 h2 => (o1 x (Nat.lt_of_lt_of_le h1 hS.1)).trans (hS.2.1 x h1 h2), hS.2.2⟩
  show H1[H.size]? = some (vp_cell _ _)
  rw [ha]
  exact e1
theorem x_newq (rn : Nat) (hexec : p.tables.exec = Jvm.exec) (hb : c.code = cc) {own C : String} {index : Nat} (hown : s.vm.findClass own = some m.cls) (hclink : (Cond.classLink own index C).before args s = true) (hover : (Cond.arrayOver (.object C)).before args s = true) (hK : va_K D cl tys s) (hM : xw D cl Hz M H) (hS : va_S (xA Hz) H0 H locs) (t0 : Nat) {cA : ClassId} (ht : tys[t0]? = some (cA, .object C))
    {n : Int32} {N' : Nat} (hn : n = nI N') (hN : N' < 2 ^ 20) (hcells : cells + 1 ≤ R.cells) (hslots : slots + N' ≤ R.slots) (hdg : decode cc pc = .ok (.anewarray index, 3))
    (kk : ∀ (q : Nat) (H1 : Heap), M q = none → xw D cl Hz (va_up M q (some (rn, .inl (cA, N', .inr (.inr (.inr (.inr (fun _ => none)))))))) H1 → va_S (xA Hz) H0 H1 locs →
      W p l e R s m args below meth c H1 locs (cells + 1) (slots + N') Q (F0 m (pc + 3) ls (.ref q :: rest))) : W p l e R s m args below meth c H locs cells slots Q (F0 m pc ls (.int n :: rest)) := by
  subst hn
  have hN2 : (nI N').toNatClampNeg = N' := nI_clamp (by omega)
  refine W.anew hexec hb hown hclink hover rfl hdg rfl (nI_pos (by omega)) (by rw [hN2]; omega) hcells (by rw [hN2]; exact hslots) fun cB kA comp f1 f2 f3 f4 => ?_
  rw [hN2]
  have hcA : cB = cA := by
    obtain ⟨_, _, -, -, -, h8⟩ := (hK.2 t0 _ ht).2
    exact Option.some.inj (f1.symm.trans h8)
  subst hcA
  generalize hH1 : H.push ({ cls := cB, slots := Array.replicate N' .null, vm := .none } : Cell) = H1
  have z1 : H1.size = H.size + 1 := by rw [← hH1, Array.size_push]
  have e1 : H1[H.size]? = some (arrV cB N' (fun _ => .null)) := by rw [← hH1, Array.getElem?_push_size, ← arrV_new]
  have o1 : ∀ q : Nat, q < H.size → H1[q]? = H[q]? := fun q hq => by rw [← hH1, Array.getElem?_push, if_neg (Nat.ne_of_lt hq)]
  refine kk H.size H1 hM.fresh (hM.push rn z1 o1 ?_) ⟨Nat.le_trans hS.1 (by omega), fun x h1 h2 => (o1 x (Nat.lt_of_lt_of_le h1 hS.1)).trans (hS.2.1 x h1 h2), hS.2.2⟩
  show H1[H.size]? = some (vp_cell _ _)
  rw [vp_cell_q]
  exact e1
end XW
end
section
section XE
abbrev xG : Type := va_G × (ClassId × ClassId × ClassId × ClassId × ClassId) × Heap × (Nat → Nat)
abbrev gD (G : xG) : va_G := G.1
abbrev gI (G : xG) : ClassId := G.2.1.1
abbrev gJ (G : xG) : ClassId := G.2.1.2.1
abbrev gR (G : xG) : ClassId := G.2.1.2.2.1
abbrev gM (G : xG) : ClassId := G.2.1.2.2.2.1
abbrev gG (G : xG) : ClassId := G.2.1.2.2.2.2
abbrev gH (G : xG) : Heap := G.2.2.1
abbrev gS (G : xG) : Nat → Nat := G.2.2.2
def gT (G : xG) : List (ClassId × FieldType) := [(gI G, .int), (gJ G, .long), (gR G, .object R_Row), (gM G, .object R_Men), (gG G, .object R_Gap)]
abbrev xh (G : xG) (M : xM) (H : Heap) : Prop := xw (gD G) xCl (gH G) M H
abbrev xF (G : xG) : Nat → Prop := xA (gH G)
abbrev nISE : String := "java/lang/IllegalStateException"
abbrev nIAE : String := "java/lang/IllegalArgumentException"
abbrev nIOE : String := "java/lang/IndexOutOfBoundsException"
def wNf : List (Nat × String × String × String) := [(256, R_Rob, "taken", "I"), (225, R_Gap, "sum", "I"), (222, R_Gap, "years", "I"), (87, R_Row, "even", "[I"), (97, R_Row, "start", "I"), (159, R_Men, "starts", "[I"), (134, R_Men, "first", "I"), (137, R_Men, "last", "I"), (140, R_Men, "members", "I"), (145, R_Men, "values", "[I"), (152, R_Men, "depths", "[I")]
def sN : List (Nat × String) := [(64, "the pad is full"), (71, "no such width"), (74, "there are ten series"), (231, "no such series"), (92, "no such ring"), (95, "no such year"), (100, "there are eight masters"), (102, "no such set"), (182, "no such master"), (143, "no such what"), (162, "no such member"), (233, "no such least number of years"), (184, "no such place among the sources"), (193, "no such number of rings"), (195, "no such weight"), (197, "the series floats"), (199, "no such number of rings of sapwood"), (201, "no such share")]
def xDs : List MethodName := [⟨"java/lang/RuntimeException", "<init>", "(Ljava/lang/String;)V"⟩, ⟨"java/lang/Exception", "<init>", "(Ljava/lang/String;)V"⟩, ⟨"java/lang/Throwable", "<init>", "(Ljava/lang/String;)V"⟩]
def KX (G : xG) (U : State) : Prop := va_K (gD G) xCl (gT G) U ∧
  ((∀ q ∈ wNf, va_Nw (.fieldLinkNest R_Rm q.1 q.2.1 q.2.2.1 q.2.2.2 R_Rm) U) ∧ va_Nw (.methodLinkNest R_Rm 40 y_Rob_init R_Rm) U ∧ va_Nw (.methodLinkNest R_Rm 47 y_Gap_init R_Rm) U) ∧
  ((∀ E ∈ [nISE, nIAE, nIOE], va_Nw (.castable E E) U) ∧ ∀ x ∈ xDs, va_Nw (.declares x) U) ∧ (∀ C ∈ [R_Row, R_Men, R_Gap], va_AO C U) ∧
  (vx_Zq Bundle.tN "UNASSIGNED_STACK" Bundle.steD (xF G) U (gH G) ∧ vx_Zq Bundle.tN "SUPPRESSED_SENTINEL" Bundle.listD (xF G) U (gH G)) ∧
  (∀ q ∈ sN, vk_R R_Rm q.1 q.2 (gS G q.1) U) ∧
  (∀ q ∈ [(nISE, nIAE), (nISE, nIOE), (nIAE, nISE), (nIAE, nIOE), (nIOE, nISE), (nIOE, nIAE)], va_Nc q.1 q.2 U)
theorem KX.warm {G : xG} {s U : State} (hW : s.WarmedH U.vm) (h : KX G s) : KX G U := by
  obtain ⟨h1, ⟨h2, h3, h4⟩, ⟨h5, h5b⟩, h6, ⟨h7, h8⟩, h9, h10⟩ := h
  exact ⟨va_K.moved hW.alike h1, ⟨fun q hq => va_Nw.warmF hW (h2 q hq), va_Nw.warmM hW h3, va_Nw.warmM hW h4⟩, ⟨fun E hE => va_Nw.warmC hW (h5 E hE), fun x hx => va_Nw.warmD hW (h5b x hx)⟩, fun C hC => va_AO.moved hW.alike (h6 C hC), ⟨vx_Zq.moved hW.alike h7, vx_Zq.moved hW.alike h8⟩, fun q hq => vk_R.warm hW (h9 q hq), fun q hq => va_Nc.moved hW.alike (h10 q hq)⟩
theorem KX.same {G : xG} {s U : State} (hv : s.vm = U.vm) (h : KX G s) : KX G U := KX.warm (by rw [← hv]; exact State.WarmedH.refl s) h
def xP (G : xG) (av : List Value) (M : xM) : Array Value → State → Prop := va_Pc av (fun U => xh G M U.heap ∧ KX G U)
abbrev xQi (G : xG) (post : Int32 → xM → Prop) := va_Qi post (fun M' t => xh G M' t.heap) (xF G)
abbrev xQv (G : xG) (post : xM → Prop) := va_Qv post (fun M' t => xh G M' t.heap) (xF G)
abbrev xQr (G : xG) (post : Nat → xM → Prop) := va_Qr (S := xM) (fun _ => True) (fun M' a t => post a M' ∧ xh G M' t.heap) (xF G)
abbrev xX (G : xG) (px : String → xM → Prop) : String → State → State → Prop := vx_X (S := xM) (fun _ => True) (fun E M' t => px E M' ∧ xh G M' t.heap) (xF G)
theorem xP.blind {G : xG} {av : List Value} {M : xM} : FrameBlind (xP G av M) := fun a U g mk q => by
  obtain ⟨q0, q1, q2⟩ := q
  exact ⟨q0, q1, KX.same rfl q2⟩
theorem xP.S {G : xG} {As : List Value} {M : xM} {s : State} {H : Heap} (hK : KX G s) (hM : xh G M H) : PreS s H (xP G As M) As :=
  ⟨xP.blind, fun U hU hW => ⟨rfl, by rw [hU]; exact hM, hK.warm hW⟩⟩
theorem xP.V {G : xG} {As : List Value} {M : xM} {s : State} {H : Heap} (hK : KX G s) (hM : xh G M H) {b r ci : Nat} {fs : List Value} {q : vw_C} (hb : M b = some (r, .inr (ci, fs))) (hc : xCl[ci]? = some q) : PreV s H q.1 b (xP G (.ref b :: As) M) As :=
  ⟨xP.blind, va_recv hK.1 (hM.P hb) (q0 := 0) hc rfl, fun U hU hW => ⟨rfl, by rw [hU]; exact hM, hK.warm hW⟩⟩
def xE (p : Program) (s : State) (m : MethodId) (args : Array Value) (meth : Method) (c : Code) (cc : ByteArray) (ret : Option FieldType) (nL : Nat) (own : String) : Prop :=
  p.tables.exec = Jvm.exec ∧ c.code = cc ∧ meth.sig.returnType = ret ∧ c.maxLocals = nL ∧ s.vm.findClass own = some m.cls ∧ (∀ w ∈ wW, w.before args s = true) ∧ meth.locks = false
theorem x_met {l : Launch} {y : MethodName} {cc : ByteArray} {maxL : Nat} {ret : Option FieldType} {rm : Room} {G : xG} {av : List Value} {M : xM} {Qc : Array Value → State → Outcome → State → Prop} {mc ms : Nat} (hy : plainName y.cls = true) (hav : (lg_sl av).length ≤ maxL)
    (body : ∀ p e s m below meth c ls, xE p s m av.toArray meth c cc ret maxL y.cls → meth.name = y.name → lv_has ls maxL (lv_args 0 av) → xh G M s.heap → KX G s → va_S (xF G) s.heap s.heap [] → W p l e rm s m av.toArray below meth c s.heap [] 0 0 (MQ below Qc av.toArray s mc ms (xF G)) (F0 m 0 ls [])) :
    Met l y (.code y cc maxL ret :: wW) rm (xP G av M) Qc mc ms (xF G) := by
  refine Met.ofW (cc := cc) (maxL := maxL) (ret := ret) hy rfl ?_
  intro p e s m args below meth c s₁ B hml hv
  obtain ⟨rfl, hM, hK⟩ := hv
  have hts := atoms_spec (ws := .code y cc maxL ret :: wW) B.pre
  rw [lg_entry_eq]
  exact body p e s m below meth c _ ⟨B.exec, B.bytes, B.returns, hml, findClass_of_methodNamed B.named, fun w h => hts w (List.mem_cons_of_mem _ h), B.notSynchronized⟩ (name_of_methodNamed B.named B.method).1 (lv_entry av hav) hM hK va_S.rf
theorem x_metX {l : Launch} {y : MethodName} {cc : ByteArray} {maxL : Nat} {ret : Option FieldType} {rm : Room} {G : xG} {av : List Value} {M : xM} {Qc : Array Value → State → Outcome → State → Prop} {XC : String → State → State → Prop} {mc ms : Nat} (hy : plainName y.cls = true) (hav : (lg_sl av).length ≤ maxL)
    (body : ∀ p e s m below meth c ls, xE p s m av.toArray meth c cc ret maxL y.cls → (∀ x ∈ c.exceptionTable.toList, False) → lv_has ls maxL (lv_args 0 av) → xh G M s.heap → KX G s → va_S (xF G) s.heap s.heap [] → W p l e rm s m av.toArray below meth c s.heap [] 0 0 (vx_MQ below Qc XC av.toArray s mc ms (xF G)) (F0 m 0 ls [])) :
    vx_Met l y (.code y cc maxL ret :: wW) rm (xP G av M) Qc XC mc ms (xF G) := by
  refine vx_ofW (cc := cc) (maxL := maxL) (ret := ret) hy rfl ?_
  intro p e s m args below meth c s₁ B hml hnx hv
  obtain ⟨rfl, hM, hK⟩ := hv
  have hts := atoms_spec (ws := .code y cc maxL ret :: wW) B.pre
  rw [lg_entry_eq]
  exact body p e s m below meth c _ ⟨B.exec, B.bytes, B.returns, hml, findClass_of_methodNamed B.named, fun w h => hts w (List.mem_cons_of_mem _ h), B.notSynchronized⟩ hnx (lv_entry av hav) hM hK va_S.rf
theorem gi_c {y : MethodName} {bytes : ByteArray} {maxL : Nat} {ret : Option FieldType} (h : Cond.code y bytes maxL ret ∈ wW) : GoodIn wW (.code y bytes maxL ret :: wW) := fun w hw => by
  rcases List.mem_cons.mp hw with rfl | hw
  · exact ⟨h, good_of_word (wW_good _ h)⟩
  · exact ⟨hw, good_of_word (wW_good _ hw)⟩
theorem gi_w {ws : List Cond} (h : ∀ w ∈ ws, w ∈ wW) : GoodIn wW ws := fun w hw => ⟨h w hw, good_of_word (wW_good _ (h w hw))⟩
theorem gi_V {own C : String} {idx : Nat} {y : MethodName} {bytes : ByteArray} {maxL : Nat} {ret : Option FieldType} (h1 : Cond.methodLink own idx y ∈ wW) (h2 : Cond.instanceMethod y ∈ wW) (h3 : Cond.selects C y y ∈ wW) (h4 : Cond.initialized C ∈ wW) (h5 : Cond.code y bytes maxL ret ∈ wW) : GoodIn wW (wsV own idx C y (.code y bytes maxL ret :: wW)) := by
  refine gi_w fun w hw => ?_
  simp only [wsV, List.mem_append, List.mem_cons, List.not_mem_nil, or_false] at hw
  rcases hw with (rfl | rfl | rfl | rfl) | rfl | hw <;> assumption
theorem gi_S {own : String} {idx : Nat} {y : MethodName} {bytes : ByteArray} {maxL : Nat} {ret : Option FieldType} (h1 : Cond.methodLink own idx y ∈ wW) (h2 : Cond.static y ∈ wW) (h4 : Cond.initialized y.cls ∈ wW) (h5 : Cond.code y bytes maxL ret ∈ wW) : GoodIn wW (va_wsS own idx y (.code y bytes maxL ret :: wW)) := by
  refine gi_w fun w hw => ?_
  simp only [va_wsS, List.mem_append, List.mem_cons, List.not_mem_nil, or_false] at hw
  rcases hw with (rfl | rfl | rfl) | rfl | hw <;> assumption
end XE
section XC
variable {p : Program} {l : Launch} {e : Env} {R : Room} {s : State} {m : MethodId} {args : Array Value} {below : List Frame} {meth : Method} {c : Code} {H : Heap} {locs : List Loc} {cells slots : Nat} {Q : State → Prop}
variable {cc : ByteArray} {pc nL : Nat} {ls : Array Slot} {rest st0 : List Value} {M : xM} {H0 : Heap} {G : xG} {own : String} {mret : Option FieldType}
variable {y : MethodName} {bytes : ByteArray} {maxL index mc ms : Nat} {ret : Option FieldType} {rm : Room} {As : List Value} {b : Nat}
theorem x_runV {Qc : Array Value → State → Outcome → State → Prop} (hE : xE p s m args meth c cc mret nL own) (hK : KX G s) (hM : xh G M H) (hsz : ls.size = nL) (cm : Met l y (.code y bytes maxL ret :: wW) rm (xP G (.ref b :: As) M) Qc mc ms (xF G)) {r ci : Nat} {fs : List Value} {q : vw_C} (hb : M b = some (r, .inr (ci, fs))) (hc : xCl[ci]? = some q)
    (h1 : Cond.methodLink own index y ∈ wW) (h2 : Cond.instanceMethod y ∈ wW) (h3 : Cond.selects q.1 y y ∈ wW) (h4 : Cond.initialized q.1 ∈ wW) (h5 : Cond.code y bytes maxL ret ∈ wW)
    (nA : Nat) (hA : As.length = nA) (hrc : rm.cells = mc) (hrs : rm.slots = ms) (hd : y.cls = q.1 ∧ y.cls ≠ "java/lang/invoke/MethodHandle" ∧ y.cls ≠ "java/lang/invoke/VarHandle" ∧ (parseMethodDescriptor y.desc).map (fun d => d.parameters.length) = some nA)
    (hR : rm.frames + 1 ≤ R.frames ∧ 8 + (maxL + 11) + rm.locals ≤ R.locals) (hst : st0 = As.reverse ++ .ref b :: rest) (hro : (rest.map fun v => v.category).sum ≤ 8) (hdg : decode cc pc = .ok (.invokevirtual index, 3)) (hf : cells + mc ≤ R.cells ∧ slots + ms ≤ R.slots) :
    va_Run p l e R s m args below meth c H locs cells slots mc ms (F0 m pc ls st0) rest (Qc (Value.ref b :: As).toArray) (xF G) := by
  obtain ⟨hx, hbb, hr, hml, hown, hw, hlocks⟩ := hE
  exact va_runV ⟨hx, hbb, hml, hown, hw⟩ cm (cwV nA hw (gi_V h1 h2 h3 h4 h5) rfl hrc hrs hd hR) (xP.V hK hM hb hc) rfl hA hsz hst (lv_room hro) hdg hf
theorem x_runS {Qc : Array Value → State → Outcome → State → Prop} (hE : xE p s m args meth c cc mret nL own) (hK : KX G s) (hM : xh G M H) (hsz : ls.size = nL) (cm : Met l y (.code y bytes maxL ret :: wW) rm (xP G As M) Qc mc ms (xF G))
    (h1 : Cond.methodLink own index y ∈ wW) (h2 : Cond.static y ∈ wW) (h4 : Cond.initialized y.cls ∈ wW) (h5 : Cond.code y bytes maxL ret ∈ wW)
    (nA : Nat) (hA : As.length = nA) (hrc : rm.cells = mc) (hrs : rm.slots = ms) (hd : y.cls ≠ "java/lang/invoke/MethodHandle" ∧ y.cls ≠ "java/lang/invoke/VarHandle" ∧ (parseMethodDescriptor y.desc).map (fun d => d.parameters.length) = some nA)
    (hR : rm.frames + 1 ≤ R.frames ∧ 8 + (maxL + 11) + rm.locals ≤ R.locals) (hst : st0 = As.reverse ++ rest) (hro : (rest.map fun v => v.category).sum ≤ 8) (hdg : decode cc pc = .ok (.invokestatic index, 3)) (hf : cells + mc ≤ R.cells ∧ slots + ms ≤ R.slots) :
    va_Run p l e R s m args below meth c H locs cells slots mc ms (F0 m pc ls st0) rest (Qc As.toArray) (xF G) := by
  obtain ⟨hx, hbb, hr, hml, hown, hw, hlocks⟩ := hE
  exact va_runS ⟨hx, hbb, hml, hown, hw⟩ cm (va_cwS nA hw (gi_S h1 h2 h4 h5) rfl hrc hrs hd hR) (xP.S hK hM) rfl hA hsz hst (lv_room hro) hdg hf
theorem x_ci {post : Int32 → xM → Prop} {a : Array Value} (hr : va_Run p l e R s m args below meth c H locs cells slots mc ms (F0 m pc ls st0) rest (xQi G post a) (xF G)) (hS : va_S (xF G) H0 H locs)
    (kk : ∀ (r : Int32) (M1 : xM) (H1 : Heap) (locs1 : List Loc), post r M1 → xh G M1 H1 → va_S (xF G) H0 H1 locs1 → W p l e R s m args below meth c H1 locs1 (cells + mc) (slots + ms) Q (F0 m (pc + 3) ls (.int r :: rest))) : W p l e R s m args below meth c H locs cells slots Q (F0 m pc ls st0) :=
  va_calli hr hS (fun q _ h => h) (fun q h => h) (fun r u t H1 locs1 ht hvm hp hB _ _ hS1 => kk r u H1 locs1 hp (by rw [← ht]; exact hB) hS1)
theorem x_cv {post : xM → Prop} {a : Array Value} (hr : va_Run p l e R s m args below meth c H locs cells slots mc ms (F0 m pc ls st0) rest (xQv G post a) (xF G)) (hS : va_S (xF G) H0 H locs)
    (kk : ∀ (M1 : xM) (H1 : Heap) (locs1 : List Loc), post M1 → xh G M1 H1 → va_S (xF G) H0 H1 locs1 → W p l e R s m args below meth c H1 locs1 (cells + mc) (slots + ms) Q (F0 m (pc + 3) ls rest)) : W p l e R s m args below meth c H locs cells slots Q (F0 m pc ls st0) :=
  va_callv hr hS (fun q _ h => h) (fun q h => h) (fun u t H1 locs1 ht hvm hp hB _ _ hS1 => kk u H1 locs1 hp (by rw [← ht]; exact hB) hS1)
theorem x_cr {post : Nat → xM → Prop} {a : Array Value} (hr : va_Run p l e R s m args below meth c H locs cells slots mc ms (F0 m pc ls st0) rest (xQr G post a) (xF G)) (hS : va_S (xF G) H0 H locs)
    (kk : ∀ (r : Nat) (M1 : xM) (H1 : Heap) (locs1 : List Loc), post r M1 → xh G M1 H1 → va_S (xF G) H0 H1 locs1 → W p l e R s m args below meth c H1 locs1 (cells + mc) (slots + ms) Q (F0 m (pc + 3) ls (.ref r :: rest))) : W p l e R s m args below meth c H locs cells slots Q (F0 m pc ls st0) :=
  va_callr hr hS (fun q _ h => h) (fun q h => h) (fun u ra t H1 locs1 ht hvm hp hB _ _ hS1 => kk ra u H1 locs1 hB.1 (by rw [← ht]; exact hB.2) hS1)
theorem x_ri {post : Int32 → xM → Prop} {v : Int32} (hE : xE p s m args meth c cc mret nL own) (hret : mret = some .int) (hM : xh G M H) (hS : va_S (xF G) s.heap H locs) (hp : post v M) (hc : cells ≤ mc) (hs : slots ≤ ms) (hdg : decode cc pc = .ok (.ireturn, 1)) : W p l e R s m args below meth c H locs cells slots (MQ below (xQi G post) args s mc ms (xF G)) (F0 m pc ls [.int v]) := by
  obtain ⟨hx, hbb, hr, hml, hown, hw, hlocks⟩ := hE
  refine W.widen hc hs ?_
  exact W.iret hx hbb (hr.trans hret) (fun t ht hW => ⟨⟨v, M, rfl, hp, by show xh G M t.heap; rw [ht]; exact hM⟩, hS.F ht⟩) hS.2.2 hdg
theorem x_rz {post : Int32 → xM → Prop} {v : Int32} (hE : xE p s m args meth c cc mret nL own) (hret : mret = some .boolean) (hv : v = 0 ∨ v = 1) (hM : xh G M H) (hS : va_S (xF G) s.heap H locs) (hp : post v M) (hc : cells ≤ mc) (hs : slots ≤ ms) (hdg : decode cc pc = .ok (.ireturn, 1)) : W p l e R s m args below meth c H locs cells slots (MQ below (xQi G post) args s mc ms (xF G)) (F0 m pc ls [.int v]) := by
  obtain ⟨hx, hbb, hr, hml, hown, hw, hlocks⟩ := hE
  refine W.widen hc hs ?_
  exact W.zret hx hbb (hr.trans hret) (by rcases hv with rfl | rfl <;> decide +kernel) (fun t ht hW => ⟨⟨v, M, rfl, hp, by show xh G M t.heap; rw [ht]; exact hM⟩, hS.F ht⟩) hS.2.2 hdg
theorem x_rv {post : xM → Prop} (hE : xE p s m args meth c cc mret nL own) (hret : mret = none) (hM : xh G M H) (hS : va_S (xF G) s.heap H locs) (hp : post M) (hc : cells ≤ mc) (hs : slots ≤ ms) (hdg : decode cc pc = .ok (.return_, 1)) : W p l e R s m args below meth c H locs cells slots (MQ below (xQv G post) args s mc ms (xF G)) (F0 m pc ls []) := by
  obtain ⟨hx, hbb, hr, hml, hown, hw, hlocks⟩ := hE
  refine W.widen hc hs ?_
  exact W.vret hx hbb (hr.trans hret) (fun t ht hW => ⟨⟨M, rfl, hp, by show xh G M t.heap; rw [ht]; exact hM⟩, hS.F ht⟩) hS.2.2 hdg
theorem x_rr {post : Nat → xM → Prop} {a : Nat} {rt : FieldType} (hE : xE p s m args meth c cc mret nL own) (hret : mret = some rt) (hrt : (∃ n, rt = .object n) ∨ ∃ t, rt = .array t) (hM : xh G M H) (hS : va_S (xF G) s.heap H locs) (hp : post a M) (hc : cells ≤ mc) (hs : slots ≤ ms) (hdg : decode cc pc = .ok (.areturn, 1)) : W p l e R s m args below meth c H locs cells slots (MQ below (xQr G post) args s mc ms (xF G)) (F0 m pc ls [.ref a]) := by
  obtain ⟨hx, hbb, hr, hml, hown, hw, hlocks⟩ := hE
  refine W.widen hc hs ?_
  exact W.aret hx hbb (hr.trans hret) hrt (Or.inr ⟨a, rfl⟩) (fun t ht hW => ⟨⟨M, a, rfl, trivial, hp, by show xh G M t.heap; rw [ht]; exact hM⟩, hS.F ht⟩) hS.2.2 hdg
end XC
end
section
section XT
theorem xw.grow {D : va_G} {cl : List vw_C} {Hz : Heap} {M : xM} {H H1 : Heap} (h : xw D cl Hz M H) (hz : H.size ≤ H1.size) (hq : ∀ q : Nat, q < H.size → H1[q]? = H[q]?) : xw D cl Hz M H1 :=
  ⟨⟨Nat.le_trans h.1.1 hz, fun q hq2 => (hq q (Nat.lt_of_lt_of_le hq2 h.1.1)).trans (h.1.2 q hq2)⟩, fun a r e ha => ⟨h.old ha, (h.2 a r e ha).2.kept (hq a (h.lt ha))⟩⟩
abbrev xNm : List String := ["java/lang/RuntimeException", "java/lang/Exception"]
variable {p : Program} {l : Launch} {e : Env} {R : Room} {s : State} {m : MethodId} {args : Array Value} {below : List Frame} {meth : Method} {c : Code} {H : Heap} {locs : List Loc} {cells slots : Nat} {Q : State → Prop}
variable {cc : ByteArray} {pc nL : Nat} {ls : Array Slot} {rest st0 : List Value} {M M0 : xM} {H0 : Heap} {G : xG} {own : String} {mret : Option FieldType}
variable {y : MethodName} {bytes : ByteArray} {maxL index mc ms : Nat} {ret : Option FieldType} {rm : Room} {As : List Value} {b : Nat}
theorem x_throw {Qc : Array Value → State → Outcome → State → Prop} {px : String → xM → Prop} {E text : String} {ik is ic : Nat} (hl : l.stackTraces = false) (hE : xE p s m args meth c cc mret nL R_Rm) (hnx : ∀ x ∈ c.exceptionTable.toList, False) (hK : KX G s) (h0 : xh G M0 s.heap) (hM : xh G M H) (hS : va_S (xF G) s.heap H locs) (hsz : ls.size = nL)
    (hcls : Bundle.fit E = true) (hnm : ∀ n ∈ xNm, Bundle.fit n = true) (hk : Cond.classLink R_Rm ik E ∈ wW) (hi : Cond.initialized E ∈ wW) (hat1 : ∀ w ∈ (vx_atS R_Rm ic E xNm).filter goodWord, w ∈ wW) (hat2 : ∀ w ∈ (vx_atS R_Rm ic E xNm).filter (fun w => !goodWord w), w ∈ (Cond.castable E E :: xDs.map Cond.declares))
    (hgood : ∀ w ∈ Cond.classLink R_Rm ik E :: Cond.initialized E :: vx_atS R_Rm ic E xNm, vx_ot w = true) (hEn : E ∈ [nISE, nIAE, nIOE]) (hsn : (is, text) ∈ sN)
    (d0 : decode cc pc = .ok (.new ik, 3)) (d3 : decode cc (pc + 3) = .ok (.dup, 1)) (d4 : decode cc (pc + 4) = .ok (.ldc is, 2)) (d6 : decode cc (pc + 6) = .ok (.invokespecial ic, 3)) (d9 : decode cc (pc + 9) = .ok (.athrow, 1))
    (hRf : 5 < R.frames) (hRl : (rest.map fun v => v.category).sum + 82 ≤ R.locals) (hRc : cells + 1 ≤ R.cells ∧ slots + 6 ≤ R.slots) (hc : cells + 1 ≤ mc ∧ slots + 6 ≤ ms) (hp : px E M) :
    W p l e R s m args below meth c H locs cells slots (vx_MQ below Qc (xX G px) args s mc ms (xF G)) (F0 m pc ls rest) := by
  obtain ⟨hx, hb, hr, hml, hown, hw, hlocks⟩ := hE
  obtain ⟨-, -, ⟨k5, k6⟩, -, ⟨k7, k8⟩, k9, -⟩ := hK
  refine vx_throwS (A := xF G) (names := xNm) (text := text) (sa := gS G is) hx hb hl hown hcls hnm (hw _ hk) (hw _ hi) (k9 _ hsn) (vx_hat (B := Cond.castable E E :: xDs.map Cond.declares) (fun w h => hw _ (hat1 w h)) hat2 (vx_c (va_Nw.use rfl (k5 E hEn)) (fun w hw9 => by obtain ⟨x, hx9, rfl⟩ := List.mem_map.mp hw9; exact va_Nw.use rfl (k6 x hx9)))) hgood
    (k7.kept fun a h1 h2 => h0.1.2 a h1) (k8.kept fun a h1 h2 => h0.1.2 a h1) hS (hsz.trans hml.symm) d0 d3 d4 d6 d9 (fun x h => (hnx x h).elim) hRf (by simpa using hRl) hRc.1 hRc.2 hlocks (fun t hal hz hq => ⟨M, trivial, ⟨hp, hM.grow hz hq⟩, Nat.le_trans hS.1 hz, fun q h1 h2 => (hq q (Nat.lt_of_lt_of_le h1 hS.1)).trans (hS.2.1 q h1 h2)⟩) hS.2.2 hc.1 hc.2
theorem q_fit : Bundle.fit nISE = true ∧ Bundle.fit nIAE = true ∧ Bundle.fit nIOE = true ∧ ∀ n ∈ xNm, Bundle.fit n = true := by decide +kernel
theorem q_at1 : (∀ w ∈ (vx_atS R_Rm 66 nISE xNm).filter goodWord, w ∈ wW) ∧ (∀ w ∈ (vx_atS R_Rm 73 nIAE xNm).filter goodWord, w ∈ wW) ∧ (∀ w ∈ (vx_atS R_Rm 94 nIOE xNm).filter goodWord, w ∈ wW) := by decide +kernel
theorem q_at2 : (∀ w ∈ (vx_atS R_Rm 66 nISE xNm).filter (fun w => !goodWord w), w ∈ (Cond.castable nISE nISE :: xDs.map Cond.declares)) ∧ (∀ w ∈ (vx_atS R_Rm 73 nIAE xNm).filter (fun w => !goodWord w), w ∈ (Cond.castable nIAE nIAE :: xDs.map Cond.declares)) ∧ (∀ w ∈ (vx_atS R_Rm 94 nIOE xNm).filter (fun w => !goodWord w), w ∈ (Cond.castable nIOE nIOE :: xDs.map Cond.declares)) := by decide +kernel
theorem q_ot : (∀ w ∈ Cond.classLink R_Rm 62 nISE :: Cond.initialized nISE :: vx_atS R_Rm 66 nISE xNm, vx_ot w = true) ∧ (∀ w ∈ Cond.classLink R_Rm 69 nIAE :: Cond.initialized nIAE :: vx_atS R_Rm 73 nIAE xNm, vx_ot w = true) ∧ (∀ w ∈ Cond.classLink R_Rm 90 nIOE :: Cond.initialized nIOE :: vx_atS R_Rm 94 nIOE xNm, vx_ot w = true) := by decide +kernel
theorem q_kl : Cond.classLink R_Rm 62 nISE ∈ wW ∧ Cond.classLink R_Rm 69 nIAE ∈ wW ∧ Cond.classLink R_Rm 90 nIOE ∈ wW ∧ Cond.initialized nISE ∈ wW ∧ Cond.initialized nIAE ∈ wW ∧ Cond.initialized nIOE ∈ wW := by decide +kernel
theorem x_ise {Qc : Array Value → State → Outcome → State → Prop} {px : String → xM → Prop} {text : String} {is : Nat} (hl : l.stackTraces = false) (hE : xE p s m args meth c cc mret nL R_Rm) (hnx : ∀ x ∈ c.exceptionTable.toList, False) (hK : KX G s) (h0 : xh G M0 s.heap) (hM : xh G M H) (hS : va_S (xF G) s.heap H locs) (hsz : ls.size = nL) (hsn : (is, text) ∈ sN)
    (d0 : decode cc pc = .ok (.new 62, 3)) (d3 : decode cc (pc + 3) = .ok (.dup, 1)) (d4 : decode cc (pc + 4) = .ok (.ldc is, 2)) (d6 : decode cc (pc + 6) = .ok (.invokespecial 66, 3)) (d9 : decode cc (pc + 9) = .ok (.athrow, 1))
    (hRf : 5 < R.frames) (hRl : (rest.map fun v => v.category).sum + 82 ≤ R.locals) (hRc : cells + 1 ≤ R.cells ∧ slots + 6 ≤ R.slots) (hc : cells + 1 ≤ mc ∧ slots + 6 ≤ ms) (hp : px nISE M) :
    W p l e R s m args below meth c H locs cells slots (vx_MQ below Qc (xX G px) args s mc ms (xF G)) (F0 m pc ls rest) :=
  x_throw hl hE hnx hK h0 hM hS hsz q_fit.1 q_fit.2.2.2 q_kl.1 q_kl.2.2.2.1 q_at1.1 q_at2.1 q_ot.1 (by simp) hsn d0 d3 d4 d6 d9 hRf hRl hRc hc hp
theorem x_iae {Qc : Array Value → State → Outcome → State → Prop} {px : String → xM → Prop} {text : String} {is : Nat} (hl : l.stackTraces = false) (hE : xE p s m args meth c cc mret nL R_Rm) (hnx : ∀ x ∈ c.exceptionTable.toList, False) (hK : KX G s) (h0 : xh G M0 s.heap) (hM : xh G M H) (hS : va_S (xF G) s.heap H locs) (hsz : ls.size = nL) (hsn : (is, text) ∈ sN)
    (d0 : decode cc pc = .ok (.new 69, 3)) (d3 : decode cc (pc + 3) = .ok (.dup, 1)) (d4 : decode cc (pc + 4) = .ok (.ldc is, 2)) (d6 : decode cc (pc + 6) = .ok (.invokespecial 73, 3)) (d9 : decode cc (pc + 9) = .ok (.athrow, 1))
    (hRf : 5 < R.frames) (hRl : (rest.map fun v => v.category).sum + 82 ≤ R.locals) (hRc : cells + 1 ≤ R.cells ∧ slots + 6 ≤ R.slots) (hc : cells + 1 ≤ mc ∧ slots + 6 ≤ ms) (hp : px nIAE M) :
    W p l e R s m args below meth c H locs cells slots (vx_MQ below Qc (xX G px) args s mc ms (xF G)) (F0 m pc ls rest) :=
  x_throw hl hE hnx hK h0 hM hS hsz q_fit.2.1 q_fit.2.2.2 q_kl.2.1 q_kl.2.2.2.2.1 q_at1.2.1 q_at2.2.1 q_ot.2.1 (by simp) hsn d0 d3 d4 d6 d9 hRf hRl hRc hc hp
theorem x_ioe {Qc : Array Value → State → Outcome → State → Prop} {px : String → xM → Prop} {text : String} {is : Nat} (hl : l.stackTraces = false) (hE : xE p s m args meth c cc mret nL R_Rm) (hnx : ∀ x ∈ c.exceptionTable.toList, False) (hK : KX G s) (h0 : xh G M0 s.heap) (hM : xh G M H) (hS : va_S (xF G) s.heap H locs) (hsz : ls.size = nL) (hsn : (is, text) ∈ sN)
    (d0 : decode cc pc = .ok (.new 90, 3)) (d3 : decode cc (pc + 3) = .ok (.dup, 1)) (d4 : decode cc (pc + 4) = .ok (.ldc is, 2)) (d6 : decode cc (pc + 6) = .ok (.invokespecial 94, 3)) (d9 : decode cc (pc + 9) = .ok (.athrow, 1))
    (hRf : 5 < R.frames) (hRl : (rest.map fun v => v.category).sum + 82 ≤ R.locals) (hRc : cells + 1 ≤ R.cells ∧ slots + 6 ≤ R.slots) (hc : cells + 1 ≤ mc ∧ slots + 6 ≤ ms) (hp : px nIOE M) :
    W p l e R s m args below meth c H locs cells slots (vx_MQ below Qc (xX G px) args s mc ms (xF G)) (F0 m pc ls rest) :=
  x_throw hl hE hnx hK h0 hM hS hsz q_fit.2.2.1 q_fit.2.2.2 q_kl.2.2.1 q_kl.2.2.2.2.2 q_at1.2.2 q_at2.2.2 q_ot.2.2 (by simp) hsn d0 d3 d4 d6 d9 hRf hRl hRc hc hp
theorem x_runVX {Qc : Array Value → State → Outcome → State → Prop} {XC : String → State → State → Prop} (hE : xE p s m args meth c cc mret nL own) (hK : KX G s) (hM : xh G M H) (hsz : ls.size = nL) (cm : vx_Met l y (.code y bytes maxL ret :: wW) rm (xP G (.ref b :: As) M) Qc XC mc ms (xF G)) {r ci : Nat} {fs : List Value} {q : vw_C} (hb : M b = some (r, .inr (ci, fs))) (hc : xCl[ci]? = some q)
    (h1 : Cond.methodLink own index y ∈ wW) (h2 : Cond.instanceMethod y ∈ wW) (h3 : Cond.selects q.1 y y ∈ wW) (h4 : Cond.initialized q.1 ∈ wW) (h5 : Cond.code y bytes maxL ret ∈ wW)
    (nA : Nat) (hA : As.length = nA) (hrc : rm.cells = mc) (hrs : rm.slots = ms) (hd : y.cls = q.1 ∧ y.cls ≠ "java/lang/invoke/MethodHandle" ∧ y.cls ≠ "java/lang/invoke/VarHandle" ∧ (parseMethodDescriptor y.desc).map (fun d => d.parameters.length) = some nA)
    (hR : rm.frames + 1 ≤ R.frames ∧ 8 + (maxL + 11) + rm.locals ≤ R.locals) (hst : st0 = As.reverse ++ .ref b :: rest) (hro : (rest.map fun v => v.category).sum ≤ 8) (hdg : decode cc pc = .ok (.invokevirtual index, 3)) (hf : cells + mc ≤ R.cells ∧ slots + ms ≤ R.slots) :
    vx_Run p l e R s m args below meth c H locs cells slots mc ms (F0 m pc ls st0) rest (Qc (Value.ref b :: As).toArray) XC (xF G) := by
  obtain ⟨hx, hbb, hr, hml, hown, hw, hlocks⟩ := hE
  exact vx_runV ⟨hx, hbb, hml, hown, hw⟩ cm (cwV nA hw (gi_V h1 h2 h3 h4 h5) rfl hrc hrs hd hR) (xP.V hK hM hb hc) rfl hA hsz hst (lv_room hro) hdg hf
theorem x_runSX {Qc : Array Value → State → Outcome → State → Prop} {XC : String → State → State → Prop} (hE : xE p s m args meth c cc mret nL own) (hK : KX G s) (hM : xh G M H) (hsz : ls.size = nL) (cm : vx_Met l y (.code y bytes maxL ret :: wW) rm (xP G As M) Qc XC mc ms (xF G))
    (h1 : Cond.methodLink own index y ∈ wW) (h2 : Cond.static y ∈ wW) (h4 : Cond.initialized y.cls ∈ wW) (h5 : Cond.code y bytes maxL ret ∈ wW)
    (nA : Nat) (hA : As.length = nA) (hrc : rm.cells = mc) (hrs : rm.slots = ms) (hd : y.cls ≠ "java/lang/invoke/MethodHandle" ∧ y.cls ≠ "java/lang/invoke/VarHandle" ∧ (parseMethodDescriptor y.desc).map (fun d => d.parameters.length) = some nA)
    (hR : rm.frames + 1 ≤ R.frames ∧ 8 + (maxL + 11) + rm.locals ≤ R.locals) (hst : st0 = As.reverse ++ rest) (hro : (rest.map fun v => v.category).sum ≤ 8) (hdg : decode cc pc = .ok (.invokestatic index, 3)) (hf : cells + mc ≤ R.cells ∧ slots + ms ≤ R.slots) :
    vx_Run p l e R s m args below meth c H locs cells slots mc ms (F0 m pc ls st0) rest (Qc As.toArray) XC (xF G) := by
  obtain ⟨hx, hbb, hr, hml, hown, hw, hlocks⟩ := hE
  exact vx_runS ⟨hx, hbb, hml, hown, hw⟩ cm (va_cwS nA hw (gi_S h1 h2 h4 h5) rfl hrc hrs hd hR) (xP.S hK hM) rfl hA hsz hst (lv_room hro) hdg hf
theorem x_out {Qc : Array Value → State → Outcome → State → Prop} {px : String → xM → Prop} {E : String} {ce : Cell} {q : Addr} (hE : xE p s m args meth c cc mret nL own) (hnx : ∀ x ∈ c.exceptionTable.toList, False) (hM : xh G M H) (hS : va_S (xF G) s.heap H locs) (hcell : H[q]? = some ce) (hv : ce.vm = .none) (hcl : s.vm.findClass E = some ce.cls) (hp : px E M) (hc : cells ≤ mc) (hs : slots ≤ ms) :
    vx_W p l e R s m args below meth c H locs cells slots (vx_MQ below Qc (xX G px) args s mc ms (xF G)) (F0 m pc ls rest) q :=
  vx_out (fun x h => (hnx x h).elim) hE.2.2.2.2.2.2 hcell hv hcl (fun t ht _ => ⟨M, trivial, ⟨hp, by rw [ht]; exact hM⟩, hS.F ht⟩) hS.2.2 hc hs
theorem x_cxi {post : Int32 → xM → Prop} {px : String → xM → Prop} {a : Array Value} (hr : vx_Run p l e R s m args below meth c H locs cells slots mc ms (F0 m pc ls st0) rest (xQi G post a) (xX G px) (xF G)) (hS : va_S (xF G) H0 H locs)
    (kx : ∀ (E : String) (ce : Cell) (q9 : Addr) (M1 : xM) (H1 : Heap) (locs1 : List Loc), px E M1 → xh G M1 H1 → va_S (xF G) H0 H1 locs1 → H1[q9]? = some ce → ce.vm = .none → s.vm.findClass E = some ce.cls → vx_W p l e R s m args below meth c H1 locs1 (cells + mc) (slots + ms) Q (F0 m pc ls rest) q9)
    (kk : ∀ (r : Int32) (M1 : xM) (H1 : Heap) (locs1 : List Loc), post r M1 → xh G M1 H1 → va_S (xF G) H0 H1 locs1 → W p l e R s m args below meth c H1 locs1 (cells + mc) (slots + ms) Q (F0 m (pc + 3) ls (.int r :: rest))) : W p l e R s m args below meth c H locs cells slots Q (F0 m pc ls st0) :=
  vx_calli hr hS (fun q _ h => h) (fun q h => h) (fun q _ h => h) (fun E ce q9 u t H1 locs1 ht _ _ hB _ _ hS1 h1 h2 h3 => kx E ce q9 u H1 locs1 hB.1 (by rw [← ht]; exact hB.2) hS1 h1 h2 h3) (fun r u t H1 locs1 ht hvm hp hB _ _ hS1 => kk r u H1 locs1 hp (by rw [← ht]; exact hB) hS1)
theorem x_cxv {post : xM → Prop} {px : String → xM → Prop} {a : Array Value} (hr : vx_Run p l e R s m args below meth c H locs cells slots mc ms (F0 m pc ls st0) rest (xQv G post a) (xX G px) (xF G)) (hS : va_S (xF G) H0 H locs)
    (kx : ∀ (E : String) (ce : Cell) (q9 : Addr) (M1 : xM) (H1 : Heap) (locs1 : List Loc), px E M1 → xh G M1 H1 → va_S (xF G) H0 H1 locs1 → H1[q9]? = some ce → ce.vm = .none → s.vm.findClass E = some ce.cls → vx_W p l e R s m args below meth c H1 locs1 (cells + mc) (slots + ms) Q (F0 m pc ls rest) q9)
    (kk : ∀ (M1 : xM) (H1 : Heap) (locs1 : List Loc), post M1 → xh G M1 H1 → va_S (xF G) H0 H1 locs1 → W p l e R s m args below meth c H1 locs1 (cells + mc) (slots + ms) Q (F0 m (pc + 3) ls rest)) : W p l e R s m args below meth c H locs cells slots Q (F0 m pc ls st0) :=
  vx_callv hr hS (fun q _ h => h) (fun q h => h) (fun q _ h => h) (fun E ce q9 u t H1 locs1 ht _ _ hB _ _ hS1 h1 h2 h3 => kx E ce q9 u H1 locs1 hB.1 (by rw [← ht]; exact hB.2) hS1 h1 h2 h3) (fun u t H1 locs1 ht hvm hp hB _ _ hS1 => kk u H1 locs1 hp (by rw [← ht]; exact hB) hS1)
theorem x_cxr {post : Nat → xM → Prop} {px : String → xM → Prop} {a : Array Value} (hr : vx_Run p l e R s m args below meth c H locs cells slots mc ms (F0 m pc ls st0) rest (xQr G post a) (xX G px) (xF G)) (hS : va_S (xF G) H0 H locs)
    (kx : ∀ (E : String) (ce : Cell) (q9 : Addr) (M1 : xM) (H1 : Heap) (locs1 : List Loc), px E M1 → xh G M1 H1 → va_S (xF G) H0 H1 locs1 → H1[q9]? = some ce → ce.vm = .none → s.vm.findClass E = some ce.cls → vx_W p l e R s m args below meth c H1 locs1 (cells + mc) (slots + ms) Q (F0 m pc ls rest) q9)
    (kk : ∀ (r : Nat) (M1 : xM) (H1 : Heap) (locs1 : List Loc), post r M1 → xh G M1 H1 → va_S (xF G) H0 H1 locs1 → W p l e R s m args below meth c H1 locs1 (cells + mc) (slots + ms) Q (F0 m (pc + 3) ls (.ref r :: rest))) : W p l e R s m args below meth c H locs cells slots Q (F0 m pc ls st0) := by
  intro T hT X
  rcases hr T hT X with ⟨v, st₀, t, T', L, h0, X', hL, e1, e2, ⟨⟨u, ra, hv, -, hb⟩, hF⟩, st⟩ | ⟨q, st₀, t, T', L, E, ce, h0, X', hL, e1, e2, ⟨u, hp, hb, hF⟩, hce, hcv, hcl, st⟩
  · cases hv
    obtain ⟨k1, k2, k3⟩ := vx_keep h0 e1 hS (fun q _ h => h) (fun q h => h) hL hF
    obtain ⟨t2, a1, b1⟩ := kk ra u T'.heap (locs ++ L) hb.1 (by rw [e1]; exact hb.2) k3 T' rfl X'
    exact ⟨t2, st t2 a1, b1⟩
  · obtain ⟨k1, k2, k3⟩ := vx_keep h0 e1 hS (fun q _ h => h) (fun q h => h) hL hF
    obtain ⟨t2, a1, b1⟩ := kx E ce q u T'.heap (locs ++ L) hb.1 (by rw [e1]; exact hb.2) k3 (by rw [e1]; exact hce) hcv hcl T' rfl X'
    exact ⟨t2, st.trans a1, b1⟩
end XT
end
section
theorem ks_0 : (Cond.selects "java/lang/Throwable" ⟨"java/lang/Throwable", "fillInStackTrace", "(I)Ljava/lang/Throwable;"⟩ ⟨"java/lang/Throwable", "fillInStackTrace", "(I)Ljava/lang/Throwable;"⟩) ∈ wW := wW_s 0 (by decide +kernel) (by decide +kernel)
theorem ks_1 : (Cond.selects "RingMasters" ⟨"RingMasters", "evenedPad", "()[I"⟩ ⟨"RingMasters", "evenedPad", "()[I"⟩) ∈ wW := wW_s 1 (by decide +kernel) (by decide +kernel)
theorem ks_2 : (Cond.selects "RingMasters" ⟨"RingMasters", "rowOf", "(I)LRingMasters$Row;"⟩ ⟨"RingMasters", "rowOf", "(I)LRingMasters$Row;"⟩) ∈ wW := wW_s 2 (by decide +kernel) (by decide +kernel)
theorem ks_3 : (Cond.selects "RingMasters" ⟨"RingMasters", "membersOf", "(I)I"⟩ ⟨"RingMasters", "membersOf", "(I)I"⟩) ∈ wW := wW_s 3 (by decide +kernel) (by decide +kernel)
theorem ks_4 : (Cond.selects "RingMasters" ⟨"RingMasters", "startsOf", "(I)[I"⟩ ⟨"RingMasters", "startsOf", "(I)[I"⟩) ∈ wW := wW_s 4 (by decide +kernel) (by decide +kernel)
theorem ks_5 : (Cond.selects "RingMasters" ⟨"RingMasters", "firstYearOf", "(I)I"⟩ ⟨"RingMasters", "firstYearOf", "(I)I"⟩) ∈ wW := wW_s 5 (by decide +kernel) (by decide +kernel)
theorem ks_6 : (Cond.selects "RingMasters" ⟨"RingMasters", "lastYearOf", "(I)I"⟩ ⟨"RingMasters", "lastYearOf", "(I)I"⟩) ∈ wW := wW_s 6 (by decide +kernel) (by decide +kernel)
theorem ks_7 : (Cond.selects "RingMasters" ⟨"RingMasters", "fillValues", "(LRingMasters$Mean;)V"⟩ ⟨"RingMasters", "fillValues", "(LRingMasters$Mean;)V"⟩) ∈ wW := wW_s 7 (by decide +kernel) (by decide +kernel)
theorem ks_8 : (Cond.selects "RingMasters" ⟨"RingMasters", "gather", "([III)V"⟩ ⟨"RingMasters", "gather", "([III)V"⟩) ∈ wW := wW_s 8 (by decide +kernel) (by decide +kernel)
theorem ks_9 : (Cond.selects "RingMasters" ⟨"RingMasters", "meanOf", "(I)LRingMasters$Mean;"⟩ ⟨"RingMasters", "meanOf", "(I)LRingMasters$Mean;"⟩) ∈ wW := wW_s 9 (by decide +kernel) (by decide +kernel)
theorem ks_10 : (Cond.selects "RingMasters" ⟨"RingMasters", "measureFromOthers", "(LRingMasters$Mean;I)V"⟩ ⟨"RingMasters", "measureFromOthers", "(LRingMasters$Mean;I)V"⟩) ∈ wW := wW_s 10 (by decide +kernel) (by decide +kernel)
theorem ks_11 : (Cond.selects "RingMasters" ⟨"RingMasters", "measure", "(LRingMasters$Row;LRingMasters$Mean;I)V"⟩ ⟨"RingMasters", "measure", "(LRingMasters$Row;LRingMasters$Mean;I)V"⟩) ∈ wW := wW_s 11 (by decide +kernel) (by decide +kernel)
theorem ks_12 : (Cond.selects "RingMasters" ⟨"RingMasters", "nearestYear", "(LRingMasters$Row;LRingMasters$Mean;I)I"⟩ ⟨"RingMasters", "nearestYear", "(LRingMasters$Row;LRingMasters$Mean;I)I"⟩) ∈ wW := wW_s 12 (by decide +kernel) (by decide +kernel)
theorem ks_13 : (Cond.selects "RingMasters" ⟨"RingMasters", "nearerThan", "(I)I"⟩ ⟨"RingMasters", "nearerThan", "(I)I"⟩) ∈ wW := wW_s 13 (by decide +kernel) (by decide +kernel)
theorem ks_14 : (Cond.selects "RingMasters" ⟨"RingMasters", "shortestYears", "(IIII)I"⟩ ⟨"RingMasters", "shortestYears", "(IIII)I"⟩) ∈ wW := wW_s 14 (by decide +kernel) (by decide +kernel)
theorem ks_15 : (Cond.selects "RingMasters" ⟨"RingMasters", "endOfShare", "(IJI)I"⟩ ⟨"RingMasters", "endOfShare", "(IJI)I"⟩) ∈ wW := wW_s 15 (by decide +kernel) (by decide +kernel)
theorem ks_16 : (Cond.selects "RingMasters" ⟨"RingMasters", "floatingRows", "()I"⟩ ⟨"RingMasters", "floatingRows", "()I"⟩) ∈ wW := wW_s 16 (by decide +kernel) (by decide +kernel)
theorem ks_17 : (Cond.selects "RingMastersModel" ⟨"RingMastersModel", "goes", "(ZZZ)Z"⟩ ⟨"RingMastersModel", "goes", "(ZZZ)Z"⟩) ∈ wW := wW_s 17 (by decide +kernel) (by decide +kernel)
theorem ks_18 : (Cond.selects "RingMastersModel" ⟨"RingMastersModel", "isSeries", "(I)Z"⟩ ⟨"RingMastersModel", "isSeries", "(I)Z"⟩) ∈ wW := wW_s 18 (by decide +kernel) (by decide +kernel)
theorem ks_19 : (Cond.selects "RingMastersModel" ⟨"RingMastersModel", "even", "(II)I"⟩ ⟨"RingMastersModel", "even", "(II)I"⟩) ∈ wW := wW_s 19 (by decide +kernel) (by decide +kernel)
theorem ks_20 : (Cond.selects "RingMastersModel" ⟨"RingMastersModel", "isMaster", "(I)Z"⟩ ⟨"RingMastersModel", "isMaster", "(I)Z"⟩) ∈ wW := wW_s 20 (by decide +kernel) (by decide +kernel)
theorem ks_21 : (Cond.selects "RingMastersModel" ⟨"RingMastersModel", "isYear", "(II)Z"⟩ ⟨"RingMastersModel", "isYear", "(II)Z"⟩) ∈ wW := wW_s 21 (by decide +kernel) (by decide +kernel)
theorem ks_22 : (Cond.selects "RingMastersModel" ⟨"RingMastersModel", "valueOf", "(III)I"⟩ ⟨"RingMastersModel", "valueOf", "(III)I"⟩) ∈ wW := wW_s 22 (by decide +kernel) (by decide +kernel)
theorem ks_23 : (Cond.selects "RingMastersModel" ⟨"RingMastersModel", "has", "(III)Z"⟩ ⟨"RingMastersModel", "has", "(III)Z"⟩) ∈ wW := wW_s 23 (by decide +kernel) (by decide +kernel)
theorem ks_24 : (Cond.selects "RingMastersModel" ⟨"RingMastersModel", "depthOf", "(III)I"⟩ ⟨"RingMastersModel", "depthOf", "(III)I"⟩) ∈ wW := wW_s 24 (by decide +kernel) (by decide +kernel)
theorem ks_25 : (Cond.selects "RingMastersModel" ⟨"RingMastersModel", "measure", "(IIII)V"⟩ ⟨"RingMastersModel", "measure", "(IIII)V"⟩) ∈ wW := wW_s 25 (by decide +kernel) (by decide +kernel)
theorem ks_26 : (Cond.selects "RingMastersModel" ⟨"RingMastersModel", "seek", "(III)V"⟩ ⟨"RingMastersModel", "seek", "(III)V"⟩) ∈ wW := wW_s 26 (by decide +kernel) (by decide +kernel)
section XU
theorem xw_upE {M M1 : xM} {a b r r' : Nat} {e e' : va_E} {x : Option (Nat × va_E)} (h1 : M1 = va_up M a x) (hb : M b = some (r', e')) (ha : M a = some (r, e)) (h : r' ≠ r) : M1 b = some (r', e') := by rw [h1]; exact xw_up hb ha h
theorem xw_atE {M M1 : xM} {a : Nat} {x : Option (Nat × va_E)} (h1 : M1 = va_up M a x) : M1 a = x := by rw [h1]; exact xw_at
theorem xw_newE {M M1 : xM} {a b r' : Nat} {e' : va_E} {x : Option (Nat × va_E)} (h1 : M1 = va_up M a x) (hb : M b = some (r', e')) (ha : M a = none) : M1 b = some (r', e') := by rw [h1]; exact xw_upn hb ha
end XU
end
section
section ZS
def zAbs (x : Int32) : Int32 := if 0 ≤ x then x else 0 - x
def zMin (x y : Int32) : Int32 := if y < x then y else x
def zMax (x y : Int32) : Int32 := if x < y then y else x
abbrev zLess (s1 n1 s2 n2 : Int32) : Prop := s1 * n2 < s2 * n1 ∨ (s1 * n2 = s2 * n1 ∧ n2 < n1)
def zAns (t s lo hi : Int32) : Int32 := if ¬ 0 < t then -1 else if ¬ 2 < t then s / t else (s - lo - hi) / (t - 2)
def zRing (n : Nat) (f : Nat → Int32) (k : Int32) : Int32 := if k < 0 then -1 else if nI n ≤ k then -1 else f k.toNatClampNeg
theorem z_ix {x : Int32} {n : Nat} (h0 : ¬ x < 0) (h : ¬ nI n ≤ x) (hn : n < 2 ^ 31) : x.toNatClampNeg < n ∧ x = nI x.toNatClampNeg := by
  obtain ⟨j, h1, h2, -, h4, -⟩ := pk_mu h0 h hn
  rw [h4]
  exact ⟨h1, h2⟩
theorem z_m2 {t : Int32} (h : t - 2 = 0) : t = 2 := by
  have := congrArg (· + 2) h
  simpa using this
theorem kJ_abs : Cond.code Lib.Math.abs.name Lib.Math.abs.code 1 (some .int) ∈ wW := by decide +kernel
theorem kJ_min : Cond.code Lib.Math.min.name Lib.Math.min.code 2 (some .int) ∈ wW := by decide +kernel
theorem kJ_max : Cond.code Lib.Math.max.name Lib.Math.max.code 2 (some .int) ∈ wW := by decide +kernel
theorem kJ_abs' : Cond.static Lib.Math.abs.name ∈ wW := by decide +kernel
theorem kJ_min' : Cond.static Lib.Math.min.name ∈ wW := by decide +kernel
theorem kJ_max' : Cond.static Lib.Math.max.name ∈ wW := by decide +kernel
theorem kJ_M : Cond.initialized "java/lang/Math" ∈ wW := by decide +kernel
end ZS
end
section
set_option maxHeartbeats 4000000 in
set_option maxRecDepth 100000 in
theorem c_Gap_clear (l : Launch) (G : xG) (M : xM) (g r : Nat) (s0 n0 : Int32) (hg : M g = some (r, .inr (0, [.int s0, .int n0]))) : Met l y_Gap_clear w_Gap_clear ({ frames := 0, cells := 0, slots := 0, locals := 0 }) (xP G [.ref g] M) (xQv G (fun M' => M' = va_up M g (some (r, .inr (0, [.int 0, .int 0]))))) 0 0 (xF G) := by
  refine x_met (by decide) (Nat.le_of_ble_eq_true rfl) ?_
  intro p e s m below meth c ls hE hin hl hM hK hS
  obtain ⟨hx, hb, hr, hml, hown, hw, hlocks⟩ := id hE
  have hl : lv_has ls 1 [(0, .ref g)] := hl
  refine lv_aload_n hx hb d_Gap_clear_0 rfl (lv_at hl 0 rfl) ?_
  refine lv_iconst (v := 0) hx hb d_Gap_clear_1 (by decide) ?_
  refine x_put (C := R_Gap) (T := F_Gap) (N := 2) (ty := .int) (v := .int 0) hx hb hw i_Gap t_Gap t_Gap_ok n_Gap hown hK.1 hM hS hg rfl 0 (by decide) (hw _ kw_55) rfl rfl (by decide +kernel) rfl rfl (Nat.le_of_ble_eq_true rfl) d_Gap_clear_2 (fun H locs hM hS hz => ?_)
  have hM : xh G (va_up M g (some (r, .inr (0, [.int 0, .int n0])))) H := hM
  obtain ⟨M_1, eM_1⟩ : ∃ z : xM, z = va_up M g (some (r, .inr (0, [.int 0, .int n0]))) := ⟨_, rfl⟩
  rw [← eM_1] at hM
  have hg := xw_atE eM_1
  refine lv_aload_n hx hb d_Gap_clear_5 rfl (lv_at hl 0 rfl) ?_
  refine lv_iconst (v := 0) hx hb d_Gap_clear_6 (by decide) ?_
  refine x_put (C := R_Gap) (T := F_Gap) (N := 2) (ty := .int) (v := .int 0) hx hb hw i_Gap t_Gap t_Gap_ok n_Gap hown hK.1 hM hS hg rfl 1 (by decide) (hw _ kw_57) rfl rfl (by decide +kernel) rfl rfl (Nat.le_of_ble_eq_true rfl) d_Gap_clear_7 (fun H locs hM hS hz => ?_)
  have hM : xh G (va_up M_1 g (some (r, .inr (0, [.int 0, .int 0])))) H := hM
  obtain ⟨M_2, eM_2⟩ : ∃ z : xM, z = va_up M_1 g (some (r, .inr (0, [.int 0, .int 0]))) := ⟨_, rfl⟩
  rw [← eM_2] at hM
  have hg := xw_atE eM_2
  exact x_rv hE rfl hM hS (by rw [eM_2, eM_1]; exact bx_uu _ _ _ _) (by omega) (by omega) d_Gap_clear_10

set_option maxHeartbeats 4000000 in
set_option maxRecDepth 100000 in
theorem c_Gap_init (l : Launch) (G : xG) (M : xM) (g : Nat) : Met l y_Gap_init w_Gap_init ({ frames := 1, cells := 0, slots := 0, locals := 12 }) (xP G [.ref g] M) (xQv G (fun M' => M' = M)) 0 0 (xF G) := by
  refine x_met (by decide) (Nat.le_of_ble_eq_true rfl) ?_
  intro p e s m below meth c ls hE hin hl hM hK hS
  obtain ⟨hx, hb, hr, hml, hown, hw, hlocks⟩ := id hE
  have hl : lv_has ls 1 [(0, .ref g)] := hl
  refine lv_aload_n hx hb d_Gap_init_0 rfl (lv_at hl 0 rfl) ?_
  refine W.objInit hx hb hown (hw _ kw_54) (hw _ kw_22) (hw _ kw_23) rfl (by rw [hml]; exact hl.1) rfl d_Gap_init_1 (Nat.le_of_ble_eq_true rfl) (Nat.le_of_ble_eq_true rfl) ?_
  refine W.eq (g2 := F0 m 4 ls []) rfl ?_
  exact x_rv hE rfl hM hS rfl (by omega) (by omega) d_Gap_init_4

set_option maxHeartbeats 4000000 in
set_option maxRecDepth 100000 in
theorem c_Rob_init (l : Launch) (G : xG) (M : xM) (g : Nat) : Met l y_Rob_init w_Rob_init ({ frames := 1, cells := 0, slots := 0, locals := 12 }) (xP G [.ref g] M) (xQv G (fun M' => M' = M)) 0 0 (xF G) := by
  refine x_met (by decide) (Nat.le_of_ble_eq_true rfl) ?_
  intro p e s m below meth c ls hE hin hl hM hK hS
  obtain ⟨hx, hb, hr, hml, hown, hw, hlocks⟩ := id hE
  have hl : lv_has ls 1 [(0, .ref g)] := hl
  refine lv_aload_n hx hb d_Rob_init_0 rfl (lv_at hl 0 rfl) ?_
  refine W.objInit hx hb hown (hw _ kw_33) (hw _ kw_22) (hw _ kw_23) rfl (by rw [hml]; exact hl.1) rfl d_Rob_init_1 (Nat.le_of_ble_eq_true rfl) (Nat.le_of_ble_eq_true rfl) ?_
  refine W.eq (g2 := F0 m 4 ls []) rfl ?_
  exact x_rv hE rfl hM hS rfl (by omega) (by omega) d_Rob_init_4

set_option maxHeartbeats 4000000 in
set_option maxRecDepth 100000 in
theorem c_Gap_add (l : Launch) (G : xG) (M : xM) (g r : Nat) (s0 n0 : Int32) (hg : M g = some (r, .inr (0, [.int s0, .int n0]))) (x1 x2 : Int32) : Met l y_Gap_add w_Gap_add ({ frames := 1, cells := 0, slots := 0, locals := 20 }) (xP G [.ref g, .int x1, .int x2] M) (xQv G (fun M' => M' = va_up M g (some (r, .inr (0, [.int (s0 + zAbs (x1 - x2)), .int (n0 + 1)]))))) 0 0 (xF G) := by
  refine x_met (by decide) (Nat.le_of_ble_eq_true rfl) ?_
  intro p e s m below meth c ls hE hin hl hM hK hS
  obtain ⟨hx, hb, hr, hml, hown, hw, hlocks⟩ := id hE
  have hl : lv_has ls 3 [(0, .ref g), (1, .int x1), (2, .int x2)] := hl
  refine lv_aload_n hx hb d_Gap_add_0 rfl (lv_at hl 0 rfl) ?_
  refine lv_dup hx hb d_Gap_add_1 rfl ?_
  refine x_get (C := R_Gap) (T := F_Gap) (N := 2) hx hb hw i_Gap hown hK.1 hM hg rfl 0 (by decide) (hw _ kw_55) rfl rfl d_Gap_add_2 ?_
  refine lv_iload_n hx hb d_Gap_add_5 rfl (lv_at hl 1 rfl) ?_
  refine lv_iload_n hx hb d_Gap_add_6 rfl (lv_at hl 2 rfl) ?_
  refine lv_isub hx hb d_Gap_add_7 ?_
  refine va_mabs hx hb (hml.trans hl.1.symm) hown (hw _ kw_412) (hw _ kJ_abs') (hw _ kJ_M) (hw _ kJ_abs) (by decide) (Nat.le_of_ble_eq_true rfl) (by omega) (by omega) d_Gap_add_8 ?_
  refine W.eq (g2 := F0 m 11 ls [.int (zAbs (x1 - x2)), .int s0, .ref g]) rfl ?_
  refine lv_iadd hx hb d_Gap_add_11 ?_
  refine x_put (C := R_Gap) (T := F_Gap) (N := 2) (ty := .int) (v := .int (s0 + (zAbs (x1 - x2)))) hx hb hw i_Gap t_Gap t_Gap_ok n_Gap hown hK.1 hM hS hg rfl 0 (by decide) (hw _ kw_55) rfl rfl (by decide +kernel) rfl rfl (Nat.le_of_ble_eq_true rfl) d_Gap_add_12 (fun H locs hM hS hz => ?_)
  have hM : xh G (va_up M g (some (r, .inr (0, [.int (s0 + (zAbs (x1 - x2))), .int n0])))) H := hM
  obtain ⟨M_1, eM_1⟩ : ∃ z : xM, z = va_up M g (some (r, .inr (0, [.int (s0 + (zAbs (x1 - x2))), .int n0]))) := ⟨_, rfl⟩
  rw [← eM_1] at hM
  have hg := xw_atE eM_1
  refine lv_aload_n hx hb d_Gap_add_15 rfl (lv_at hl 0 rfl) ?_
  refine lv_dup hx hb d_Gap_add_16 rfl ?_
  refine x_get (C := R_Gap) (T := F_Gap) (N := 2) hx hb hw i_Gap hown hK.1 hM hg rfl 1 (by decide) (hw _ kw_57) rfl rfl d_Gap_add_17 ?_
  refine lv_iconst (v := 1) hx hb d_Gap_add_20 (by decide) ?_
  refine lv_iadd hx hb d_Gap_add_21 ?_
  refine x_put (C := R_Gap) (T := F_Gap) (N := 2) (ty := .int) (v := .int (n0 + 1)) hx hb hw i_Gap t_Gap t_Gap_ok n_Gap hown hK.1 hM hS hg rfl 1 (by decide) (hw _ kw_57) rfl rfl (by decide +kernel) rfl rfl (Nat.le_of_ble_eq_true rfl) d_Gap_add_22 (fun H locs hM hS hz => ?_)
  have hM : xh G (va_up M_1 g (some (r, .inr (0, [.int (s0 + (zAbs (x1 - x2))), .int (n0 + 1)])))) H := hM
  obtain ⟨M_2, eM_2⟩ : ∃ z : xM, z = va_up M_1 g (some (r, .inr (0, [.int (s0 + (zAbs (x1 - x2))), .int (n0 + 1)]))) := ⟨_, rfl⟩
  rw [← eM_2] at hM
  have hg := xw_atE eM_2
  exact x_rv hE rfl hM hS (by rw [eM_2, eM_1]; exact bx_uu _ _ _ _) (by omega) (by omega) d_Gap_add_25

set_option maxHeartbeats 4000000 in
set_option maxRecDepth 100000 in
theorem c_Gap_become (l : Launch) (G : xG) (M : xM) (g r : Nat) (s0 n0 : Int32) (hg : M g = some (r, .inr (0, [.int s0, .int n0]))) (g2 r2 : Nat) (s2 n2 : Int32) (hg2 : M g2 = some (r2, .inr (0, [.int s2, .int n2]))) (hne : r2 ≠ r) : Met l y_Gap_become w_Gap_become ({ frames := 0, cells := 0, slots := 0, locals := 0 }) (xP G [.ref g, .ref g2] M) (xQv G (fun M' => M' = va_up M g (some (r, .inr (0, [.int s2, .int n2]))))) 0 0 (xF G) := by
  refine x_met (by decide) (Nat.le_of_ble_eq_true rfl) ?_
  intro p e s m below meth c ls hE hin hl hM hK hS
  obtain ⟨hx, hb, hr, hml, hown, hw, hlocks⟩ := id hE
  have hl : lv_has ls 2 [(0, .ref g), (1, .ref g2)] := hl
  refine lv_aload_n hx hb d_Gap_become_0 rfl (lv_at hl 0 rfl) ?_
  refine lv_aload_n hx hb d_Gap_become_1 rfl (lv_at hl 1 rfl) ?_
  refine x_get (C := R_Gap) (T := F_Gap) (N := 2) hx hb hw i_Gap hown hK.1 hM hg2 rfl 0 (by decide) (hw _ kw_55) rfl rfl d_Gap_become_2 ?_
  refine x_put (C := R_Gap) (T := F_Gap) (N := 2) (ty := .int) (v := .int s2) hx hb hw i_Gap t_Gap t_Gap_ok n_Gap hown hK.1 hM hS hg rfl 0 (by decide) (hw _ kw_55) rfl rfl (by decide +kernel) rfl rfl (Nat.le_of_ble_eq_true rfl) d_Gap_become_5 (fun H locs hM hS hz => ?_)
  have hM : xh G (va_up M g (some (r, .inr (0, [.int s2, .int n0])))) H := hM
  obtain ⟨M_1, eM_1⟩ : ∃ z : xM, z = va_up M g (some (r, .inr (0, [.int s2, .int n0]))) := ⟨_, rfl⟩
  rw [← eM_1] at hM
  have hg2 := xw_upE eM_1 hg2 hg (by omega)
  have hg := xw_atE eM_1
  refine lv_aload_n hx hb d_Gap_become_8 rfl (lv_at hl 0 rfl) ?_
  refine lv_aload_n hx hb d_Gap_become_9 rfl (lv_at hl 1 rfl) ?_
  refine x_get (C := R_Gap) (T := F_Gap) (N := 2) hx hb hw i_Gap hown hK.1 hM hg2 rfl 1 (by decide) (hw _ kw_57) rfl rfl d_Gap_become_10 ?_
  refine x_put (C := R_Gap) (T := F_Gap) (N := 2) (ty := .int) (v := .int n2) hx hb hw i_Gap t_Gap t_Gap_ok n_Gap hown hK.1 hM hS hg rfl 1 (by decide) (hw _ kw_57) rfl rfl (by decide +kernel) rfl rfl (Nat.le_of_ble_eq_true rfl) d_Gap_become_13 (fun H locs hM hS hz => ?_)
  have hM : xh G (va_up M_1 g (some (r, .inr (0, [.int s2, .int n2])))) H := hM
  obtain ⟨M_2, eM_2⟩ : ∃ z : xM, z = va_up M_1 g (some (r, .inr (0, [.int s2, .int n2]))) := ⟨_, rfl⟩
  rw [← eM_2] at hM
  have hg2 := xw_upE eM_2 hg2 hg (by omega)
  have hg := xw_atE eM_2
  exact x_rv hE rfl hM hS (by rw [eM_2, eM_1]; exact bx_uu _ _ _ _) (by omega) (by omega) d_Gap_become_16

set_option maxHeartbeats 4000000 in
set_option maxRecDepth 100000 in
theorem c_Gap_sumOrYears (l : Launch) (G : xG) (M : xM) (g r : Nat) (s0 n0 : Int32) (hg : M g = some (r, .inr (0, [.int s0, .int n0]))) (x1 : Int32) : Met l y_Gap_sumOrYears w_Gap_sumOrYears ({ frames := 0, cells := 0, slots := 0, locals := 0 }) (xP G [.ref g, .int x1] M) (xQi G (fun v M' => v = (if x1 = 0 then s0 else n0) ∧ M' = M)) 0 0 (xF G) := by
  refine x_met (by decide) (Nat.le_of_ble_eq_true rfl) ?_
  intro p e s m below meth c ls hE hin hl hM hK hS
  obtain ⟨hx, hb, hr, hml, hown, hw, hlocks⟩ := id hE
  have hl : lv_has ls 2 [(0, .ref g), (1, .int x1)] := hl
  refine lv_iload_n hx hb d_Gap_sumOrYears_0 rfl (lv_at hl 1 rfl) ?_
  refine lv_if_ne (tgt := 11) hx hb d_Gap_sumOrYears_1 (by decide) (fun c_1 => ?_) (fun c_1 => ?_)
  · refine lv_aload_n hx hb d_Gap_sumOrYears_11 rfl (lv_at hl 0 rfl) ?_
    refine x_get (C := R_Gap) (T := F_Gap) (N := 2) hx hb hw i_Gap hown hK.1 hM hg rfl 1 (by decide) (hw _ kw_57) rfl rfl d_Gap_sumOrYears_12 ?_
    exact x_ri hE rfl hM hS ⟨(if_neg c_1).symm, rfl⟩ (by omega) (by omega) d_Gap_sumOrYears_15
  · refine lv_aload_n hx hb d_Gap_sumOrYears_4 rfl (lv_at hl 0 rfl) ?_
    refine x_get (C := R_Gap) (T := F_Gap) (N := 2) hx hb hw i_Gap hown hK.1 hM hg rfl 0 (by decide) (hw _ kw_55) rfl rfl d_Gap_sumOrYears_5 ?_
    refine lv_goto (tgt := 15) hx hb d_Gap_sumOrYears_8 (by decide) ?_
    exact x_ri hE rfl hM hS ⟨(if_pos c_1).symm, rfl⟩ (by omega) (by omega) d_Gap_sumOrYears_15

set_option maxHeartbeats 4000000 in
set_option maxRecDepth 100000 in
theorem c_Gap_lessThan (l : Launch) (G : xG) (M : xM) (g r : Nat) (s0 n0 : Int32) (hg : M g = some (r, .inr (0, [.int s0, .int n0]))) (g2 r2 : Nat) (s2 n2 : Int32) (hg2 : M g2 = some (r2, .inr (0, [.int s2, .int n2]))) : Met l y_Gap_lessThan w_Gap_lessThan ({ frames := 0, cells := 0, slots := 0, locals := 0 }) (xP G [.ref g, .ref g2] M) (xQi G (fun v M' => v = (if zLess s0 n0 s2 n2 then 1 else 0) ∧ M' = M)) 0 0 (xF G) := by
  refine x_met (by decide) (Nat.le_of_ble_eq_true rfl) ?_
  intro p e s m below meth c ls hE hin hl hM hK hS
  obtain ⟨hx, hb, hr, hml, hown, hw, hlocks⟩ := id hE
  have hl : lv_has ls 4 [(0, .ref g), (1, .ref g2)] := hl
  refine lv_aload_n hx hb d_Gap_lessThan_0 rfl (lv_at hl 0 rfl) ?_
  refine x_get (C := R_Gap) (T := F_Gap) (N := 2) hx hb hw i_Gap hown hK.1 hM hg rfl 0 (by decide) (hw _ kw_55) rfl rfl d_Gap_lessThan_1 ?_
  refine lv_aload_n hx hb d_Gap_lessThan_4 rfl (lv_at hl 1 rfl) ?_
  refine x_get (C := R_Gap) (T := F_Gap) (N := 2) hx hb hw i_Gap hown hK.1 hM hg2 rfl 1 (by decide) (hw _ kw_57) rfl rfl d_Gap_lessThan_5 ?_
  refine lv_imul hx hb d_Gap_lessThan_8 ?_
  refine lv_istore_n (lv' := [(2, .int (s0 * n2)), (0, .ref g), (1, .ref g2)]) hx hb d_Gap_lessThan_9 rfl hl (by decide) rfl (fun ls hl => ?_)
  refine lv_aload_n hx hb d_Gap_lessThan_10 rfl (lv_at hl 2 rfl) ?_
  refine x_get (C := R_Gap) (T := F_Gap) (N := 2) hx hb hw i_Gap hown hK.1 hM hg2 rfl 0 (by decide) (hw _ kw_55) rfl rfl d_Gap_lessThan_11 ?_
  refine lv_aload_n hx hb d_Gap_lessThan_14 rfl (lv_at hl 1 rfl) ?_
  refine x_get (C := R_Gap) (T := F_Gap) (N := 2) hx hb hw i_Gap hown hK.1 hM hg rfl 1 (by decide) (hw _ kw_57) rfl rfl d_Gap_lessThan_15 ?_
  refine lv_imul hx hb d_Gap_lessThan_18 ?_
  refine lv_istore_n (lv' := [(3, .int (s2 * n0)), (2, .int (s0 * n2)), (0, .ref g), (1, .ref g2)]) hx hb d_Gap_lessThan_19 rfl hl (by decide) rfl (fun ls hl => ?_)
  refine lv_iload_n hx hb d_Gap_lessThan_20 rfl (lv_at hl 1 rfl) ?_
  refine lv_iload_n hx hb d_Gap_lessThan_21 rfl (lv_at hl 0 rfl) ?_
  refine lv_icmp_lt (tgt := 41) hx hb d_Gap_lessThan_22 (by decide) (fun c_22 => ?_) (fun c_22 => ?_)
  · refine lv_iconst (v := 1) hx hb d_Gap_lessThan_41 (by decide) ?_
    refine lv_goto (tgt := 46) hx hb d_Gap_lessThan_42 (by decide) ?_
    exact x_rz hE rfl (Or.inr rfl) hM hS ⟨(if_pos (Or.inl c_22)).symm, rfl⟩ (by omega) (by omega) d_Gap_lessThan_46
  · refine lv_iload_n hx hb d_Gap_lessThan_25 rfl (lv_at hl 1 rfl) ?_
    refine lv_iload_n hx hb d_Gap_lessThan_26 rfl (lv_at hl 0 rfl) ?_
    refine lv_icmp_ne (tgt := 45) hx hb d_Gap_lessThan_27 (by decide) (fun c_27 => ?_) (fun c_27 => ?_)
    · refine lv_iconst (v := 0) hx hb d_Gap_lessThan_45 (by decide) ?_
      exact x_rz hE rfl (Or.inl rfl) hM hS ⟨(if_neg (fun h9 => h9.elim c_22 (fun h8 => c_27 h8.1))).symm, rfl⟩ (by omega) (by omega) d_Gap_lessThan_46
    · refine lv_aload_n hx hb d_Gap_lessThan_30 rfl (lv_at hl 2 rfl) ?_
      refine x_get (C := R_Gap) (T := F_Gap) (N := 2) hx hb hw i_Gap hown hK.1 hM hg rfl 1 (by decide) (hw _ kw_57) rfl rfl d_Gap_lessThan_31 ?_
      refine lv_aload_n hx hb d_Gap_lessThan_34 rfl (lv_at hl 3 rfl) ?_
      refine x_get (C := R_Gap) (T := F_Gap) (N := 2) hx hb hw i_Gap hown hK.1 hM hg2 rfl 1 (by decide) (hw _ kw_57) rfl rfl d_Gap_lessThan_35 ?_
      refine lv_icmp_le (tgt := 45) hx hb d_Gap_lessThan_38 (by decide) (fun c_38 => ?_) (fun c_38 => ?_)
      · refine lv_iconst (v := 0) hx hb d_Gap_lessThan_45 (by decide) ?_
        exact x_rz hE rfl (Or.inl rfl) hM hS ⟨(if_neg (fun h9 => h9.elim c_22 (fun h8 => absurd h8.2 (by simp only [Int32.not_lt]; exact c_38)))).symm, rfl⟩ (by omega) (by omega) d_Gap_lessThan_46
      · refine lv_iconst (v := 1) hx hb d_Gap_lessThan_41 (by decide) ?_
        refine lv_goto (tgt := 46) hx hb d_Gap_lessThan_42 (by decide) ?_
        exact x_rz hE rfl (Or.inr rfl) hM hS ⟨(if_pos (Or.inr ⟨c_27, by have h9 := c_38; simp only [Int32.not_le] at h9; exact h9⟩)).symm, rfl⟩ (by omega) (by omega) d_Gap_lessThan_46

set_option maxHeartbeats 4000000 in
set_option maxRecDepth 100000 in
theorem c_Rob_clear (l : Launch) (G : xG) (M : xM) (g r : Nat) (t0 s0 lo hi : Int32) (hg : M g = some (r, .inr (1, [.int t0, .int s0, .int lo, .int hi]))) : Met l y_Rob_clear w_Rob_clear ({ frames := 0, cells := 0, slots := 0, locals := 0 }) (xP G [.ref g] M) (xQv G (fun M' => M' = va_up M g (some (r, .inr (1, [.int 0, .int 0, .int 0, .int 0]))))) 0 0 (xF G) := by
  refine x_met (by decide) (Nat.le_of_ble_eq_true rfl) ?_
  intro p e s m below meth c ls hE hin hl hM hK hS
  obtain ⟨hx, hb, hr, hml, hown, hw, hlocks⟩ := id hE
  have hl : lv_has ls 1 [(0, .ref g)] := hl
  refine lv_aload_n hx hb d_Rob_clear_0 rfl (lv_at hl 0 rfl) ?_
  refine lv_iconst (v := 0) hx hb d_Rob_clear_1 (by decide) ?_
  refine x_put (C := R_Rob) (T := F_Rob) (N := 4) (ty := .int) (v := .int 0) hx hb hw i_Rob t_Rob t_Rob_ok n_Rob hown hK.1 hM hS hg rfl 0 (by decide) (hw _ kw_34) rfl rfl (by decide +kernel) rfl rfl (Nat.le_of_ble_eq_true rfl) d_Rob_clear_2 (fun H locs hM hS hz => ?_)
  have hM : xh G (va_up M g (some (r, .inr (1, [.int 0, .int s0, .int lo, .int hi])))) H := hM
  obtain ⟨M_1, eM_1⟩ : ∃ z : xM, z = va_up M g (some (r, .inr (1, [.int 0, .int s0, .int lo, .int hi]))) := ⟨_, rfl⟩
  rw [← eM_1] at hM
  have hg := xw_atE eM_1
  refine lv_aload_n hx hb d_Rob_clear_5 rfl (lv_at hl 0 rfl) ?_
  refine lv_iconst (v := 0) hx hb d_Rob_clear_6 (by decide) ?_
  refine x_put (C := R_Rob) (T := F_Rob) (N := 4) (ty := .int) (v := .int 0) hx hb hw i_Rob t_Rob t_Rob_ok n_Rob hown hK.1 hM hS hg rfl 1 (by decide) (hw _ kw_36) rfl rfl (by decide +kernel) rfl rfl (Nat.le_of_ble_eq_true rfl) d_Rob_clear_7 (fun H locs hM hS hz => ?_)
  have hM : xh G (va_up M_1 g (some (r, .inr (1, [.int 0, .int 0, .int lo, .int hi])))) H := hM
  obtain ⟨M_2, eM_2⟩ : ∃ z : xM, z = va_up M_1 g (some (r, .inr (1, [.int 0, .int 0, .int lo, .int hi]))) := ⟨_, rfl⟩
  rw [← eM_2] at hM
  have hg := xw_atE eM_2
  refine lv_aload_n hx hb d_Rob_clear_10 rfl (lv_at hl 0 rfl) ?_
  refine lv_iconst (v := 0) hx hb d_Rob_clear_11 (by decide) ?_
  refine x_put (C := R_Rob) (T := F_Rob) (N := 4) (ty := .int) (v := .int 0) hx hb hw i_Rob t_Rob t_Rob_ok n_Rob hown hK.1 hM hS hg rfl 2 (by decide) (hw _ kw_37) rfl rfl (by decide +kernel) rfl rfl (Nat.le_of_ble_eq_true rfl) d_Rob_clear_12 (fun H locs hM hS hz => ?_)
  have hM : xh G (va_up M_2 g (some (r, .inr (1, [.int 0, .int 0, .int 0, .int hi])))) H := hM
  obtain ⟨M_3, eM_3⟩ : ∃ z : xM, z = va_up M_2 g (some (r, .inr (1, [.int 0, .int 0, .int 0, .int hi]))) := ⟨_, rfl⟩
  rw [← eM_3] at hM
  have hg := xw_atE eM_3
  refine lv_aload_n hx hb d_Rob_clear_15 rfl (lv_at hl 0 rfl) ?_
  refine lv_iconst (v := 0) hx hb d_Rob_clear_16 (by decide) ?_
  refine x_put (C := R_Rob) (T := F_Rob) (N := 4) (ty := .int) (v := .int 0) hx hb hw i_Rob t_Rob t_Rob_ok n_Rob hown hK.1 hM hS hg rfl 3 (by decide) (hw _ kw_38) rfl rfl (by decide +kernel) rfl rfl (Nat.le_of_ble_eq_true rfl) d_Rob_clear_17 (fun H locs hM hS hz => ?_)
  have hM : xh G (va_up M_3 g (some (r, .inr (1, [.int 0, .int 0, .int 0, .int 0])))) H := hM
  obtain ⟨M_4, eM_4⟩ : ∃ z : xM, z = va_up M_3 g (some (r, .inr (1, [.int 0, .int 0, .int 0, .int 0]))) := ⟨_, rfl⟩
  rw [← eM_4] at hM
  have hg := xw_atE eM_4
  exact x_rv hE rfl hM hS (by rw [eM_4, eM_3, eM_2, eM_1]; simp only [bx_uu]) (by omega) (by omega) d_Rob_clear_20

set_option maxHeartbeats 4000000 in
set_option maxRecDepth 100000 in
theorem c_Rob_take (l : Launch) (G : xG) (M : xM) (g r : Nat) (t0 s0 lo hi : Int32) (hg : M g = some (r, .inr (1, [.int t0, .int s0, .int lo, .int hi]))) (v : Int32) : Met l y_Rob_take w_Rob_take ({ frames := 1, cells := 0, slots := 0, locals := 20 }) (xP G [.ref g, .int v] M) (xQv G (fun M' => M' = va_up M g (some (r, .inr (1, [.int (t0 + 1), .int (s0 + v), .int (if t0 = 0 then v else zMin lo v), .int (if t0 = 0 then v else zMax hi v)]))))) 0 0 (xF G) := by
  refine x_met (by decide) (Nat.le_of_ble_eq_true rfl) ?_
  intro p e s m below meth c ls hE hin hl hM hK hS
  obtain ⟨hx, hb, hr, hml, hown, hw, hlocks⟩ := id hE
  have hl : lv_has ls 2 [(0, .ref g), (1, .int v)] := hl
  refine lv_aload_n hx hb d_Rob_take_0 rfl (lv_at hl 0 rfl) ?_
  refine lv_aload_n hx hb d_Rob_take_1 rfl (lv_at hl 0 rfl) ?_
  refine x_get (C := R_Rob) (T := F_Rob) (N := 4) hx hb hw i_Rob hown hK.1 hM hg rfl 0 (by decide) (hw _ kw_34) rfl rfl d_Rob_take_2 ?_
  refine lv_if_ne (tgt := 12) hx hb d_Rob_take_5 (by decide) (fun c_5 => ?_) (fun c_5 => ?_)
  · refine lv_aload_n hx hb d_Rob_take_12 rfl (lv_at hl 0 rfl) ?_
    refine x_get (C := R_Rob) (T := F_Rob) (N := 4) hx hb hw i_Rob hown hK.1 hM hg rfl 2 (by decide) (hw _ kw_37) rfl rfl d_Rob_take_13 ?_
    refine lv_iload_n hx hb d_Rob_take_16 rfl (lv_at hl 1 rfl) ?_
    refine va_mmin hx hb (hml.trans hl.1.symm) hown (hw _ kw_353) (hw _ kJ_min') (hw _ kJ_M) (hw _ kJ_min) (by decide) (Nat.le_of_ble_eq_true rfl) (by omega) (by omega) d_Rob_take_17 ?_
    refine W.eq (g2 := F0 m 20 ls [.int (zMin lo v), .ref g]) rfl ?_
    refine x_put (C := R_Rob) (T := F_Rob) (N := 4) (ty := .int) (v := .int (zMin lo v)) hx hb hw i_Rob t_Rob t_Rob_ok n_Rob hown hK.1 hM hS hg rfl 2 (by decide) (hw _ kw_37) rfl rfl (by decide +kernel) rfl rfl (Nat.le_of_ble_eq_true rfl) d_Rob_take_20 (fun H locs hM hS hz => ?_)
    have hM : xh G (va_up M g (some (r, .inr (1, [.int t0, .int s0, .int (zMin lo v), .int hi])))) H := hM
    obtain ⟨M_1, eM_1⟩ : ∃ z : xM, z = va_up M g (some (r, .inr (1, [.int t0, .int s0, .int (zMin lo v), .int hi]))) := ⟨_, rfl⟩
    rw [← eM_1] at hM
    have hg := xw_atE eM_1
    refine lv_aload_n hx hb d_Rob_take_23 rfl (lv_at hl 0 rfl) ?_
    refine lv_aload_n hx hb d_Rob_take_24 rfl (lv_at hl 0 rfl) ?_
    refine x_get (C := R_Rob) (T := F_Rob) (N := 4) hx hb hw i_Rob hown hK.1 hM hg rfl 0 (by decide) (hw _ kw_34) rfl rfl d_Rob_take_25 ?_
    refine lv_if_ne (tgt := 35) hx hb d_Rob_take_28 (by decide) (fun c_28 => ?_) (fun c_28 => ?_)
    · refine lv_aload_n hx hb d_Rob_take_35 rfl (lv_at hl 0 rfl) ?_
      refine x_get (C := R_Rob) (T := F_Rob) (N := 4) hx hb hw i_Rob hown hK.1 hM hg rfl 3 (by decide) (hw _ kw_38) rfl rfl d_Rob_take_36 ?_
      refine lv_iload_n hx hb d_Rob_take_39 rfl (lv_at hl 1 rfl) ?_
      refine va_mmax hx hb (hml.trans hl.1.symm) hown (hw _ kw_354) (hw _ kJ_max') (hw _ kJ_M) (hw _ kJ_max) (by decide) (Nat.le_of_ble_eq_true rfl) (by omega) (by omega) d_Rob_take_40 ?_
      refine W.eq (g2 := F0 m 43 ls [.int (zMax hi v), .ref g]) rfl ?_
      refine x_put (C := R_Rob) (T := F_Rob) (N := 4) (ty := .int) (v := .int (zMax hi v)) hx hb hw i_Rob t_Rob t_Rob_ok n_Rob hown hK.1 hM hS hg rfl 3 (by decide) (hw _ kw_38) rfl rfl (by decide +kernel) rfl rfl (Nat.le_of_ble_eq_true rfl) d_Rob_take_43 (fun H locs hM hS hz => ?_)
      have hM : xh G (va_up M_1 g (some (r, .inr (1, [.int t0, .int s0, .int (zMin lo v), .int (zMax hi v)])))) H := hM
      obtain ⟨M_2, eM_2⟩ : ∃ z : xM, z = va_up M_1 g (some (r, .inr (1, [.int t0, .int s0, .int (zMin lo v), .int (zMax hi v)]))) := ⟨_, rfl⟩
      rw [← eM_2] at hM
      have hg := xw_atE eM_2
      refine lv_aload_n hx hb d_Rob_take_46 rfl (lv_at hl 0 rfl) ?_
      refine lv_dup hx hb d_Rob_take_47 rfl ?_
      refine x_get (C := R_Rob) (T := F_Rob) (N := 4) hx hb hw i_Rob hown hK.1 hM hg rfl 1 (by decide) (hw _ kw_36) rfl rfl d_Rob_take_48 ?_
      refine lv_iload_n hx hb d_Rob_take_51 rfl (lv_at hl 1 rfl) ?_
      refine lv_iadd hx hb d_Rob_take_52 ?_
      refine x_put (C := R_Rob) (T := F_Rob) (N := 4) (ty := .int) (v := .int (s0 + v)) hx hb hw i_Rob t_Rob t_Rob_ok n_Rob hown hK.1 hM hS hg rfl 1 (by decide) (hw _ kw_36) rfl rfl (by decide +kernel) rfl rfl (Nat.le_of_ble_eq_true rfl) d_Rob_take_53 (fun H locs hM hS hz => ?_)
      have hM : xh G (va_up M_2 g (some (r, .inr (1, [.int t0, .int (s0 + v), .int (zMin lo v), .int (zMax hi v)])))) H := hM
      obtain ⟨M_3, eM_3⟩ : ∃ z : xM, z = va_up M_2 g (some (r, .inr (1, [.int t0, .int (s0 + v), .int (zMin lo v), .int (zMax hi v)]))) := ⟨_, rfl⟩
      rw [← eM_3] at hM
      have hg := xw_atE eM_3
      refine lv_aload_n hx hb d_Rob_take_56 rfl (lv_at hl 0 rfl) ?_
      refine lv_dup hx hb d_Rob_take_57 rfl ?_
      refine x_get (C := R_Rob) (T := F_Rob) (N := 4) hx hb hw i_Rob hown hK.1 hM hg rfl 0 (by decide) (hw _ kw_34) rfl rfl d_Rob_take_58 ?_
      refine lv_iconst (v := 1) hx hb d_Rob_take_61 (by decide) ?_
      refine lv_iadd hx hb d_Rob_take_62 ?_
      refine x_put (C := R_Rob) (T := F_Rob) (N := 4) (ty := .int) (v := .int (t0 + 1)) hx hb hw i_Rob t_Rob t_Rob_ok n_Rob hown hK.1 hM hS hg rfl 0 (by decide) (hw _ kw_34) rfl rfl (by decide +kernel) rfl rfl (Nat.le_of_ble_eq_true rfl) d_Rob_take_63 (fun H locs hM hS hz => ?_)
      have hM : xh G (va_up M_3 g (some (r, .inr (1, [.int (t0 + 1), .int (s0 + v), .int (zMin lo v), .int (zMax hi v)])))) H := hM
      obtain ⟨M_4, eM_4⟩ : ∃ z : xM, z = va_up M_3 g (some (r, .inr (1, [.int (t0 + 1), .int (s0 + v), .int (zMin lo v), .int (zMax hi v)]))) := ⟨_, rfl⟩
      rw [← eM_4] at hM
      have hg := xw_atE eM_4
      exact x_rv hE rfl hM hS (by rw [eM_4, eM_3, eM_2, eM_1]; simp only [bx_uu, if_neg c_5]) (by omega) (by omega) d_Rob_take_66
    · exact absurd c_28 c_5
  · refine lv_iload_n hx hb d_Rob_take_8 rfl (lv_at hl 1 rfl) ?_
    refine lv_goto (tgt := 20) hx hb d_Rob_take_9 (by decide) ?_
    refine x_put (C := R_Rob) (T := F_Rob) (N := 4) (ty := .int) (v := .int v) hx hb hw i_Rob t_Rob t_Rob_ok n_Rob hown hK.1 hM hS hg rfl 2 (by decide) (hw _ kw_37) rfl rfl (by decide +kernel) rfl rfl (Nat.le_of_ble_eq_true rfl) d_Rob_take_20 (fun H locs hM hS hz => ?_)
    have hM : xh G (va_up M g (some (r, .inr (1, [.int t0, .int s0, .int v, .int hi])))) H := hM
    obtain ⟨M_1, eM_1⟩ : ∃ z : xM, z = va_up M g (some (r, .inr (1, [.int t0, .int s0, .int v, .int hi]))) := ⟨_, rfl⟩
    rw [← eM_1] at hM
    have hg := xw_atE eM_1
    refine lv_aload_n hx hb d_Rob_take_23 rfl (lv_at hl 0 rfl) ?_
    refine lv_aload_n hx hb d_Rob_take_24 rfl (lv_at hl 0 rfl) ?_
    refine x_get (C := R_Rob) (T := F_Rob) (N := 4) hx hb hw i_Rob hown hK.1 hM hg rfl 0 (by decide) (hw _ kw_34) rfl rfl d_Rob_take_25 ?_
    refine lv_if_ne (tgt := 35) hx hb d_Rob_take_28 (by decide) (fun c_28 => ?_) (fun c_28 => ?_)
    · exact absurd c_5 c_28
    · refine lv_iload_n hx hb d_Rob_take_31 rfl (lv_at hl 1 rfl) ?_
      refine lv_goto (tgt := 43) hx hb d_Rob_take_32 (by decide) ?_
      refine x_put (C := R_Rob) (T := F_Rob) (N := 4) (ty := .int) (v := .int v) hx hb hw i_Rob t_Rob t_Rob_ok n_Rob hown hK.1 hM hS hg rfl 3 (by decide) (hw _ kw_38) rfl rfl (by decide +kernel) rfl rfl (Nat.le_of_ble_eq_true rfl) d_Rob_take_43 (fun H locs hM hS hz => ?_)
      have hM : xh G (va_up M_1 g (some (r, .inr (1, [.int t0, .int s0, .int v, .int v])))) H := hM
      obtain ⟨M_2, eM_2⟩ : ∃ z : xM, z = va_up M_1 g (some (r, .inr (1, [.int t0, .int s0, .int v, .int v]))) := ⟨_, rfl⟩
      rw [← eM_2] at hM
      have hg := xw_atE eM_2
      refine lv_aload_n hx hb d_Rob_take_46 rfl (lv_at hl 0 rfl) ?_
      refine lv_dup hx hb d_Rob_take_47 rfl ?_
      refine x_get (C := R_Rob) (T := F_Rob) (N := 4) hx hb hw i_Rob hown hK.1 hM hg rfl 1 (by decide) (hw _ kw_36) rfl rfl d_Rob_take_48 ?_
      refine lv_iload_n hx hb d_Rob_take_51 rfl (lv_at hl 1 rfl) ?_
      refine lv_iadd hx hb d_Rob_take_52 ?_
      refine x_put (C := R_Rob) (T := F_Rob) (N := 4) (ty := .int) (v := .int (s0 + v)) hx hb hw i_Rob t_Rob t_Rob_ok n_Rob hown hK.1 hM hS hg rfl 1 (by decide) (hw _ kw_36) rfl rfl (by decide +kernel) rfl rfl (Nat.le_of_ble_eq_true rfl) d_Rob_take_53 (fun H locs hM hS hz => ?_)
      have hM : xh G (va_up M_2 g (some (r, .inr (1, [.int t0, .int (s0 + v), .int v, .int v])))) H := hM
      obtain ⟨M_3, eM_3⟩ : ∃ z : xM, z = va_up M_2 g (some (r, .inr (1, [.int t0, .int (s0 + v), .int v, .int v]))) := ⟨_, rfl⟩
      rw [← eM_3] at hM
      have hg := xw_atE eM_3
      refine lv_aload_n hx hb d_Rob_take_56 rfl (lv_at hl 0 rfl) ?_
      refine lv_dup hx hb d_Rob_take_57 rfl ?_
      refine x_get (C := R_Rob) (T := F_Rob) (N := 4) hx hb hw i_Rob hown hK.1 hM hg rfl 0 (by decide) (hw _ kw_34) rfl rfl d_Rob_take_58 ?_
      refine lv_iconst (v := 1) hx hb d_Rob_take_61 (by decide) ?_
      refine lv_iadd hx hb d_Rob_take_62 ?_
      refine x_put (C := R_Rob) (T := F_Rob) (N := 4) (ty := .int) (v := .int (t0 + 1)) hx hb hw i_Rob t_Rob t_Rob_ok n_Rob hown hK.1 hM hS hg rfl 0 (by decide) (hw _ kw_34) rfl rfl (by decide +kernel) rfl rfl (Nat.le_of_ble_eq_true rfl) d_Rob_take_63 (fun H locs hM hS hz => ?_)
      have hM : xh G (va_up M_3 g (some (r, .inr (1, [.int (t0 + 1), .int (s0 + v), .int v, .int v])))) H := hM
      obtain ⟨M_4, eM_4⟩ : ∃ z : xM, z = va_up M_3 g (some (r, .inr (1, [.int (t0 + 1), .int (s0 + v), .int v, .int v]))) := ⟨_, rfl⟩
      rw [← eM_4] at hM
      have hg := xw_atE eM_4
      exact x_rv hE rfl hM hS (by rw [eM_4, eM_3, eM_2, eM_1]; simp only [bx_uu, if_pos c_5]) (by omega) (by omega) d_Rob_take_66

set_option maxHeartbeats 4000000 in
set_option maxRecDepth 100000 in
theorem c_Rob_answer (l : Launch) (G : xG) (M : xM) (g r : Nat) (t0 s0 lo hi : Int32) (hg : M g = some (r, .inr (1, [.int t0, .int s0, .int lo, .int hi]))) : Met l y_Rob_answer w_Rob_answer ({ frames := 0, cells := 0, slots := 0, locals := 0 }) (xP G [.ref g] M) (xQi G (fun v M' => v = zAns t0 s0 lo hi ∧ M' = M)) 0 0 (xF G) := by
  refine x_met (by decide) (Nat.le_of_ble_eq_true rfl) ?_
  intro p e s m below meth c ls hE hin hl hM hK hS
  obtain ⟨hx, hb, hr, hml, hown, hw, hlocks⟩ := id hE
  have hl : lv_has ls 1 [(0, .ref g)] := hl
  refine lv_aload_n hx hb d_Rob_answer_0 rfl (lv_at hl 0 rfl) ?_
  refine x_get (C := R_Rob) (T := F_Rob) (N := 4) hx hb hw i_Rob hown hK.1 hM hg rfl 0 (by decide) (hw _ kw_34) rfl rfl d_Rob_answer_1 ?_
  refine lv_if_gt (tgt := 9) hx hb d_Rob_answer_4 (by decide) (fun c_4 => ?_) (fun c_4 => ?_)
  · refine lv_aload_n hx hb d_Rob_answer_9 rfl (lv_at hl 0 rfl) ?_
    refine x_get (C := R_Rob) (T := F_Rob) (N := 4) hx hb hw i_Rob hown hK.1 hM hg rfl 0 (by decide) (hw _ kw_34) rfl rfl d_Rob_answer_10 ?_
    refine lv_iconst (v := 2) hx hb d_Rob_answer_13 (by decide) ?_
    refine lv_icmp_gt (tgt := 27) hx hb d_Rob_answer_14 (by decide) (fun c_14 => ?_) (fun c_14 => ?_)
    · refine lv_aload_n hx hb d_Rob_answer_27 rfl (lv_at hl 0 rfl) ?_
      refine x_get (C := R_Rob) (T := F_Rob) (N := 4) hx hb hw i_Rob hown hK.1 hM hg rfl 1 (by decide) (hw _ kw_36) rfl rfl d_Rob_answer_28 ?_
      refine lv_aload_n hx hb d_Rob_answer_31 rfl (lv_at hl 0 rfl) ?_
      refine x_get (C := R_Rob) (T := F_Rob) (N := 4) hx hb hw i_Rob hown hK.1 hM hg rfl 2 (by decide) (hw _ kw_37) rfl rfl d_Rob_answer_32 ?_
      refine lv_isub hx hb d_Rob_answer_35 ?_
      refine lv_aload_n hx hb d_Rob_answer_36 rfl (lv_at hl 0 rfl) ?_
      refine x_get (C := R_Rob) (T := F_Rob) (N := 4) hx hb hw i_Rob hown hK.1 hM hg rfl 3 (by decide) (hw _ kw_38) rfl rfl d_Rob_answer_37 ?_
      refine lv_isub hx hb d_Rob_answer_40 ?_
      refine lv_aload_n hx hb d_Rob_answer_41 rfl (lv_at hl 0 rfl) ?_
      refine x_get (C := R_Rob) (T := F_Rob) (N := 4) hx hb hw i_Rob hown hK.1 hM hg rfl 0 (by decide) (hw _ kw_34) rfl rfl d_Rob_answer_42 ?_
      refine lv_iconst (v := 2) hx hb d_Rob_answer_45 (by decide) ?_
      refine lv_isub hx hb d_Rob_answer_46 ?_
      refine lv_idiv hx hb d_Rob_answer_47 (fun h9 => absurd c_14 (by rw [z_m2 h9]; decide)) ?_
      exact x_ri hE rfl hM hS ⟨by unfold zAns; rw [if_neg (not_not_intro c_4), if_neg (not_not_intro c_14)], rfl⟩ (by omega) (by omega) d_Rob_answer_48
    · refine lv_aload_n hx hb d_Rob_answer_17 rfl (lv_at hl 0 rfl) ?_
      refine x_get (C := R_Rob) (T := F_Rob) (N := 4) hx hb hw i_Rob hown hK.1 hM hg rfl 1 (by decide) (hw _ kw_36) rfl rfl d_Rob_answer_18 ?_
      refine lv_aload_n hx hb d_Rob_answer_21 rfl (lv_at hl 0 rfl) ?_
      refine x_get (C := R_Rob) (T := F_Rob) (N := 4) hx hb hw i_Rob hown hK.1 hM hg rfl 0 (by decide) (hw _ kw_34) rfl rfl d_Rob_answer_22 ?_
      refine lv_idiv hx hb d_Rob_answer_25 (by intro h9; rw [h9] at c_4; exact absurd c_4 (by decide)) ?_
      exact x_ri hE rfl hM hS ⟨by unfold zAns; rw [if_neg (not_not_intro c_4), if_pos c_14], rfl⟩ (by omega) (by omega) d_Rob_answer_26
  · refine lv_iconst (v := (-1)) hx hb d_Rob_answer_7 (by decide) ?_
    exact x_ri hE rfl hM hS ⟨by unfold zAns; rw [if_pos c_4], rfl⟩ (by omega) (by omega) d_Rob_answer_8

set_option maxHeartbeats 4000000 in
set_option maxRecDepth 100000 in
theorem c_Row_lastYear (l : Launch) (G : xG) (M : xM) (g r : Nat) (a ra : Nat) (n : Nat) (f : Nat → Int32) (st : Int32) (hg : M g = some (r, .inr (2, [.ref a, .int st]))) (ha : M a = some (ra, .inl (gI G, n, .inl f))) : Met l y_Row_lastYear w_Row_lastYear ({ frames := 0, cells := 0, slots := 0, locals := 0 }) (xP G [.ref g] M) (xQi G (fun v M' => v = st + nI n - 1 ∧ M' = M)) 0 0 (xF G) := by
  refine x_met (by decide) (Nat.le_of_ble_eq_true rfl) ?_
  intro p e s m below meth c ls hE hin hl hM hK hS
  obtain ⟨hx, hb, hr, hml, hown, hw, hlocks⟩ := id hE
  have hl : lv_has ls 1 [(0, .ref g)] := hl
  refine lv_aload_n hx hb d_Row_lastYear_0 rfl (lv_at hl 0 rfl) ?_
  refine x_get (C := R_Row) (T := F_Row) (N := 2) hx hb hw i_Row hown hK.1 hM hg rfl 1 (by decide) (hw _ kw_217) rfl rfl d_Row_lastYear_1 ?_
  refine lv_aload_n hx hb d_Row_lastYear_4 rfl (lv_at hl 0 rfl) ?_
  refine x_get (C := R_Row) (T := F_Row) (N := 2) hx hb hw i_Row hown hK.1 hM hg rfl 0 (by decide) (hw _ kw_215) rfl rfl d_Row_lastYear_5 ?_
  refine x_alen (v := nI n) hx hb hK.1 hM ha 0 rfl rfl d_Row_lastYear_8 ?_
  refine lv_iadd hx hb d_Row_lastYear_9 ?_
  refine lv_iconst (v := 1) hx hb d_Row_lastYear_10 (by decide) ?_
  refine lv_isub hx hb d_Row_lastYear_11 ?_
  exact x_ri hE rfl hM hS ⟨rfl, rfl⟩ (by omega) (by omega) d_Row_lastYear_12

set_option maxHeartbeats 4000000 in
set_option maxRecDepth 100000 in
theorem c_Row_ringIn (l : Launch) (G : xG) (M : xM) (g r : Nat) (a ra : Nat) (n : Nat) (f : Nat → Int32) (st : Int32) (hg : M g = some (r, .inr (2, [.ref a, .int st]))) (ha : M a = some (ra, .inl (gI G, n, .inl f))) (hn : n < 2 ^ 31) (x1 x2 : Int32) : Met l y_Row_ringIn w_Row_ringIn ({ frames := 0, cells := 0, slots := 0, locals := 0 }) (xP G [.ref g, .int x1, .int x2] M) (xQi G (fun v M' => v = zRing n f (x1 - x2) ∧ M' = M)) 0 0 (xF G) := by
  refine x_met (by decide) (Nat.le_of_ble_eq_true rfl) ?_
  intro p e s m below meth c ls hE hin hl hM hK hS
  obtain ⟨hx, hb, hr, hml, hown, hw, hlocks⟩ := id hE
  have hl : lv_has ls 4 [(0, .ref g), (1, .int x1), (2, .int x2)] := hl
  refine lv_iload_n hx hb d_Row_ringIn_0 rfl (lv_at hl 1 rfl) ?_
  refine lv_iload_n hx hb d_Row_ringIn_1 rfl (lv_at hl 2 rfl) ?_
  refine lv_isub hx hb d_Row_ringIn_2 ?_
  refine lv_istore_n (lv' := [(3, .int (x1 - x2)), (0, .ref g), (1, .int x1), (2, .int x2)]) hx hb d_Row_ringIn_3 rfl hl (by decide) rfl (fun ls hl => ?_)
  refine lv_iload_n hx hb d_Row_ringIn_4 rfl (lv_at hl 0 rfl) ?_
  refine lv_if_lt (tgt := 26) hx hb d_Row_ringIn_5 (by decide) (fun c_5 => ?_) (fun c_5 => ?_)
  · refine lv_iconst (v := (-1)) hx hb d_Row_ringIn_26 (by decide) ?_
    exact x_ri hE rfl hM hS ⟨by unfold zRing; rw [if_pos c_5], rfl⟩ (by omega) (by omega) d_Row_ringIn_27
  · refine lv_iload_n hx hb d_Row_ringIn_8 rfl (lv_at hl 0 rfl) ?_
    refine lv_aload_n hx hb d_Row_ringIn_9 rfl (lv_at hl 1 rfl) ?_
    refine x_get (C := R_Row) (T := F_Row) (N := 2) hx hb hw i_Row hown hK.1 hM hg rfl 0 (by decide) (hw _ kw_215) rfl rfl d_Row_ringIn_10 ?_
    refine x_alen (v := nI n) hx hb hK.1 hM ha 0 rfl rfl d_Row_ringIn_13 ?_
    refine lv_icmp_ge (tgt := 26) hx hb d_Row_ringIn_14 (by decide) (fun c_14 => ?_) (fun c_14 => ?_)
    · refine lv_iconst (v := (-1)) hx hb d_Row_ringIn_26 (by decide) ?_
      exact x_ri hE rfl hM hS ⟨by unfold zRing; rw [if_neg c_5, if_pos c_14], rfl⟩ (by omega) (by omega) d_Row_ringIn_27
    · refine lv_aload_n hx hb d_Row_ringIn_17 rfl (lv_at hl 1 rfl) ?_
      refine x_get (C := R_Row) (T := F_Row) (N := 2) hx hb hw i_Row hown hK.1 hM hg rfl 0 (by decide) (hw _ kw_215) rfl rfl d_Row_ringIn_18 ?_
      refine lv_iload_n hx hb d_Row_ringIn_21 rfl (lv_at hl 0 rfl) ?_
      refine x_iald hx hb hK.1 hM ha 0 rfl (z_ix c_5 c_14 hn).2 (z_ix c_5 c_14 hn).1 hn d_Row_ringIn_22 ?_
      refine lv_goto (tgt := 27) hx hb d_Row_ringIn_23 (by decide) ?_
      exact x_ri hE rfl hM hS ⟨by unfold zRing; rw [if_neg c_5, if_neg c_14], rfl⟩ (by omega) (by omega) d_Row_ringIn_27
end
section
section ZU
abbrev zS : Type := (Nat × (Nat → Int32)) × (Nat × (Nat → Nat) × (Nat → Nat → Int32) × (Nat → Int32)) × (Nat × (Nat → Nat → Int32)) × (Nat → Int32)
abbrev zpn (u : zS) : Nat := u.1.1
abbrev zpd (u : zS) : Nat → Int32 := u.1.2
abbrev zrn (u : zS) : Nat := u.2.1.1
abbrev zln (u : zS) : Nat → Nat := u.2.1.2.1
abbrev zev (u : zS) : Nat → Nat → Int32 := u.2.1.2.2.1
abbrev zst (u : zS) : Nat → Int32 := u.2.1.2.2.2
abbrev zmn (u : zS) : Nat := u.2.2.1.1
abbrev zms (u : zS) : Nat → Nat → Int32 := u.2.2.1.2
abbrev zwt (u : zS) : Nat → Int32 := u.2.2.2
abbrev zQ : Type := Int32 × Int32 × Int32 × Int32
def zTk (q : zQ) (v : Int32) : zQ := (q.1 + 1, q.2.1 + v, if q.1 = 0 then v else zMin q.2.2.1 v, if q.1 = 0 then v else zMax q.2.2.2 v)
def zGs (ln : Nat → Nat) (ev : Nat → Nat → Int32) (b : Nat → Int32) (y wo : Int32) (i : Nat) (q : zQ) : zQ := if nI i = wo then q else if b i = -1 then q else if zRing (ln i) (ev i) (y - b i) = -1 then q else zTk q (zRing (ln i) (ev i) (y - b i))
def zGat (ln : Nat → Nat) (ev : Nat → Nat → Int32) (b : Nat → Int32) (y wo : Int32) : Nat → zQ
  | 0 => (0, 0, 0, 0)
  | i + 1 => zGs ln ev b y wo i (zGat ln ev b y wo i)
def zAq (q : zQ) : Int32 := zAns q.1 q.2.1 q.2.2.1 q.2.2.2
def zFst (b : Nat → Int32) : Nat → Int32
  | 0 => 500
  | i + 1 => if b i = -1 then zFst b i else zMin (zFst b i) (b i)
def zLst (ln : Nat → Nat) (b : Nat → Int32) : Nat → Int32
  | 0 => 0
  | i + 1 => if b i = -1 then zLst ln b i else zMax (zLst ln b i) (b i + nI (ln i) - 1)
def zCnt (b : Nat → Int32) : Nat → Nat
  | 0 => 0
  | i + 1 => if b i = -1 then zCnt b i else zCnt b i + 1
def zrw (ad : Nat → Nat) (b n : Nat) : Nat → Option Nat := fun i => if i < n then some (ad (b + i)) else none
theorem zrw_lt {ad : Nat → Nat} {b n i : Nat} (h : i < n) : va_rf (zrw ad b n i) = .ref (ad (b + i)) := by simp [zrw, h, va_rf]
abbrev eRob (q : zQ) : va_E := .inr (1, [.int q.1, .int q.2.1, .int q.2.2.1, .int q.2.2.2])
abbrev eGap (q : Int32 × Int32) : va_E := .inr (0, [.int q.1, .int q.2])
abbrev eI (G : xG) (n : Nat) (f : Nat → Int32) : va_E := .inl (gI G, n, .inl f)
abbrev eQ (c : ClassId) (n : Nat) (f : Nat → Option Nat) : va_E := .inl (c, n, .inr (.inr (.inr (.inr f))))
def zYn (ln : Nat → Nat) (b : Nat → Int32) : Nat := (zLst ln b 10 - zFst b 10 + 1).toNatClampNeg
def CoreO (G : xG) (M : xM) (ad : Nat → Nat) (u : zS) : Prop := M (ad 0) = some (0, .inr (4, [.ref (ad 1), .int (nI (zpn u)), .ref (ad 2), .int (nI (zrn u)), .ref (ad 3), .int (nI (zmn u)), .ref (ad 4), .ref (ad 5), .ref (ad 6), .ref (ad 7), .ref (ad 8), .ref (ad 9)]))
def CoreR (G : xG) (M : xM) (ad : Nat → Nat) (u : zS) (i : Nat) : Prop := M (ad (20 + i)) = some (20 + i, .inr (2, [.ref (ad (30 + i)), .int (zst u i)])) ∧ M (ad (30 + i)) = some (30 + i, eI G (zln u i) (zev u i))
def CoreM (G : xG) (M : xM) (ad : Nat → Nat) (u : zS) (j : Nat) : Prop := M (ad (40 + j)) = some (40 + j, .inr (3, [.ref (ad (50 + j)), .int (zFst (zms u j) 10), .int (zLst (zln u) (zms u j) 10), .int (nI (zCnt (zms u j) 10)), .ref (ad (60 + j)), .ref (ad (70 + j))])) ∧
  M (ad (50 + j)) = some (50 + j, eI G 10 (zms u j)) ∧ ∃ V D : Nat → Int32, M (ad (60 + j)) = some (60 + j, eI G (zYn (zln u) (zms u j)) V) ∧ M (ad (70 + j)) = some (70 + j, eI G (zYn (zln u) (zms u j)) D) ∧
  ∀ k, k < zYn (zln u) (zms u j) → V k = zAq (zGat (zln u) (zev u) (zms u j) (zFst (zms u j) 10 + nI k) (-1) 10) ∧ D k = (zGat (zln u) (zev u) (zms u j) (zFst (zms u j) 10 + nI k) (-1) 10).1
def Core (G : xG) (M : xM) (ad : Nat → Nat) (u : zS) : Prop := CoreO G M ad u ∧ M (ad 1) = some (1, eI G 30 (zpd u)) ∧ M (ad 2) = some (2, eQ (gR G) 10 (zrw ad 20 (zrn u))) ∧ M (ad 3) = some (3, eQ (gM G) 8 (zrw ad 40 (zmn u))) ∧ M (ad 4) = some (4, eI G 61 (zwt u)) ∧ M (ad 8) = some (8, eQ (gG G) 8 (zrw ad 10 8)) ∧
  (∀ i, i < zrn u → CoreR G M ad u i) ∧ (∀ j, j < zmn u → CoreM G M ad u j)
def Scr (G : xG) (M : xM) (ad : Nat → Nat) : Prop := (∃ q : zQ, M (ad 5) = some (5, eRob q)) ∧ (∃ q : Int32 × Int32, M (ad 6) = some (6, eGap q)) ∧ (∃ q : Int32 × Int32, M (ad 7) = some (7, eGap q)) ∧ (∃ f : Nat → Int32, M (ad 9) = some (9, eI G 8 f)) ∧ ∀ i, i < 8 → ∃ q : Int32 × Int32, M (ad (10 + i)) = some (10 + i, eGap q)
def zScr (r : Nat) : Bool := r == 5 || r == 6 || r == 7 || r == 9 || (decide (10 ≤ r) && decide (r < 20))
def xKeep (M M' : xM) : Prop := ∀ (a r : Nat) (e : va_E), M a = some (r, e) → zScr r = false → M' a = some (r, e)
theorem xKeep.refl {M : xM} : xKeep M M := fun _ _ _ h _ => h
theorem xKeep.trans {M M1 M2 : xM} (h1 : xKeep M M1) (h2 : xKeep M1 M2) : xKeep M M2 := fun a r e h hr => h2 a r e (h1 a r e h hr) hr
theorem xKeep.up {M : xM} {a r : Nat} {e : va_E} {x : Option (Nat × va_E)} (ha : M a = some (r, e)) (hr : zScr r = true) : xKeep M (va_up M a x) := fun b r' e' hb hs => xw_up hb ha (fun z => by rw [z, hr] at hs; cases hs)
theorem zS_c {r : Nat} (h : 20 ≤ r) : zScr r = false := by
  simp only [zScr, Bool.or_eq_false_iff, Bool.and_eq_false_iff, beq_eq_false_iff_ne, decide_eq_false_iff_not]
  omega
theorem Core.keep {G : xG} {M M' : xM} {ad : Nat → Nat} {u : zS} (h : Core G M ad u) (hk : xKeep M M') : Core G M' ad u := by
  obtain ⟨h0, h1, h2, h3, h4, h8, hR, hM⟩ := h
  refine ⟨hk _ _ _ h0 rfl, hk _ _ _ h1 rfl, hk _ _ _ h2 rfl, hk _ _ _ h3 rfl, hk _ _ _ h4 rfl, hk _ _ _ h8 rfl, fun i hi => ⟨hk _ _ _ (hR i hi).1 (zS_c (by omega)), hk _ _ _ (hR i hi).2 (zS_c (by omega))⟩, fun j hj => ?_⟩
  obtain ⟨m1, m2, V, D, m3, m4, m5⟩ := hM j hj
  exact ⟨hk _ _ _ m1 (zS_c (by omega)), hk _ _ _ m2 (zS_c (by omega)), V, D, hk _ _ _ m3 (zS_c (by omega)), hk _ _ _ m4 (zS_c (by omega)), m5⟩
def inR (x : Int32) (a b : Int) : Prop := a ≤ x.toInt ∧ x.toInt ≤ b
def zOk (u : zS) : Prop := zpn u ≤ 30 ∧ (∀ i, i < zpn u → inR (zpd u i) 1 900) ∧ zrn u ≤ 10 ∧ (∀ i, i < zrn u → 3 ≤ zln u i ∧ zln u i ≤ 30 ∧ (∀ k, k < zln u i → inR (zev u i k) 0 400) ∧ inR (zst u i) (-1) 500) ∧ zmn u ≤ 8 ∧
  (∀ j, j < zmn u → (∀ i, i < 10 → inR (zms u j i) (-1) 500 ∧ (zms u j i ≠ -1 → i < zrn u)) ∧ ∃ i, i < 10 ∧ zms u j i ≠ -1) ∧ ∀ i, i < 61 → inR (zwt u i) 0 10000
end ZU
end
section
set_option maxHeartbeats 4000000 in
set_option maxRecDepth 100000 in
theorem lp_Rm_gather {p : Program} {l : Launch} {e : Env} {s : State} {m : MethodId} {below : List Frame} {meth : Method} {c : Code} {args : Array Value} {G : xG} {M : xM} (ad : Nat → Nat) (u : zS) (hC : Core G M ad u) (hO : zOk u) (sa rs : Nat) (B : Nat → Int32) (y wo : Int32) (hsa : M sa = some (rs, eI G 10 B)) (hrs : rs ≠ 5) (q0 : zQ) (hq : M (ad 5) = some (5, eRob q0)) (hE : xE p s m args meth c b_Rm_gather none 6 R_Rm) (hK : KX G s) : ∀ (n i : Nat), i ≤ zrn u → zrn u + 1 ≤ i + n → ∀ (H : Heap) (locs : List Loc) (ls : Array Slot), xh G (va_up M (ad 5) (some (5, eRob (zGat (zln u) (zev u) B y wo i)))) H → va_S (xF G) s.heap H locs → lv_has ls 6 [(0, .ref (ad 0)), (1, .ref sa), (2, .int y), (3, .int wo), (4, .int (nI i))] → W p l e ({ frames := 2, cells := 0, slots := 0, locals := 41 }) s m args below meth c H locs 0 0 (MQ below (xQv G (fun M' => M' = va_up M (ad 5) (some (5, eRob (zGat (zln u) (zev u) B y wo (zrn u)))))) args s 0 0 (xF G)) (F0 m 10 ls []) := by
  obtain ⟨hx, hb, hr, hml, hown, hw, hlocks⟩ := id hE
  have hrn : zrn u ≤ 10 := hO.2.2.1
  intro n
  induction n with
  | zero =>
    intro i h1 h2
    exact absurd h2 (by omega)
  | succ n ih =>
    intro i hi hin H locs ls hM hS hl
    obtain ⟨Mi, eMi⟩ : ∃ z : xM, z = va_up M (ad 5) (some (5, eRob (zGat (zln u) (zev u) B y wo i))) := ⟨_, rfl⟩
    rw [← eMi] at hM
    obtain ⟨q, eq⟩ : ∃ z : zQ, z = zGat (zln u) (zev u) B y wo i := ⟨_, rfl⟩
    rw [← eq] at eMi
    have c_o : Mi (ad 0) = some (0, .inr (4, [.ref (ad 1), .int (nI (zpn u)), .ref (ad 2), .int (nI (zrn u)), .ref (ad 3), .int (nI (zmn u)), .ref (ad 4), .ref (ad 5), .ref (ad 6), .ref (ad 7), .ref (ad 8), .ref (ad 9)])) := xw_upE eMi hC.1 hq (by decide)
    have c_rows := xw_upE eMi hC.2.2.1 hq (by decide)
    have c_sa := xw_upE eMi hsa hq hrs
    have c_rob := xw_atE eMi
    refine lv_iload hx hb d_Rm_gather_10 (lv_at hl 4 rfl) ?_
    refine lv_aload_n hx hb d_Rm_gather_12 rfl (lv_at hl 1 rfl) ?_
    refine x_alen (v := nI 10) hx hb hK.1 hM c_sa 0 rfl rfl d_Rm_gather_13 ?_
    refine lv_icmp_ge (tgt := 81) hx hb d_Rm_gather_14 (by decide) (fun c_14 => ?_) (fun c_14 => ?_)
    · have h14 : 10 ≤ i := (nI_leI (by omega) (by omega)).mp c_14
      exact x_rv hE rfl hM hS (by rw [eMi, eq, show i = zrn u by omega]) (by decide) (by decide) d_Rm_gather_81
    · refine lv_iload hx hb d_Rm_gather_17 (lv_at hl 4 rfl) ?_
      refine lv_aload_n hx hb d_Rm_gather_19 rfl (lv_at hl 0 rfl) ?_
      refine x_get (C := R_Rm) (T := F_Rm) (N := 12) hx hb hw i_Rm hown hK.1 hM c_o rfl 3 (by decide) (hw _ kw_68) rfl rfl d_Rm_gather_20 ?_
      refine lv_icmp_ge (tgt := 81) hx hb d_Rm_gather_23 (by decide) (fun c_23 => ?_) (fun c_23 => ?_)
      · have h23 : zrn u ≤ i := (nI_leI (by omega) (by omega)).mp c_23
        exact x_rv hE rfl hM hS (by rw [eMi, eq, show i = zrn u by omega]) (by decide) (by decide) d_Rm_gather_81
      · have hir : i < zrn u := Nat.not_le.mp (fun h9 => c_23 ((nI_leI (by omega) (by omega)).mpr h9))
        refine lv_iload hx hb d_Rm_gather_26 (lv_at hl 4 rfl) ?_
        refine lv_iload_n hx hb d_Rm_gather_28 rfl (lv_at hl 3 rfl) ?_
        refine lv_icmp_eq (tgt := 75) hx hb d_Rm_gather_29 (by decide) (fun c_29 => ?_) (fun c_29 => ?_)
        · refine lv_iinc (v := (nI (i + 1))) (lv' := [(4, .int (nI (i + 1))), (0, .ref (ad 0)), (1, .ref sa), (2, .int y), (3, .int wo)]) hx hb d_Rm_gather_75 hl (k := 4) rfl (nI_1 i) (by decide) rfl (fun ls hl => ?_)
          refine lv_goto (tgt := 10) hx hb d_Rm_gather_78 (by decide) ?_
          have hz : zGat (zln u) (zev u) B y wo (i + 1) = q := by
            show zGs _ _ _ _ _ _ _ = _
            unfold zGs
            rw [if_pos c_29]
            rw [← eq]
          refine ih (i + 1) hir (by omega) _ _ _ (by rw [hz, ← eMi]; exact hM) hS (lv_sub hl [1, 2, 3, 4, 0] rfl)
        · refine lv_aload_n hx hb d_Rm_gather_32 rfl (lv_at hl 1 rfl) ?_
          refine lv_iload hx hb d_Rm_gather_33 (lv_at hl 4 rfl) ?_
          refine x_iald hx hb hK.1 hM c_sa 0 rfl rfl (by omega) (by omega) d_Rm_gather_35 ?_
          refine lv_iconst (v := (-1)) hx hb d_Rm_gather_36 (by decide) ?_
          refine lv_icmp_ne (tgt := 43) hx hb d_Rm_gather_37 (by decide) (fun c_37 => ?_) (fun c_37 => ?_)
          · refine lv_aload_n hx hb d_Rm_gather_43 rfl (lv_at hl 0 rfl) ?_
            refine x_get (C := R_Rm) (T := F_Rm) (N := 12) hx hb hw i_Rm hown hK.1 hM c_o rfl 2 (by decide) (hw _ kw_67) rfl rfl d_Rm_gather_44 ?_
            refine lv_iload hx hb d_Rm_gather_47 (lv_at hl 4 rfl) ?_
            have hRi := hC.2.2.2.2.2.2.1 i hir
            have hli := (hO.2.2.2.1 i hir).2.1
            have c_row := xw_upE eMi hRi.1 hq (by omega)
            have c_ev := xw_upE eMi hRi.2 hq (by omega)
            refine x_aldq (v := .ref (ad (20 + i))) hx hb hK.1 hM c_rows 2 rfl rfl (by omega) (by omega) (zrw_lt hir) d_Rm_gather_49 ?_
            refine lv_iload_n hx hb d_Rm_gather_50 rfl (lv_at hl 2 rfl) ?_
            refine lv_aload_n hx hb d_Rm_gather_51 rfl (lv_at hl 1 rfl) ?_
            refine lv_iload hx hb d_Rm_gather_52 (lv_at hl 4 rfl) ?_
            refine x_iald hx hb hK.1 hM c_sa 0 rfl rfl (by omega) (by omega) d_Rm_gather_54 ?_
            refine x_ci (x_runV (As := [.int y, .int (B i)]) (rest := []) hE hK hM hl.1 (c_Row_ringIn l G Mi (ad (20 + i)) (20 + i) (ad (30 + i)) (30 + i) (zln u i) (zev u i) (zst u i) c_row c_ev (by omega) y (B i)) c_row rfl kw_345 kw_346 kw_347 kw_10 kw_348 2 rfl rfl rfl (by decide +kernel) ⟨by decide, by decide⟩ rfl (Nat.le_of_ble_eq_true rfl) d_Rm_gather_55 ⟨by decide, by decide⟩) hS (fun r1 M1 H locs hp hM hS => ?_)
            obtain ⟨e_r, e_M⟩ := hp
            have hM : xh G Mi H := e_M ▸ hM
            refine lv_istore (lv' := [(5, .int r1), (0, .ref (ad 0)), (1, .ref sa), (2, .int y), (3, .int wo), (4, .int (nI i))]) hx hb d_Rm_gather_58 hl (by decide) rfl (fun ls hl => ?_)
            refine lv_iload hx hb d_Rm_gather_60 (lv_at hl 0 rfl) ?_
            refine lv_iconst (v := (-1)) hx hb d_Rm_gather_62 (by decide) ?_
            refine lv_icmp_eq (tgt := 75) hx hb d_Rm_gather_63 (by decide) (fun c_63 => ?_) (fun c_63 => ?_)
            · refine lv_iinc (v := (nI (i + 1))) (lv' := [(4, .int (nI (i + 1))), (5, .int r1), (0, .ref (ad 0)), (1, .ref sa), (2, .int y), (3, .int wo)]) hx hb d_Rm_gather_75 hl (k := 5) rfl (nI_1 i) (by decide) rfl (fun ls hl => ?_)
              refine lv_goto (tgt := 10) hx hb d_Rm_gather_78 (by decide) ?_
              have hz : zGat (zln u) (zev u) B y wo (i + 1) = q := by
                show zGs _ _ _ _ _ _ _ = _
                unfold zGs
                rw [if_neg c_29, if_neg c_37, if_pos (e_r ▸ c_63)]
                rw [← eq]
              refine ih (i + 1) hir (by omega) _ _ _ (by rw [hz, ← eMi]; exact hM) hS (lv_sub hl [2, 3, 4, 5, 0] rfl)
            · refine lv_aload_n hx hb d_Rm_gather_66 rfl (lv_at hl 1 rfl) ?_
              refine x_get (C := R_Rm) (T := F_Rm) (N := 12) hx hb hw i_Rm hown hK.1 hM c_o rfl 7 (by decide) (hw _ kw_72) rfl rfl d_Rm_gather_67 ?_
              refine lv_iload hx hb d_Rm_gather_70 (lv_at hl 0 rfl) ?_
              refine x_cv (x_runV (As := [.int r1]) (rest := []) hE hK hM hl.1 (c_Rob_take l G Mi (ad 5) 5 q.1 q.2.1 q.2.2.1 q.2.2.2 c_rob r1) c_rob rfl kw_349 kw_350 kw_351 kw_2 kw_352 1 rfl rfl rfl (by decide +kernel) ⟨by decide, by decide⟩ rfl (Nat.le_of_ble_eq_true rfl) d_Rm_gather_72 ⟨by decide, by decide⟩) hS (fun M1 H locs hp hM hS => ?_)
              refine lv_iinc (v := (nI (i + 1))) (lv' := [(4, .int (nI (i + 1))), (5, .int r1), (0, .ref (ad 0)), (1, .ref sa), (2, .int y), (3, .int wo)]) hx hb d_Rm_gather_75 hl (k := 5) rfl (nI_1 i) (by decide) rfl (fun ls hl => ?_)
              refine lv_goto (tgt := 10) hx hb d_Rm_gather_78 (by decide) ?_
              have hz : zGat (zln u) (zev u) B y wo (i + 1) = zTk q (zRing (zln u i) (zev u i) (y - B i)) := by
                show zGs _ _ _ _ _ _ _ = _
                unfold zGs
                rw [if_neg c_29, if_neg c_37, if_neg (fun h9 => c_63 (e_r.trans h9))]
                rw [← eq]
              refine ih (i + 1) hir (by omega) _ _ _ (by rw [hz, ← e_r]; rw [hp, eMi, bx_uu] at hM; exact hM) hS (lv_sub hl [2, 3, 4, 5, 0] rfl)
          · refine lv_goto (tgt := 75) hx hb d_Rm_gather_40 (by decide) ?_
            refine lv_iinc (v := (nI (i + 1))) (lv' := [(4, .int (nI (i + 1))), (0, .ref (ad 0)), (1, .ref sa), (2, .int y), (3, .int wo)]) hx hb d_Rm_gather_75 hl (k := 4) rfl (nI_1 i) (by decide) rfl (fun ls hl => ?_)
            refine lv_goto (tgt := 10) hx hb d_Rm_gather_78 (by decide) ?_
            have hz : zGat (zln u) (zev u) B y wo (i + 1) = q := by
              show zGs _ _ _ _ _ _ _ = _
              unfold zGs
              rw [if_neg c_29, if_pos c_37]
              rw [← eq]
            refine ih (i + 1) hir (by omega) _ _ _ (by rw [hz, ← eMi]; exact hM) hS (lv_sub hl [1, 2, 3, 4, 0] rfl)

set_option maxHeartbeats 4000000 in
set_option maxRecDepth 100000 in
theorem c_Rm_gather (l : Launch) (G : xG) (M : xM) (ad : Nat → Nat) (u : zS) (hC : Core G M ad u) (hO : zOk u) (sa rs : Nat) (B : Nat → Int32) (y wo : Int32) (hsa : M sa = some (rs, eI G 10 B)) (hrs : rs ≠ 5) (q0 : zQ) (hq : M (ad 5) = some (5, eRob q0)) : Met l y_Rm_gather w_Rm_gather ({ frames := 2, cells := 0, slots := 0, locals := 41 }) (xP G [.ref (ad 0), .ref sa, .int y, .int wo] M) (xQv G (fun M' => M' = va_up M (ad 5) (some (5, eRob (zGat (zln u) (zev u) B y wo (zrn u)))))) 0 0 (xF G) := by
  refine x_met (by decide) (Nat.le_of_ble_eq_true rfl) ?_
  intro p e s m below meth c ls hE hin hl hM hK hS
  obtain ⟨hx, hb, hr, hml, hown, hw, hlocks⟩ := id hE
  have hl : lv_has ls 6 [(0, .ref (ad 0)), (1, .ref sa), (2, .int y), (3, .int wo)] := hl
  refine lv_aload_n hx hb d_Rm_gather_0 rfl (lv_at hl 0 rfl) ?_
  refine x_get (C := R_Rm) (T := F_Rm) (N := 12) hx hb hw i_Rm hown hK.1 hM hC.1 rfl 7 (by decide) (hw _ kw_72) rfl rfl d_Rm_gather_1 ?_
  refine x_cv (x_runV (As := []) (rest := []) hE hK hM hl.1 (c_Rob_clear l G M (ad 5) 5 q0.1 q0.2.1 q0.2.2.1 q0.2.2.2 hq) hq rfl kw_341 kw_342 kw_343 kw_2 kw_344 0 rfl rfl rfl (by decide +kernel) ⟨by decide, by decide⟩ rfl (Nat.le_of_ble_eq_true rfl) d_Rm_gather_4 ⟨by decide, by decide⟩) hS (fun M1 H locs hp hM hS => ?_)
  have hM : xh G (va_up M (ad 5) (some (5, eRob (zGat (zln u) (zev u) B y wo 0)))) H := hp ▸ hM
  refine lv_iconst (v := 0) hx hb d_Rm_gather_7 (by decide) ?_
  refine lv_istore (lv' := [(4, .int 0), (0, .ref (ad 0)), (1, .ref sa), (2, .int y), (3, .int wo)]) hx hb d_Rm_gather_8 hl (by decide) rfl (fun ls hl => ?_)
  exact lp_Rm_gather ad u hC hO sa rs B y wo hsa hrs q0 hq hE hK (zrn u + 1) 0 (by omega) (by omega) _ _ _ hM hS (lv_sub hl [1, 2, 3, 4, 0] rfl)
end
section
section ZF
abbrev zIn (x : Int32) (n : Nat) : Prop := ¬ x < 0 ∧ ¬ nI n ≤ x
abbrev zR : Type := Nat × Int32
theorem z_nle {x y : Int32} (h : x < y) : ¬ y ≤ x := Int32.not_le.mpr h
theorem z_nlt {x y : Int32} (h : x ≤ y) : ¬ y < x := Int32.not_lt.mpr h
theorem z_in {x : Int32} {n : Nat} (h : zIn x n) (hn : n < 2 ^ 31) : ∃ i : Nat, i = x.toNatClampNeg ∧ i < n ∧ x = nI i := ⟨_, rfl, (z_ix h.1 h.2 hn).1, (z_ix h.1 h.2 hn).2⟩
def fEvened (u : zS) (s k : Int32) : zR := if zIn s (zrn u) then (if k = -1 then (0, nI (zln u s.toNatClampNeg)) else if zIn k (zln u s.toNatClampNeg) then (0, zev u s.toNatClampNeg k.toNatClampNeg) else (1, 0)) else (1, 0)
def fPlace (u : zS) (s y : Int32) : zR := if zIn s (zrn u) then (if y < -1 ∨ 500 < y then (2, 0) else (0, zst u s.toNatClampNeg)) else (1, 0)
def uPlace (u : zS) (s y : Int32) : zS := (u.1, (zrn u, zln u, zev u, upd (zst u) s.toNatClampNeg y), u.2.2.1, u.2.2.2)
def fRing (u : zS) (w : Int32) : zR := if 30 ≤ zpn u then (1, 0) else if w < 1 ∨ 900 < w then (2, 0) else (0, nI (zpn u + 1))
def uRing (u : zS) (w : Int32) : zS := ((zpn u + 1, upd (zpd u) (zpn u) w), u.2)
def fSap (u : zS) (r w : Int32) : zR := if r < 0 ∨ 60 < r then (1, 0) else if w < 0 ∨ 10000 < w then (1, 0) else (0, zwt u r.toNatClampNeg)
def uSap (u : zS) (r w : Int32) : zS := (u.1, u.2.1, u.2.2.1, upd (zwt u) r.toNatClampNeg w)
def fAbout (u : zS) (m k : Int32) : zR := if zIn m (zmn u) then (if k = 0 then (0, zFst (zms u m.toNatClampNeg) 10) else if k = 1 then (0, zLst (zln u) (zms u m.toNatClampNeg) 10) else if k = 2 then (0, nI (zCnt (zms u m.toNatClampNeg) 10)) else (1, 0)) else (1, 0)
def zVy (u : zS) (j : Nat) (y : Int32) : zQ := zGat (zln u) (zev u) (zms u j) y (-1) 10
def fAt (u : zS) (m y : Int32) : zR := if zIn m (zmn u) then (if y < zFst (zms u m.toNatClampNeg) 10 ∨ zLst (zln u) (zms u m.toNatClampNeg) 10 < y then (1, 0) else (0, zAq (zVy u m.toNatClampNeg y))) else (1, 0)
def fDepth (u : zS) (m y : Int32) : zR := if zIn m (zmn u) then (if y < zFst (zms u m.toNatClampNeg) 10 ∨ zLst (zln u) (zms u m.toNatClampNeg) 10 < y then (1, 0) else (0, (zVy u m.toNatClampNeg y).1)) else (1, 0)
def zFlo (st : Nat → Int32) : Nat → Nat
  | 0 => 0
  | i + 1 => if st i = -1 then zFlo st i + 1 else zFlo st i
def fCount (u : zS) (k : Int32) : zR := if k = 0 then (0, nI (zpn u)) else if k = 1 then (0, nI (zrn u)) else if k = 2 then (0, nI (zmn u)) else if k = 3 then (0, nI (zFlo (zst u) (zrn u))) else (1, 0)
def xK100 (M M' : xM) : Prop := ∀ (a r : Nat) (e : va_E), M a = some (r, e) → 100 ≤ r → M' a = some (r, e)
end ZF
end
section
section ZL
theorem z_nat {x : Int32} {b : Int} (h : inR x 0 b) : ∃ n : Nat, x = nI n ∧ (n : Int) ≤ b ∧ n < 2 ^ 31 := by
  obtain ⟨j, hj, rfl⟩ := nI_of (x := x) (fun h9 => by
    have h8 := Int32.lt_iff_toInt_lt.mp h9
    have h7 : (0 : Int32).toInt = 0 := rfl
    have := h.1
    omega)
  exact ⟨j, rfl, by have := h.2; rw [nI_toInt hj] at this; exact this, hj⟩
theorem z_inN {n : Nat} {a b : Int} (h1 : a ≤ n) (h2 : (n : Int) ≤ b) (h3 : n < 2 ^ 31) : inR (nI n) a b := by
  unfold inR
  rw [nI_toInt h3]
  exact ⟨h1, h2⟩
theorem z_ne1 {x : Int32} {b : Int} (h : inR x (-1) b) (hx : x ≠ -1) : inR x 0 b := by
  refine ⟨?_, h.2⟩
  have h1 := h.1
  have h2 : x.toInt ≠ -1 := fun h9 => hx (Int32.toInt_inj.mp (h9.trans rfl))
  omega
theorem zMin_in {x y : Int32} {a b : Int} (hx : inR x a b) (hy : inR y a b) : inR (zMin x y) a b := by
  unfold zMin
  split <;> assumption
theorem zMax_in {x y : Int32} {a b : Int} (hx : inR x a b) (hy : inR y a b) : inR (zMax x y) a b := by
  unfold zMax
  split <;> assumption
theorem z_last {b : Int32} {n : Nat} (hb : inR b 0 500) (h1 : 1 ≤ n) (h2 : n ≤ 30) : ∃ t : Nat, b = nI t ∧ t ≤ 500 ∧ b + nI n - 1 = nI (t + n - 1) := by
  obtain ⟨t, rfl, ht, -⟩ := z_nat hb
  refine ⟨t, rfl, by omega, ?_⟩
  rw [nI_add]
  have : t + n = (t + n - 1) + 1 := by omega
  rw [this, nI_pred]
  congr 1
theorem zFst_in {b : Nat → Int32} : ∀ n, (∀ i, i < n → inR (b i) (-1) 500) → inR (zFst b n) 0 500
  | 0, _ => (show inR 500 0 500 from ⟨by decide, by decide⟩)
  | n + 1, h => by
    unfold zFst
    split
    · exact zFst_in n fun i hi => h i (by omega)
    · rename_i hb
      exact zMin_in (zFst_in n fun i hi => h i (by omega)) (z_ne1 (h n (by omega)) hb)
theorem zLst_in {ln : Nat → Nat} {b : Nat → Int32} : ∀ n, (∀ i, i < n → inR (b i) (-1) 500 ∧ (b i ≠ -1 → 1 ≤ ln i ∧ ln i ≤ 30)) → inR (zLst ln b n) 0 529
  | 0, _ => (show inR 0 0 529 from ⟨by decide, by decide⟩)
  | n + 1, h => by
    unfold zLst
    split
    · exact zLst_in n fun i hi => h i (by omega)
    · rename_i hb
      refine zMax_in (zLst_in n fun i hi => h i (by omega)) ?_
      obtain ⟨h1, h2⟩ := h n (by omega)
      obtain ⟨h3, h4⟩ := h2 hb
      obtain ⟨t, -, ht, e⟩ := z_last (z_ne1 h1 hb) h3 h4
      rw [e]
      exact z_inN (by omega) (by omega) (by omega)
theorem z_yr {f l y : Int32} (hf : inR f 0 500) (hl : inR l 0 529) (h1 : ¬ y < f) (h2 : ¬ l < y) : ∃ k : Nat, k < (l - f + 1).toNatClampNeg ∧ y - f = nI k ∧ f + nI k = y ∧ (l - f + 1).toNatClampNeg ≤ 530 := by
  obtain ⟨a, rfl, ha, ha2⟩ := z_nat hf
  obtain ⟨b, rfl, hb, hb2⟩ := z_nat hl
  have hy0 : inR y 0 529 := by
    have h3 := Int32.not_lt.mp h1
    have h4 := Int32.not_lt.mp h2
    have h5 := Int32.le_iff_toInt_le.mp h3
    have h6 := Int32.le_iff_toInt_le.mp h4
    rw [nI_toInt ha2] at h5
    rw [nI_toInt hb2] at h6
    exact ⟨by omega, by omega⟩
  obtain ⟨t, rfl, ht, ht2⟩ := z_nat hy0
  have h3 : a ≤ t := (nI_leI ha2 ht2).mp (Int32.not_lt.mp h1)
  have h4 : t ≤ b := (nI_leI ht2 hb2).mp (Int32.not_lt.mp h2)
  refine ⟨t - a, ?_, pk_sub h3, ?_, ?_⟩
  · rw [pk_sub (by omega), nI_1, nI_clamp (by omega)]; omega
  · rw [nI_add]; congr 1; omega
  · rw [pk_sub (by omega), nI_1, nI_clamp (by omega)]; omega
theorem zOk.mas {u : zS} (h : zOk u) {j : Nat} (hj : j < zmn u) : inR (zFst (zms u j) 10) 0 500 ∧ inR (zLst (zln u) (zms u j) 10) 0 529 := by
  have h1 := (h.2.2.2.2.2.1 j hj).1
  refine ⟨zFst_in 10 fun i hi => (h1 i hi).1, zLst_in 10 fun i hi => ⟨(h1 i hi).1, fun hb => ?_⟩⟩
  have h2 := h.2.2.2.1 i ((h1 i hi).2 hb)
  exact ⟨by omega, h2.2.1⟩
end ZL
end
section
set_option maxHeartbeats 4000000 in
set_option maxRecDepth 100000 in
theorem c_Rm_rowOf (l : Launch) (G : xG) (M : xM) (hst : l.stackTraces = false) (ad : Nat → Nat) (u : zS) (hC : Core G M ad u) (hO : zOk u) (x : Int32) : vx_Met l y_Rm_rowOf w_Rm_rowOf ({ frames := 6, cells := 1, slots := 6, locals := 90 }) (xP G [.ref (ad 0), .int x] M) (xQr G (fun a M' => zIn x (zrn u) ∧ a = ad (20 + x.toNatClampNeg) ∧ M' = M)) (xX G (fun E M' => ¬ zIn x (zrn u) ∧ E = nIOE ∧ M' = M)) 1 6 (xF G) := by
  refine x_metX (by decide) (Nat.le_of_ble_eq_true rfl) ?_
  intro p e s m below meth c ls hE hnx hl hM hK hS
  obtain ⟨hx, hb, hr, hml, hown, hw, hlocks⟩ := id hE
  have h0 := hM
  have hl : lv_has ls 2 [(0, .ref (ad 0)), (1, .int x)] := hl
  refine lv_iload_n hx hb d_Rm_rowOf_0 rfl (lv_at hl 1 rfl) ?_
  refine lv_if_lt (tgt := 12) hx hb d_Rm_rowOf_1 (by decide) (fun c_1 => ?_) (fun c_1 => ?_)
  · exact x_ioe (is := 231) (text := "no such series") hst hE hnx hK h0 hM hS hl.1 (by decide) d_Rm_rowOf_12 d_Rm_rowOf_15 d_Rm_rowOf_16 d_Rm_rowOf_18 d_Rm_rowOf_21 (by decide) (Nat.le_of_ble_eq_true rfl) ⟨by decide, by decide⟩ ⟨by decide, by decide⟩ (⟨fun h9 => h9.1 c_1, rfl, rfl⟩)
  · refine lv_iload_n hx hb d_Rm_rowOf_4 rfl (lv_at hl 1 rfl) ?_
    refine lv_aload_n hx hb d_Rm_rowOf_5 rfl (lv_at hl 0 rfl) ?_
    refine x_get (C := R_Rm) (T := F_Rm) (N := 12) hx hb hw i_Rm hown hK.1 hM hC.1 rfl 3 (by decide) (hw _ kw_68) rfl rfl d_Rm_rowOf_6 ?_
    refine lv_icmp_lt (tgt := 22) hx hb d_Rm_rowOf_9 (by decide) (fun c_9 => ?_) (fun c_9 => ?_)
    · refine lv_aload_n hx hb d_Rm_rowOf_22 rfl (lv_at hl 0 rfl) ?_
      refine x_get (C := R_Rm) (T := F_Rm) (N := 12) hx hb hw i_Rm hown hK.1 hM hC.1 rfl 2 (by decide) (hw _ kw_67) rfl rfl d_Rm_rowOf_23 ?_
      refine lv_iload_n hx hb d_Rm_rowOf_26 rfl (lv_at hl 1 rfl) ?_
      refine x_aldq (v := .ref (ad (20 + x.toNatClampNeg))) hx hb hK.1 hM hC.2.2.1 2 rfl (z_ix c_1 (z_nle c_9) (by have := hO.2.2.1; omega)).2 (by have h8 := (z_ix c_1 (z_nle c_9) (by have := hO.2.2.1; omega)).1; have := hO.2.2.1; omega) (by decide) (zrw_lt (z_ix c_1 (z_nle c_9) (by have := hO.2.2.1; omega)).1) d_Rm_rowOf_27 ?_
      refine vx_ret ?_
      exact x_rr hE rfl (Or.inl ⟨_, rfl⟩) hM hS ⟨⟨c_1, z_nle c_9⟩, rfl, rfl⟩ (by decide) (by decide) d_Rm_rowOf_28
    · exact x_ioe (is := 231) (text := "no such series") hst hE hnx hK h0 hM hS hl.1 (by decide) d_Rm_rowOf_12 d_Rm_rowOf_15 d_Rm_rowOf_16 d_Rm_rowOf_18 d_Rm_rowOf_21 (by decide) (Nat.le_of_ble_eq_true rfl) ⟨by decide, by decide⟩ ⟨by decide, by decide⟩ (⟨fun h9 => h9.2 (Int32.not_lt.mp c_9), rfl, rfl⟩)

set_option maxHeartbeats 4000000 in
set_option maxRecDepth 100000 in
theorem c_Rm_meanOf (l : Launch) (G : xG) (M : xM) (hst : l.stackTraces = false) (ad : Nat → Nat) (u : zS) (hC : Core G M ad u) (hO : zOk u) (x : Int32) : vx_Met l y_Rm_meanOf w_Rm_meanOf ({ frames := 6, cells := 1, slots := 6, locals := 90 }) (xP G [.ref (ad 0), .int x] M) (xQr G (fun a M' => zIn x (zmn u) ∧ a = ad (40 + x.toNatClampNeg) ∧ M' = M)) (xX G (fun E M' => ¬ zIn x (zmn u) ∧ E = nIOE ∧ M' = M)) 1 6 (xF G) := by
  refine x_metX (by decide) (Nat.le_of_ble_eq_true rfl) ?_
  intro p e s m below meth c ls hE hnx hl hM hK hS
  obtain ⟨hx, hb, hr, hml, hown, hw, hlocks⟩ := id hE
  have h0 := hM
  have hl : lv_has ls 2 [(0, .ref (ad 0)), (1, .int x)] := hl
  refine lv_iload_n hx hb d_Rm_meanOf_0 rfl (lv_at hl 1 rfl) ?_
  refine lv_if_lt (tgt := 12) hx hb d_Rm_meanOf_1 (by decide) (fun c_1 => ?_) (fun c_1 => ?_)
  · exact x_ioe (is := 182) (text := "no such master") hst hE hnx hK h0 hM hS hl.1 (by decide) d_Rm_meanOf_12 d_Rm_meanOf_15 d_Rm_meanOf_16 d_Rm_meanOf_18 d_Rm_meanOf_21 (by decide) (Nat.le_of_ble_eq_true rfl) ⟨by decide, by decide⟩ ⟨by decide, by decide⟩ (⟨fun h9 => h9.1 c_1, rfl, rfl⟩)
  · refine lv_iload_n hx hb d_Rm_meanOf_4 rfl (lv_at hl 1 rfl) ?_
    refine lv_aload_n hx hb d_Rm_meanOf_5 rfl (lv_at hl 0 rfl) ?_
    refine x_get (C := R_Rm) (T := F_Rm) (N := 12) hx hb hw i_Rm hown hK.1 hM hC.1 rfl 5 (by decide) (hw _ kw_70) rfl rfl d_Rm_meanOf_6 ?_
    refine lv_icmp_lt (tgt := 22) hx hb d_Rm_meanOf_9 (by decide) (fun c_9 => ?_) (fun c_9 => ?_)
    · refine lv_aload_n hx hb d_Rm_meanOf_22 rfl (lv_at hl 0 rfl) ?_
      refine x_get (C := R_Rm) (T := F_Rm) (N := 12) hx hb hw i_Rm hown hK.1 hM hC.1 rfl 4 (by decide) (hw _ kw_69) rfl rfl d_Rm_meanOf_23 ?_
      refine lv_iload_n hx hb d_Rm_meanOf_26 rfl (lv_at hl 1 rfl) ?_
      refine x_aldq (v := .ref (ad (40 + x.toNatClampNeg))) hx hb hK.1 hM hC.2.2.2.1 3 rfl (z_ix c_1 (z_nle c_9) (by have := hO.2.2.2.2.1; omega)).2 (by have h8 := (z_ix c_1 (z_nle c_9) (by have := hO.2.2.2.2.1; omega)).1; have := hO.2.2.2.2.1; omega) (by decide) (zrw_lt (z_ix c_1 (z_nle c_9) (by have := hO.2.2.2.2.1; omega)).1) d_Rm_meanOf_27 ?_
      refine vx_ret ?_
      exact x_rr hE rfl (Or.inl ⟨_, rfl⟩) hM hS ⟨⟨c_1, z_nle c_9⟩, rfl, rfl⟩ (by decide) (by decide) d_Rm_meanOf_28
    · exact x_ioe (is := 182) (text := "no such master") hst hE hnx hK h0 hM hS hl.1 (by decide) d_Rm_meanOf_12 d_Rm_meanOf_15 d_Rm_meanOf_16 d_Rm_meanOf_18 d_Rm_meanOf_21 (by decide) (Nat.le_of_ble_eq_true rfl) ⟨by decide, by decide⟩ ⟨by decide, by decide⟩ (⟨fun h9 => h9.2 (Int32.not_lt.mp c_9), rfl, rfl⟩)

set_option maxHeartbeats 4000000 in
set_option maxRecDepth 100000 in
theorem c_Rm_placeInMaster (l : Launch) (G : xG) (M : xM) (hst : l.stackTraces = false) (g r ra rb rc : Nat) (f l0 n : Int32) (y : Int32) (hg : M g = some (r, .inr (3, [.ref ra, .int f, .int l0, .int n, .ref rb, .ref rc]))) : vx_Met l y_Rm_placeInMaster w_Rm_placeInMaster ({ frames := 6, cells := 1, slots := 6, locals := 90 }) (xP G [.ref g, .int y] M) (xQi G (fun v M' => (¬ y < f ∧ ¬ l0 < y) ∧ v = y - f ∧ M' = M)) (xX G (fun E M' => ¬ (¬ y < f ∧ ¬ l0 < y) ∧ E = nIOE ∧ M' = M)) 1 6 (xF G) := by
  refine x_metX (by decide) (Nat.le_of_ble_eq_true rfl) ?_
  intro p e s m below meth c ls hE hnx hl hM hK hS
  obtain ⟨hx, hb, hr, hml, hown, hw, hlocks⟩ := id hE
  have h0 := hM
  have hl : lv_has ls 2 [(0, .ref g), (1, .int y)] := hl
  refine lv_iload_n hx hb d_Rm_placeInMaster_0 rfl (lv_at hl 1 rfl) ?_
  refine lv_aload_n hx hb d_Rm_placeInMaster_1 rfl (lv_at hl 0 rfl) ?_
  refine x_getN (C := R_Men) (T := F_Men) (N := 6) (host := R_Rm) hx hb hw i_Men hown hK.1 hM hg rfl 1 (by decide) (va_Nw.use rfl (hK.2.1.1 (134, R_Men, "first", "I") (by decide))) rfl rfl d_Rm_placeInMaster_2 ?_
  refine lv_icmp_lt (tgt := 16) hx hb d_Rm_placeInMaster_5 (by decide) (fun c_5 => ?_) (fun c_5 => ?_)
  · exact x_ioe (is := 95) (text := "no such year") hst hE hnx hK h0 hM hS hl.1 (by decide) d_Rm_placeInMaster_16 d_Rm_placeInMaster_19 d_Rm_placeInMaster_20 d_Rm_placeInMaster_22 d_Rm_placeInMaster_25 (by decide) (Nat.le_of_ble_eq_true rfl) ⟨by decide, by decide⟩ ⟨by decide, by decide⟩ (⟨fun h9 => h9.1 c_5, rfl, rfl⟩)
  · refine lv_iload_n hx hb d_Rm_placeInMaster_8 rfl (lv_at hl 1 rfl) ?_
    refine lv_aload_n hx hb d_Rm_placeInMaster_9 rfl (lv_at hl 0 rfl) ?_
    refine x_getN (C := R_Men) (T := F_Men) (N := 6) (host := R_Rm) hx hb hw i_Men hown hK.1 hM hg rfl 2 (by decide) (va_Nw.use rfl (hK.2.1.1 (137, R_Men, "last", "I") (by decide))) rfl rfl d_Rm_placeInMaster_10 ?_
    refine lv_icmp_le (tgt := 26) hx hb d_Rm_placeInMaster_13 (by decide) (fun c_13 => ?_) (fun c_13 => ?_)
    · refine lv_iload_n hx hb d_Rm_placeInMaster_26 rfl (lv_at hl 1 rfl) ?_
      refine lv_aload_n hx hb d_Rm_placeInMaster_27 rfl (lv_at hl 0 rfl) ?_
      refine x_getN (C := R_Men) (T := F_Men) (N := 6) (host := R_Rm) hx hb hw i_Men hown hK.1 hM hg rfl 1 (by decide) (va_Nw.use rfl (hK.2.1.1 (134, R_Men, "first", "I") (by decide))) rfl rfl d_Rm_placeInMaster_28 ?_
      refine lv_isub hx hb d_Rm_placeInMaster_31 ?_
      refine vx_ret ?_
      exact x_ri hE rfl hM hS ⟨⟨c_5, z_nlt c_13⟩, rfl, rfl⟩ (by omega) (by omega) d_Rm_placeInMaster_32
    · exact x_ioe (is := 95) (text := "no such year") hst hE hnx hK h0 hM hS hl.1 (by decide) d_Rm_placeInMaster_16 d_Rm_placeInMaster_19 d_Rm_placeInMaster_20 d_Rm_placeInMaster_22 d_Rm_placeInMaster_25 (by decide) (Nat.le_of_ble_eq_true rfl) ⟨by decide, by decide⟩ ⟨by decide, by decide⟩ (⟨fun h9 => h9.2 (Int32.not_le.mp c_13), rfl, rfl⟩)

set_option maxHeartbeats 4000000 in
set_option maxRecDepth 100000 in
theorem c_Rm_checkSumOrYears (l : Launch) (G : xG) (M : xM) (hst : l.stackTraces = false) (x : Int32) : vx_Met l y_Rm_checkSumOrYears w_Rm_checkSumOrYears ({ frames := 6, cells := 1, slots := 6, locals := 90 }) (xP G [.int x] M) (xQv G (fun M' => (¬ x < 0 ∧ ¬ 1 < x) ∧ M' = M)) (xX G (fun E M' => ¬ (¬ x < 0 ∧ ¬ 1 < x) ∧ E = nIOE ∧ M' = M)) 1 6 (xF G) := by
  refine x_metX (by decide) (Nat.le_of_ble_eq_true rfl) ?_
  intro p e s m below meth c ls hE hnx hl hM hK hS
  obtain ⟨hx, hb, hr, hml, hown, hw, hlocks⟩ := id hE
  have h0 := hM
  have hl : lv_has ls 1 [(0, .int x)] := hl
  refine lv_iload_n hx hb d_Rm_checkSumOrYears_0 rfl (lv_at hl 0 rfl) ?_
  refine lv_if_lt (tgt := 9) hx hb d_Rm_checkSumOrYears_1 (by decide) (fun c_1 => ?_) (fun c_1 => ?_)
  · exact x_ioe (is := 143) (text := "no such what") hst hE hnx hK h0 hM hS hl.1 (by decide) d_Rm_checkSumOrYears_9 d_Rm_checkSumOrYears_12 d_Rm_checkSumOrYears_13 d_Rm_checkSumOrYears_15 d_Rm_checkSumOrYears_18 (by decide) (Nat.le_of_ble_eq_true rfl) ⟨by decide, by decide⟩ ⟨by decide, by decide⟩ (⟨fun h9 => h9.1 c_1, rfl, rfl⟩)
  · refine lv_iload_n hx hb d_Rm_checkSumOrYears_4 rfl (lv_at hl 0 rfl) ?_
    refine lv_iconst (v := 1) hx hb d_Rm_checkSumOrYears_5 (by decide) ?_
    refine lv_icmp_le (tgt := 19) hx hb d_Rm_checkSumOrYears_6 (by decide) (fun c_6 => ?_) (fun c_6 => ?_)
    · refine vx_ret ?_
      exact x_rv hE rfl hM hS ⟨⟨c_1, z_nlt c_6⟩, rfl⟩ (by omega) (by omega) d_Rm_checkSumOrYears_19
    · exact x_ioe (is := 143) (text := "no such what") hst hE hnx hK h0 hM hS hl.1 (by decide) d_Rm_checkSumOrYears_9 d_Rm_checkSumOrYears_12 d_Rm_checkSumOrYears_13 d_Rm_checkSumOrYears_15 d_Rm_checkSumOrYears_18 (by decide) (Nat.le_of_ble_eq_true rfl) ⟨by decide, by decide⟩ ⟨by decide, by decide⟩ (⟨fun h9 => h9.2 (Int32.not_le.mp c_6), rfl, rfl⟩)

set_option maxHeartbeats 4000000 in
set_option maxRecDepth 100000 in
theorem c_Rm_checkLeast (l : Launch) (G : xG) (M : xM) (hst : l.stackTraces = false) (x : Int32) : vx_Met l y_Rm_checkLeast w_Rm_checkLeast ({ frames := 6, cells := 1, slots := 6, locals := 90 }) (xP G [.int x] M) (xQv G (fun M' => (¬ x < 2 ∧ ¬ 30 < x) ∧ M' = M)) (xX G (fun E M' => ¬ (¬ x < 2 ∧ ¬ 30 < x) ∧ E = nIAE ∧ M' = M)) 1 6 (xF G) := by
  refine x_metX (by decide) (Nat.le_of_ble_eq_true rfl) ?_
  intro p e s m below meth c ls hE hnx hl hM hK hS
  obtain ⟨hx, hb, hr, hml, hown, hw, hlocks⟩ := id hE
  have h0 := hM
  have hl : lv_has ls 1 [(0, .int x)] := hl
  refine lv_iload_n hx hb d_Rm_checkLeast_0 rfl (lv_at hl 0 rfl) ?_
  refine lv_iconst (v := 2) hx hb d_Rm_checkLeast_1 (by decide) ?_
  refine lv_icmp_lt (tgt := 11) hx hb d_Rm_checkLeast_2 (by decide) (fun c_2 => ?_) (fun c_2 => ?_)
  · exact x_iae (is := 233) (text := "no such least number of years") hst hE hnx hK h0 hM hS hl.1 (by decide) d_Rm_checkLeast_11 d_Rm_checkLeast_14 d_Rm_checkLeast_15 d_Rm_checkLeast_17 d_Rm_checkLeast_20 (by decide) (Nat.le_of_ble_eq_true rfl) ⟨by decide, by decide⟩ ⟨by decide, by decide⟩ (⟨fun h9 => h9.1 c_2, rfl, rfl⟩)
  · refine lv_iload_n hx hb d_Rm_checkLeast_5 rfl (lv_at hl 0 rfl) ?_
    refine lv_bipush (v := 30) hx hb d_Rm_checkLeast_6 (by decide) ?_
    refine lv_icmp_le (tgt := 21) hx hb d_Rm_checkLeast_8 (by decide) (fun c_8 => ?_) (fun c_8 => ?_)
    · refine vx_ret ?_
      exact x_rv hE rfl hM hS ⟨⟨c_2, z_nlt c_8⟩, rfl⟩ (by omega) (by omega) d_Rm_checkLeast_21
    · exact x_iae (is := 233) (text := "no such least number of years") hst hE hnx hK h0 hM hS hl.1 (by decide) d_Rm_checkLeast_11 d_Rm_checkLeast_14 d_Rm_checkLeast_15 d_Rm_checkLeast_17 d_Rm_checkLeast_20 (by decide) (Nat.le_of_ble_eq_true rfl) ⟨by decide, by decide⟩ ⟨by decide, by decide⟩ (⟨fun h9 => h9.2 (Int32.not_le.mp c_8), rfl, rfl⟩)

set_option maxHeartbeats 4000000 in
set_option maxRecDepth 100000 in
theorem c_Rm_evened (l : Launch) (G : xG) (M : xM) (hst : l.stackTraces = false) (ad : Nat → Nat) (u : zS) (hC : Core G M ad u) (hO : zOk u) (x k : Int32) : vx_Met l y_Rm_evened w_Rm_evened ({ frames := 7, cells := 2, slots := 12, locals := 120 }) (xP G [.ref (ad 0), .int x, .int k] M) (xQi G (fun v M' => fEvened u x k = (0, v) ∧ M' = M)) (xX G (fun E M' => fEvened u x k = (1, 0) ∧ E = nIOE ∧ M' = M)) 2 12 (xF G) := by
  refine x_metX (by decide) (Nat.le_of_ble_eq_true rfl) ?_
  intro p e s m below meth c ls hE hnx hl hM hK hS
  obtain ⟨hx, hb, hr, hml, hown, hw, hlocks⟩ := id hE
  have h0 := hM
  have hl : lv_has ls 4 [(0, .ref (ad 0)), (1, .int x), (2, .int k)] := hl
  refine lv_aload_n hx hb d_Rm_evened_0 rfl (lv_at hl 0 rfl) ?_
  refine lv_iload_n hx hb d_Rm_evened_1 rfl (lv_at hl 1 rfl) ?_
  refine x_cxr (x_runVX (As := [.int x]) (rest := []) hE hK hM hl.1 (c_Rm_rowOf l G M hst ad u hC hO x) hC.1 rfl kw_232 kw_234 ks_2 kw_1 kw_235 1 rfl rfl rfl (by decide +kernel) ⟨by decide, by decide⟩ rfl (Nat.le_of_ble_eq_true rfl) d_Rm_evened_2 ⟨by decide, by decide⟩) hS (fun E ce q9 M1 H locs hp hM hS hq1 hq2 hq3 => ?_) (fun r1 M1 H locs hp hM hS => ?_)
  · obtain ⟨h_x, rfl, e_M⟩ := hp
    have hM : xh G M H := e_M ▸ hM
    exact x_out hE hnx hM hS hq1 hq2 hq3 ⟨by unfold fEvened; rw [if_neg h_x], rfl, rfl⟩ (by decide) (by decide)
  obtain ⟨h_in, e_a, e_M⟩ := hp
  have hM : xh G M H := e_M ▸ hM
  obtain ⟨i, e_i, h_i, ex_i⟩ := z_in h_in (by have := hO.2.2.1; omega)
  rw [← e_i] at e_a
  subst e_a
  have hR_i := hC.2.2.2.2.2.2.1 i h_i
  have hZ_i := hO.2.2.2.1 i h_i
  refine lv_astore_n (lv' := [(3, .ref (ad (20 + i))), (0, .ref (ad 0)), (1, .int x), (2, .int k)]) hx hb d_Rm_evened_5 rfl hl (by decide) rfl (fun ls hl => ?_)
  refine lv_iload_n hx hb d_Rm_evened_6 rfl (lv_at hl 3 rfl) ?_
  refine lv_iconst (v := (-1)) hx hb d_Rm_evened_7 (by decide) ?_
  refine lv_icmp_ne (tgt := 17) hx hb d_Rm_evened_8 (by decide) (fun c_8 => ?_) (fun c_8 => ?_)
  · refine lv_iload_n hx hb d_Rm_evened_17 rfl (lv_at hl 3 rfl) ?_
    refine lv_if_lt (tgt := 30) hx hb d_Rm_evened_18 (by decide) (fun c_18 => ?_) (fun c_18 => ?_)
    · exact x_ioe (is := 92) (text := "no such ring") hst hE hnx hK h0 hM hS hl.1 (by decide) d_Rm_evened_30 d_Rm_evened_33 d_Rm_evened_34 d_Rm_evened_36 d_Rm_evened_39 (by decide) (Nat.le_of_ble_eq_true rfl) ⟨by decide, by decide⟩ ⟨by decide, by decide⟩ (⟨by unfold fEvened; rw [if_pos h_in, if_neg c_8, ← e_i, if_neg (fun h9 => h9.1 c_18)], rfl, rfl⟩)
    · refine lv_iload_n hx hb d_Rm_evened_21 rfl (lv_at hl 3 rfl) ?_
      refine lv_aload_n hx hb d_Rm_evened_22 rfl (lv_at hl 0 rfl) ?_
      refine x_getN (C := R_Row) (T := F_Row) (N := 2) (host := R_Rm) hx hb hw i_Row hown hK.1 hM hR_i.1 rfl 0 (by decide) (va_Nw.use rfl (hK.2.1.1 (87, R_Row, "even", "[I") (by decide))) rfl rfl d_Rm_evened_23 ?_
      refine x_alen (v := nI (zln u i)) hx hb hK.1 hM hR_i.2 0 rfl rfl d_Rm_evened_26 ?_
      refine lv_icmp_lt (tgt := 40) hx hb d_Rm_evened_27 (by decide) (fun c_27 => ?_) (fun c_27 => ?_)
      · refine lv_aload_n hx hb d_Rm_evened_40 rfl (lv_at hl 0 rfl) ?_
        refine x_getN (C := R_Row) (T := F_Row) (N := 2) (host := R_Rm) hx hb hw i_Row hown hK.1 hM hR_i.1 rfl 0 (by decide) (va_Nw.use rfl (hK.2.1.1 (87, R_Row, "even", "[I") (by decide))) rfl rfl d_Rm_evened_41 ?_
        refine lv_iload_n hx hb d_Rm_evened_44 rfl (lv_at hl 3 rfl) ?_
        refine x_iald hx hb hK.1 hM hR_i.2 0 rfl (z_ix c_18 (z_nle c_27) (by omega)).2 (z_ix c_18 (z_nle c_27) (by omega)).1 (by omega) d_Rm_evened_45 ?_
        refine vx_ret ?_
        exact x_ri hE rfl hM hS ⟨by unfold fEvened; rw [if_pos h_in, if_neg c_8, ← e_i, if_pos ⟨c_18, z_nle c_27⟩], rfl⟩ (by omega) (by omega) d_Rm_evened_46
      · exact x_ioe (is := 92) (text := "no such ring") hst hE hnx hK h0 hM hS hl.1 (by decide) d_Rm_evened_30 d_Rm_evened_33 d_Rm_evened_34 d_Rm_evened_36 d_Rm_evened_39 (by decide) (Nat.le_of_ble_eq_true rfl) ⟨by decide, by decide⟩ ⟨by decide, by decide⟩ (⟨by unfold fEvened; rw [if_pos h_in, if_neg c_8, ← e_i, if_neg (fun h9 => h9.2 (Int32.not_lt.mp c_27))], rfl, rfl⟩)
  · refine lv_aload_n hx hb d_Rm_evened_11 rfl (lv_at hl 0 rfl) ?_
    refine x_getN (C := R_Row) (T := F_Row) (N := 2) (host := R_Rm) hx hb hw i_Row hown hK.1 hM hR_i.1 rfl 0 (by decide) (va_Nw.use rfl (hK.2.1.1 (87, R_Row, "even", "[I") (by decide))) rfl rfl d_Rm_evened_12 ?_
    refine x_alen (v := nI (zln u i)) hx hb hK.1 hM hR_i.2 0 rfl rfl d_Rm_evened_15 ?_
    refine vx_ret ?_
    exact x_ri hE rfl hM hS ⟨by unfold fEvened; rw [if_pos h_in, if_pos c_8, ← e_i], rfl⟩ (by omega) (by omega) d_Rm_evened_16

set_option maxHeartbeats 4000000 in
set_option maxRecDepth 100000 in
theorem c_Rm_at (l : Launch) (G : xG) (M : xM) (hst : l.stackTraces = false) (ad : Nat → Nat) (u : zS) (hC : Core G M ad u) (hO : zOk u) (x y : Int32) : vx_Met l y_Rm_at w_Rm_at ({ frames := 7, cells := 2, slots := 12, locals := 125 }) (xP G [.ref (ad 0), .int x, .int y] M) (xQi G (fun v M' => fAt u x y = (0, v) ∧ M' = M)) (xX G (fun E M' => fAt u x y = (1, 0) ∧ E = nIOE ∧ M' = M)) 2 12 (xF G) := by
  refine x_metX (by decide) (Nat.le_of_ble_eq_true rfl) ?_
  intro p e s m below meth c ls hE hnx hl hM hK hS
  obtain ⟨hx, hb, hr, hml, hown, hw, hlocks⟩ := id hE
  have h0 := hM
  have hl : lv_has ls 4 [(0, .ref (ad 0)), (1, .int x), (2, .int y)] := hl
  refine lv_aload_n hx hb d_Rm_at_0 rfl (lv_at hl 0 rfl) ?_
  refine lv_iload_n hx hb d_Rm_at_1 rfl (lv_at hl 1 rfl) ?_
  refine x_cxr (x_runVX (As := [.int x]) (rest := []) hE hK hM hl.1 (c_Rm_meanOf l G M hst ad u hC hO x) hC.1 rfl kw_366 kw_368 ks_9 kw_1 kw_369 1 rfl rfl rfl (by decide +kernel) ⟨by decide, by decide⟩ rfl (Nat.le_of_ble_eq_true rfl) d_Rm_at_2 ⟨by decide, by decide⟩) hS (fun E ce q9 M1 H locs hp hM hS hq1 hq2 hq3 => ?_) (fun r1 M1 H locs hp hM hS => ?_)
  · obtain ⟨h_x, rfl, e_M⟩ := hp
    have hM : xh G M H := e_M ▸ hM
    exact x_out hE hnx hM hS hq1 hq2 hq3 ⟨by unfold fAt; rw [if_neg h_x], rfl, rfl⟩ (by decide) (by decide)
  obtain ⟨h_inj, e_a, e_M⟩ := hp
  have hM : xh G M H := e_M ▸ hM
  obtain ⟨j, e_j, h_j, ex_j⟩ := z_in h_inj (by have := hO.2.2.2.2.1; omega)
  rw [← e_j] at e_a
  subst e_a
  obtain ⟨hJ1, hJ2, V, D, hJ3, hJ4, hJ5⟩ := hC.2.2.2.2.2.2.2 j h_j
  have hB := hO.mas h_j
  refine lv_astore_n (lv' := [(3, .ref (ad (40 + j))), (0, .ref (ad 0)), (1, .int x), (2, .int y)]) hx hb d_Rm_at_5 rfl hl (by decide) rfl (fun ls hl => ?_)
  refine lv_aload_n hx hb d_Rm_at_6 rfl (lv_at hl 0 rfl) ?_
  refine x_getN (C := R_Men) (T := F_Men) (N := 6) (host := R_Rm) hx hb hw i_Men hown hK.1 hM hJ1 rfl 4 (by decide) (va_Nw.use rfl (hK.2.1.1 (145, R_Men, "values", "[I") (by decide))) rfl rfl d_Rm_at_7 ?_
  refine lv_aload_n hx hb d_Rm_at_10 rfl (lv_at hl 0 rfl) ?_
  refine lv_iload_n hx hb d_Rm_at_11 rfl (lv_at hl 3 rfl) ?_
  refine x_cxi (x_runSX (As := [.ref (ad (40 + j)), .int y]) (rest := [.ref (ad (60 + j))]) hE hK hM hl.1 (c_Rm_placeInMaster l G M hst (ad (40 + j)) (40 + j) (ad (50 + j)) (ad (60 + j)) (ad (70 + j)) (zFst (zms u j) 10) (zLst (zln u) (zms u j) 10) (nI (zCnt (zms u j) 10)) y hJ1) kw_379 kw_380 kw_1 kw_381 2 rfl rfl rfl (by decide +kernel) ⟨by decide, by decide⟩ rfl (Nat.le_of_ble_eq_true rfl) d_Rm_at_12 ⟨by decide, by decide⟩) hS (fun E ce q9 M1 H locs hp hM hS hq1 hq2 hq3 => ?_) (fun r2 M1 H locs hp hM hS => ?_)
  · obtain ⟨h_x, rfl, e_M⟩ := hp
    have hM : xh G M H := e_M ▸ hM
    exact x_out hE hnx hM hS hq1 hq2 hq3 ⟨by unfold fAt; rw [if_pos h_inj, ← e_j, if_pos (by by_cases h7 : y < zFst (zms u j) 10; exact Or.inl h7; exact Or.inr (Classical.byContradiction fun h8 => h_x ⟨h7, h8⟩))], rfl, rfl⟩ (by decide) (by decide)
  obtain ⟨h_y, e_v, e_M⟩ := hp
  have hM : xh G M H := e_M ▸ hM
  obtain ⟨k, hk1, hk2, hk3, hk4⟩ := z_yr hB.1 hB.2 h_y.1 h_y.2
  refine x_iald hx hb hK.1 hM hJ3 0 rfl (e_v.trans hk2) hk1 (by have := hk4; show (zLst _ _ _ - zFst _ _ + 1).toNatClampNeg < _; omega) d_Rm_at_15 ?_
  refine vx_ret ?_
  exact x_ri hE rfl hM hS ⟨by unfold fAt; rw [if_pos h_inj, ← e_j, if_neg (fun h9 => h9.elim h_y.1 h_y.2), (hJ5 k hk1).1, hk3]; rfl, rfl⟩ (by omega) (by omega) d_Rm_at_16

set_option maxHeartbeats 4000000 in
set_option maxRecDepth 100000 in
theorem c_Rm_depth (l : Launch) (G : xG) (M : xM) (hst : l.stackTraces = false) (ad : Nat → Nat) (u : zS) (hC : Core G M ad u) (hO : zOk u) (x y : Int32) : vx_Met l y_Rm_depth w_Rm_depth ({ frames := 7, cells := 2, slots := 12, locals := 125 }) (xP G [.ref (ad 0), .int x, .int y] M) (xQi G (fun v M' => fDepth u x y = (0, v) ∧ M' = M)) (xX G (fun E M' => fDepth u x y = (1, 0) ∧ E = nIOE ∧ M' = M)) 2 12 (xF G) := by
  refine x_metX (by decide) (Nat.le_of_ble_eq_true rfl) ?_
  intro p e s m below meth c ls hE hnx hl hM hK hS
  obtain ⟨hx, hb, hr, hml, hown, hw, hlocks⟩ := id hE
  have h0 := hM
  have hl : lv_has ls 4 [(0, .ref (ad 0)), (1, .int x), (2, .int y)] := hl
  refine lv_aload_n hx hb d_Rm_depth_0 rfl (lv_at hl 0 rfl) ?_
  refine lv_iload_n hx hb d_Rm_depth_1 rfl (lv_at hl 1 rfl) ?_
  refine x_cxr (x_runVX (As := [.int x]) (rest := []) hE hK hM hl.1 (c_Rm_meanOf l G M hst ad u hC hO x) hC.1 rfl kw_366 kw_368 ks_9 kw_1 kw_369 1 rfl rfl rfl (by decide +kernel) ⟨by decide, by decide⟩ rfl (Nat.le_of_ble_eq_true rfl) d_Rm_depth_2 ⟨by decide, by decide⟩) hS (fun E ce q9 M1 H locs hp hM hS hq1 hq2 hq3 => ?_) (fun r1 M1 H locs hp hM hS => ?_)
  · obtain ⟨h_x, rfl, e_M⟩ := hp
    have hM : xh G M H := e_M ▸ hM
    exact x_out hE hnx hM hS hq1 hq2 hq3 ⟨by unfold fDepth; rw [if_neg h_x], rfl, rfl⟩ (by decide) (by decide)
  obtain ⟨h_inj, e_a, e_M⟩ := hp
  have hM : xh G M H := e_M ▸ hM
  obtain ⟨j, e_j, h_j, ex_j⟩ := z_in h_inj (by have := hO.2.2.2.2.1; omega)
  rw [← e_j] at e_a
  subst e_a
  obtain ⟨hJ1, hJ2, V, D, hJ3, hJ4, hJ5⟩ := hC.2.2.2.2.2.2.2 j h_j
  have hB := hO.mas h_j
  refine lv_astore_n (lv' := [(3, .ref (ad (40 + j))), (0, .ref (ad 0)), (1, .int x), (2, .int y)]) hx hb d_Rm_depth_5 rfl hl (by decide) rfl (fun ls hl => ?_)
  refine lv_aload_n hx hb d_Rm_depth_6 rfl (lv_at hl 0 rfl) ?_
  refine x_getN (C := R_Men) (T := F_Men) (N := 6) (host := R_Rm) hx hb hw i_Men hown hK.1 hM hJ1 rfl 5 (by decide) (va_Nw.use rfl (hK.2.1.1 (152, R_Men, "depths", "[I") (by decide))) rfl rfl d_Rm_depth_7 ?_
  refine lv_aload_n hx hb d_Rm_depth_10 rfl (lv_at hl 0 rfl) ?_
  refine lv_iload_n hx hb d_Rm_depth_11 rfl (lv_at hl 3 rfl) ?_
  refine x_cxi (x_runSX (As := [.ref (ad (40 + j)), .int y]) (rest := [.ref (ad (70 + j))]) hE hK hM hl.1 (c_Rm_placeInMaster l G M hst (ad (40 + j)) (40 + j) (ad (50 + j)) (ad (60 + j)) (ad (70 + j)) (zFst (zms u j) 10) (zLst (zln u) (zms u j) 10) (nI (zCnt (zms u j) 10)) y hJ1) kw_379 kw_380 kw_1 kw_381 2 rfl rfl rfl (by decide +kernel) ⟨by decide, by decide⟩ rfl (Nat.le_of_ble_eq_true rfl) d_Rm_depth_12 ⟨by decide, by decide⟩) hS (fun E ce q9 M1 H locs hp hM hS hq1 hq2 hq3 => ?_) (fun r2 M1 H locs hp hM hS => ?_)
  · obtain ⟨h_x, rfl, e_M⟩ := hp
    have hM : xh G M H := e_M ▸ hM
    exact x_out hE hnx hM hS hq1 hq2 hq3 ⟨by unfold fDepth; rw [if_pos h_inj, ← e_j, if_pos (by by_cases h7 : y < zFst (zms u j) 10; exact Or.inl h7; exact Or.inr (Classical.byContradiction fun h8 => h_x ⟨h7, h8⟩))], rfl, rfl⟩ (by decide) (by decide)
  obtain ⟨h_y, e_v, e_M⟩ := hp
  have hM : xh G M H := e_M ▸ hM
  obtain ⟨k, hk1, hk2, hk3, hk4⟩ := z_yr hB.1 hB.2 h_y.1 h_y.2
  refine x_iald hx hb hK.1 hM hJ4 0 rfl (e_v.trans hk2) hk1 (by have := hk4; show (zLst _ _ _ - zFst _ _ + 1).toNatClampNeg < _; omega) d_Rm_depth_15 ?_
  refine vx_ret ?_
  exact x_ri hE rfl hM hS ⟨by unfold fDepth; rw [if_pos h_inj, ← e_j, if_neg (fun h9 => h9.elim h_y.1 h_y.2), (hJ5 k hk1).2, hk3]; rfl, rfl⟩ (by omega) (by omega) d_Rm_depth_16
end
section
section ZM
def xOff (r : Nat) (M M' : xM) : Prop := ∀ (b r2 : Nat) (e : va_E), M b = some (r2, e) → r2 ≠ r → M' b = some (r2, e)
theorem xOff.up {M : xM} {a r : Nat} {e : va_E} {x : Option (Nat × va_E)} (ha : M a = some (r, e)) : xOff r M (va_up M a x) := fun _ _ _ hb h => xw_up hb ha h
theorem xOff.k100 {r : Nat} {M M' : xM} (h : xOff r M M') (hr : r < 100) : xK100 M M' := fun a r2 e ha h2 => h a r2 e ha (by omega)
theorem xK100.trans {M M1 M2 : xM} (h1 : xK100 M M1) (h2 : xK100 M1 M2) : xK100 M M2 := fun a r e h hr => h2 a r e (h1 a r e h hr) hr
theorem xKeep.k100 {M M' : xM} (h : xKeep M M') : xK100 M M' := fun a r e ha hr => h a r e ha (zS_c (by omega))
theorem CoreR.off {G : xG} {M M' : xM} {ad : Nat → Nat} {u : zS} {i r : Nat} (h : CoreR G M ad u i) (ho : xOff r M M') (h1 : 20 + i ≠ r) (h2 : 30 + i ≠ r) : CoreR G M' ad u i := ⟨ho _ _ _ h.1 h1, ho _ _ _ h.2 h2⟩
theorem CoreM.off {G : xG} {M M' : xM} {ad : Nat → Nat} {u : zS} {j r : Nat} (h : CoreM G M ad u j) (ho : xOff r M M') (hr : r < 40) : CoreM G M' ad u j := by
  obtain ⟨m1, m2, V, D, m3, m4, m5⟩ := h
  exact ⟨ho _ _ _ m1 (by omega), ho _ _ _ m2 (by omega), V, D, ho _ _ _ m3 (by omega), ho _ _ _ m4 (by omega), m5⟩
theorem Scr.off {G : xG} {M M' : xM} {ad : Nat → Nat} {r : Nat} (h : Scr G M ad) (ho : xOff r M M') (hr : zScr r = false) : Scr G M' ad := by
  have hne : ∀ k, zScr k = true → k ≠ r := fun k hk z => by rw [z, hr] at hk; cases hk
  obtain ⟨⟨q5, h5⟩, ⟨q6, h6⟩, ⟨q7, h7⟩, ⟨f, h9⟩, hg⟩ := h
  refine ⟨⟨q5, ho _ _ _ h5 (hne 5 rfl)⟩, ⟨q6, ho _ _ _ h6 (hne 6 rfl)⟩, ⟨q7, ho _ _ _ h7 (hne 7 rfl)⟩, ⟨f, ho _ _ _ h9 (hne 9 rfl)⟩, fun i hi => ?_⟩
  obtain ⟨q, hq⟩ := hg i hi
  refine ⟨q, ho _ _ _ hq (hne _ ?_)⟩
  simp only [zScr, Bool.or_eq_true, Bool.and_eq_true, decide_eq_true_eq]
  exact Or.inr ⟨by omega, by omega⟩
theorem Core.ring {G : xG} {M M' : xM} {ad : Nat → Nat} {u : zS} {w : Int32} (hC : Core G M ad u) (hs : Scr G M ad) {M1 : xM} (e1 : M1 = va_up M (ad 1) (some (1, eI G 30 (upd (zpd u) (zpn u) w)))) (e2 : M' = va_up M1 (ad 0) (some (0, .inr (4, [.ref (ad 1), .int (nI (zpn u + 1)), .ref (ad 2), .int (nI (zrn u)), .ref (ad 3), .int (nI (zmn u)), .ref (ad 4), .ref (ad 5), .ref (ad 6), .ref (ad 7), .ref (ad 8), .ref (ad 9)])))) :
    Core G M' ad (uRing u w) ∧ Scr G M' ad ∧ xK100 M M' := by
  obtain ⟨h0, h1, h2, h3, h4, h8, hR, hM⟩ := hC
  have o1 : xOff 1 M M1 := by rw [e1]; exact xOff.up h1
  have h01 : M1 (ad 0) = _ := o1 _ _ _ h0 (by decide)
  have o2 : xOff 0 M1 M' := by rw [e2]; exact xOff.up h01
  refine ⟨⟨xw_atE e2, o2 _ _ _ (xw_atE e1) (by decide), o2 _ _ _ (o1 _ _ _ h2 (by decide)) (by decide), o2 _ _ _ (o1 _ _ _ h3 (by decide)) (by decide), o2 _ _ _ (o1 _ _ _ h4 (by decide)) (by decide), o2 _ _ _ (o1 _ _ _ h8 (by decide)) (by decide), fun i hi => ((hR i hi).off o1 (by omega) (by omega)).off o2 (by omega) (by omega), fun j hj => ((hM j hj).off o1 (by omega)).off o2 (by omega)⟩, (hs.off o1 rfl).off o2 rfl, (o1.k100 (by omega)).trans (o2.k100 (by omega))⟩
theorem Core.sap {G : xG} {M M' : xM} {ad : Nat → Nat} {u : zS} {r w : Int32} (hC : Core G M ad u) (hs : Scr G M ad) (e1 : M' = va_up M (ad 4) (some (4, eI G 61 (upd (zwt u) r.toNatClampNeg w)))) : Core G M' ad (uSap u r w) ∧ Scr G M' ad ∧ xK100 M M' := by
  obtain ⟨h0, h1, h2, h3, h4, h8, hR, hM⟩ := hC
  have o1 : xOff 4 M M' := by rw [e1]; exact xOff.up h4
  exact ⟨⟨o1 _ _ _ h0 (by decide), o1 _ _ _ h1 (by decide), o1 _ _ _ h2 (by decide), o1 _ _ _ h3 (by decide), xw_atE e1, o1 _ _ _ h8 (by decide), fun i hi => (hR i hi).off o1 (by omega) (by omega), fun j hj => (hM j hj).off o1 (by omega)⟩, hs.off o1 rfl, o1.k100 (by omega)⟩
theorem Core.place {G : xG} {M M' : xM} {ad : Nat → Nat} {u : zS} {x y : Int32} {i : Nat} (hC : Core G M ad u) (hs : Scr G M ad) (hi : i < zrn u) (ei : i = x.toNatClampNeg) (hr : zrn u ≤ 10) (e1 : M' = va_up M (ad (20 + i)) (some (20 + i, .inr (2, [.ref (ad (30 + i)), .int y])))) : Core G M' ad (uPlace u x y) ∧ Scr G M' ad ∧ xK100 M M' := by
  obtain ⟨h0, h1, h2, h3, h4, h8, hR, hM⟩ := hC
  have o1 : xOff (20 + i) M M' := by rw [e1]; exact xOff.up (hR i hi).1
  refine ⟨⟨o1 _ _ _ h0 (by omega), o1 _ _ _ h1 (by omega), o1 _ _ _ h2 (by omega), o1 _ _ _ h3 (by omega), o1 _ _ _ h4 (by omega), o1 _ _ _ h8 (by omega), fun k hk => ?_, fun j hj => (hM j hj).off o1 (by omega)⟩, hs.off o1 (zS_c (by omega)), o1.k100 (by omega)⟩
  by_cases hki : k = i
  · subst hki
    refine ⟨?_, o1 _ _ _ (hR k hi).2 (by omega)⟩
    have hst : zst (uPlace u x y) k = y := by show upd (zst u) x.toNatClampNeg y k = y; rw [ei]; exact pk_us
    rw [hst]
    exact xw_atE e1
  · have hk' : k < zrn u := hk
    have h9 := (hR k hk').off o1 (by omega) (by omega)
    have hst : zst (uPlace u x y) k = zst u k := by show upd (zst u) x.toNatClampNeg y k = _; rw [← ei]; exact pk_un hki
    refine ⟨?_, h9.2⟩
    rw [hst]
    exact h9.1
theorem z_tab3 {k : Int32} (h0 : ¬ k = 0) (h1 : ¬ k = 1) (h2 : ¬ k = 2) : k.toInt < 0 ∨ 2 < k.toInt := by
  have e0 : k.toInt ≠ 0 := fun h9 => h0 (Int32.toInt_inj.mp (h9.trans rfl))
  have e1 : k.toInt ≠ 1 := fun h9 => h1 (Int32.toInt_inj.mp (h9.trans rfl))
  have e2 : k.toInt ≠ 2 := fun h9 => h2 (Int32.toInt_inj.mp (h9.trans rfl))
  omega
theorem z_tab4 {k : Int32} (h0 : ¬ k = 0) (h1 : ¬ k = 1) (h2 : ¬ k = 2) (h3 : ¬ k = 3) : k.toInt < 0 ∨ 3 < k.toInt := by
  have e3 : k.toInt ≠ 3 := fun h9 => h3 (Int32.toInt_inj.mp (h9.trans rfl))
  rcases z_tab3 h0 h1 h2 with h | h <;> omega
end ZM
end
section
set_option maxHeartbeats 4000000 in
set_option maxRecDepth 100000 in
theorem c_Rm_about (l : Launch) (G : xG) (M : xM) (hst : l.stackTraces = false) (ad : Nat → Nat) (u : zS) (hC : Core G M ad u) (hO : zOk u) (x k : Int32) : vx_Met l y_Rm_about w_Rm_about ({ frames := 7, cells := 2, slots := 12, locals := 125 }) (xP G [.ref (ad 0), .int x, .int k] M) (xQi G (fun v M' => fAbout u x k = (0, v) ∧ M' = M)) (xX G (fun E M' => fAbout u x k = (1, 0) ∧ E = nIOE ∧ M' = M)) 2 12 (xF G) := by
  refine x_metX (by decide) (Nat.le_of_ble_eq_true rfl) ?_
  intro p e s m below meth c ls hE hnx hl hM hK hS
  obtain ⟨hx, hb, hr, hml, hown, hw, hlocks⟩ := id hE
  have h0 := hM
  have hl : lv_has ls 4 [(0, .ref (ad 0)), (1, .int x), (2, .int k)] := hl
  refine lv_aload_n hx hb d_Rm_about_0 rfl (lv_at hl 0 rfl) ?_
  refine lv_iload_n hx hb d_Rm_about_1 rfl (lv_at hl 1 rfl) ?_
  refine x_cxr (x_runVX (As := [.int x]) (rest := []) hE hK hM hl.1 (c_Rm_meanOf l G M hst ad u hC hO x) hC.1 rfl kw_366 kw_368 ks_9 kw_1 kw_369 1 rfl rfl rfl (by decide +kernel) ⟨by decide, by decide⟩ rfl (Nat.le_of_ble_eq_true rfl) d_Rm_about_2 ⟨by decide, by decide⟩) hS (fun E ce q9 M1 H locs hp hM hS hq1 hq2 hq3 => ?_) (fun r1 M1 H locs hp hM hS => ?_)
  · obtain ⟨h_x, rfl, e_M⟩ := hp
    have hM : xh G M H := e_M ▸ hM
    exact x_out hE hnx hM hS hq1 hq2 hq3 ⟨by unfold fAbout; rw [if_neg h_x], rfl, rfl⟩ (by decide) (by decide)
  obtain ⟨h_inj, e_a, e_M⟩ := hp
  have hM : xh G M H := e_M ▸ hM
  obtain ⟨j, e_j, h_j, ex_j⟩ := z_in h_inj (by have := hO.2.2.2.2.1; omega)
  rw [← e_j] at e_a
  subst e_a
  obtain ⟨hJ1, hJ2, V, D, hJ3, hJ4, hJ5⟩ := hC.2.2.2.2.2.2.2 j h_j
  have hB := hO.mas h_j
  refine lv_astore_n (lv' := [(3, .ref (ad (40 + j))), (0, .ref (ad 0)), (1, .int x), (2, .int k)]) hx hb d_Rm_about_5 rfl hl (by decide) rfl (fun ls hl => ?_)
  refine lv_iload_n hx hb d_Rm_about_6 rfl (lv_at hl 3 rfl) ?_
  by_cases t0 : k = 0
  · subst t0
    refine lv_tableIn (off := 25) (tgt := 32) hx hb d_Rm_about_7 (by decide) (by decide) (by decide) (by decide) ?_
    refine lv_aload_n hx hb d_Rm_about_32 rfl (lv_at hl 0 rfl) ?_
    refine x_getN (C := R_Men) (T := F_Men) (N := 6) (host := R_Rm) hx hb hw i_Men hown hK.1 hM hJ1 rfl 1 (by decide) (va_Nw.use rfl (hK.2.1.1 (134, R_Men, "first", "I") (by decide))) rfl rfl d_Rm_about_33 ?_
    refine vx_ret ?_
    exact x_ri hE rfl hM hS ⟨by unfold fAbout; rw [if_pos h_inj, if_pos rfl, ← e_j], rfl⟩ (by omega) (by omega) d_Rm_about_36
  by_cases t1 : k = 1
  · subst t1
    refine lv_tableIn (off := 30) (tgt := 37) hx hb d_Rm_about_7 (by decide) (by decide) (by decide) (by decide) ?_
    refine lv_aload_n hx hb d_Rm_about_37 rfl (lv_at hl 0 rfl) ?_
    refine x_getN (C := R_Men) (T := F_Men) (N := 6) (host := R_Rm) hx hb hw i_Men hown hK.1 hM hJ1 rfl 2 (by decide) (va_Nw.use rfl (hK.2.1.1 (137, R_Men, "last", "I") (by decide))) rfl rfl d_Rm_about_38 ?_
    refine vx_ret ?_
    exact x_ri hE rfl hM hS ⟨by unfold fAbout; rw [if_pos h_inj, if_neg (by decide), if_pos rfl, ← e_j], rfl⟩ (by omega) (by omega) d_Rm_about_41
  by_cases t2 : k = 2
  · subst t2
    refine lv_tableIn (off := 35) (tgt := 42) hx hb d_Rm_about_7 (by decide) (by decide) (by decide) (by decide) ?_
    refine lv_aload_n hx hb d_Rm_about_42 rfl (lv_at hl 0 rfl) ?_
    refine x_getN (C := R_Men) (T := F_Men) (N := 6) (host := R_Rm) hx hb hw i_Men hown hK.1 hM hJ1 rfl 3 (by decide) (va_Nw.use rfl (hK.2.1.1 (140, R_Men, "members", "I") (by decide))) rfl rfl d_Rm_about_43 ?_
    refine vx_ret ?_
    exact x_ri hE rfl hM hS ⟨by unfold fAbout; rw [if_pos h_inj, if_neg (by decide), if_neg (by decide), if_pos rfl, ← e_j], rfl⟩ (by omega) (by omega) d_Rm_about_46
  · refine lv_tableOut (tgt := 47) hx hb d_Rm_about_7 (z_tab3 t0 t1 t2) (by decide) ?_
    exact x_ioe (is := 143) (text := "no such what") hst hE hnx hK h0 hM hS hl.1 (by decide) d_Rm_about_47 d_Rm_about_50 d_Rm_about_51 d_Rm_about_53 d_Rm_about_56 (by decide) (Nat.le_of_ble_eq_true rfl) ⟨by decide, by decide⟩ ⟨by decide, by decide⟩ (⟨by unfold fAbout; rw [if_pos h_inj, if_neg t0, if_neg t1, if_neg t2], rfl, rfl⟩)

set_option maxHeartbeats 4000000 in
set_option maxRecDepth 100000 in
theorem lp_Rm_floatingRows {p : Program} {l : Launch} {e : Env} {s : State} {m : MethodId} {below : List Frame} {meth : Method} {c : Code} {args : Array Value} {G : xG} {M : xM} (ad : Nat → Nat) (u : zS) (hC : Core G M ad u) (hO : zOk u) (hE : xE p s m args meth c b_Rm_floatingRows (some .int) 3 R_Rm) (hK : KX G s) : ∀ (n i : Nat), i ≤ zrn u → zrn u + 1 ≤ i + n → ∀ (H : Heap) (locs : List Loc) (ls : Array Slot), xh G M H → va_S (xF G) s.heap H locs → lv_has ls 3 [(0, .ref (ad 0)), (1, .int (nI (zFlo (zst u) i))), (2, .int (nI i))] → W p l e ({ frames := 0, cells := 0, slots := 0, locals := 0 }) s m args below meth c H locs 0 0 (MQ below (xQi G (fun v M' => v = nI (zFlo (zst u) (zrn u)) ∧ M' = M)) args s 0 0 (xF G)) (F0 m 4 ls []) := by
  obtain ⟨hx, hb, hr, hml, hown, hw, hlocks⟩ := id hE
  have hrn : zrn u ≤ 10 := hO.2.2.1
  intro n
  induction n with
  | zero =>
    intro i h1 h2
    exact absurd h2 (by omega)
  | succ n ih =>
    intro i hi hin H locs ls hM hS hl
    refine lv_iload_n hx hb d_Rm_floatingRows_4 rfl (lv_at hl 2 rfl) ?_
    refine lv_aload_n hx hb d_Rm_floatingRows_5 rfl (lv_at hl 0 rfl) ?_
    refine x_get (C := R_Rm) (T := F_Rm) (N := 12) hx hb hw i_Rm hown hK.1 hM hC.1 rfl 3 (by decide) (hw _ kw_68) rfl rfl d_Rm_floatingRows_6 ?_
    refine lv_icmp_ge (tgt := 34) hx hb d_Rm_floatingRows_9 (by decide) (fun c_9 => ?_) (fun c_9 => ?_)
    · have h9 : zrn u ≤ i := (nI_leI (by omega) (by omega)).mp c_9
      refine lv_iload_n hx hb d_Rm_floatingRows_34 rfl (lv_at hl 1 rfl) ?_
      exact x_ri hE rfl hM hS ⟨by rw [show i = zrn u by omega], rfl⟩ (by omega) (by omega) d_Rm_floatingRows_35
    · have hir : i < zrn u := Nat.not_le.mp (fun h9 => c_9 ((nI_leI (by omega) (by omega)).mpr h9))
      refine lv_aload_n hx hb d_Rm_floatingRows_12 rfl (lv_at hl 0 rfl) ?_
      refine x_get (C := R_Rm) (T := F_Rm) (N := 12) hx hb hw i_Rm hown hK.1 hM hC.1 rfl 2 (by decide) (hw _ kw_67) rfl rfl d_Rm_floatingRows_13 ?_
      refine lv_iload_n hx hb d_Rm_floatingRows_16 rfl (lv_at hl 2 rfl) ?_
      have hRi := hC.2.2.2.2.2.2.1 i hir
      refine x_aldq (v := .ref (ad (20 + i))) hx hb hK.1 hM hC.2.2.1 2 rfl rfl (by omega) (by omega) (zrw_lt hir) d_Rm_floatingRows_17 ?_
      refine x_getN (C := R_Row) (T := F_Row) (N := 2) (host := R_Rm) hx hb hw i_Row hown hK.1 hM hRi.1 rfl 1 (by decide) (va_Nw.use rfl (hK.2.1.1 (97, R_Row, "start", "I") (by decide))) rfl rfl d_Rm_floatingRows_18 ?_
      refine lv_iconst (v := (-1)) hx hb d_Rm_floatingRows_21 (by decide) ?_
      refine lv_icmp_ne (tgt := 28) hx hb d_Rm_floatingRows_22 (by decide) (fun c_22 => ?_) (fun c_22 => ?_)
      · refine lv_iinc (v := (nI (i + 1))) (lv' := [(2, .int (nI (i + 1))), (0, .ref (ad 0)), (1, .int (nI (zFlo (zst u) i)))]) hx hb d_Rm_floatingRows_28 hl (k := 2) rfl (nI_1 i) (by decide) rfl (fun ls hl => ?_)
        refine lv_goto (tgt := 4) hx hb d_Rm_floatingRows_31 (by decide) ?_
        have hz : zFlo (zst u) (i + 1) = zFlo (zst u) i := by show (if zst u i = -1 then _ else _) = _; rw [if_neg c_22]
        exact ih (i + 1) hir (by omega) _ _ _ hM hS (by rw [hz]; exact lv_sub hl [1, 2, 0] rfl)
      · refine lv_iinc (v := (nI ((zFlo (zst u) i) + 1))) (lv' := [(1, .int (nI ((zFlo (zst u) i) + 1))), (0, .ref (ad 0)), (2, .int (nI i))]) hx hb d_Rm_floatingRows_25 hl (k := 1) rfl (nI_1 (zFlo (zst u) i)) (by decide) rfl (fun ls hl => ?_)
        refine lv_iinc (v := (nI (i + 1))) (lv' := [(2, .int (nI (i + 1))), (1, .int (nI ((zFlo (zst u) i) + 1))), (0, .ref (ad 0))]) hx hb d_Rm_floatingRows_28 hl (k := 2) rfl (nI_1 i) (by decide) rfl (fun ls hl => ?_)
        refine lv_goto (tgt := 4) hx hb d_Rm_floatingRows_31 (by decide) ?_
        have hz : zFlo (zst u) (i + 1) = zFlo (zst u) i + 1 := by show (if zst u i = -1 then _ else _) = _; rw [if_pos c_22]
        exact ih (i + 1) hir (by omega) _ _ _ hM hS (by rw [hz]; exact lv_sub hl [2, 1, 0] rfl)

set_option maxHeartbeats 4000000 in
set_option maxRecDepth 100000 in
theorem c_Rm_floatingRows (l : Launch) (G : xG) (M : xM) (ad : Nat → Nat) (u : zS) (hC : Core G M ad u) (hO : zOk u) : Met l y_Rm_floatingRows w_Rm_floatingRows ({ frames := 0, cells := 0, slots := 0, locals := 0 }) (xP G [.ref (ad 0)] M) (xQi G (fun v M' => v = nI (zFlo (zst u) (zrn u)) ∧ M' = M)) 0 0 (xF G) := by
  refine x_met (by decide) (Nat.le_of_ble_eq_true rfl) ?_
  intro p e s m below meth c ls hE hin hl hM hK hS
  obtain ⟨hx, hb, hr, hml, hown, hw, hlocks⟩ := id hE
  have hl : lv_has ls 3 [(0, .ref (ad 0))] := hl
  refine lv_iconst (v := 0) hx hb d_Rm_floatingRows_0 (by decide) ?_
  refine lv_istore_n (lv' := [(1, .int 0), (0, .ref (ad 0))]) hx hb d_Rm_floatingRows_1 rfl hl (by decide) rfl (fun ls hl => ?_)
  refine lv_iconst (v := 0) hx hb d_Rm_floatingRows_2 (by decide) ?_
  refine lv_istore_n (lv' := [(2, .int 0), (1, .int 0), (0, .ref (ad 0))]) hx hb d_Rm_floatingRows_3 rfl hl (by decide) rfl (fun ls hl => ?_)
  exact lp_Rm_floatingRows ad u hC hO hE hK (zrn u + 1) 0 (by omega) (by omega) _ _ _ hM hS (lv_sub hl [2, 1, 0] rfl)

set_option maxHeartbeats 4000000 in
set_option maxRecDepth 100000 in
theorem c_Rm_count (l : Launch) (G : xG) (M : xM) (hst : l.stackTraces = false) (ad : Nat → Nat) (u : zS) (hC : Core G M ad u) (hO : zOk u) (k : Int32) : vx_Met l y_Rm_count w_Rm_count ({ frames := 6, cells := 1, slots := 6, locals := 90 }) (xP G [.ref (ad 0), .int k] M) (xQi G (fun v M' => fCount u k = (0, v) ∧ M' = M)) (xX G (fun E M' => fCount u k = (1, 0) ∧ E = nIOE ∧ M' = M)) 1 6 (xF G) := by
  refine x_metX (by decide) (Nat.le_of_ble_eq_true rfl) ?_
  intro p e s m below meth c ls hE hnx hl hM hK hS
  obtain ⟨hx, hb, hr, hml, hown, hw, hlocks⟩ := id hE
  have h0 := hM
  have hl : lv_has ls 2 [(0, .ref (ad 0)), (1, .int k)] := hl
  refine lv_iload_n hx hb d_Rm_count_0 rfl (lv_at hl 1 rfl) ?_
  by_cases t0 : k = 0
  · subst t0
    refine lv_tableIn (off := 31) (tgt := 32) hx hb d_Rm_count_1 (by decide) (by decide) (by decide) (by decide) ?_
    refine lv_aload_n hx hb d_Rm_count_32 rfl (lv_at hl 0 rfl) ?_
    refine x_get (C := R_Rm) (T := F_Rm) (N := 12) hx hb hw i_Rm hown hK.1 hM hC.1 rfl 1 (by decide) (hw _ kw_66) rfl rfl d_Rm_count_33 ?_
    refine vx_ret ?_
    exact x_ri hE rfl hM hS ⟨by unfold fCount; rw [if_pos rfl], rfl⟩ (by omega) (by omega) d_Rm_count_36
  by_cases t1 : k = 1
  · subst t1
    refine lv_tableIn (off := 36) (tgt := 37) hx hb d_Rm_count_1 (by decide) (by decide) (by decide) (by decide) ?_
    refine lv_aload_n hx hb d_Rm_count_37 rfl (lv_at hl 0 rfl) ?_
    refine x_get (C := R_Rm) (T := F_Rm) (N := 12) hx hb hw i_Rm hown hK.1 hM hC.1 rfl 3 (by decide) (hw _ kw_68) rfl rfl d_Rm_count_38 ?_
    refine vx_ret ?_
    exact x_ri hE rfl hM hS ⟨by unfold fCount; rw [if_neg (by decide), if_pos rfl], rfl⟩ (by omega) (by omega) d_Rm_count_41
  by_cases t2 : k = 2
  · subst t2
    refine lv_tableIn (off := 41) (tgt := 42) hx hb d_Rm_count_1 (by decide) (by decide) (by decide) (by decide) ?_
    refine lv_aload_n hx hb d_Rm_count_42 rfl (lv_at hl 0 rfl) ?_
    refine x_get (C := R_Rm) (T := F_Rm) (N := 12) hx hb hw i_Rm hown hK.1 hM hC.1 rfl 5 (by decide) (hw _ kw_70) rfl rfl d_Rm_count_43 ?_
    refine vx_ret ?_
    exact x_ri hE rfl hM hS ⟨by unfold fCount; rw [if_neg (by decide), if_neg (by decide), if_pos rfl], rfl⟩ (by omega) (by omega) d_Rm_count_46
  by_cases t3 : k = 3
  · subst t3
    refine lv_tableIn (off := 46) (tgt := 47) hx hb d_Rm_count_1 (by decide) (by decide) (by decide) (by decide) ?_
    refine lv_aload_n hx hb d_Rm_count_47 rfl (lv_at hl 0 rfl) ?_
    refine x_ci (x_runV (As := []) (rest := []) hE hK hM hl.1 (c_Rm_floatingRows l G M ad u hC hO) hC.1 rfl kw_513 kw_515 ks_16 kw_1 kw_516 0 rfl rfl rfl (by decide +kernel) ⟨by decide, by decide⟩ rfl (Nat.le_of_ble_eq_true rfl) d_Rm_count_48 ⟨by decide, by decide⟩) hS (fun r1 M1 H locs hp hM hS => ?_)
    obtain ⟨e_v, e_M⟩ := hp
    have hM : xh G M H := e_M ▸ hM
    refine vx_ret ?_
    exact x_ri hE rfl hM hS ⟨by unfold fCount; rw [if_neg (by decide), if_neg (by decide), if_neg (by decide), if_pos rfl, e_v], rfl⟩ (by omega) (by omega) d_Rm_count_51
  · refine lv_tableOut (tgt := 52) hx hb d_Rm_count_1 (z_tab4 t0 t1 t2 t3) (by decide) ?_
    exact x_ioe (is := 143) (text := "no such what") hst hE hnx hK h0 hM hS hl.1 (by decide) d_Rm_count_52 d_Rm_count_55 d_Rm_count_56 d_Rm_count_58 d_Rm_count_61 (by decide) (Nat.le_of_ble_eq_true rfl) ⟨by decide, by decide⟩ ⟨by decide, by decide⟩ (⟨by unfold fCount; rw [if_neg t0, if_neg t1, if_neg t2, if_neg t3], rfl, rfl⟩)

set_option maxHeartbeats 4000000 in
set_option maxRecDepth 100000 in
theorem c_Rm_ring (l : Launch) (G : xG) (M : xM) (hst : l.stackTraces = false) (ad : Nat → Nat) (u : zS) (hC : Core G M ad u) (hO : zOk u) (hs : Scr G M ad) (w : Int32) : vx_Met l y_Rm_ring w_Rm_ring ({ frames := 6, cells := 1, slots := 6, locals := 90 }) (xP G [.ref (ad 0), .int w] M) (xQi G (fun v M' => fRing u w = (0, v) ∧ Core G M' ad (uRing u w) ∧ Scr G M' ad ∧ xK100 M M')) (xX G (fun E M' => ((fRing u w = (1, 0) ∧ E = nISE) ∨ (fRing u w = (2, 0) ∧ E = nIAE)) ∧ M' = M)) 1 6 (xF G) := by
  refine x_metX (by decide) (Nat.le_of_ble_eq_true rfl) ?_
  intro p e s m below meth c ls hE hnx hl hM hK hS
  obtain ⟨hx, hb, hr, hml, hown, hw, hlocks⟩ := id hE
  have h0 := hM
  have hl : lv_has ls 2 [(0, .ref (ad 0)), (1, .int w)] := hl
  refine lv_aload_n hx hb d_Rm_ring_0 rfl (lv_at hl 0 rfl) ?_
  refine x_get (C := R_Rm) (T := F_Rm) (N := 12) hx hb hw i_Rm hown hK.1 hM hC.1 rfl 1 (by decide) (hw _ kw_66) rfl rfl d_Rm_ring_1 ?_
  refine lv_bipush (v := 30) hx hb d_Rm_ring_4 (by decide) ?_
  refine lv_icmp_lt (tgt := 19) hx hb d_Rm_ring_6 (by decide) (fun c_6 => ?_) (fun c_6 => ?_)
  · have h6 : zpn u < 30 := (nI_ltI (b := 30) (by have := hO.1; omega) (by decide)).mp c_6
    refine lv_iload_n hx hb d_Rm_ring_19 rfl (lv_at hl 1 rfl) ?_
    refine lv_iconst (v := 1) hx hb d_Rm_ring_20 (by decide) ?_
    refine lv_icmp_lt (tgt := 31) hx hb d_Rm_ring_21 (by decide) (fun c_21 => ?_) (fun c_21 => ?_)
    · exact x_iae (is := 71) (text := "no such width") hst hE hnx hK h0 hM hS hl.1 (by decide) d_Rm_ring_31 d_Rm_ring_34 d_Rm_ring_35 d_Rm_ring_37 d_Rm_ring_40 (by decide) (Nat.le_of_ble_eq_true rfl) ⟨by decide, by decide⟩ ⟨by decide, by decide⟩ (⟨Or.inr ⟨by unfold fRing; rw [if_neg (Nat.not_le.mpr h6), if_pos (Or.inl c_21)], rfl⟩, rfl⟩)
    · refine lv_iload_n hx hb d_Rm_ring_24 rfl (lv_at hl 1 rfl) ?_
      refine lv_sipush (v := 900) hx hb d_Rm_ring_25 (by decide) ?_
      refine lv_icmp_le (tgt := 41) hx hb d_Rm_ring_28 (by decide) (fun c_28 => ?_) (fun c_28 => ?_)
      · refine lv_aload_n hx hb d_Rm_ring_41 rfl (lv_at hl 0 rfl) ?_
        refine x_get (C := R_Rm) (T := F_Rm) (N := 12) hx hb hw i_Rm hown hK.1 hM hC.1 rfl 0 (by decide) (hw _ kw_65) rfl rfl d_Rm_ring_42 ?_
        refine lv_aload_n hx hb d_Rm_ring_45 rfl (lv_at hl 0 rfl) ?_
        refine x_get (C := R_Rm) (T := F_Rm) (N := 12) hx hb hw i_Rm hown hK.1 hM hC.1 rfl 1 (by decide) (hw _ kw_66) rfl rfl d_Rm_ring_46 ?_
        refine lv_iload_n hx hb d_Rm_ring_49 rfl (lv_at hl 1 rfl) ?_
        refine x_iast hx hb hK.1 hM hS hC.2.1 0 rfl rfl h6 (by decide) d_Rm_ring_50 (fun H locs hM hS hz => ?_)
        have hM : xh G (va_up M (ad 1) (some (1, .inl (gI G, 30, .inl (upd (zpd u) (zpn u) w))))) H := hM
        obtain ⟨M_1, eM_1⟩ : ∃ z : xM, z = va_up M (ad 1) (some (1, .inl (gI G, 30, .inl (upd (zpd u) (zpn u) w)))) := ⟨_, rfl⟩
        rw [← eM_1] at hM
        have k_ad0 := xw_upE eM_1 hC.1 hC.2.1 (by decide)
        have k_ad1 := xw_atE eM_1
        refine lv_aload_n hx hb d_Rm_ring_51 rfl (lv_at hl 0 rfl) ?_
        refine lv_dup hx hb d_Rm_ring_52 rfl ?_
        refine x_get (C := R_Rm) (T := F_Rm) (N := 12) hx hb hw i_Rm hown hK.1 hM k_ad0 rfl 1 (by decide) (hw _ kw_66) rfl rfl d_Rm_ring_53 ?_
        refine lv_iconst (v := 1) hx hb d_Rm_ring_56 (by decide) ?_
        refine lv_iadd hx hb d_Rm_ring_57 ?_
        refine lv_topi (fun tv etv => ?_)
        have etv : tv = nI (zpn u + 1) := by rw [etv]; exact nI_1 _
        subst etv
        refine x_put (C := R_Rm) (T := F_Rm) (N := 12) (ty := .int) (v := .int (nI (zpn u + 1))) hx hb hw i_Rm t_Rm t_Rm_ok n_Rm hown hK.1 hM hS k_ad0 rfl 1 (by decide) (hw _ kw_66) rfl rfl (by decide +kernel) rfl rfl (Nat.le_of_ble_eq_true rfl) d_Rm_ring_58 (fun H locs hM hS hz => ?_)
        have hM : xh G (va_up M_1 (ad 0) (some (0, .inr (4, [.ref (ad 1), .int (nI (zpn u + 1)), .ref (ad 2), .int (nI (zrn u)), .ref (ad 3), .int (nI (zmn u)), .ref (ad 4), .ref (ad 5), .ref (ad 6), .ref (ad 7), .ref (ad 8), .ref (ad 9)])))) H := hM
        obtain ⟨M_2, eM_2⟩ : ∃ z : xM, z = va_up M_1 (ad 0) (some (0, .inr (4, [.ref (ad 1), .int (nI (zpn u + 1)), .ref (ad 2), .int (nI (zrn u)), .ref (ad 3), .int (nI (zmn u)), .ref (ad 4), .ref (ad 5), .ref (ad 6), .ref (ad 7), .ref (ad 8), .ref (ad 9)]))) := ⟨_, rfl⟩
        rw [← eM_2] at hM
        have k_ad1 := xw_upE eM_2 k_ad1 k_ad0 (by decide)
        have k_ad0 := xw_atE eM_2
        refine lv_aload_n hx hb d_Rm_ring_61 rfl (lv_at hl 0 rfl) ?_
        refine x_get (C := R_Rm) (T := F_Rm) (N := 12) hx hb hw i_Rm hown hK.1 hM k_ad0 rfl 1 (by decide) (hw _ kw_66) rfl rfl d_Rm_ring_62 ?_
        refine vx_ret ?_
        exact x_ri hE rfl hM hS ⟨by unfold fRing; rw [if_neg (Nat.not_le.mpr h6), if_neg (fun h9 => h9.elim c_21 (z_nlt c_28))], Core.ring hC hs eM_1 eM_2⟩ (by omega) (by omega) d_Rm_ring_65
      · exact x_iae (is := 71) (text := "no such width") hst hE hnx hK h0 hM hS hl.1 (by decide) d_Rm_ring_31 d_Rm_ring_34 d_Rm_ring_35 d_Rm_ring_37 d_Rm_ring_40 (by decide) (Nat.le_of_ble_eq_true rfl) ⟨by decide, by decide⟩ ⟨by decide, by decide⟩ (⟨Or.inr ⟨by unfold fRing; rw [if_neg (Nat.not_le.mpr h6), if_pos (Or.inr (Int32.not_le.mp c_28))], rfl⟩, rfl⟩)
  · have h6 : 30 ≤ zpn u := Nat.not_lt.mp (fun h9 => c_6 ((nI_ltI (b := 30) (by omega) (by decide)).mpr h9))
    exact x_ise (is := 64) (text := "the pad is full") hst hE hnx hK h0 hM hS hl.1 (by decide) d_Rm_ring_9 d_Rm_ring_12 d_Rm_ring_13 d_Rm_ring_15 d_Rm_ring_18 (by decide) (Nat.le_of_ble_eq_true rfl) ⟨by decide, by decide⟩ ⟨by decide, by decide⟩ (⟨Or.inl ⟨by unfold fRing; rw [if_pos h6], rfl⟩, rfl⟩)

set_option maxHeartbeats 4000000 in
set_option maxRecDepth 100000 in
theorem c_Rm_sapwood (l : Launch) (G : xG) (M : xM) (hst : l.stackTraces = false) (ad : Nat → Nat) (u : zS) (hC : Core G M ad u) (hO : zOk u) (hs : Scr G M ad) (x w : Int32) : vx_Met l y_Rm_sapwood w_Rm_sapwood ({ frames := 6, cells := 1, slots := 6, locals := 90 }) (xP G [.ref (ad 0), .int x, .int w] M) (xQi G (fun v M' => fSap u x w = (0, v) ∧ Core G M' ad (uSap u x w) ∧ Scr G M' ad ∧ xK100 M M')) (xX G (fun E M' => fSap u x w = (1, 0) ∧ E = nIAE ∧ M' = M)) 1 6 (xF G) := by
  refine x_metX (by decide) (Nat.le_of_ble_eq_true rfl) ?_
  intro p e s m below meth c ls hE hnx hl hM hK hS
  obtain ⟨hx, hb, hr, hml, hown, hw, hlocks⟩ := id hE
  have h0 := hM
  have hl : lv_has ls 4 [(0, .ref (ad 0)), (1, .int x), (2, .int w)] := hl
  refine lv_iload_n hx hb d_Rm_sapwood_0 rfl (lv_at hl 1 rfl) ?_
  refine lv_if_lt (tgt := 10) hx hb d_Rm_sapwood_1 (by decide) (fun c_1 => ?_) (fun c_1 => ?_)
  · exact x_iae (is := 193) (text := "no such number of rings") hst hE hnx hK h0 hM hS hl.1 (by decide) d_Rm_sapwood_10 d_Rm_sapwood_13 d_Rm_sapwood_14 d_Rm_sapwood_16 d_Rm_sapwood_19 (by decide) (Nat.le_of_ble_eq_true rfl) ⟨by decide, by decide⟩ ⟨by decide, by decide⟩ (⟨by unfold fSap; rw [if_pos (Or.inl c_1)], rfl, rfl⟩)
  · refine lv_iload_n hx hb d_Rm_sapwood_4 rfl (lv_at hl 1 rfl) ?_
    refine lv_bipush (v := 60) hx hb d_Rm_sapwood_5 (by decide) ?_
    refine lv_icmp_le (tgt := 20) hx hb d_Rm_sapwood_7 (by decide) (fun c_7 => ?_) (fun c_7 => ?_)
    · have hxi := z_ix (n := 61) c_1 (fun h9 => absurd (Int32.le_trans h9 c_7) (by decide)) (by decide)
      refine lv_iload_n hx hb d_Rm_sapwood_20 rfl (lv_at hl 2 rfl) ?_
      refine lv_if_lt (tgt := 31) hx hb d_Rm_sapwood_21 (by decide) (fun c_21 => ?_) (fun c_21 => ?_)
      · exact x_iae (is := 195) (text := "no such weight") hst hE hnx hK h0 hM hS hl.1 (by decide) d_Rm_sapwood_31 d_Rm_sapwood_34 d_Rm_sapwood_35 d_Rm_sapwood_37 d_Rm_sapwood_40 (by decide) (Nat.le_of_ble_eq_true rfl) ⟨by decide, by decide⟩ ⟨by decide, by decide⟩ (⟨by unfold fSap; rw [if_neg (fun h9 => h9.elim c_1 (z_nlt c_7)), if_pos (Or.inl c_21)], rfl, rfl⟩)
      · refine lv_iload_n hx hb d_Rm_sapwood_24 rfl (lv_at hl 2 rfl) ?_
        refine lv_sipush (v := 10000) hx hb d_Rm_sapwood_25 (by decide) ?_
        refine lv_icmp_le (tgt := 41) hx hb d_Rm_sapwood_28 (by decide) (fun c_28 => ?_) (fun c_28 => ?_)
        · refine lv_aload_n hx hb d_Rm_sapwood_41 rfl (lv_at hl 0 rfl) ?_
          refine x_get (C := R_Rm) (T := F_Rm) (N := 12) hx hb hw i_Rm hown hK.1 hM hC.1 rfl 6 (by decide) (hw _ kw_71) rfl rfl d_Rm_sapwood_42 ?_
          refine lv_iload_n hx hb d_Rm_sapwood_45 rfl (lv_at hl 1 rfl) ?_
          refine x_iald hx hb hK.1 hM hC.2.2.2.2.1 0 rfl hxi.2 hxi.1 (by decide) d_Rm_sapwood_46 ?_
          refine lv_istore_n (lv' := [(3, .int ((zwt u) x.toNatClampNeg)), (0, .ref (ad 0)), (1, .int x), (2, .int w)]) hx hb d_Rm_sapwood_47 rfl hl (by decide) rfl (fun ls hl => ?_)
          refine lv_aload_n hx hb d_Rm_sapwood_48 rfl (lv_at hl 1 rfl) ?_
          refine x_get (C := R_Rm) (T := F_Rm) (N := 12) hx hb hw i_Rm hown hK.1 hM hC.1 rfl 6 (by decide) (hw _ kw_71) rfl rfl d_Rm_sapwood_49 ?_
          refine lv_iload_n hx hb d_Rm_sapwood_52 rfl (lv_at hl 2 rfl) ?_
          refine lv_iload_n hx hb d_Rm_sapwood_53 rfl (lv_at hl 3 rfl) ?_
          refine x_iast hx hb hK.1 hM hS hC.2.2.2.2.1 0 rfl hxi.2 hxi.1 (by decide) d_Rm_sapwood_54 (fun H locs hM hS hz => ?_)
          have hM : xh G (va_up M (ad 4) (some (4, .inl (gI G, 61, .inl (upd (zwt u) x.toNatClampNeg w))))) H := hM
          obtain ⟨M_1, eM_1⟩ : ∃ z : xM, z = va_up M (ad 4) (some (4, .inl (gI G, 61, .inl (upd (zwt u) x.toNatClampNeg w)))) := ⟨_, rfl⟩
          rw [← eM_1] at hM
          have k_ad0 := xw_upE eM_1 hC.1 hC.2.2.2.2.1 (by decide)
          have k_ad4 := xw_atE eM_1
          refine lv_iload_n hx hb d_Rm_sapwood_55 rfl (lv_at hl 0 rfl) ?_
          refine vx_ret ?_
          exact x_ri hE rfl hM hS ⟨by unfold fSap; rw [if_neg (fun h9 => h9.elim c_1 (z_nlt c_7)), if_neg (fun h9 => h9.elim c_21 (z_nlt c_28))], Core.sap hC hs eM_1⟩ (by omega) (by omega) d_Rm_sapwood_56
        · exact x_iae (is := 195) (text := "no such weight") hst hE hnx hK h0 hM hS hl.1 (by decide) d_Rm_sapwood_31 d_Rm_sapwood_34 d_Rm_sapwood_35 d_Rm_sapwood_37 d_Rm_sapwood_40 (by decide) (Nat.le_of_ble_eq_true rfl) ⟨by decide, by decide⟩ ⟨by decide, by decide⟩ (⟨by unfold fSap; rw [if_neg (fun h9 => h9.elim c_1 (z_nlt c_7)), if_pos (Or.inr (Int32.not_le.mp c_28))], rfl, rfl⟩)
    · exact x_iae (is := 193) (text := "no such number of rings") hst hE hnx hK h0 hM hS hl.1 (by decide) d_Rm_sapwood_10 d_Rm_sapwood_13 d_Rm_sapwood_14 d_Rm_sapwood_16 d_Rm_sapwood_19 (by decide) (Nat.le_of_ble_eq_true rfl) ⟨by decide, by decide⟩ ⟨by decide, by decide⟩ (⟨by unfold fSap; rw [if_pos (Or.inr (Int32.not_le.mp c_7))], rfl, rfl⟩)

set_option maxHeartbeats 4000000 in
set_option maxRecDepth 100000 in
theorem c_Rm_place (l : Launch) (G : xG) (M : xM) (hst : l.stackTraces = false) (ad : Nat → Nat) (u : zS) (hC : Core G M ad u) (hO : zOk u) (hs : Scr G M ad) (x y : Int32) : vx_Met l y_Rm_place w_Rm_place ({ frames := 7, cells := 2, slots := 12, locals := 120 }) (xP G [.ref (ad 0), .int x, .int y] M) (xQi G (fun v M' => fPlace u x y = (0, v) ∧ Core G M' ad (uPlace u x y) ∧ Scr G M' ad ∧ xK100 M M')) (xX G (fun E M' => ((fPlace u x y = (1, 0) ∧ E = nIOE) ∨ (fPlace u x y = (2, 0) ∧ E = nIAE)) ∧ M' = M)) 2 12 (xF G) := by
  refine x_metX (by decide) (Nat.le_of_ble_eq_true rfl) ?_
  intro p e s m below meth c ls hE hnx hl hM hK hS
  obtain ⟨hx, hb, hr, hml, hown, hw, hlocks⟩ := id hE
  have h0 := hM
  have hl : lv_has ls 5 [(0, .ref (ad 0)), (1, .int x), (2, .int y)] := hl
  refine lv_aload_n hx hb d_Rm_place_0 rfl (lv_at hl 0 rfl) ?_
  refine lv_iload_n hx hb d_Rm_place_1 rfl (lv_at hl 1 rfl) ?_
  refine x_cxr (x_runVX (As := [.int x]) (rest := []) hE hK hM hl.1 (c_Rm_rowOf l G M hst ad u hC hO x) hC.1 rfl kw_232 kw_234 ks_2 kw_1 kw_235 1 rfl rfl rfl (by decide +kernel) ⟨by decide, by decide⟩ rfl (Nat.le_of_ble_eq_true rfl) d_Rm_place_2 ⟨by decide, by decide⟩) hS (fun E ce q9 M1 H locs hp hM hS hq1 hq2 hq3 => ?_) (fun r1 M1 H locs hp hM hS => ?_)
  · obtain ⟨h_x, rfl, e_M⟩ := hp
    have hM : xh G M H := e_M ▸ hM
    exact x_out hE hnx hM hS hq1 hq2 hq3 ⟨Or.inl ⟨by unfold fPlace; rw [if_neg h_x], rfl⟩, rfl⟩ (by decide) (by decide)
  obtain ⟨h_in, e_a, e_M⟩ := hp
  have hM : xh G M H := e_M ▸ hM
  obtain ⟨i, e_i, h_i, ex_i⟩ := z_in h_in (by have := hO.2.2.1; omega)
  rw [← e_i] at e_a
  subst e_a
  have hR_i := hC.2.2.2.2.2.2.1 i h_i
  have hZ_i := hO.2.2.2.1 i h_i
  refine lv_astore_n (lv' := [(3, .ref (ad (20 + i))), (0, .ref (ad 0)), (1, .int x), (2, .int y)]) hx hb d_Rm_place_5 rfl hl (by decide) rfl (fun ls hl => ?_)
  refine lv_iload_n hx hb d_Rm_place_6 rfl (lv_at hl 3 rfl) ?_
  refine lv_iconst (v := (-1)) hx hb d_Rm_place_7 (by decide) ?_
  refine lv_icmp_lt (tgt := 18) hx hb d_Rm_place_8 (by decide) (fun c_8 => ?_) (fun c_8 => ?_)
  · exact x_iae (is := 95) (text := "no such year") hst hE hnx hK h0 hM hS hl.1 (by decide) d_Rm_place_18 d_Rm_place_21 d_Rm_place_22 d_Rm_place_24 d_Rm_place_27 (by decide) (Nat.le_of_ble_eq_true rfl) ⟨by decide, by decide⟩ ⟨by decide, by decide⟩ (⟨Or.inr ⟨by unfold fPlace; rw [if_pos h_in, if_pos (Or.inl c_8)], rfl⟩, rfl⟩)
  · refine lv_iload_n hx hb d_Rm_place_11 rfl (lv_at hl 3 rfl) ?_
    refine lv_sipush (v := 500) hx hb d_Rm_place_12 (by decide) ?_
    refine lv_icmp_le (tgt := 28) hx hb d_Rm_place_15 (by decide) (fun c_15 => ?_) (fun c_15 => ?_)
    · refine lv_aload_n hx hb d_Rm_place_28 rfl (lv_at hl 0 rfl) ?_
      refine x_getN (C := R_Row) (T := F_Row) (N := 2) (host := R_Rm) hx hb hw i_Row hown hK.1 hM hR_i.1 rfl 1 (by decide) (va_Nw.use rfl (hK.2.1.1 (97, R_Row, "start", "I") (by decide))) rfl rfl d_Rm_place_29 ?_
      refine lv_istore (lv' := [(4, .int (zst u i)), (3, .ref (ad (20 + i))), (0, .ref (ad 0)), (1, .int x), (2, .int y)]) hx hb d_Rm_place_32 hl (by decide) rfl (fun ls hl => ?_)
      refine lv_aload_n hx hb d_Rm_place_34 rfl (lv_at hl 1 rfl) ?_
      refine lv_iload_n hx hb d_Rm_place_35 rfl (lv_at hl 4 rfl) ?_
      refine x_putN (C := R_Row) (T := F_Row) (N := 2) (host := R_Rm) (ty := .int) (v := .int y) hx hb hw i_Row t_Row t_Row_ok n_Row hown hK.1 hM hS hR_i.1 rfl 1 (by decide) (va_Nw.use rfl (hK.2.1.1 (97, R_Row, "start", "I") (by decide))) rfl rfl (by decide +kernel) rfl rfl (Nat.le_of_ble_eq_true rfl) d_Rm_place_36 (fun H locs hM hS hz => ?_)
      have hM : xh G (va_up M (ad (20 + i)) (some (20 + i, .inr (2, [.ref (ad (30 + i)), .int y])))) H := hM
      obtain ⟨M_1, eM_1⟩ : ∃ z : xM, z = va_up M (ad (20 + i)) (some (20 + i, .inr (2, [.ref (ad (30 + i)), .int y]))) := ⟨_, rfl⟩
      rw [← eM_1] at hM
      have k_ad0 := xw_upE eM_1 hC.1 hR_i.1 (by omega)
      have k_ad30i := xw_upE eM_1 hR_i.2 hR_i.1 (by omega)
      have k_ad20i := xw_atE eM_1
      refine lv_iload hx hb d_Rm_place_39 (lv_at hl 0 rfl) ?_
      refine vx_ret ?_
      exact x_ri hE rfl hM hS ⟨by unfold fPlace; rw [if_pos h_in, if_neg (fun h9 => h9.elim c_8 (z_nlt c_15)), ← e_i], Core.place hC hs h_i e_i hO.2.2.1 eM_1⟩ (by omega) (by omega) d_Rm_place_41
    · exact x_iae (is := 95) (text := "no such year") hst hE hnx hK h0 hM hS hl.1 (by decide) d_Rm_place_18 d_Rm_place_21 d_Rm_place_22 d_Rm_place_24 d_Rm_place_27 (by decide) (Nat.le_of_ble_eq_true rfl) ⟨by decide, by decide⟩ ⟨by decide, by decide⟩ (⟨Or.inr ⟨by unfold fPlace; rw [if_pos h_in, if_pos (Or.inr (Int32.not_le.mp c_15))], rfl⟩, rfl⟩)
end
section
section ZD
def zDist (ev v : Nat → Int32) : Nat → Int32 × Int32
  | 0 => (0, 0)
  | k + 1 => if v k = -1 then zDist ev v k else ((zDist ev v k).1 + zAbs (ev k - v k), (zDist ev v k).2 + 1)
def zVz (u : zS) (j : Nat) (y : Int) : Int32 := if y < (zFst (zms u j) 10).toInt ∨ (zLst (zln u) (zms u j) 10).toInt < y then -1 else zAq (zVy u j (Int32.ofInt y))
def zMea (u : zS) (i j : Nat) (y : Int) : Int32 × Int32 := zDist (zev u i) (fun k => zVz u j (y + k)) (zln u i)
theorem z_swap (a b : Nat) : nI b - nI a + 1 = nI (b + 1) - nI a := by
  rw [← nI_1]
  grind
theorem z_yn {f l : Int32} (hf : inR f 0 500) (hl : inR l 0 529) : (l - f + 1).toNatClampNeg = (l.toInt - f.toInt + 1).toNat := by
  obtain ⟨a, rfl, ha, ha2⟩ := z_nat hf
  obtain ⟨b, rfl, hb, hb2⟩ := z_nat hl
  rw [z_swap, nI_toInt ha2, nI_toInt hb2]
  show (nI (b + 1) - nI a).toInt.toNat = _
  rw [pk_sub_toInt (by omega) (by omega)]
  omega
theorem z_l3 (y f : Int32) {k : Nat} (hk : k < 2 ^ 31) : (y.toInt64 + (nI k).toInt64 - f.toInt64).toInt = y.toInt + k - f.toInt := by
  have h1 := lg_i2l_add y (nI k)
  have h2 := Int32.toInt_toInt64 f
  have a1 := y.toInt_lt
  have a2 := y.le_toInt
  have a3 := f.toInt_lt
  have a4 := f.le_toInt
  rw [Int64.toInt_sub, h1, h2, nI_toInt hk]
  refine Int.bmod_eq_of_le ?_ ?_ <;> omega
theorem z_ofI {n : Nat} (h : n < 2 ^ 31) : Int32.ofInt (n : Int) = nI n := by
  apply Int32.toInt_inj.mp
  rw [nI_toInt h, Int32.toInt_ofInt_of_le (by omega) (by omega)]
theorem z_val {u : zS} (hO : zOk u) {j : Nat} (hj : j < zmn u) {V : Nat → Int32} (hV : ∀ k, k < zYn (zln u) (zms u j) → V k = zAq (zVy u j (zFst (zms u j) 10 + nI k))) (y : Int) :
    (y - (zFst (zms u j) 10).toInt < 0 → zVz u j y = -1) ∧ ((zYn (zln u) (zms u j) : Int) ≤ y - (zFst (zms u j) 10).toInt → zVz u j y = -1) ∧ ∀ k : Nat, k < zYn (zln u) (zms u j) → (k : Int) = y - (zFst (zms u j) 10).toInt → V k = zVz u j y := by
  obtain ⟨hf, hl⟩ := hO.mas hj
  have hn : zYn (zln u) (zms u j) = ((zLst (zln u) (zms u j) 10).toInt - (zFst (zms u j) 10).toInt + 1).toNat := z_yn hf hl
  have f1 := hf.1
  have f2 := hf.2
  have l1 := hl.1
  have l2 := hl.2
  refine ⟨fun h => ?_, fun h => ?_, fun k hk he => ?_⟩
  · unfold zVz
    rw [if_pos (Or.inl (by omega))]
  · unfold zVz
    rw [if_pos]
    rw [hn] at h
    by_cases h9 : y < (zFst (zms u j) 10).toInt
    · exact Or.inl h9
    · exact Or.inr (by omega)
  · rw [hV k hk]
    unfold zVz
    rw [hn] at hk
    rw [if_neg (by omega)]
    obtain ⟨a, ea, ha, ha2⟩ := z_nat hf
    rw [ea] at he ⊢
    rw [nI_toInt ha2] at he
    rw [nI_add, show y = ((a + k : Nat) : Int) by omega, z_ofI (by omega)]
theorem z_i64 {x : Int64} {n : Nat} (h0 : ¬ x < 0) (h1 : x < (nI n).toInt64) (hn : n < 2 ^ 31) : ∃ k : Nat, k < n ∧ x.toInt = k ∧ x.toInt32 = nI k := by
  have a1 : 0 ≤ x.toInt := by
    have := Int64.not_lt.mp h0
    exact Int64.le_iff_toInt_le.mp this
  have a2 : x.toInt < n := by
    have := Int64.lt_iff_toInt_lt.mp h1
    rw [Int32.toInt_toInt64, nI_toInt hn] at this
    exact this
  refine ⟨x.toInt.toNat, by omega, by omega, ?_⟩
  apply Int32.toInt_inj.mp
  rw [nI_toInt (by omega), Int64.toInt_toInt32]
  rw [Int.bmod_eq_of_le (by omega) (by omega)]
  omega
end ZD
end
section
set_option maxHeartbeats 4000000 in
set_option maxRecDepth 100000 in
theorem lp_Rm_measure {p : Program} {l : Launch} {e : Env} {s : State} {m : MethodId} {below : List Frame} {meth : Method} {c : Code} {args : Array Value} {G : xG} {M : xM} (ad : Nat → Nat) (u : zS) (hC : Core G M ad u) (hO : zOk u) (i : Nat) (hi : i < zrn u) (j : Nat) (hj : j < zmn u) (y : Int32) (q0 : Int32 × Int32) (hq : M (ad 6) = some (6, eGap q0)) (hE : xE p s m args meth c b_Rm_measure none 8 R_Rm) (hK : KX G s) : ∀ (n k : Nat), k ≤ zln u i → zln u i + 1 ≤ k + n → ∀ (H : Heap) (locs : List Loc) (ls : Array Slot), xh G (va_up M (ad 6) (some (6, eGap (zDist (zev u i) (fun k => zVz u j (y.toInt + k)) k)))) H → va_S (xF G) s.heap H locs → lv_has ls 8 [(0, .ref (ad 0)), (1, .ref (ad (20 + i))), (2, .ref (ad (40 + j))), (3, .int y), (4, .int (nI k))] → W p l e ({ frames := 2, cells := 0, slots := 0, locals := 45 }) s m args below meth c H locs 0 0 (MQ below (xQv G (fun M' => M' = va_up M (ad 6) (some (6, eGap (zMea u i j y.toInt))))) args s 0 0 (xF G)) (F0 m 10 ls []) := by
  obtain ⟨hx, hb, hr, hml, hown, hw, hlocks⟩ := id hE
  have hZ := hO.2.2.2.1 i hi
  have hRi := hC.2.2.2.2.2.2.1 i hi
  obtain ⟨hJ1, hJ2, V, D, hJ3, hJ4, hJ5⟩ := hC.2.2.2.2.2.2.2 j hj
  have hB := hO.mas hj
  have hyn : zYn (zln u) (zms u j) ≤ 530 := by
    show (zLst (zln u) (zms u j) 10 - zFst (zms u j) 10 + 1).toNatClampNeg ≤ 530
    rw [z_yn hB.1 hB.2]
    have := hB.1.1
    have := hB.2.2
    omega
  intro n
  induction n with
  | zero =>
    intro k h1 h2
    exact absurd h2 (by omega)
  | succ n ih =>
    intro k hk hin H locs ls hM hS hl
    obtain ⟨Mi, eMi⟩ : ∃ z : xM, z = va_up M (ad 6) (some (6, eGap (zDist (zev u i) (fun k => zVz u j (y.toInt + k)) k))) := ⟨_, rfl⟩
    rw [← eMi] at hM
    obtain ⟨q, eq⟩ : ∃ z : Int32 × Int32, z = zDist (zev u i) (fun k => zVz u j (y.toInt + k)) k := ⟨_, rfl⟩
    rw [← eq] at eMi
    have c_o : Mi (ad 0) = some (0, .inr (4, [.ref (ad 1), .int (nI (zpn u)), .ref (ad 2), .int (nI (zrn u)), .ref (ad 3), .int (nI (zmn u)), .ref (ad 4), .ref (ad 5), .ref (ad 6), .ref (ad 7), .ref (ad 8), .ref (ad 9)])) := xw_upE eMi hC.1 hq (by decide)
    have c_row := xw_upE eMi hRi.1 hq (by omega)
    have c_ev := xw_upE eMi hRi.2 hq (by omega)
    have c_J1 := xw_upE eMi hJ1 hq (by omega)
    have c_J3 := xw_upE eMi hJ3 hq (by omega)
    have c_tri := xw_atE eMi
    have hv := z_val hO hj (fun k hk => (hJ5 k hk).1) (y.toInt + k)
    refine lv_iload hx hb d_Rm_measure_10 (lv_at hl 4 rfl) ?_
    refine lv_aload_n hx hb d_Rm_measure_12 rfl (lv_at hl 1 rfl) ?_
    refine x_getN (C := R_Row) (T := F_Row) (N := 2) (host := R_Rm) hx hb hw i_Row hown hK.1 hM c_row rfl 0 (by decide) (va_Nw.use rfl (hK.2.1.1 (87, R_Row, "even", "[I") (by decide))) rfl rfl d_Rm_measure_13 ?_
    refine x_alen (v := nI (zln u i)) hx hb hK.1 hM c_ev 0 rfl rfl d_Rm_measure_16 ?_
    refine lv_icmp_ge (tgt := 94) hx hb d_Rm_measure_17 (by decide) (fun c_17 => ?_) (fun c_17 => ?_)
    · have h17 : zln u i ≤ k := (nI_leI (by omega) (by omega)).mp c_17
      exact x_rv hE rfl hM hS (by rw [eMi, eq, show k = zln u i by omega]; rfl) (by decide) (by decide) d_Rm_measure_94
    · have hkl : k < zln u i := Nat.not_le.mp (fun h9 => c_17 ((nI_leI (by omega) (by omega)).mpr h9))
      refine lv_iload_n hx hb d_Rm_measure_20 rfl (lv_at hl 3 rfl) ?_
      refine lv_i2l (v := y.toInt64) hx hb d_Rm_measure_21 rfl ?_
      refine lv_iload hx hb d_Rm_measure_22 (lv_at hl 4 rfl) ?_
      refine lv_i2l (v := (nI k).toInt64) hx hb d_Rm_measure_24 rfl ?_
      refine lv_ladd hx hb d_Rm_measure_25 ?_
      refine lv_aload_n hx hb d_Rm_measure_26 rfl (lv_at hl 2 rfl) ?_
      refine x_getN (C := R_Men) (T := F_Men) (N := 6) (host := R_Rm) hx hb hw i_Men hown hK.1 hM c_J1 rfl 1 (by decide) (va_Nw.use rfl (hK.2.1.1 (134, R_Men, "first", "I") (by decide))) rfl rfl d_Rm_measure_27 ?_
      refine lv_i2l (v := (zFst (zms u j) 10).toInt64) hx hb d_Rm_measure_30 rfl ?_
      refine lv_lsub hx hb d_Rm_measure_31 ?_
      refine lv_topl (fun z ez => ?_)
      have hz3 : z.toInt = y.toInt + k - (zFst (zms u j) 10).toInt := by rw [ez]; exact z_l3 _ _ (by omega)
      refine lv_lstore (lv' := [(5, .long z), (0, .ref (ad 0)), (1, .ref (ad (20 + i))), (2, .ref (ad (40 + j))), (3, .int y), (4, .int (nI k))]) hx hb d_Rm_measure_32 hl (by decide) rfl (fun ls hl => ?_)
      refine lv_lload hx hb d_Rm_measure_34 (lv_at hl 0 rfl) ?_
      refine lv_lconst (v := 0) hx hb d_Rm_measure_36 (by decide) ?_
      refine W.lcmp hx hb d_Rm_measure_37 ?_
      refine lv_if_lt (tgt := 88) hx hb d_Rm_measure_38 (by decide) (fun c_38 => ?_) (fun c_38 => ?_)
      · have e_v : zVz u j (y.toInt + k) = -1 := hv.1 (by have h8 := Int64.lt_iff_toInt_lt.mp ((lg_cmp_lt _ _).mp c_38); rw [hz3] at h8; exact h8)
        refine lv_iinc (v := (nI (k + 1))) (lv' := [(4, .int (nI (k + 1))), (5, .long z), (0, .ref (ad 0)), (1, .ref (ad (20 + i))), (2, .ref (ad (40 + j))), (3, .int y)]) hx hb d_Rm_measure_88 hl (k := 5) rfl (nI_1 k) (by decide) rfl (fun ls hl => ?_)
        refine lv_goto (tgt := 10) hx hb d_Rm_measure_91 (by decide) ?_
        have hz : zDist (zev u i) (fun k => zVz u j (y.toInt + k)) (k + 1) = q := by
          show (if zVz u j (y.toInt + k) = -1 then _ else _) = _
          rw [if_pos e_v, ← eq]
        exact ih (k + 1) (by omega) (by omega) _ _ _ (by rw [hz, ← eMi]; exact hM) hS (lv_sub hl [2, 3, 4, 5, 0] rfl)
      · have h38 : ¬ z < 0 := fun h9 => c_38 ((lg_cmp_lt _ _).mpr h9)
        refine lv_lload hx hb d_Rm_measure_41 (lv_at hl 0 rfl) ?_
        refine lv_aload_n hx hb d_Rm_measure_43 rfl (lv_at hl 3 rfl) ?_
        refine x_getN (C := R_Men) (T := F_Men) (N := 6) (host := R_Rm) hx hb hw i_Men hown hK.1 hM c_J1 rfl 4 (by decide) (va_Nw.use rfl (hK.2.1.1 (145, R_Men, "values", "[I") (by decide))) rfl rfl d_Rm_measure_44 ?_
        refine x_alen (v := nI (zYn (zln u) (zms u j))) hx hb hK.1 hM c_J3 0 rfl rfl d_Rm_measure_47 ?_
        refine lv_i2l (v := (nI (zYn (zln u) (zms u j))).toInt64) hx hb d_Rm_measure_48 rfl ?_
        refine W.lcmp hx hb d_Rm_measure_49 ?_
        refine lv_if_lt (tgt := 56) hx hb d_Rm_measure_50 (by decide) (fun c_50 => ?_) (fun c_50 => ?_)
        · obtain ⟨kk, hk1, hk2, hk3⟩ := z_i64 h38 ((lg_cmp_lt _ _).mp c_50) (by omega)
          have e_v := hv.2.2 kk hk1 (by omega)
          refine lv_aload_n hx hb d_Rm_measure_56 rfl (lv_at hl 3 rfl) ?_
          refine x_getN (C := R_Men) (T := F_Men) (N := 6) (host := R_Rm) hx hb hw i_Men hown hK.1 hM c_J1 rfl 4 (by decide) (va_Nw.use rfl (hK.2.1.1 (145, R_Men, "values", "[I") (by decide))) rfl rfl d_Rm_measure_57 ?_
          refine lv_lload hx hb d_Rm_measure_60 (lv_at hl 0 rfl) ?_
          refine lv_l2i (v := z.toInt32) hx hb d_Rm_measure_62 rfl ?_
          refine x_iald hx hb hK.1 hM c_J3 0 rfl hk3 hk1 (by omega) d_Rm_measure_63 ?_
          refine lv_istore (lv' := [(7, .int (V kk)), (5, .long z), (0, .ref (ad 0)), (1, .ref (ad (20 + i))), (2, .ref (ad (40 + j))), (3, .int y), (4, .int (nI k))]) hx hb d_Rm_measure_64 hl (by decide) rfl (fun ls hl => ?_)
          refine lv_iload hx hb d_Rm_measure_66 (lv_at hl 0 rfl) ?_
          refine lv_iconst (v := (-1)) hx hb d_Rm_measure_68 (by decide) ?_
          refine lv_icmp_eq (tgt := 88) hx hb d_Rm_measure_69 (by decide) (fun c_69 => ?_) (fun c_69 => ?_)
          · refine lv_iinc (v := (nI (k + 1))) (lv' := [(4, .int (nI (k + 1))), (7, .int (V kk)), (5, .long z), (0, .ref (ad 0)), (1, .ref (ad (20 + i))), (2, .ref (ad (40 + j))), (3, .int y)]) hx hb d_Rm_measure_88 hl (k := 6) rfl (nI_1 k) (by decide) rfl (fun ls hl => ?_)
            refine lv_goto (tgt := 10) hx hb d_Rm_measure_91 (by decide) ?_
            have hz : zDist (zev u i) (fun k => zVz u j (y.toInt + k)) (k + 1) = q := by
              show (if zVz u j (y.toInt + k) = -1 then _ else _) = _
              rw [if_pos (e_v ▸ c_69), ← eq]
            exact ih (k + 1) (by omega) (by omega) _ _ _ (by rw [hz, ← eMi]; exact hM) hS (lv_sub hl [3, 4, 5, 6, 0] rfl)
          · refine lv_aload_n hx hb d_Rm_measure_72 rfl (lv_at hl 2 rfl) ?_
            refine x_get (C := R_Rm) (T := F_Rm) (N := 12) hx hb hw i_Rm hown hK.1 hM c_o rfl 8 (by decide) (hw _ kw_73) rfl rfl d_Rm_measure_73 ?_
            refine lv_aload_n hx hb d_Rm_measure_76 rfl (lv_at hl 3 rfl) ?_
            refine x_getN (C := R_Row) (T := F_Row) (N := 2) (host := R_Rm) hx hb hw i_Row hown hK.1 hM c_row rfl 0 (by decide) (va_Nw.use rfl (hK.2.1.1 (87, R_Row, "even", "[I") (by decide))) rfl rfl d_Rm_measure_77 ?_
            refine lv_iload hx hb d_Rm_measure_80 (lv_at hl 6 rfl) ?_
            refine x_iald hx hb hK.1 hM c_ev 0 rfl rfl hkl (by omega) d_Rm_measure_82 ?_
            refine lv_iload hx hb d_Rm_measure_83 (lv_at hl 0 rfl) ?_
            refine x_cv (x_runV (As := [.int ((zev u i) k), .int (V kk)]) (rest := []) hE hK hM hl.1 (c_Gap_add l G Mi (ad 6) 6 q.1 q.2 c_tri (zev u i k) (V kk)) c_tri rfl kw_408 kw_409 kw_410 kw_3 kw_411 2 rfl rfl rfl (by decide +kernel) ⟨by decide, by decide⟩ rfl (Nat.le_of_ble_eq_true rfl) d_Rm_measure_85 ⟨by decide, by decide⟩) hS (fun M1 H locs hp hM hS => ?_)
            refine lv_iinc (v := (nI (k + 1))) (lv' := [(4, .int (nI (k + 1))), (7, .int (V kk)), (5, .long z), (0, .ref (ad 0)), (1, .ref (ad (20 + i))), (2, .ref (ad (40 + j))), (3, .int y)]) hx hb d_Rm_measure_88 hl (k := 6) rfl (nI_1 k) (by decide) rfl (fun ls hl => ?_)
            refine lv_goto (tgt := 10) hx hb d_Rm_measure_91 (by decide) ?_
            have hz : zDist (zev u i) (fun k => zVz u j (y.toInt + k)) (k + 1) = (q.1 + zAbs (zev u i k - zVz u j (y.toInt + k)), q.2 + 1) := by
              show (if zVz u j (y.toInt + k) = -1 then _ else _) = _
              rw [if_neg (fun h9 => c_69 (e_v.trans h9)), ← eq]
            exact ih (k + 1) (by omega) (by omega) _ _ _ (by rw [hz, ← e_v]; rw [hp, eMi, bx_uu] at hM; exact hM) hS (lv_sub hl [3, 4, 5, 6, 0] rfl)
        · have e_v : zVz u j (y.toInt + k) = -1 := hv.2.1 (by have h8 := Int64.le_iff_toInt_le.mp (Int64.not_lt.mp (fun h9 => c_50 ((lg_cmp_lt _ _).mpr h9))); rw [hz3, Int32.toInt_toInt64, nI_toInt (by omega)] at h8; exact h8)
          refine lv_goto (tgt := 88) hx hb d_Rm_measure_53 (by decide) ?_
          refine lv_iinc (v := (nI (k + 1))) (lv' := [(4, .int (nI (k + 1))), (5, .long z), (0, .ref (ad 0)), (1, .ref (ad (20 + i))), (2, .ref (ad (40 + j))), (3, .int y)]) hx hb d_Rm_measure_88 hl (k := 5) rfl (nI_1 k) (by decide) rfl (fun ls hl => ?_)
          refine lv_goto (tgt := 10) hx hb d_Rm_measure_91 (by decide) ?_
          have hz : zDist (zev u i) (fun k => zVz u j (y.toInt + k)) (k + 1) = q := by
            show (if zVz u j (y.toInt + k) = -1 then _ else _) = _
            rw [if_pos e_v, ← eq]
          exact ih (k + 1) (by omega) (by omega) _ _ _ (by rw [hz, ← eMi]; exact hM) hS (lv_sub hl [2, 3, 4, 5, 0] rfl)

set_option maxHeartbeats 4000000 in
set_option maxRecDepth 100000 in
theorem c_Rm_measure (l : Launch) (G : xG) (M : xM) (ad : Nat → Nat) (u : zS) (hC : Core G M ad u) (hO : zOk u) (i : Nat) (hi : i < zrn u) (j : Nat) (hj : j < zmn u) (y : Int32) (q0 : Int32 × Int32) (hq : M (ad 6) = some (6, eGap q0)) : Met l y_Rm_measure w_Rm_measure ({ frames := 2, cells := 0, slots := 0, locals := 45 }) (xP G [.ref (ad 0), .ref (ad (20 + i)), .ref (ad (40 + j)), .int y] M) (xQv G (fun M' => M' = va_up M (ad 6) (some (6, eGap (zMea u i j y.toInt))))) 0 0 (xF G) := by
  refine x_met (by decide) (Nat.le_of_ble_eq_true rfl) ?_
  intro p e s m below meth c ls hE hin hl hM hK hS
  obtain ⟨hx, hb, hr, hml, hown, hw, hlocks⟩ := id hE
  have hl : lv_has ls 8 [(0, .ref (ad 0)), (1, .ref (ad (20 + i))), (2, .ref (ad (40 + j))), (3, .int y)] := hl
  refine lv_aload_n hx hb d_Rm_measure_0 rfl (lv_at hl 0 rfl) ?_
  refine x_get (C := R_Rm) (T := F_Rm) (N := 12) hx hb hw i_Rm hown hK.1 hM hC.1 rfl 8 (by decide) (hw _ kw_73) rfl rfl d_Rm_measure_1 ?_
  refine x_cv (x_runV (As := []) (rest := []) hE hK hM hl.1 (c_Gap_clear l G M (ad 6) 6 q0.1 q0.2 hq) hq rfl kw_404 kw_405 kw_406 kw_3 kw_407 0 rfl rfl rfl (by decide +kernel) ⟨by decide, by decide⟩ rfl (Nat.le_of_ble_eq_true rfl) d_Rm_measure_4 ⟨by decide, by decide⟩) hS (fun M1 H locs hp hM hS => ?_)
  have hM : xh G (va_up M (ad 6) (some (6, eGap (zDist (zev u i) (fun k => zVz u j (y.toInt + k)) 0)))) H := hp ▸ hM
  refine lv_iconst (v := 0) hx hb d_Rm_measure_7 (by decide) ?_
  refine lv_istore (lv' := [(4, .int 0), (0, .ref (ad 0)), (1, .ref (ad (20 + i))), (2, .ref (ad (40 + j))), (3, .int y)]) hx hb d_Rm_measure_8 hl (by decide) rfl (fun ls hl => ?_)
  exact lp_Rm_measure ad u hC hO i hi j hj y q0 hq hE hK (zln u i + 1) 0 (by omega) (by omega) _ _ _ hM hS (lv_sub hl [1, 2, 3, 4, 0] rfl)
end
section
section ZN
def xOff2 (r1 r2 : Nat) (M M' : xM) : Prop := ∀ (b r : Nat) (e : va_E), M b = some (r, e) → r ≠ r1 → r ≠ r2 → M' b = some (r, e)
theorem xOff2.refl {r1 r2 : Nat} {M : xM} : xOff2 r1 r2 M M := fun _ _ _ h _ _ => h
theorem xOff2.up1 {r1 r2 : Nat} {M M1 M2 : xM} {a : Nat} {e : va_E} {x : Option (Nat × va_E)} (h : xOff2 r1 r2 M M1) (ha : M1 a = some (r1, e)) (hm : M2 = va_up M1 a x) : xOff2 r1 r2 M M2 := fun b r e' hb h1 h2 => xw_upE hm (h b r e' hb h1 h2) ha h1
theorem xOff2.up2 {r1 r2 : Nat} {M M1 M2 : xM} {a : Nat} {e : va_E} {x : Option (Nat × va_E)} (h : xOff2 r1 r2 M M1) (ha : M1 a = some (r2, e)) (hm : M2 = va_up M1 a x) : xOff2 r1 r2 M M2 := fun b r e' hb h1 h2 => xw_upE hm (h b r e' hb h1 h2) ha h2
theorem xOff2.keep {r1 r2 : Nat} {M M' : xM} (h : xOff2 r1 r2 M M') (h1 : zScr r1 = true) (h2 : zScr r2 = true) : xKeep M M' := fun a r e ha hr => h a r e ha (fun z => by rw [z, h1] at hr; cases hr) (fun z => by rw [z, h2] at hr; cases hr)
theorem xOff2.trans {r1 r2 : Nat} {M M1 M2 : xM} (h1 : xOff2 r1 r2 M M1) (h2 : xOff2 r1 r2 M1 M2) : xOff2 r1 r2 M M2 := fun b r e hb e1 e2 => h2 b r e (h1 b r e hb e1 e2) e1 e2
abbrev zN3 : Type := Int32 × Int32 × Int32
def zNst (least y : Int32) (d : Int32 × Int32) (q : zN3) : zN3 := if d.2 < least then q else if q.1 = -1000 ∨ zLess d.1 d.2 q.2.1 q.2.2 then (y, d.1, d.2) else q
def zNea (u : zS) (i j : Nat) (least : Int32) (y0 : Int) : Nat → zN3
  | 0 => (-1000, 0, 0)
  | n + 1 => zNst least (Int32.ofInt (y0 + n)) (zMea u i j (y0 + n)) (zNea u i j least y0 n)
def zY0 (u : zS) (i j : Nat) : Int := (zFst (zms u j) 10).toInt - zln u i + 1
def zYN (u : zS) (i j : Nat) : Nat := ((zLst (zln u) (zms u j) 10).toInt - zY0 u i j + 1).toNat
def zDat (u : zS) (i j : Nat) (least : Int32) : zN3 := zNea u i j least (zY0 u i j) (zYN u i j)
theorem z_y0 {f : Int32} {n : Nat} (hf : inR f 0 500) (hn : n ≤ 30) : (f - nI n + 1).toInt = f.toInt - n + 1 := by
  obtain ⟨a, rfl, ha, ha2⟩ := z_nat hf
  rw [z_swap, pk_sub_toInt (by omega) (by omega), nI_toInt ha2]
  omega
theorem z_inc {y : Int32} (h1 : -1000 ≤ y.toInt) (h2 : y.toInt ≤ 1000) : (y + 1).toInt = y.toInt + 1 := by
  rw [Int32.toInt_add, show (1 : Int32).toInt = 1 from rfl]
  exact Int.bmod_eq_of_le (by omega) (by omega)
end ZN
end
section
set_option maxHeartbeats 4000000 in
set_option maxRecDepth 100000 in
theorem lp_Rm_nearestYear {p : Program} {l : Launch} {e : Env} {s : State} {m : MethodId} {below : List Frame} {meth : Method} {c : Code} {args : Array Value} {G : xG} {M : xM} (ad : Nat → Nat) (u : zS) (hC : Core G M ad u) (hO : zOk u) (i : Nat) (hi : i < zrn u) (j : Nat) (hj : j < zmn u) (least : Int32) (hE : xE p s m args meth c b_Rm_nearestYear (some .int) 6 R_Rm) (hK : KX G s) : ∀ (n k : Nat) (yv : Int32), k ≤ zYN u i j → zYN u i j + 1 ≤ k + n → yv.toInt = zY0 u i j + k → ∀ (Mk : xM) (q6 : Int32 × Int32), xOff2 6 7 M Mk → Mk (ad 6) = some (6, eGap q6) → Mk (ad 7) = some (7, eGap (zNea u i j least (zY0 u i j) k).2) → ∀ (H : Heap) (locs : List Loc) (ls : Array Slot), xh G Mk H → va_S (xF G) s.heap H locs → lv_has ls 6 [(0, .ref (ad 0)), (1, .ref (ad (20 + i))), (2, .ref (ad (40 + j))), (3, .int least), (4, .int (zNea u i j least (zY0 u i j) k).1), (5, .int yv)] → W p l e ({ frames := 3, cells := 0, slots := 0, locals := 72 }) s m args below meth c H locs 0 0 (MQ below (xQi G (fun v M' => v = (zDat u i j least).1 ∧ xOff2 6 7 M M' ∧ (∃ q, M' (ad 6) = some (6, eGap q)) ∧ M' (ad 7) = some (7, eGap (zDat u i j least).2))) args s 0 0 (xF G)) (F0 m 26 ls []) := by
  obtain ⟨hx, hb, hr, hml, hown, hw, hlocks⟩ := id hE
  have hZ := hO.2.2.2.1 i hi
  have hB := hO.mas hj
  have hb1 := hB.1.1
  have hb2 := hB.1.2
  have hb3 := hB.2.1
  have hb4 := hB.2.2
  have hy0 : zY0 u i j = (zFst (zms u j) 10).toInt - zln u i + 1 := rfl
  have hyN : zYN u i j = ((zLst (zln u) (zms u j) 10).toInt - zY0 u i j + 1).toNat := rfl
  intro n
  induction n with
  | zero =>
    intro k yv h1 h2
    exact absurd h2 (by omega)
  | succ n ih =>
    intro k yv hk hin hy Mk q6 hof c_tri c_nea H locs ls hM hS hl
    have hCk : Core G Mk ad u := hC.keep (hof.keep rfl rfl)
    obtain ⟨bq, ebq⟩ : ∃ z : zN3, z = zNea u i j least (zY0 u i j) k := ⟨_, rfl⟩
    rw [← ebq] at hl c_nea
    have c_o : Mk (ad 0) = some (0, .inr (4, [.ref (ad 1), .int (nI (zpn u)), .ref (ad 2), .int (nI (zrn u)), .ref (ad 3), .int (nI (zmn u)), .ref (ad 4), .ref (ad 5), .ref (ad 6), .ref (ad 7), .ref (ad 8), .ref (ad 9)])) := hCk.1
    have c_row := (hCk.2.2.2.2.2.2.1 i hi).1
    have c_ev := (hCk.2.2.2.2.2.2.1 i hi).2
    have c_J1 := (hCk.2.2.2.2.2.2.2 j hj).1
    refine lv_iload hx hb d_Rm_nearestYear_26 (lv_at hl 5 rfl) ?_
    refine lv_aload_n hx hb d_Rm_nearestYear_28 rfl (lv_at hl 2 rfl) ?_
    refine x_getN (C := R_Men) (T := F_Men) (N := 6) (host := R_Rm) hx hb hw i_Men hown hK.1 hM c_J1 rfl 2 (by decide) (va_Nw.use rfl (hK.2.1.1 (137, R_Men, "last", "I") (by decide))) rfl rfl d_Rm_nearestYear_29 ?_
    refine lv_icmp_gt (tgt := 97) hx hb d_Rm_nearestYear_32 (by decide) (fun c_32 => ?_) (fun c_32 => ?_)
    · refine lv_iload hx hb d_Rm_nearestYear_97 (lv_at hl 4 rfl) ?_
      have hkN : k = zYN u i j := by have h7 := Int32.lt_iff_toInt_lt.mp c_32; omega
      exact x_ri hE rfl hM hS ⟨by rw [ebq, hkN]; rfl, hof, ⟨q6, c_tri⟩, by rw [c_nea, ebq, hkN]; rfl⟩ (by decide) (by decide) d_Rm_nearestYear_99
    · refine lv_aload_n hx hb d_Rm_nearestYear_35 rfl (lv_at hl 0 rfl) ?_
      refine lv_aload_n hx hb d_Rm_nearestYear_36 rfl (lv_at hl 1 rfl) ?_
      refine lv_aload_n hx hb d_Rm_nearestYear_37 rfl (lv_at hl 2 rfl) ?_
      refine lv_iload hx hb d_Rm_nearestYear_38 (lv_at hl 5 rfl) ?_
      refine x_cv (x_runV (As := [.ref (ad (20 + i)), .ref (ad (40 + j)), .int yv]) (rest := []) hE hK hM hl.1 (c_Rm_measure l G Mk ad u hCk hO i hi j hj yv q6 c_tri) c_o rfl kw_426 kw_428 ks_11 kw_1 kw_429 3 rfl rfl rfl (by decide +kernel) ⟨by decide, by decide⟩ rfl (Nat.le_of_ble_eq_true rfl) d_Rm_nearestYear_40 ⟨by decide, by decide⟩) hS (fun M1 H locs hp hM hS => ?_)
      obtain ⟨d, ed⟩ : ∃ z : Int32 × Int32, z = zMea u i j yv.toInt := ⟨_, rfl⟩
      rw [← ed] at hp
      have hof := hof.up1 c_tri hp
      have c_o := xw_upE hp c_o c_tri (by decide)
      have c_row := xw_upE hp c_row c_tri (by omega)
      have c_ev := xw_upE hp c_ev c_tri (by omega)
      have c_nea := xw_upE hp c_nea c_tri (by decide)
      have c_J1 := xw_upE hp c_J1 c_tri (by omega)
      have c_tri := xw_atE hp
      obtain ⟨Ma, eMa⟩ : ∃ z : xM, z = M1 := ⟨_, rfl⟩
      subst eMa
      refine lv_aload_n hx hb d_Rm_nearestYear_43 rfl (lv_at hl 0 rfl) ?_
      refine x_get (C := R_Rm) (T := F_Rm) (N := 12) hx hb hw i_Rm hown hK.1 hM c_o rfl 8 (by decide) (hw _ kw_73) rfl rfl d_Rm_nearestYear_44 ?_
      refine x_getN (C := R_Gap) (T := F_Gap) (N := 2) (host := R_Rm) hx hb hw i_Gap hown hK.1 hM c_tri rfl 1 (by decide) (va_Nw.use rfl (hK.2.1.1 (222, R_Gap, "years", "I") (by decide))) rfl rfl d_Rm_nearestYear_47 ?_
      refine lv_iload_n hx hb d_Rm_nearestYear_50 rfl (lv_at hl 3 rfl) ?_
      refine lv_icmp_lt (tgt := 91) hx hb d_Rm_nearestYear_51 (by decide) (fun c_51 => ?_) (fun c_51 => ?_)
      · refine lv_iinc (v := (yv + 1)) (lv' := [(5, .int (yv + 1)), (0, .ref (ad 0)), (1, .ref (ad (20 + i))), (2, .ref (ad (40 + j))), (3, .int least), (4, .int bq.1)]) hx hb d_Rm_nearestYear_91 hl (k := 5) rfl rfl (by decide) rfl (fun ls hl => ?_)
        refine lv_goto (tgt := 26) hx hb d_Rm_nearestYear_94 (by decide) ?_
        have hz : zNea u i j least (zY0 u i j) (k + 1) = bq := by
          show zNst _ _ _ _ = _
          rw [← ebq, ← hy, Int32.ofInt_toInt, ← ed]
          unfold zNst
          rw [if_pos c_51]
        exact ih (k + 1) (yv + 1) (by have h7 := Int32.le_iff_toInt_le.mp (Int32.not_lt.mp c_32); omega) (by omega) (by rw [z_inc (by omega) (by omega), hy]; omega) _ _ hof c_tri (by rw [hz]; exact c_nea) _ _ _ hM hS (by rw [hz]; exact lv_sub hl [1, 2, 3, 4, 5, 0] rfl)
      · refine lv_iload hx hb d_Rm_nearestYear_54 (lv_at hl 4 rfl) ?_
        refine lv_sipush (v := (-1000)) hx hb d_Rm_nearestYear_56 (by decide) ?_
        refine lv_icmp_eq (tgt := 76) hx hb d_Rm_nearestYear_59 (by decide) (fun c_59 => ?_) (fun c_59 => ?_)
        · refine lv_iload hx hb d_Rm_nearestYear_76 (lv_at hl 5 rfl) ?_
          refine lv_istore (lv' := [(4, .int yv), (0, .ref (ad 0)), (1, .ref (ad (20 + i))), (2, .ref (ad (40 + j))), (3, .int least), (5, .int yv)]) hx hb d_Rm_nearestYear_78 hl (by decide) rfl (fun ls hl => ?_)
          refine lv_aload_n hx hb d_Rm_nearestYear_80 rfl (lv_at hl 1 rfl) ?_
          refine x_get (C := R_Rm) (T := F_Rm) (N := 12) hx hb hw i_Rm hown hK.1 hM c_o rfl 9 (by decide) (hw _ kw_74) rfl rfl d_Rm_nearestYear_81 ?_
          refine lv_aload_n hx hb d_Rm_nearestYear_84 rfl (lv_at hl 1 rfl) ?_
          refine x_get (C := R_Rm) (T := F_Rm) (N := 12) hx hb hw i_Rm hown hK.1 hM c_o rfl 8 (by decide) (hw _ kw_73) rfl rfl d_Rm_nearestYear_85 ?_
          refine x_cv (x_runV (As := [.ref (ad 6)]) (rest := []) hE hK hM hl.1 (c_Gap_become l G Ma (ad 7) 7 bq.2.1 bq.2.2 c_nea (ad 6) 6 d.1 d.2 c_tri (by decide)) c_nea rfl kw_449 kw_450 kw_451 kw_3 kw_452 1 rfl rfl rfl (by decide +kernel) ⟨by decide, by decide⟩ rfl (Nat.le_of_ble_eq_true rfl) d_Rm_nearestYear_88 ⟨by decide, by decide⟩) hS (fun M1 H locs hp hM hS => ?_)
          have hof := hof.up2 c_nea hp
          have c_o := xw_upE hp c_o c_nea (by decide)
          have c_row := xw_upE hp c_row c_nea (by omega)
          have c_ev := xw_upE hp c_ev c_nea (by omega)
          have c_tri := xw_upE hp c_tri c_nea (by decide)
          have c_J1 := xw_upE hp c_J1 c_nea (by omega)
          have c_nea := xw_atE hp
          refine lv_iinc (v := (yv + 1)) (lv' := [(5, .int (yv + 1)), (4, .int yv), (0, .ref (ad 0)), (1, .ref (ad (20 + i))), (2, .ref (ad (40 + j))), (3, .int least)]) hx hb d_Rm_nearestYear_91 hl (k := 5) rfl rfl (by decide) rfl (fun ls hl => ?_)
          refine lv_goto (tgt := 26) hx hb d_Rm_nearestYear_94 (by decide) ?_
          have hz : zNea u i j least (zY0 u i j) (k + 1) = (yv, d.1, d.2) := by
            show zNst _ _ _ _ = _
            rw [← ebq, ← hy, Int32.ofInt_toInt, ← ed]
            unfold zNst
            rw [if_neg c_51, if_pos (Or.inl c_59)]
          exact ih (k + 1) (yv + 1) (by have h7 := Int32.le_iff_toInt_le.mp (Int32.not_lt.mp c_32); omega) (by omega) (by rw [z_inc (by omega) (by omega), hy]; omega) _ _ hof c_tri (by rw [hz]; exact c_nea) _ _ _ hM hS (by rw [hz]; exact lv_sub hl [2, 3, 4, 5, 1, 0] rfl)
        · refine lv_aload_n hx hb d_Rm_nearestYear_62 rfl (lv_at hl 0 rfl) ?_
          refine x_get (C := R_Rm) (T := F_Rm) (N := 12) hx hb hw i_Rm hown hK.1 hM c_o rfl 8 (by decide) (hw _ kw_73) rfl rfl d_Rm_nearestYear_63 ?_
          refine lv_aload_n hx hb d_Rm_nearestYear_66 rfl (lv_at hl 0 rfl) ?_
          refine x_get (C := R_Rm) (T := F_Rm) (N := 12) hx hb hw i_Rm hown hK.1 hM c_o rfl 9 (by decide) (hw _ kw_74) rfl rfl d_Rm_nearestYear_67 ?_
          refine x_ci (x_runV (As := [.ref (ad 7)]) (rest := []) hE hK hM hl.1 (c_Gap_lessThan l G Ma (ad 6) 6 d.1 d.2 c_tri (ad 7) 7 bq.2.1 bq.2.2 c_nea) c_tri rfl kw_445 kw_446 kw_447 kw_3 kw_448 1 rfl rfl rfl (by decide +kernel) ⟨by decide, by decide⟩ rfl (Nat.le_of_ble_eq_true rfl) d_Rm_nearestYear_70 ⟨by decide, by decide⟩) hS (fun r2 M1 H locs hp hM hS => ?_)
          obtain ⟨e_r, e_M⟩ := hp
          have hM : xh G Ma H := e_M ▸ hM
          refine lv_if_eq (tgt := 91) hx hb d_Rm_nearestYear_73 (by decide) (fun c_73 => ?_) (fun c_73 => ?_)
          · refine lv_iinc (v := (yv + 1)) (lv' := [(5, .int (yv + 1)), (0, .ref (ad 0)), (1, .ref (ad (20 + i))), (2, .ref (ad (40 + j))), (3, .int least), (4, .int bq.1)]) hx hb d_Rm_nearestYear_91 hl (k := 5) rfl rfl (by decide) rfl (fun ls hl => ?_)
            refine lv_goto (tgt := 26) hx hb d_Rm_nearestYear_94 (by decide) ?_
            have hz : zNea u i j least (zY0 u i j) (k + 1) = bq := by
              show zNst _ _ _ _ = _
              rw [← ebq, ← hy, Int32.ofInt_toInt, ← ed]
              unfold zNst
              rw [if_neg c_51, if_neg (fun h9 => h9.elim c_59 (fun h8 => by rw [if_pos h8] at e_r; rw [e_r] at c_73; exact absurd c_73 (by decide)))]
            exact ih (k + 1) (yv + 1) (by have h7 := Int32.le_iff_toInt_le.mp (Int32.not_lt.mp c_32); omega) (by omega) (by rw [z_inc (by omega) (by omega), hy]; omega) _ _ hof c_tri (by rw [hz]; exact c_nea) _ _ _ hM hS (by rw [hz]; exact lv_sub hl [1, 2, 3, 4, 5, 0] rfl)
          · refine lv_iload hx hb d_Rm_nearestYear_76 (lv_at hl 5 rfl) ?_
            refine lv_istore (lv' := [(4, .int yv), (0, .ref (ad 0)), (1, .ref (ad (20 + i))), (2, .ref (ad (40 + j))), (3, .int least), (5, .int yv)]) hx hb d_Rm_nearestYear_78 hl (by decide) rfl (fun ls hl => ?_)
            refine lv_aload_n hx hb d_Rm_nearestYear_80 rfl (lv_at hl 1 rfl) ?_
            refine x_get (C := R_Rm) (T := F_Rm) (N := 12) hx hb hw i_Rm hown hK.1 hM c_o rfl 9 (by decide) (hw _ kw_74) rfl rfl d_Rm_nearestYear_81 ?_
            refine lv_aload_n hx hb d_Rm_nearestYear_84 rfl (lv_at hl 1 rfl) ?_
            refine x_get (C := R_Rm) (T := F_Rm) (N := 12) hx hb hw i_Rm hown hK.1 hM c_o rfl 8 (by decide) (hw _ kw_73) rfl rfl d_Rm_nearestYear_85 ?_
            refine x_cv (x_runV (As := [.ref (ad 6)]) (rest := []) hE hK hM hl.1 (c_Gap_become l G Ma (ad 7) 7 bq.2.1 bq.2.2 c_nea (ad 6) 6 d.1 d.2 c_tri (by decide)) c_nea rfl kw_449 kw_450 kw_451 kw_3 kw_452 1 rfl rfl rfl (by decide +kernel) ⟨by decide, by decide⟩ rfl (Nat.le_of_ble_eq_true rfl) d_Rm_nearestYear_88 ⟨by decide, by decide⟩) hS (fun M1 H locs hp hM hS => ?_)
            have hof := hof.up2 c_nea hp
            have c_o := xw_upE hp c_o c_nea (by decide)
            have c_row := xw_upE hp c_row c_nea (by omega)
            have c_ev := xw_upE hp c_ev c_nea (by omega)
            have c_tri := xw_upE hp c_tri c_nea (by decide)
            have c_J1 := xw_upE hp c_J1 c_nea (by omega)
            have c_nea := xw_atE hp
            refine lv_iinc (v := (yv + 1)) (lv' := [(5, .int (yv + 1)), (4, .int yv), (0, .ref (ad 0)), (1, .ref (ad (20 + i))), (2, .ref (ad (40 + j))), (3, .int least)]) hx hb d_Rm_nearestYear_91 hl (k := 5) rfl rfl (by decide) rfl (fun ls hl => ?_)
            refine lv_goto (tgt := 26) hx hb d_Rm_nearestYear_94 (by decide) ?_
            have hz : zNea u i j least (zY0 u i j) (k + 1) = (yv, d.1, d.2) := by
              show zNst _ _ _ _ = _
              rw [← ebq, ← hy, Int32.ofInt_toInt, ← ed]
              unfold zNst
              rw [if_neg c_51, if_pos (Or.inr (Classical.byContradiction fun h8 => c_73 (by rw [e_r, if_neg h8])))]
            exact ih (k + 1) (yv + 1) (by have h7 := Int32.le_iff_toInt_le.mp (Int32.not_lt.mp c_32); omega) (by omega) (by rw [z_inc (by omega) (by omega), hy]; omega) _ _ hof c_tri (by rw [hz]; exact c_nea) _ _ _ hM hS (by rw [hz]; exact lv_sub hl [2, 3, 4, 5, 1, 0] rfl)

set_option maxHeartbeats 4000000 in
set_option maxRecDepth 100000 in
theorem c_Rm_nearestYear (l : Launch) (G : xG) (M : xM) (ad : Nat → Nat) (u : zS) (hC : Core G M ad u) (hO : zOk u) (i : Nat) (hi : i < zrn u) (j : Nat) (hj : j < zmn u) (least : Int32) (q6 : Int32 × Int32) (hq6 : M (ad 6) = some (6, eGap q6)) (q7 : Int32 × Int32) (hq7 : M (ad 7) = some (7, eGap q7)) : Met l y_Rm_nearestYear w_Rm_nearestYear ({ frames := 3, cells := 0, slots := 0, locals := 72 }) (xP G [.ref (ad 0), .ref (ad (20 + i)), .ref (ad (40 + j)), .int least] M) (xQi G (fun v M' => v = (zDat u i j least).1 ∧ xOff2 6 7 M M' ∧ (∃ q, M' (ad 6) = some (6, eGap q)) ∧ M' (ad 7) = some (7, eGap (zDat u i j least).2))) 0 0 (xF G) := by
  refine x_met (by decide) (Nat.le_of_ble_eq_true rfl) ?_
  intro p e s m below meth c ls hE hin hl hM hK hS
  obtain ⟨hx, hb, hr, hml, hown, hw, hlocks⟩ := id hE
  have hl : lv_has ls 6 [(0, .ref (ad 0)), (1, .ref (ad (20 + i))), (2, .ref (ad (40 + j))), (3, .int least)] := hl
  refine lv_sipush (v := (-1000)) hx hb d_Rm_nearestYear_0 (by decide) ?_
  refine lv_istore (lv' := [(4, .int (-1000)), (0, .ref (ad 0)), (1, .ref (ad (20 + i))), (2, .ref (ad (40 + j))), (3, .int least)]) hx hb d_Rm_nearestYear_3 hl (by decide) rfl (fun ls hl => ?_)
  refine lv_aload_n hx hb d_Rm_nearestYear_5 rfl (lv_at hl 1 rfl) ?_
  refine x_get (C := R_Rm) (T := F_Rm) (N := 12) hx hb hw i_Rm hown hK.1 hM hC.1 rfl 9 (by decide) (hw _ kw_74) rfl rfl d_Rm_nearestYear_6 ?_
  refine x_cv (x_runV (As := []) (rest := []) hE hK hM hl.1 (c_Gap_clear l G M (ad 7) 7 q7.1 q7.2 hq7) (id hq7) rfl kw_404 kw_405 kw_406 kw_3 kw_407 0 rfl rfl rfl (by decide +kernel) ⟨by decide, by decide⟩ rfl (Nat.le_of_ble_eq_true rfl) d_Rm_nearestYear_9 ⟨by decide, by decide⟩) hS (fun M1 H locs hp hM hS => ?_)
  have hof := (xOff2.refl (r1 := 6) (r2 := 7) (M := M)).up2 hq7 hp
  have k_ad0 := xw_upE hp hC.1 (id hq7) (by decide)
  have k_ad20i := xw_upE hp (hC.2.2.2.2.2.2.1 i hi).1 (id hq7) (by omega)
  have k_ad30i := xw_upE hp (hC.2.2.2.2.2.2.1 i hi).2 (id hq7) (by omega)
  have k_ad40j := xw_upE hp (hC.2.2.2.2.2.2.2 j hj).1 (id hq7) (by omega)
  have k_ad6 := xw_upE hp (id hq6) (id hq7) (by decide)
  have k_ad7 := xw_atE hp
  refine lv_aload_n hx hb d_Rm_nearestYear_12 rfl (lv_at hl 3 rfl) ?_
  refine x_getN (C := R_Men) (T := F_Men) (N := 6) (host := R_Rm) hx hb hw i_Men hown hK.1 hM k_ad40j rfl 1 (by decide) (va_Nw.use rfl (hK.2.1.1 (134, R_Men, "first", "I") (by decide))) rfl rfl d_Rm_nearestYear_13 ?_
  refine lv_aload_n hx hb d_Rm_nearestYear_16 rfl (lv_at hl 2 rfl) ?_
  refine x_getN (C := R_Row) (T := F_Row) (N := 2) (host := R_Rm) hx hb hw i_Row hown hK.1 hM k_ad20i rfl 0 (by decide) (va_Nw.use rfl (hK.2.1.1 (87, R_Row, "even", "[I") (by decide))) rfl rfl d_Rm_nearestYear_17 ?_
  refine x_alen (v := nI (zln u i)) hx hb hK.1 hM k_ad30i 0 rfl rfl d_Rm_nearestYear_20 ?_
  refine lv_isub hx hb d_Rm_nearestYear_21 ?_
  refine lv_iconst (v := 1) hx hb d_Rm_nearestYear_22 (by decide) ?_
  refine lv_iadd hx hb d_Rm_nearestYear_23 ?_
  refine lv_istore (lv' := [(5, .int (((zFst (zms u j) 10) - (nI (zln u i))) + 1)), (4, .int (-1000)), (0, .ref (ad 0)), (1, .ref (ad (20 + i))), (2, .ref (ad (40 + j))), (3, .int least)]) hx hb d_Rm_nearestYear_24 hl (by decide) rfl (fun ls hl => ?_)
  have hl : lv_has ls 6 [(0, .ref (ad 0)), (1, .ref (ad (20 + i))), (2, .ref (ad (40 + j))), (3, .int least), (4, .int (-1000)), (5, .int (((zFst (zms u j) 10) - (nI (zln u i))) + 1))] := lv_sub hl [2, 3, 4, 5, 1, 0] rfl
  exact lp_Rm_nearestYear ad u hC hO i hi j hj least hE hK (zYN u i j + 1) 0 _ (by omega) (by omega) (by rw [z_y0 (hO.mas hj).1 (hO.2.2.2.1 i hi).2.1]; unfold zY0; omega) M1 q6 hof k_ad6 k_ad7 _ _ _ hM hS hl
end
section
section ZG
theorem Scr.off2 {G : xG} {M M' : xM} {ad : Nat → Nat} (h : Scr G M ad) (ho : xOff2 6 7 M M') (h6 : ∃ q : Int32 × Int32, M' (ad 6) = some (6, eGap q)) (h7 : ∃ q : Int32 × Int32, M' (ad 7) = some (7, eGap q)) : Scr G M' ad := by
  obtain ⟨⟨q5, h5⟩, -, -, ⟨f, h9⟩, hg⟩ := h
  refine ⟨⟨q5, ho _ _ _ h5 (by decide) (by decide)⟩, h6, h7, ⟨f, ho _ _ _ h9 (by decide) (by decide)⟩, fun i hi => ?_⟩
  obtain ⟨q, hq⟩ := hg i hi
  exact ⟨q, ho _ _ _ hq (by omega) (by omega)⟩
theorem Scr.up6 {G : xG} {M M' : xM} {ad : Nat → Nat} {q : Int32 × Int32} (h : Scr G M ad) (e : M' = va_up M (ad 6) (some (6, eGap q))) : Scr G M' ad ∧ xKeep M M' := by
  obtain ⟨q6, h6⟩ := h.2.1
  obtain ⟨q7, h7⟩ := h.2.2.1
  have ho := (xOff2.refl (r1 := 6) (r2 := 7) (M := M)).up1 h6 e
  exact ⟨h.off2 ho ⟨q, xw_atE e⟩ ⟨q7, xw_upE e h7 h6 (by decide)⟩, ho.keep rfl rfl⟩
theorem Scr.up5 {G : xG} {M M' : xM} {ad : Nat → Nat} {q : zQ} (h : Scr G M ad) (e : M' = va_up M (ad 5) (some (5, eRob q))) : Scr G M' ad ∧ xKeep M M' := by
  obtain ⟨⟨q5, h5⟩, ⟨q6, h6⟩, ⟨q7, h7⟩, ⟨f, h9⟩, hg⟩ := h
  refine ⟨⟨⟨q, xw_atE e⟩, ⟨q6, xw_upE e h6 h5 (by decide)⟩, ⟨q7, xw_upE e h7 h5 (by decide)⟩, ⟨f, xw_upE e h9 h5 (by decide)⟩, fun i hi => ?_⟩, by rw [e]; exact xKeep.up h5 rfl⟩
  obtain ⟨q, hq⟩ := hg i hi
  exact ⟨q, xw_upE e hq h5 (by omega)⟩
abbrev zWh (w : Int32) : Prop := ¬ w < 0 ∧ ¬ 1 < w
abbrev zLe (w : Int32) : Prop := ¬ w < 2 ∧ ¬ 30 < w
def fDist (u : zS) (x m y w : Int32) : zR := if zIn x (zrn u) then (if zIn m (zmn u) then (if zWh w then (0, if w = 0 then (zMea u x.toNatClampNeg m.toNatClampNeg y.toInt).1 else (zMea u x.toNatClampNeg m.toNatClampNeg y.toInt).2) else (1, 0)) else (1, 0)) else (1, 0)
def fDate (u : zS) (x m w : Int32) : zR := if zIn x (zrn u) then (if zIn m (zmn u) then (if zLe w then (0, (zDat u x.toNatClampNeg m.toNatClampNeg w).1) else (2, 0)) else (1, 0)) else (1, 0)
end ZG
end
section
set_option maxHeartbeats 4000000 in
set_option maxRecDepth 100000 in
theorem c_Rm_distance (l : Launch) (G : xG) (M : xM) (hst : l.stackTraces = false) (ad : Nat → Nat) (u : zS) (hC : Core G M ad u) (hO : zOk u) (hs : Scr G M ad) (x mm y w : Int32) : vx_Met l y_Rm_distance w_Rm_distance ({ frames := 7, cells := 3, slots := 18, locals := 125 }) (xP G [.ref (ad 0), .int x, .int mm, .int y, .int w] M) (xQi G (fun v M' => fDist u x mm y w = (0, v) ∧ xKeep M M' ∧ Scr G M' ad)) (xX G (fun E M' => fDist u x mm y w = (1, 0) ∧ E = nIOE ∧ M' = M)) 3 18 (xF G) := by
  refine x_metX (by decide) (Nat.le_of_ble_eq_true rfl) ?_
  intro p e s m below meth c ls hE hnx hl hM hK hS
  obtain ⟨hx, hb, hr, hml, hown, hw, hlocks⟩ := id hE
  have h0 := hM
  have hl : lv_has ls 7 [(0, .ref (ad 0)), (1, .int x), (2, .int mm), (3, .int y), (4, .int w)] := hl
  refine lv_aload_n hx hb d_Rm_distance_0 rfl (lv_at hl 0 rfl) ?_
  refine lv_iload_n hx hb d_Rm_distance_1 rfl (lv_at hl 1 rfl) ?_
  refine x_cxr (x_runVX (As := [.int x]) (rest := []) hE hK hM hl.1 (c_Rm_rowOf l G M hst ad u hC hO x) hC.1 rfl kw_232 kw_234 ks_2 kw_1 kw_235 1 rfl rfl rfl (by decide +kernel) ⟨by decide, by decide⟩ rfl (Nat.le_of_ble_eq_true rfl) d_Rm_distance_2 ⟨by decide, by decide⟩) hS (fun E ce q9 M1 H locs hp hM hS hq1 hq2 hq3 => ?_) (fun r1 M1 H locs hp hM hS => ?_)
  · obtain ⟨h_x, rfl, e_M⟩ := hp
    have hM : xh G M H := e_M ▸ hM
    exact x_out hE hnx hM hS hq1 hq2 hq3 ⟨by unfold fDist; rw [if_neg h_x], rfl, rfl⟩ (by decide) (by decide)
  obtain ⟨h_in, e_a, e_M⟩ := hp
  have hM : xh G M H := e_M ▸ hM
  obtain ⟨i, e_i, h_i, ex_i⟩ := z_in h_in (by have := hO.2.2.1; omega)
  rw [← e_i] at e_a
  subst e_a
  have hR_i := hC.2.2.2.2.2.2.1 i h_i
  have hZ_i := hO.2.2.2.1 i h_i
  refine lv_astore (lv' := [(5, .ref (ad (20 + i))), (0, .ref (ad 0)), (1, .int x), (2, .int mm), (3, .int y), (4, .int w)]) hx hb d_Rm_distance_5 hl (by decide) rfl (fun ls hl => ?_)
  refine lv_aload_n hx hb d_Rm_distance_7 rfl (lv_at hl 1 rfl) ?_
  refine lv_iload_n hx hb d_Rm_distance_8 rfl (lv_at hl 3 rfl) ?_
  refine x_cxr (x_runVX (As := [.int mm]) (rest := []) hE hK hM hl.1 (c_Rm_meanOf l G M hst ad u hC hO mm) hC.1 rfl kw_366 kw_368 ks_9 kw_1 kw_369 1 rfl rfl rfl (by decide +kernel) ⟨by decide, by decide⟩ rfl (Nat.le_of_ble_eq_true rfl) d_Rm_distance_9 ⟨by decide, by decide⟩) hS (fun E ce q9 M1 H locs hp hM hS hq1 hq2 hq3 => ?_) (fun r2 M1 H locs hp hM hS => ?_)
  · obtain ⟨h_x, rfl, e_M⟩ := hp
    have hM : xh G M H := e_M ▸ hM
    exact x_out hE hnx hM hS hq1 hq2 hq3 ⟨by unfold fDist; rw [if_pos h_in, if_neg h_x], rfl, rfl⟩ (by decide) (by decide)
  obtain ⟨h_inj, e_a, e_M⟩ := hp
  have hM : xh G M H := e_M ▸ hM
  obtain ⟨j, e_j, h_j, ex_j⟩ := z_in h_inj (by have := hO.2.2.2.2.1; omega)
  rw [← e_j] at e_a
  subst e_a
  obtain ⟨hJ1, hJ2, V, D, hJ3, hJ4, hJ5⟩ := hC.2.2.2.2.2.2.2 j h_j
  have hB := hO.mas h_j
  refine lv_astore (lv' := [(6, .ref (ad (40 + j))), (5, .ref (ad (20 + i))), (0, .ref (ad 0)), (1, .int x), (2, .int mm), (3, .int y), (4, .int w)]) hx hb d_Rm_distance_12 hl (by decide) rfl (fun ls hl => ?_)
  refine lv_iload hx hb d_Rm_distance_14 (lv_at hl 6 rfl) ?_
  refine x_cxv (x_runSX (As := [.int w]) (rest := []) hE hK hM hl.1 (c_Rm_checkSumOrYears l G M hst w) kw_396 kw_397 kw_1 kw_398 1 rfl rfl rfl (by decide +kernel) ⟨by decide, by decide⟩ rfl (Nat.le_of_ble_eq_true rfl) d_Rm_distance_16 ⟨by decide, by decide⟩) hS (fun E ce q9 M1 H locs hp hM hS hq1 hq2 hq3 => ?_) (fun M1 H locs hp hM hS => ?_)
  · obtain ⟨h_x, rfl, e_M⟩ := hp
    have hM : xh G M H := e_M ▸ hM
    exact x_out hE hnx hM hS hq1 hq2 hq3 ⟨by unfold fDist; rw [if_pos h_in, if_pos h_inj, if_neg h_x], rfl, rfl⟩ (by decide) (by decide)
  obtain ⟨h_w, e_M⟩ := hp
  have hM : xh G M H := e_M ▸ hM
  refine lv_aload_n hx hb d_Rm_distance_19 rfl (lv_at hl 2 rfl) ?_
  refine lv_aload hx hb d_Rm_distance_20 (lv_at hl 1 rfl) ?_
  refine lv_aload hx hb d_Rm_distance_22 (lv_at hl 0 rfl) ?_
  refine lv_iload_n hx hb d_Rm_distance_24 rfl (lv_at hl 5 rfl) ?_
  obtain ⟨q6, hq6⟩ := hs.2.1
  refine x_cv (x_runV (As := [.ref (ad (20 + i)), .ref (ad (40 + j)), .int y]) (rest := []) hE hK hM hl.1 (c_Rm_measure l G M ad u hC hO i h_i j h_j y q6 hq6) hC.1 rfl kw_426 kw_428 ks_11 kw_1 kw_429 3 rfl rfl rfl (by decide +kernel) ⟨by decide, by decide⟩ rfl (Nat.le_of_ble_eq_true rfl) d_Rm_distance_25 ⟨by decide, by decide⟩) hS (fun M1 H locs hp hM hS => ?_)
  obtain ⟨d, ed⟩ : ∃ z : Int32 × Int32, z = zMea u i j y.toInt := ⟨_, rfl⟩
  rw [← ed] at hp
  have hsk := hs.up6 hp
  have k_ad0 := xw_upE hp hC.1 hq6 (by decide)
  have hq6 := xw_atE hp
  refine lv_aload_n hx hb d_Rm_distance_28 rfl (lv_at hl 2 rfl) ?_
  refine x_get (C := R_Rm) (T := F_Rm) (N := 12) hx hb hw i_Rm hown hK.1 hM k_ad0 rfl 8 (by decide) (hw _ kw_73) rfl rfl d_Rm_distance_29 ?_
  refine lv_iload hx hb d_Rm_distance_32 (lv_at hl 6 rfl) ?_
  obtain ⟨Mb, eMb⟩ : ∃ z : xM, z = M1 := ⟨_, rfl⟩
  subst eMb
  refine x_ci (x_runV (As := [.int w]) (rest := []) hE hK hM hl.1 (c_Gap_sumOrYears l G Mb (ad 6) 6 d.1 d.2 hq6 w) hq6 rfl kw_415 kw_416 kw_417 kw_3 kw_418 1 rfl rfl rfl (by decide +kernel) ⟨by decide, by decide⟩ rfl (Nat.le_of_ble_eq_true rfl) d_Rm_distance_34 ⟨by decide, by decide⟩) hS (fun r5 M1 H locs hp hM hS => ?_)
  obtain ⟨e_r, e_M⟩ := hp
  have hM : xh G Mb H := e_M ▸ hM
  refine vx_ret ?_
  exact x_ri hE rfl hM hS ⟨by unfold fDist; rw [if_pos h_in, if_pos h_inj, if_pos h_w, e_r, ← e_i, ← e_j, ← ed], hsk.2, hsk.1⟩ (by omega) (by omega) d_Rm_distance_37

set_option maxHeartbeats 4000000 in
set_option maxRecDepth 100000 in
theorem c_Rm_date (l : Launch) (G : xG) (M : xM) (hst : l.stackTraces = false) (ad : Nat → Nat) (u : zS) (hC : Core G M ad u) (hO : zOk u) (hs : Scr G M ad) (x mm w : Int32) : vx_Met l y_Rm_date w_Rm_date ({ frames := 7, cells := 3, slots := 18, locals := 125 }) (xP G [.ref (ad 0), .int x, .int mm, .int w] M) (xQi G (fun v M' => fDate u x mm w = (0, v) ∧ xKeep M M' ∧ Scr G M' ad)) (xX G (fun E M' => ((fDate u x mm w = (1, 0) ∧ E = nIOE) ∨ (fDate u x mm w = (2, 0) ∧ E = nIAE)) ∧ M' = M)) 3 18 (xF G) := by
  refine x_metX (by decide) (Nat.le_of_ble_eq_true rfl) ?_
  intro p e s m below meth c ls hE hnx hl hM hK hS
  obtain ⟨hx, hb, hr, hml, hown, hw, hlocks⟩ := id hE
  have h0 := hM
  have hl : lv_has ls 6 [(0, .ref (ad 0)), (1, .int x), (2, .int mm), (3, .int w)] := hl
  refine lv_aload_n hx hb d_Rm_date_0 rfl (lv_at hl 0 rfl) ?_
  refine lv_iload_n hx hb d_Rm_date_1 rfl (lv_at hl 1 rfl) ?_
  refine x_cxr (x_runVX (As := [.int x]) (rest := []) hE hK hM hl.1 (c_Rm_rowOf l G M hst ad u hC hO x) hC.1 rfl kw_232 kw_234 ks_2 kw_1 kw_235 1 rfl rfl rfl (by decide +kernel) ⟨by decide, by decide⟩ rfl (Nat.le_of_ble_eq_true rfl) d_Rm_date_2 ⟨by decide, by decide⟩) hS (fun E ce q9 M1 H locs hp hM hS hq1 hq2 hq3 => ?_) (fun r1 M1 H locs hp hM hS => ?_)
  · obtain ⟨h_x, rfl, e_M⟩ := hp
    have hM : xh G M H := e_M ▸ hM
    exact x_out hE hnx hM hS hq1 hq2 hq3 ⟨Or.inl ⟨by unfold fDate; rw [if_neg h_x], rfl⟩, rfl⟩ (by decide) (by decide)
  obtain ⟨h_in, e_a, e_M⟩ := hp
  have hM : xh G M H := e_M ▸ hM
  obtain ⟨i, e_i, h_i, ex_i⟩ := z_in h_in (by have := hO.2.2.1; omega)
  rw [← e_i] at e_a
  subst e_a
  have hR_i := hC.2.2.2.2.2.2.1 i h_i
  have hZ_i := hO.2.2.2.1 i h_i
  refine lv_astore (lv' := [(4, .ref (ad (20 + i))), (0, .ref (ad 0)), (1, .int x), (2, .int mm), (3, .int w)]) hx hb d_Rm_date_5 hl (by decide) rfl (fun ls hl => ?_)
  refine lv_aload_n hx hb d_Rm_date_7 rfl (lv_at hl 1 rfl) ?_
  refine lv_iload_n hx hb d_Rm_date_8 rfl (lv_at hl 3 rfl) ?_
  refine x_cxr (x_runVX (As := [.int mm]) (rest := []) hE hK hM hl.1 (c_Rm_meanOf l G M hst ad u hC hO mm) hC.1 rfl kw_366 kw_368 ks_9 kw_1 kw_369 1 rfl rfl rfl (by decide +kernel) ⟨by decide, by decide⟩ rfl (Nat.le_of_ble_eq_true rfl) d_Rm_date_9 ⟨by decide, by decide⟩) hS (fun E ce q9 M1 H locs hp hM hS hq1 hq2 hq3 => ?_) (fun r2 M1 H locs hp hM hS => ?_)
  · obtain ⟨h_x, rfl, e_M⟩ := hp
    have hM : xh G M H := e_M ▸ hM
    exact x_out hE hnx hM hS hq1 hq2 hq3 ⟨Or.inl ⟨by unfold fDate; rw [if_pos h_in, if_neg h_x], rfl⟩, rfl⟩ (by decide) (by decide)
  obtain ⟨h_inj, e_a, e_M⟩ := hp
  have hM : xh G M H := e_M ▸ hM
  obtain ⟨j, e_j, h_j, ex_j⟩ := z_in h_inj (by have := hO.2.2.2.2.1; omega)
  rw [← e_j] at e_a
  subst e_a
  obtain ⟨hJ1, hJ2, V, D, hJ3, hJ4, hJ5⟩ := hC.2.2.2.2.2.2.2 j h_j
  have hB := hO.mas h_j
  refine lv_astore (lv' := [(5, .ref (ad (40 + j))), (4, .ref (ad (20 + i))), (0, .ref (ad 0)), (1, .int x), (2, .int mm), (3, .int w)]) hx hb d_Rm_date_12 hl (by decide) rfl (fun ls hl => ?_)
  refine lv_iload_n hx hb d_Rm_date_14 rfl (lv_at hl 5 rfl) ?_
  refine x_cxv (x_runSX (As := [.int w]) (rest := []) hE hK hM hl.1 (c_Rm_checkLeast l G M hst w) kw_437 kw_438 kw_1 kw_439 1 rfl rfl rfl (by decide +kernel) ⟨by decide, by decide⟩ rfl (Nat.le_of_ble_eq_true rfl) d_Rm_date_15 ⟨by decide, by decide⟩) hS (fun E ce q9 M1 H locs hp hM hS hq1 hq2 hq3 => ?_) (fun M1 H locs hp hM hS => ?_)
  · obtain ⟨h_x, rfl, e_M⟩ := hp
    have hM : xh G M H := e_M ▸ hM
    exact x_out hE hnx hM hS hq1 hq2 hq3 ⟨Or.inr ⟨by unfold fDate; rw [if_pos h_in, if_pos h_inj, if_neg h_x], rfl⟩, rfl⟩ (by decide) (by decide)
  obtain ⟨h_w, e_M⟩ := hp
  have hM : xh G M H := e_M ▸ hM
  refine lv_aload_n hx hb d_Rm_date_18 rfl (lv_at hl 2 rfl) ?_
  refine lv_aload hx hb d_Rm_date_19 (lv_at hl 1 rfl) ?_
  refine lv_aload hx hb d_Rm_date_21 (lv_at hl 0 rfl) ?_
  refine lv_iload_n hx hb d_Rm_date_23 rfl (lv_at hl 5 rfl) ?_
  obtain ⟨q6, hq6⟩ := hs.2.1
  obtain ⟨q7, hq7⟩ := hs.2.2.1
  refine x_ci (x_runV (As := [.ref (ad (20 + i)), .ref (ad (40 + j)), .int w]) (rest := []) hE hK hM hl.1 (c_Rm_nearestYear l G M ad u hC hO i h_i j h_j w q6 hq6 q7 hq7) hC.1 rfl kw_441 kw_443 ks_12 kw_1 kw_444 3 rfl rfl rfl (by decide +kernel) ⟨by decide, by decide⟩ rfl (Nat.le_of_ble_eq_true rfl) d_Rm_date_24 ⟨by decide, by decide⟩) hS (fun r4 M1 H locs hp hM hS => ?_)
  obtain ⟨e_r, hof, h6, h7⟩ := hp
  refine vx_ret ?_
  exact x_ri hE rfl hM hS ⟨by unfold fDate; rw [if_pos h_in, if_pos h_inj, if_pos h_w, e_r, ← e_i, ← e_j], hof.keep rfl rfl, hs.off2 hof h6 ⟨_, h7⟩⟩ (by omega) (by omega) d_Rm_date_27
end
section
section ZH
def zMo (u : zS) (i j : Nat) : Int32 × Int32 := zDist (zev u i) (fun k => zAq (zGat (zln u) (zev u) (zms u j) (zms u j i + nI k) (nI i) (zrn u))) (zln u i)
def fLeft (u : zS) (m x w : Int32) : zR := if zIn m (zmn u) then (if zWh w then (if zIn x 10 ∧ zms u m.toNatClampNeg x.toNatClampNeg ≠ -1 then (0, if w = 0 then (zMo u x.toNatClampNeg m.toNatClampNeg).1 else (zMo u x.toNatClampNeg m.toNatClampNeg).2) else (1, 0)) else (1, 0)) else (1, 0)
def zSam (u : zS) (i j : Nat) : Int32 × Int32 := zDist (zev u i) (fun k => zRing (zln u j) (zev u j) (zst u i + nI k - zst u j)) (zln u i)
def fSame (u : zS) (x y : Int32) : zR := if zIn x (zrn u) then (if zIn y (zrn u) then (0, if zst u x.toNatClampNeg = -1 ∨ zst u y.toNatClampNeg = -1 then 0 else if (zSam u x.toNatClampNeg y.toNatClampNeg).2 < 5 ∨ 15 * (zSam u x.toNatClampNeg y.toNatClampNeg).2 < (zSam u x.toNatClampNeg y.toNatClampNeg).1 then 0 else 1) else (1, 0)) else (1, 0)
theorem Scr.off56 {G : xG} {M M' : xM} {ad : Nat → Nat} (h : Scr G M ad) (ho : xOff2 5 6 M M') (h5 : ∃ q : zQ, M' (ad 5) = some (5, eRob q)) (h6 : ∃ q : Int32 × Int32, M' (ad 6) = some (6, eGap q)) : Scr G M' ad := by
  obtain ⟨-, -, ⟨q7, h7⟩, ⟨f, h9⟩, hg⟩ := h
  refine ⟨h5, h6, ⟨q7, ho _ _ _ h7 (by decide) (by decide)⟩, ⟨f, ho _ _ _ h9 (by decide) (by decide)⟩, fun i hi => ?_⟩
  obtain ⟨q, hq⟩ := hg i hi
  exact ⟨q, ho _ _ _ hq (by omega) (by omega)⟩
end ZH
end
section
set_option maxHeartbeats 4000000 in
set_option maxRecDepth 100000 in
theorem lp_Rm_measureFromOthers {p : Program} {l : Launch} {e : Env} {s : State} {m : MethodId} {below : List Frame} {meth : Method} {c : Code} {args : Array Value} {G : xG} {M : xM} (ad : Nat → Nat) (u : zS) (hC : Core G M ad u) (hO : zOk u) (i : Nat) (hi : i < zrn u) (j : Nat) (hj : j < zmn u) (hE : xE p s m args meth c b_Rm_measureFromOthers none 6 R_Rm) (hK : KX G s) : ∀ (n k : Nat), k ≤ zln u i → zln u i + 1 ≤ k + n → ∀ (Mk : xM) (q5 : zQ), xOff2 5 6 M Mk → Mk (ad 5) = some (5, eRob q5) → Mk (ad 6) = some (6, eGap (zDist (zev u i) (fun k => zAq (zGat (zln u) (zev u) (zms u j) (zms u j i + nI k) (nI i) (zrn u))) k)) → ∀ (H : Heap) (locs : List Loc) (ls : Array Slot), xh G Mk H → va_S (xF G) s.heap H locs → lv_has ls 6 [(0, .ref (ad 0)), (1, .ref (ad (40 + j))), (2, .int (nI i)), (3, .ref (ad (30 + i))), (4, .int (nI k))] → W p l e ({ frames := 3, cells := 0, slots := 0, locals := 70 }) s m args below meth c H locs 0 0 (MQ below (xQv G (fun M' => xOff2 5 6 M M' ∧ (∃ q, M' (ad 5) = some (5, eRob q)) ∧ M' (ad 6) = some (6, eGap (zMo u i j)))) args s 0 0 (xF G)) (F0 m 20 ls []) := by
  obtain ⟨hx, hb, hr, hml, hown, hw, hlocks⟩ := id hE
  have hZ := hO.2.2.2.1 i hi
  have hrn := hO.2.2.1
  intro n
  induction n with
  | zero =>
    intro k h1 h2
    exact absurd h2 (by omega)
  | succ n ih =>
    intro k hk hin Mk q5 hof c_rob c_tri H locs ls hM hS hl
    have hCk : Core G Mk ad u := hC.keep (hof.keep rfl rfl)
    obtain ⟨q, eq⟩ : ∃ z : Int32 × Int32, z = zDist (zev u i) (fun k => zAq (zGat (zln u) (zev u) (zms u j) (zms u j i + nI k) (nI i) (zrn u))) k := ⟨_, rfl⟩
    rw [← eq] at c_tri
    have c_o : Mk (ad 0) = some (0, .inr (4, [.ref (ad 1), .int (nI (zpn u)), .ref (ad 2), .int (nI (zrn u)), .ref (ad 3), .int (nI (zmn u)), .ref (ad 4), .ref (ad 5), .ref (ad 6), .ref (ad 7), .ref (ad 8), .ref (ad 9)])) := hCk.1
    have c_ev := (hCk.2.2.2.2.2.2.1 i hi).2
    have c_J1 := (hCk.2.2.2.2.2.2.2 j hj).1
    have c_J2 := (hCk.2.2.2.2.2.2.2 j hj).2.1
    refine lv_iload hx hb d_Rm_measureFromOthers_20 (lv_at hl 4 rfl) ?_
    refine lv_aload_n hx hb d_Rm_measureFromOthers_22 rfl (lv_at hl 3 rfl) ?_
    refine x_alen (v := nI (zln u i)) hx hb hK.1 hM c_ev 0 rfl rfl d_Rm_measureFromOthers_23 ?_
    refine lv_icmp_ge (tgt := 79) hx hb d_Rm_measureFromOthers_24 (by decide) (fun c_24 => ?_) (fun c_24 => ?_)
    · have h24 : zln u i ≤ k := (nI_leI (by omega) (by omega)).mp c_24
      exact x_rv hE rfl hM hS ⟨hof, ⟨q5, c_rob⟩, by rw [c_tri, eq, show k = zln u i by omega]; rfl⟩ (by omega) (by omega) d_Rm_measureFromOthers_79
    · have hkl : k < zln u i := Nat.not_le.mp (fun h9 => c_24 ((nI_leI (by omega) (by omega)).mpr h9))
      refine lv_aload_n hx hb d_Rm_measureFromOthers_27 rfl (lv_at hl 0 rfl) ?_
      refine lv_aload_n hx hb d_Rm_measureFromOthers_28 rfl (lv_at hl 1 rfl) ?_
      refine x_getN (C := R_Men) (T := F_Men) (N := 6) (host := R_Rm) hx hb hw i_Men hown hK.1 hM c_J1 rfl 0 (by decide) (va_Nw.use rfl (hK.2.1.1 (159, R_Men, "starts", "[I") (by decide))) rfl rfl d_Rm_measureFromOthers_29 ?_
      refine lv_aload_n hx hb d_Rm_measureFromOthers_32 rfl (lv_at hl 1 rfl) ?_
      refine x_getN (C := R_Men) (T := F_Men) (N := 6) (host := R_Rm) hx hb hw i_Men hown hK.1 hM c_J1 rfl 0 (by decide) (va_Nw.use rfl (hK.2.1.1 (159, R_Men, "starts", "[I") (by decide))) rfl rfl d_Rm_measureFromOthers_33 ?_
      refine lv_iload_n hx hb d_Rm_measureFromOthers_36 rfl (lv_at hl 2 rfl) ?_
      refine x_iald hx hb hK.1 hM c_J2 0 rfl rfl (by omega) (by omega) d_Rm_measureFromOthers_37 ?_
      refine lv_iload hx hb d_Rm_measureFromOthers_38 (lv_at hl 4 rfl) ?_
      refine lv_iadd hx hb d_Rm_measureFromOthers_40 ?_
      refine lv_iload_n hx hb d_Rm_measureFromOthers_41 rfl (lv_at hl 2 rfl) ?_
      refine x_cv (x_runV (As := [.ref (ad (50 + j)), .int (((zms u j) i) + (nI k)), .int (nI i)]) (rest := []) hE hK hM hl.1 (c_Rm_gather l G Mk ad u hCk hO (ad (50 + j)) (50 + j) (zms u j) (zms u j i + nI k) (nI i) c_J2 (by omega) q5 c_rob) c_o rfl kw_337 kw_339 ks_8 kw_1 kw_340 3 rfl rfl rfl (by decide +kernel) ⟨by decide, by decide⟩ rfl (Nat.le_of_ble_eq_true rfl) d_Rm_measureFromOthers_42 ⟨by decide, by decide⟩) hS (fun M1 H locs hp hM hS => ?_)
      obtain ⟨g, eg⟩ : ∃ z : zQ, z = zGat (zln u) (zev u) (zms u j) (zms u j i + nI k) (nI i) (zrn u) := ⟨_, rfl⟩
      rw [← eg] at hp
      have hof := hof.up1 c_rob hp
      have c_o := xw_upE hp c_o c_rob (by decide)
      have c_ev := xw_upE hp c_ev c_rob (by omega)
      have c_tri := xw_upE hp c_tri c_rob (by decide)
      have c_J1 := xw_upE hp c_J1 c_rob (by omega)
      have c_J2 := xw_upE hp c_J2 c_rob (by omega)
      have c_rob := xw_atE hp
      obtain ⟨Ma, eMa⟩ : ∃ z : xM, z = M1 := ⟨_, rfl⟩
      subst eMa
      refine lv_aload_n hx hb d_Rm_measureFromOthers_45 rfl (lv_at hl 0 rfl) ?_
      refine x_get (C := R_Rm) (T := F_Rm) (N := 12) hx hb hw i_Rm hown hK.1 hM c_o rfl 7 (by decide) (hw _ kw_72) rfl rfl d_Rm_measureFromOthers_46 ?_
      refine x_ci (x_runV (As := []) (rest := []) hE hK hM hl.1 (c_Rob_answer l G Ma (ad 5) 5 g.1 g.2.1 g.2.2.1 g.2.2.2 c_rob) c_rob rfl kw_355 kw_356 kw_357 kw_2 kw_358 0 rfl rfl rfl (by decide +kernel) ⟨by decide, by decide⟩ rfl (Nat.le_of_ble_eq_true rfl) d_Rm_measureFromOthers_49 ⟨by decide, by decide⟩) hS (fun r2 M1 H locs hp hM hS => ?_)
      obtain ⟨e_r, e_M⟩ := hp
      have hM : xh G Ma H := e_M ▸ hM
      refine lv_istore (lv' := [(5, .int r2), (0, .ref (ad 0)), (1, .ref (ad (40 + j))), (2, .int (nI i)), (3, .ref (ad (30 + i))), (4, .int (nI k))]) hx hb d_Rm_measureFromOthers_52 hl (by decide) rfl (fun ls hl => ?_)
      refine lv_iload hx hb d_Rm_measureFromOthers_54 (lv_at hl 0 rfl) ?_
      refine lv_iconst (v := (-1)) hx hb d_Rm_measureFromOthers_56 (by decide) ?_
      refine lv_icmp_eq (tgt := 73) hx hb d_Rm_measureFromOthers_57 (by decide) (fun c_57 => ?_) (fun c_57 => ?_)
      · refine lv_iinc (v := (nI (k + 1))) (lv' := [(4, .int (nI (k + 1))), (5, .int r2), (0, .ref (ad 0)), (1, .ref (ad (40 + j))), (2, .int (nI i)), (3, .ref (ad (30 + i)))]) hx hb d_Rm_measureFromOthers_73 hl (k := 5) rfl (nI_1 k) (by decide) rfl (fun ls hl => ?_)
        refine lv_goto (tgt := 20) hx hb d_Rm_measureFromOthers_76 (by decide) ?_
        have e_v : r2 = zAq (zGat (zln u) (zev u) (zms u j) (zms u j i + nI k) (nI i) (zrn u)) := by rw [e_r, eg]; rfl
        have hz : zDist (zev u i) (fun k => zAq (zGat (zln u) (zev u) (zms u j) (zms u j i + nI k) (nI i) (zrn u))) (k + 1) = q := by
          show (if zAq (zGat (zln u) (zev u) (zms u j) (zms u j i + nI k) (nI i) (zrn u)) = -1 then _ else _) = _
          rw [if_pos (e_v ▸ c_57), ← eq]
        exact ih (k + 1) (by omega) (by omega) _ _ hof c_rob (by rw [hz]; exact c_tri) _ _ _ hM hS (lv_sub hl [2, 3, 4, 5, 0] rfl)
      · refine lv_aload_n hx hb d_Rm_measureFromOthers_60 rfl (lv_at hl 1 rfl) ?_
        refine x_get (C := R_Rm) (T := F_Rm) (N := 12) hx hb hw i_Rm hown hK.1 hM c_o rfl 8 (by decide) (hw _ kw_73) rfl rfl d_Rm_measureFromOthers_61 ?_
        refine lv_aload_n hx hb d_Rm_measureFromOthers_64 rfl (lv_at hl 4 rfl) ?_
        refine lv_iload hx hb d_Rm_measureFromOthers_65 (lv_at hl 5 rfl) ?_
        refine x_iald hx hb hK.1 hM c_ev 0 rfl rfl hkl (by omega) d_Rm_measureFromOthers_67 ?_
        refine lv_iload hx hb d_Rm_measureFromOthers_68 (lv_at hl 0 rfl) ?_
        refine x_cv (x_runV (As := [.int ((zev u i) k), .int r2]) (rest := []) hE hK hM hl.1 (c_Gap_add l G Ma (ad 6) 6 q.1 q.2 c_tri (zev u i k) r2) c_tri rfl kw_408 kw_409 kw_410 kw_3 kw_411 2 rfl rfl rfl (by decide +kernel) ⟨by decide, by decide⟩ rfl (Nat.le_of_ble_eq_true rfl) d_Rm_measureFromOthers_70 ⟨by decide, by decide⟩) hS (fun M1 H locs hp hM hS => ?_)
        have hof := hof.up2 c_tri hp
        have c_o := xw_upE hp c_o c_tri (by decide)
        have c_ev := xw_upE hp c_ev c_tri (by omega)
        have c_rob := xw_upE hp c_rob c_tri (by decide)
        have c_J1 := xw_upE hp c_J1 c_tri (by omega)
        have c_J2 := xw_upE hp c_J2 c_tri (by omega)
        have c_tri := xw_atE hp
        refine lv_iinc (v := (nI (k + 1))) (lv' := [(4, .int (nI (k + 1))), (5, .int r2), (0, .ref (ad 0)), (1, .ref (ad (40 + j))), (2, .int (nI i)), (3, .ref (ad (30 + i)))]) hx hb d_Rm_measureFromOthers_73 hl (k := 5) rfl (nI_1 k) (by decide) rfl (fun ls hl => ?_)
        refine lv_goto (tgt := 20) hx hb d_Rm_measureFromOthers_76 (by decide) ?_
        have e_v : r2 = zAq (zGat (zln u) (zev u) (zms u j) (zms u j i + nI k) (nI i) (zrn u)) := by rw [e_r, eg]; rfl
        have hz : zDist (zev u i) (fun k => zAq (zGat (zln u) (zev u) (zms u j) (zms u j i + nI k) (nI i) (zrn u))) (k + 1) = (q.1 + zAbs (zev u i k - r2), q.2 + 1) := by
          show (if zAq (zGat (zln u) (zev u) (zms u j) (zms u j i + nI k) (nI i) (zrn u)) = -1 then _ else _) = _
          rw [if_neg (fun h9 => c_57 (e_v.trans h9)), ← eq]
          rw [e_v]
        exact ih (k + 1) (by omega) (by omega) _ _ hof c_rob (by rw [hz]; exact c_tri) _ _ _ hM hS (lv_sub hl [2, 3, 4, 5, 0] rfl)

set_option maxHeartbeats 4000000 in
set_option maxRecDepth 100000 in
theorem c_Rm_measureFromOthers (l : Launch) (G : xG) (M : xM) (ad : Nat → Nat) (u : zS) (hC : Core G M ad u) (hO : zOk u) (i : Nat) (hi : i < zrn u) (j : Nat) (hj : j < zmn u) (q5 : zQ) (hq5 : M (ad 5) = some (5, eRob q5)) (q6 : Int32 × Int32) (hq6 : M (ad 6) = some (6, eGap q6)) : Met l y_Rm_measureFromOthers w_Rm_measureFromOthers ({ frames := 3, cells := 0, slots := 0, locals := 70 }) (xP G [.ref (ad 0), .ref (ad (40 + j)), .int (nI i)] M) (xQv G (fun M' => xOff2 5 6 M M' ∧ (∃ q, M' (ad 5) = some (5, eRob q)) ∧ M' (ad 6) = some (6, eGap (zMo u i j)))) 0 0 (xF G) := by
  refine x_met (by decide) (Nat.le_of_ble_eq_true rfl) ?_
  intro p e s m below meth c ls hE hin hl hM hK hS
  obtain ⟨hx, hb, hr, hml, hown, hw, hlocks⟩ := id hE
  have hl : lv_has ls 6 [(0, .ref (ad 0)), (1, .ref (ad (40 + j))), (2, .int (nI i))] := hl
  refine lv_aload_n hx hb d_Rm_measureFromOthers_0 rfl (lv_at hl 0 rfl) ?_
  refine x_get (C := R_Rm) (T := F_Rm) (N := 12) hx hb hw i_Rm hown hK.1 hM hC.1 rfl 8 (by decide) (hw _ kw_73) rfl rfl d_Rm_measureFromOthers_1 ?_
  refine x_cv (x_runV (As := []) (rest := []) hE hK hM hl.1 (c_Gap_clear l G M (ad 6) 6 q6.1 q6.2 hq6) (id hq6) rfl kw_404 kw_405 kw_406 kw_3 kw_407 0 rfl rfl rfl (by decide +kernel) ⟨by decide, by decide⟩ rfl (Nat.le_of_ble_eq_true rfl) d_Rm_measureFromOthers_4 ⟨by decide, by decide⟩) hS (fun M1 H locs hp hM hS => ?_)
  have hof := (xOff2.refl (r1 := 5) (r2 := 6) (M := M)).up2 hq6 hp
  have k_ad0 := xw_upE hp hC.1 (id hq6) (by decide)
  have k_ad2 := xw_upE hp hC.2.2.1 (id hq6) (by decide)
  have k_ad20i := xw_upE hp (hC.2.2.2.2.2.2.1 i hi).1 (id hq6) (by omega)
  have k_ad30i := xw_upE hp (hC.2.2.2.2.2.2.1 i hi).2 (id hq6) (by omega)
  have k_ad5 := xw_upE hp (id hq5) (id hq6) (by decide)
  have k_ad6 := xw_atE hp
  refine lv_aload_n hx hb d_Rm_measureFromOthers_7 rfl (lv_at hl 0 rfl) ?_
  refine x_get (C := R_Rm) (T := F_Rm) (N := 12) hx hb hw i_Rm hown hK.1 hM k_ad0 rfl 2 (by decide) (hw _ kw_67) rfl rfl d_Rm_measureFromOthers_8 ?_
  refine lv_iload_n hx hb d_Rm_measureFromOthers_11 rfl (lv_at hl 2 rfl) ?_
  refine x_aldq (v := .ref (ad (20 + i))) hx hb hK.1 hM k_ad2 2 rfl rfl (by have := hO.2.2.1; omega) (by omega) (zrw_lt hi) d_Rm_measureFromOthers_12 ?_
  refine x_getN (C := R_Row) (T := F_Row) (N := 2) (host := R_Rm) hx hb hw i_Row hown hK.1 hM k_ad20i rfl 0 (by decide) (va_Nw.use rfl (hK.2.1.1 (87, R_Row, "even", "[I") (by decide))) rfl rfl d_Rm_measureFromOthers_13 ?_
  refine lv_astore_n (lv' := [(3, .ref (ad (30 + i))), (0, .ref (ad 0)), (1, .ref (ad (40 + j))), (2, .int (nI i))]) hx hb d_Rm_measureFromOthers_16 rfl hl (by decide) rfl (fun ls hl => ?_)
  refine lv_iconst (v := 0) hx hb d_Rm_measureFromOthers_17 (by decide) ?_
  refine lv_istore (lv' := [(4, .int 0), (3, .ref (ad (30 + i))), (0, .ref (ad 0)), (1, .ref (ad (40 + j))), (2, .int (nI i))]) hx hb d_Rm_measureFromOthers_18 hl (by decide) rfl (fun ls hl => ?_)
  exact lp_Rm_measureFromOthers ad u hC hO i hi j hj hE hK (zln u i + 1) 0 (by omega) (by omega) M1 q5 hof k_ad5 k_ad6 _ _ _ hM hS (lv_sub hl [2, 3, 4, 1, 0] rfl)

set_option maxHeartbeats 4000000 in
set_option maxRecDepth 100000 in
theorem c_Rm_leftOut (l : Launch) (G : xG) (M : xM) (hst : l.stackTraces = false) (ad : Nat → Nat) (u : zS) (hC : Core G M ad u) (hO : zOk u) (hs : Scr G M ad) (mm x w : Int32) : vx_Met l y_Rm_leftOut w_Rm_leftOut ({ frames := 7, cells := 3, slots := 18, locals := 125 }) (xP G [.ref (ad 0), .int mm, .int x, .int w] M) (xQi G (fun v M' => fLeft u mm x w = (0, v) ∧ xKeep M M' ∧ Scr G M' ad)) (xX G (fun E M' => fLeft u mm x w = (1, 0) ∧ E = nIOE ∧ M' = M)) 3 18 (xF G) := by
  refine x_metX (by decide) (Nat.le_of_ble_eq_true rfl) ?_
  intro p e s m below meth c ls hE hnx hl hM hK hS
  obtain ⟨hx, hb, hr, hml, hown, hw, hlocks⟩ := id hE
  have h0 := hM
  have hl : lv_has ls 5 [(0, .ref (ad 0)), (1, .int mm), (2, .int x), (3, .int w)] := hl
  refine lv_aload_n hx hb d_Rm_leftOut_0 rfl (lv_at hl 0 rfl) ?_
  refine lv_iload_n hx hb d_Rm_leftOut_1 rfl (lv_at hl 1 rfl) ?_
  refine x_cxr (x_runVX (As := [.int mm]) (rest := []) hE hK hM hl.1 (c_Rm_meanOf l G M hst ad u hC hO mm) hC.1 rfl kw_366 kw_368 ks_9 kw_1 kw_369 1 rfl rfl rfl (by decide +kernel) ⟨by decide, by decide⟩ rfl (Nat.le_of_ble_eq_true rfl) d_Rm_leftOut_2 ⟨by decide, by decide⟩) hS (fun E ce q9 M1 H locs hp hM hS hq1 hq2 hq3 => ?_) (fun r1 M1 H locs hp hM hS => ?_)
  · obtain ⟨h_x, rfl, e_M⟩ := hp
    have hM : xh G M H := e_M ▸ hM
    exact x_out hE hnx hM hS hq1 hq2 hq3 ⟨by unfold fLeft; rw [if_neg h_x], rfl, rfl⟩ (by decide) (by decide)
  obtain ⟨h_inj, e_a, e_M⟩ := hp
  have hM : xh G M H := e_M ▸ hM
  obtain ⟨j, e_j, h_j, ex_j⟩ := z_in h_inj (by have := hO.2.2.2.2.1; omega)
  rw [← e_j] at e_a
  subst e_a
  obtain ⟨hJ1, hJ2, V, D, hJ3, hJ4, hJ5⟩ := hC.2.2.2.2.2.2.2 j h_j
  have hB := hO.mas h_j
  refine lv_astore (lv' := [(4, .ref (ad (40 + j))), (0, .ref (ad 0)), (1, .int mm), (2, .int x), (3, .int w)]) hx hb d_Rm_leftOut_5 hl (by decide) rfl (fun ls hl => ?_)
  refine lv_iload_n hx hb d_Rm_leftOut_7 rfl (lv_at hl 4 rfl) ?_
  refine x_cxv (x_runSX (As := [.int w]) (rest := []) hE hK hM hl.1 (c_Rm_checkSumOrYears l G M hst w) kw_396 kw_397 kw_1 kw_398 1 rfl rfl rfl (by decide +kernel) ⟨by decide, by decide⟩ rfl (Nat.le_of_ble_eq_true rfl) d_Rm_leftOut_8 ⟨by decide, by decide⟩) hS (fun E ce q9 M1 H locs hp hM hS hq1 hq2 hq3 => ?_) (fun M1 H locs hp hM hS => ?_)
  · obtain ⟨h_x, rfl, e_M⟩ := hp
    have hM : xh G M H := e_M ▸ hM
    exact x_out hE hnx hM hS hq1 hq2 hq3 ⟨by unfold fLeft; rw [if_pos h_inj, if_neg h_x], rfl, rfl⟩ (by decide) (by decide)
  obtain ⟨h_w, e_M⟩ := hp
  have hM : xh G M H := e_M ▸ hM
  refine lv_iload_n hx hb d_Rm_leftOut_11 rfl (lv_at hl 3 rfl) ?_
  refine lv_if_lt (tgt := 36) hx hb d_Rm_leftOut_12 (by decide) (fun c_12 => ?_) (fun c_12 => ?_)
  · exact x_ioe (is := 162) (text := "no such member") hst hE hnx hK h0 hM hS hl.1 (by decide) d_Rm_leftOut_36 d_Rm_leftOut_39 d_Rm_leftOut_40 d_Rm_leftOut_42 d_Rm_leftOut_45 (by decide) (Nat.le_of_ble_eq_true rfl) ⟨by decide, by decide⟩ ⟨by decide, by decide⟩ (⟨by unfold fLeft; rw [if_pos h_inj, if_pos h_w, if_neg (fun h9 => h9.1.1 c_12)], rfl, rfl⟩)
  · refine lv_iload_n hx hb d_Rm_leftOut_15 rfl (lv_at hl 3 rfl) ?_
    refine lv_aload hx hb d_Rm_leftOut_16 (lv_at hl 0 rfl) ?_
    refine x_getN (C := R_Men) (T := F_Men) (N := 6) (host := R_Rm) hx hb hw i_Men hown hK.1 hM hJ1 rfl 0 (by decide) (va_Nw.use rfl (hK.2.1.1 (159, R_Men, "starts", "[I") (by decide))) rfl rfl d_Rm_leftOut_18 ?_
    refine x_alen (v := nI 10) hx hb hK.1 hM hJ2 0 rfl rfl d_Rm_leftOut_21 ?_
    refine lv_icmp_ge (tgt := 36) hx hb d_Rm_leftOut_22 (by decide) (fun c_22 => ?_) (fun c_22 => ?_)
    · exact x_ioe (is := 162) (text := "no such member") hst hE hnx hK h0 hM hS hl.1 (by decide) d_Rm_leftOut_36 d_Rm_leftOut_39 d_Rm_leftOut_40 d_Rm_leftOut_42 d_Rm_leftOut_45 (by decide) (Nat.le_of_ble_eq_true rfl) ⟨by decide, by decide⟩ ⟨by decide, by decide⟩ (⟨by unfold fLeft; rw [if_pos h_inj, if_pos h_w, if_neg (fun h9 => h9.1.2 c_22)], rfl, rfl⟩)
    · obtain ⟨i, e_i, h_i10, ex_i⟩ := z_in (n := 10) ⟨c_12, c_22⟩ (by decide)
      refine lv_aload hx hb d_Rm_leftOut_25 (lv_at hl 0 rfl) ?_
      refine x_getN (C := R_Men) (T := F_Men) (N := 6) (host := R_Rm) hx hb hw i_Men hown hK.1 hM hJ1 rfl 0 (by decide) (va_Nw.use rfl (hK.2.1.1 (159, R_Men, "starts", "[I") (by decide))) rfl rfl d_Rm_leftOut_27 ?_
      refine lv_iload_n hx hb d_Rm_leftOut_30 rfl (lv_at hl 3 rfl) ?_
      refine x_iald hx hb hK.1 hM hJ2 0 rfl ex_i h_i10 (by omega) d_Rm_leftOut_31 ?_
      refine lv_iconst (v := (-1)) hx hb d_Rm_leftOut_32 (by decide) ?_
      refine lv_icmp_ne (tgt := 46) hx hb d_Rm_leftOut_33 (by decide) (fun c_33 => ?_) (fun c_33 => ?_)
      · have h_ir : i < zrn u := ((hO.2.2.2.2.2.1 j h_j).1 i h_i10).2 c_33
        have h_m : zIn x 10 ∧ zms u mm.toNatClampNeg x.toNatClampNeg ≠ -1 := ⟨⟨c_12, c_22⟩, by rw [← e_i, ← e_j]; exact c_33⟩
        subst ex_i
        refine lv_aload_n hx hb d_Rm_leftOut_46 rfl (lv_at hl 1 rfl) ?_
        refine lv_aload hx hb d_Rm_leftOut_47 (lv_at hl 0 rfl) ?_
        refine lv_iload_n hx hb d_Rm_leftOut_49 rfl (lv_at hl 3 rfl) ?_
        obtain ⟨q5, hq5⟩ := hs.1
        obtain ⟨q6, hq6⟩ := hs.2.1
        refine x_cv (x_runV (As := [.ref (ad (40 + j)), .int (nI i)]) (rest := []) hE hK hM hl.1 (c_Rm_measureFromOthers l G M ad u hC hO i h_ir j h_j q5 hq5 q6 hq6) hC.1 rfl kw_400 kw_402 ks_10 kw_1 kw_403 2 rfl rfl rfl (by decide +kernel) ⟨by decide, by decide⟩ rfl (Nat.le_of_ble_eq_true rfl) d_Rm_leftOut_50 ⟨by decide, by decide⟩) hS (fun M1 H locs hp hM hS => ?_)
        obtain ⟨hof, h5, h6⟩ := hp
        have hC1 := hC.keep (hof.keep rfl rfl)
        obtain ⟨Mb, eMb⟩ : ∃ z : xM, z = M1 := ⟨_, rfl⟩
        subst eMb
        refine lv_aload_n hx hb d_Rm_leftOut_53 rfl (lv_at hl 1 rfl) ?_
        refine x_get (C := R_Rm) (T := F_Rm) (N := 12) hx hb hw i_Rm hown hK.1 hM hC1.1 rfl 8 (by decide) (hw _ kw_73) rfl rfl d_Rm_leftOut_54 ?_
        refine lv_iload_n hx hb d_Rm_leftOut_57 rfl (lv_at hl 4 rfl) ?_
        refine x_ci (x_runV (As := [.int w]) (rest := []) hE hK hM hl.1 (c_Gap_sumOrYears l G Mb (ad 6) 6 (zMo u i j).1 (zMo u i j).2 h6 w) h6 rfl kw_415 kw_416 kw_417 kw_3 kw_418 1 rfl rfl rfl (by decide +kernel) ⟨by decide, by decide⟩ rfl (Nat.le_of_ble_eq_true rfl) d_Rm_leftOut_58 ⟨by decide, by decide⟩) hS (fun r4 M1 H locs hp hM hS => ?_)
        obtain ⟨e_r, e_M⟩ := hp
        have hM : xh G Mb H := e_M ▸ hM
        refine vx_ret ?_
        exact x_ri hE rfl hM hS ⟨by unfold fLeft; rw [if_pos h_inj, if_pos h_w, if_pos h_m, e_r, ← e_i, ← e_j], hof.keep rfl rfl, hs.off56 hof h5 ⟨_, h6⟩⟩ (by omega) (by omega) d_Rm_leftOut_61
      · exact x_ioe (is := 162) (text := "no such member") hst hE hnx hK h0 hM hS hl.1 (by decide) d_Rm_leftOut_36 d_Rm_leftOut_39 d_Rm_leftOut_40 d_Rm_leftOut_42 d_Rm_leftOut_45 (by decide) (Nat.le_of_ble_eq_true rfl) ⟨by decide, by decide⟩ ⟨by decide, by decide⟩ (⟨by unfold fLeft; rw [if_pos h_inj, if_pos h_w, if_neg (fun h9 => h9.2 (by rw [← e_i, ← e_j]; exact c_33))], rfl, rfl⟩)
end
section
set_option maxHeartbeats 4000000 in
set_option maxRecDepth 100000 in
theorem lp_Rm_sameTree {p : Program} {l : Launch} {e : Env} {s : State} {m : MethodId} {below : List Frame} {meth : Method} {c : Code} {args : Array Value} {G : xG} {M : xM} (ad : Nat → Nat) (u : zS) (hC : Core G M ad u) (hO : zOk u) (i : Nat) (hi : i < zrn u) (j : Nat) (hj : j < zrn u) (x y : Int32) (h_x : zIn x (zrn u)) (h_y : zIn y (zrn u)) (e_i : i = x.toNatClampNeg) (e_j : j = y.toNatClampNeg) (hfl : ¬ (zst u i = -1 ∨ zst u j = -1)) (hs : Scr G M ad) (q0 : Int32 × Int32) (hq : M (ad 6) = some (6, eGap q0)) (hE : xE p s m args meth c b_Rm_sameTree (some .boolean) 7 R_Rm) (hK : KX G s) : ∀ (n k : Nat), k ≤ zln u i → zln u i + 1 ≤ k + n → ∀ (H : Heap) (locs : List Loc) (ls : Array Slot), xh G (va_up M (ad 6) (some (6, eGap (zDist (zev u i) (fun k => zRing (zln u j) (zev u j) (zst u i + nI k - zst u j)) k)))) H → va_S (xF G) s.heap H locs → lv_has ls 7 [(0, .ref (ad 0)), (3, .ref (ad (20 + i))), (4, .ref (ad (20 + j))), (5, .int (nI k))] → W p l e ({ frames := 7, cells := 2, slots := 12, locals := 125 }) s m args below meth c H locs 2 12 (vx_MQ below (xQi G (fun v M' => fSame u x y = (0, v) ∧ xKeep M M' ∧ Scr G M' ad)) (xX G (fun E M' => fSame u x y = (1, 0) ∧ E = nIOE ∧ M' = M)) args s 2 12 (xF G)) (F0 m 42 ls []) := by
  obtain ⟨hx, hb, hr, hml, hown, hw, hlocks⟩ := id hE
  have hZ := hO.2.2.2.1 i hi
  have hZj := hO.2.2.2.1 j hj
  have hRi := hC.2.2.2.2.2.2.1 i hi
  have hRj := hC.2.2.2.2.2.2.1 j hj
  intro n
  induction n with
  | zero =>
    intro k h1 h2
    exact absurd h2 (by omega)
  | succ n ih =>
    intro k hk hin H locs ls hM hS hl
    obtain ⟨Mi, eMi⟩ : ∃ z : xM, z = va_up M (ad 6) (some (6, eGap (zDist (zev u i) (fun k => zRing (zln u j) (zev u j) (zst u i + nI k - zst u j)) k))) := ⟨_, rfl⟩
    rw [← eMi] at hM
    obtain ⟨q, eq⟩ : ∃ z : Int32 × Int32, z = zDist (zev u i) (fun k => zRing (zln u j) (zev u j) (zst u i + nI k - zst u j)) k := ⟨_, rfl⟩
    rw [← eq] at eMi
    have c_o : Mi (ad 0) = some (0, .inr (4, [.ref (ad 1), .int (nI (zpn u)), .ref (ad 2), .int (nI (zrn u)), .ref (ad 3), .int (nI (zmn u)), .ref (ad 4), .ref (ad 5), .ref (ad 6), .ref (ad 7), .ref (ad 8), .ref (ad 9)])) := xw_upE eMi hC.1 hq (by decide)
    have c_row := xw_upE eMi hRi.1 hq (by omega)
    have c_ev := xw_upE eMi hRi.2 hq (by omega)
    have c_rowj := xw_upE eMi hRj.1 hq (by omega)
    have c_evj := xw_upE eMi hRj.2 hq (by omega)
    have c_tri := xw_atE eMi
    have hsk := hs.up6 eMi
    refine lv_iload hx hb d_Rm_sameTree_42 (lv_at hl 3 rfl) ?_
    refine lv_aload_n hx hb d_Rm_sameTree_44 rfl (lv_at hl 1 rfl) ?_
    refine x_getN (C := R_Row) (T := F_Row) (N := 2) (host := R_Rm) hx hb hw i_Row hown hK.1 hM c_row rfl 0 (by decide) (va_Nw.use rfl (hK.2.1.1 (87, R_Row, "even", "[I") (by decide))) rfl rfl d_Rm_sameTree_45 ?_
    refine x_alen (v := nI (zln u i)) hx hb hK.1 hM c_ev 0 rfl rfl d_Rm_sameTree_48 ?_
    refine lv_icmp_ge (tgt := 99) hx hb d_Rm_sameTree_49 (by decide) (fun c_49 => ?_) (fun c_49 => ?_)
    · have h49 : zln u i ≤ k := (nI_leI (by omega) (by omega)).mp c_49
      refine lv_aload_n hx hb d_Rm_sameTree_99 rfl (lv_at hl 0 rfl) ?_
      refine x_get (C := R_Rm) (T := F_Rm) (N := 12) hx hb hw i_Rm hown hK.1 hM c_o rfl 8 (by decide) (hw _ kw_73) rfl rfl d_Rm_sameTree_100 ?_
      refine x_getN (C := R_Gap) (T := F_Gap) (N := 2) (host := R_Rm) hx hb hw i_Gap hown hK.1 hM c_tri rfl 1 (by decide) (va_Nw.use rfl (hK.2.1.1 (222, R_Gap, "years", "I") (by decide))) rfl rfl d_Rm_sameTree_103 ?_
      refine lv_iconst (v := 5) hx hb d_Rm_sameTree_106 (by decide) ?_
      refine lv_icmp_lt (tgt := 134) hx hb d_Rm_sameTree_107 (by decide) (fun c_107 => ?_) (fun c_107 => ?_)
      · refine lv_iconst (v := 0) hx hb d_Rm_sameTree_134 (by decide) ?_
        have hq9 : zSam u i j = q := by rw [eq, show k = zln u i by omega]; rfl
        refine vx_ret ?_
        exact x_rz hE rfl (Or.inl rfl) hM hS ⟨by unfold fSame; rw [if_pos h_x, if_pos h_y, ← e_i, ← e_j, if_neg hfl, hq9, if_pos (Or.inl c_107)], hsk.2, hsk.1⟩ (by decide) (by decide) d_Rm_sameTree_135
      · refine lv_aload_n hx hb d_Rm_sameTree_110 rfl (lv_at hl 0 rfl) ?_
        refine x_get (C := R_Rm) (T := F_Rm) (N := 12) hx hb hw i_Rm hown hK.1 hM c_o rfl 8 (by decide) (hw _ kw_73) rfl rfl d_Rm_sameTree_111 ?_
        refine x_getN (C := R_Gap) (T := F_Gap) (N := 2) (host := R_Rm) hx hb hw i_Gap hown hK.1 hM c_tri rfl 0 (by decide) (va_Nw.use rfl (hK.2.1.1 (225, R_Gap, "sum", "I") (by decide))) rfl rfl d_Rm_sameTree_114 ?_
        refine lv_bipush (v := 15) hx hb d_Rm_sameTree_117 (by decide) ?_
        refine lv_aload_n hx hb d_Rm_sameTree_119 rfl (lv_at hl 0 rfl) ?_
        refine x_get (C := R_Rm) (T := F_Rm) (N := 12) hx hb hw i_Rm hown hK.1 hM c_o rfl 8 (by decide) (hw _ kw_73) rfl rfl d_Rm_sameTree_120 ?_
        refine x_getN (C := R_Gap) (T := F_Gap) (N := 2) (host := R_Rm) hx hb hw i_Gap hown hK.1 hM c_tri rfl 1 (by decide) (va_Nw.use rfl (hK.2.1.1 (222, R_Gap, "years", "I") (by decide))) rfl rfl d_Rm_sameTree_123 ?_
        refine lv_imul hx hb d_Rm_sameTree_126 ?_
        refine lv_icmp_gt (tgt := 134) hx hb d_Rm_sameTree_127 (by decide) (fun c_127 => ?_) (fun c_127 => ?_)
        · refine lv_iconst (v := 0) hx hb d_Rm_sameTree_134 (by decide) ?_
          have hq9 : zSam u i j = q := by rw [eq, show k = zln u i by omega]; rfl
          refine vx_ret ?_
          exact x_rz hE rfl (Or.inl rfl) hM hS ⟨by unfold fSame; rw [if_pos h_x, if_pos h_y, ← e_i, ← e_j, if_neg hfl, hq9, if_pos (Or.inr c_127)], hsk.2, hsk.1⟩ (by decide) (by decide) d_Rm_sameTree_135
        · refine lv_iconst (v := 1) hx hb d_Rm_sameTree_130 (by decide) ?_
          refine lv_goto (tgt := 135) hx hb d_Rm_sameTree_131 (by decide) ?_
          have hq9 : zSam u i j = q := by rw [eq, show k = zln u i by omega]; rfl
          refine vx_ret ?_
          exact x_rz hE rfl (Or.inr rfl) hM hS ⟨by unfold fSame; rw [if_pos h_x, if_pos h_y, ← e_i, ← e_j, if_neg hfl, hq9, if_neg (fun h9 => h9.elim c_107 (fun h8 => c_127 h8))], hsk.2, hsk.1⟩ (by decide) (by decide) d_Rm_sameTree_135
    · have hkl : k < zln u i := Nat.not_le.mp (fun h9 => c_49 ((nI_leI (by omega) (by omega)).mpr h9))
      refine lv_aload hx hb d_Rm_sameTree_52 (lv_at hl 2 rfl) ?_
      refine lv_aload_n hx hb d_Rm_sameTree_54 rfl (lv_at hl 1 rfl) ?_
      refine x_getN (C := R_Row) (T := F_Row) (N := 2) (host := R_Rm) hx hb hw i_Row hown hK.1 hM c_row rfl 1 (by decide) (va_Nw.use rfl (hK.2.1.1 (97, R_Row, "start", "I") (by decide))) rfl rfl d_Rm_sameTree_55 ?_
      refine lv_iload hx hb d_Rm_sameTree_58 (lv_at hl 3 rfl) ?_
      refine lv_iadd hx hb d_Rm_sameTree_60 ?_
      refine lv_aload hx hb d_Rm_sameTree_61 (lv_at hl 2 rfl) ?_
      refine x_getN (C := R_Row) (T := F_Row) (N := 2) (host := R_Rm) hx hb hw i_Row hown hK.1 hM c_rowj rfl 1 (by decide) (va_Nw.use rfl (hK.2.1.1 (97, R_Row, "start", "I") (by decide))) rfl rfl d_Rm_sameTree_63 ?_
      refine x_ci (x_runV (As := [.int ((zst u i) + (nI k)), .int (zst u j)]) (rest := []) hE hK hM hl.1 (c_Row_ringIn l G Mi (ad (20 + j)) (20 + j) (ad (30 + j)) (30 + j) (zln u j) (zev u j) (zst u j) c_rowj c_evj (by omega) (zst u i + nI k) (zst u j)) c_rowj rfl kw_345 kw_346 kw_347 kw_10 kw_348 2 rfl rfl rfl (by decide +kernel) ⟨by decide, by decide⟩ rfl (Nat.le_of_ble_eq_true rfl) d_Rm_sameTree_66 ⟨by decide, by decide⟩) hS (fun r1 M1 H locs hp hM hS => ?_)
      obtain ⟨e_r, e_M⟩ := hp
      have hM : xh G Mi H := e_M ▸ hM
      refine lv_istore (lv' := [(6, .int r1), (0, .ref (ad 0)), (3, .ref (ad (20 + i))), (4, .ref (ad (20 + j))), (5, .int (nI k))]) hx hb d_Rm_sameTree_69 hl (by decide) rfl (fun ls hl => ?_)
      refine lv_iload hx hb d_Rm_sameTree_71 (lv_at hl 0 rfl) ?_
      refine lv_iconst (v := (-1)) hx hb d_Rm_sameTree_73 (by decide) ?_
      refine lv_icmp_eq (tgt := 93) hx hb d_Rm_sameTree_74 (by decide) (fun c_74 => ?_) (fun c_74 => ?_)
      · refine lv_iinc (v := (nI (k + 1))) (lv' := [(5, .int (nI (k + 1))), (6, .int r1), (0, .ref (ad 0)), (3, .ref (ad (20 + i))), (4, .ref (ad (20 + j)))]) hx hb d_Rm_sameTree_93 hl (k := 4) rfl (nI_1 k) (by decide) rfl (fun ls hl => ?_)
        refine lv_goto (tgt := 42) hx hb d_Rm_sameTree_96 (by decide) ?_
        have hz : zDist (zev u i) (fun k => zRing (zln u j) (zev u j) (zst u i + nI k - zst u j)) (k + 1) = q := by
          show (if zRing (zln u j) (zev u j) (zst u i + nI k - zst u j) = -1 then _ else _) = _
          rw [if_pos (e_r ▸ c_74), ← eq]
        exact ih (k + 1) (by omega) (by omega) _ _ _ (by rw [hz, ← eMi]; exact hM) hS (lv_sub hl [2, 3, 4, 0] rfl)
      · refine lv_aload_n hx hb d_Rm_sameTree_77 rfl (lv_at hl 1 rfl) ?_
        refine x_get (C := R_Rm) (T := F_Rm) (N := 12) hx hb hw i_Rm hown hK.1 hM c_o rfl 8 (by decide) (hw _ kw_73) rfl rfl d_Rm_sameTree_78 ?_
        refine lv_aload_n hx hb d_Rm_sameTree_81 rfl (lv_at hl 2 rfl) ?_
        refine x_getN (C := R_Row) (T := F_Row) (N := 2) (host := R_Rm) hx hb hw i_Row hown hK.1 hM c_row rfl 0 (by decide) (va_Nw.use rfl (hK.2.1.1 (87, R_Row, "even", "[I") (by decide))) rfl rfl d_Rm_sameTree_82 ?_
        refine lv_iload hx hb d_Rm_sameTree_85 (lv_at hl 4 rfl) ?_
        refine x_iald hx hb hK.1 hM c_ev 0 rfl rfl hkl (by omega) d_Rm_sameTree_87 ?_
        refine lv_iload hx hb d_Rm_sameTree_88 (lv_at hl 0 rfl) ?_
        refine x_cv (x_runV (As := [.int ((zev u i) k), .int r1]) (rest := []) hE hK hM hl.1 (c_Gap_add l G Mi (ad 6) 6 q.1 q.2 c_tri (zev u i k) r1) c_tri rfl kw_408 kw_409 kw_410 kw_3 kw_411 2 rfl rfl rfl (by decide +kernel) ⟨by decide, by decide⟩ rfl (Nat.le_of_ble_eq_true rfl) d_Rm_sameTree_90 ⟨by decide, by decide⟩) hS (fun M1 H locs hp hM hS => ?_)
        refine lv_iinc (v := (nI (k + 1))) (lv' := [(5, .int (nI (k + 1))), (6, .int r1), (0, .ref (ad 0)), (3, .ref (ad (20 + i))), (4, .ref (ad (20 + j)))]) hx hb d_Rm_sameTree_93 hl (k := 4) rfl (nI_1 k) (by decide) rfl (fun ls hl => ?_)
        refine lv_goto (tgt := 42) hx hb d_Rm_sameTree_96 (by decide) ?_
        have hz : zDist (zev u i) (fun k => zRing (zln u j) (zev u j) (zst u i + nI k - zst u j)) (k + 1) = (q.1 + zAbs (zev u i k - r1), q.2 + 1) := by
          show (if zRing (zln u j) (zev u j) (zst u i + nI k - zst u j) = -1 then _ else _) = _
          rw [if_neg (fun h9 => c_74 (e_r.trans h9)), ← eq]
          rw [e_r]
        exact ih (k + 1) (by omega) (by omega) _ _ _ (by rw [hz]; rw [hp, eMi, bx_uu] at hM; exact hM) hS (lv_sub hl [2, 3, 4, 0] rfl)

set_option maxHeartbeats 4000000 in
set_option maxRecDepth 100000 in
theorem c_Rm_sameTree (l : Launch) (G : xG) (M : xM) (hst : l.stackTraces = false) (ad : Nat → Nat) (u : zS) (hC : Core G M ad u) (hO : zOk u) (hs : Scr G M ad) (x y : Int32) : vx_Met l y_Rm_sameTree w_Rm_sameTree ({ frames := 7, cells := 2, slots := 12, locals := 125 }) (xP G [.ref (ad 0), .int x, .int y] M) (xQi G (fun v M' => fSame u x y = (0, v) ∧ xKeep M M' ∧ Scr G M' ad)) (xX G (fun E M' => fSame u x y = (1, 0) ∧ E = nIOE ∧ M' = M)) 2 12 (xF G) := by
  refine x_metX (by decide) (Nat.le_of_ble_eq_true rfl) ?_
  intro p e s m below meth c ls hE hnx hl hM hK hS
  obtain ⟨hx, hb, hr, hml, hown, hw, hlocks⟩ := id hE
  have h0 := hM
  have hl : lv_has ls 7 [(0, .ref (ad 0)), (1, .int x), (2, .int y)] := hl
  refine lv_aload_n hx hb d_Rm_sameTree_0 rfl (lv_at hl 0 rfl) ?_
  refine lv_iload_n hx hb d_Rm_sameTree_1 rfl (lv_at hl 1 rfl) ?_
  refine x_cxr (x_runVX (As := [.int x]) (rest := []) hE hK hM hl.1 (c_Rm_rowOf l G M hst ad u hC hO x) hC.1 rfl kw_232 kw_234 ks_2 kw_1 kw_235 1 rfl rfl rfl (by decide +kernel) ⟨by decide, by decide⟩ rfl (Nat.le_of_ble_eq_true rfl) d_Rm_sameTree_2 ⟨by decide, by decide⟩) hS (fun E ce q9 M1 H locs hp hM hS hq1 hq2 hq3 => ?_) (fun r1 M1 H locs hp hM hS => ?_)
  · obtain ⟨h_x, rfl, e_M⟩ := hp
    have hM : xh G M H := e_M ▸ hM
    exact x_out hE hnx hM hS hq1 hq2 hq3 ⟨by unfold fSame; rw [if_neg h_x], rfl, rfl⟩ (by decide) (by decide)
  obtain ⟨h_in, e_a, e_M⟩ := hp
  have hM : xh G M H := e_M ▸ hM
  obtain ⟨i, e_i, h_i, ex_i⟩ := z_in h_in (by have := hO.2.2.1; omega)
  rw [← e_i] at e_a
  subst e_a
  have hR_i := hC.2.2.2.2.2.2.1 i h_i
  have hZ_i := hO.2.2.2.1 i h_i
  have h_in0 := h_in
  refine lv_astore_n (lv' := [(3, .ref (ad (20 + i))), (0, .ref (ad 0)), (1, .int x), (2, .int y)]) hx hb d_Rm_sameTree_5 rfl hl (by decide) rfl (fun ls hl => ?_)
  refine lv_aload_n hx hb d_Rm_sameTree_6 rfl (lv_at hl 1 rfl) ?_
  refine lv_iload_n hx hb d_Rm_sameTree_7 rfl (lv_at hl 3 rfl) ?_
  refine x_cxr (x_runVX (As := [.int y]) (rest := []) hE hK hM hl.1 (c_Rm_rowOf l G M hst ad u hC hO y) hC.1 rfl kw_232 kw_234 ks_2 kw_1 kw_235 1 rfl rfl rfl (by decide +kernel) ⟨by decide, by decide⟩ rfl (Nat.le_of_ble_eq_true rfl) d_Rm_sameTree_8 ⟨by decide, by decide⟩) hS (fun E ce q9 M1 H locs hp hM hS hq1 hq2 hq3 => ?_) (fun r2 M1 H locs hp hM hS => ?_)
  · obtain ⟨h_x, rfl, e_M⟩ := hp
    have hM : xh G M H := e_M ▸ hM
    exact x_out hE hnx hM hS hq1 hq2 hq3 ⟨by unfold fSame; rw [if_pos h_in0, if_neg h_x], rfl, rfl⟩ (by decide) (by decide)
  obtain ⟨h_in, e_a, e_M⟩ := hp
  have hM : xh G M H := e_M ▸ hM
  obtain ⟨j, e_j, h_j, ex_j⟩ := z_in h_in (by have := hO.2.2.1; omega)
  rw [← e_j] at e_a
  subst e_a
  have hR_j := hC.2.2.2.2.2.2.1 j h_j
  have hZ_j := hO.2.2.2.1 j h_j
  refine lv_astore (lv' := [(4, .ref (ad (20 + j))), (3, .ref (ad (20 + i))), (0, .ref (ad 0)), (1, .int x), (2, .int y)]) hx hb d_Rm_sameTree_11 hl (by decide) rfl (fun ls hl => ?_)
  refine lv_aload_n hx hb d_Rm_sameTree_13 rfl (lv_at hl 1 rfl) ?_
  refine x_getN (C := R_Row) (T := F_Row) (N := 2) (host := R_Rm) hx hb hw i_Row hown hK.1 hM hR_i.1 rfl 1 (by decide) (va_Nw.use rfl (hK.2.1.1 (97, R_Row, "start", "I") (by decide))) rfl rfl d_Rm_sameTree_14 ?_
  refine lv_iconst (v := (-1)) hx hb d_Rm_sameTree_17 (by decide) ?_
  refine lv_icmp_eq (tgt := 30) hx hb d_Rm_sameTree_18 (by decide) (fun c_18 => ?_) (fun c_18 => ?_)
  · refine lv_iconst (v := 0) hx hb d_Rm_sameTree_30 (by decide) ?_
    refine vx_ret ?_
    exact x_rz hE rfl (Or.inl rfl) hM hS ⟨by unfold fSame; rw [if_pos h_in0, if_pos h_in, ← e_i, ← e_j, if_pos (Or.inl c_18)], xKeep.refl, hs⟩ (by decide) (by decide) d_Rm_sameTree_31
  · refine lv_aload hx hb d_Rm_sameTree_21 (lv_at hl 0 rfl) ?_
    refine x_getN (C := R_Row) (T := F_Row) (N := 2) (host := R_Rm) hx hb hw i_Row hown hK.1 hM hR_j.1 rfl 1 (by decide) (va_Nw.use rfl (hK.2.1.1 (97, R_Row, "start", "I") (by decide))) rfl rfl d_Rm_sameTree_23 ?_
    refine lv_iconst (v := (-1)) hx hb d_Rm_sameTree_26 (by decide) ?_
    refine lv_icmp_ne (tgt := 32) hx hb d_Rm_sameTree_27 (by decide) (fun c_27 => ?_) (fun c_27 => ?_)
    · refine lv_aload_n hx hb d_Rm_sameTree_32 rfl (lv_at hl 2 rfl) ?_
      refine x_get (C := R_Rm) (T := F_Rm) (N := 12) hx hb hw i_Rm hown hK.1 hM hC.1 rfl 8 (by decide) (hw _ kw_73) rfl rfl d_Rm_sameTree_33 ?_
      obtain ⟨q0, hq⟩ := hs.2.1
      refine x_cv (x_runV (As := []) (rest := []) hE hK hM hl.1 (c_Gap_clear l G M (ad 6) 6 q0.1 q0.2 hq) hq rfl kw_404 kw_405 kw_406 kw_3 kw_407 0 rfl rfl rfl (by decide +kernel) ⟨by decide, by decide⟩ rfl (Nat.le_of_ble_eq_true rfl) d_Rm_sameTree_36 ⟨by decide, by decide⟩) hS (fun M1 H locs hp hM hS => ?_)
      have hM : xh G (va_up M (ad 6) (some (6, eGap (zDist (zev u i) (fun k => zRing (zln u j) (zev u j) (zst u i + nI k - zst u j)) 0)))) H := hp ▸ hM
      refine lv_iconst (v := 0) hx hb d_Rm_sameTree_39 (by decide) ?_
      refine lv_istore (lv' := [(5, .int 0), (4, .ref (ad (20 + j))), (3, .ref (ad (20 + i))), (0, .ref (ad 0)), (1, .int x), (2, .int y)]) hx hb d_Rm_sameTree_40 hl (by decide) rfl (fun ls hl => ?_)
      exact lp_Rm_sameTree ad u hC hO i h_i j h_j x y h_in0 h_in e_i e_j (fun h9 => h9.elim c_18 c_27) hs q0 hq hE hK (zln u i + 1) 0 (by omega) (by omega) _ _ _ hM hS (lv_sub hl [3, 2, 1, 0] rfl)
    · refine lv_iconst (v := 0) hx hb d_Rm_sameTree_30 (by decide) ?_
      refine vx_ret ?_
      exact x_rz hE rfl (Or.inl rfl) hM hS ⟨by unfold fSame; rw [if_pos h_in0, if_pos h_in, ← e_i, ← e_j, if_pos (Or.inr c_27)], xKeep.refl, hs⟩ (by decide) (by decide) d_Rm_sameTree_31
end
section
section ZI
def zAst (d set : Int32) (k : Nat) (c : Int32) : Option Int32 := if ((set >>> (nI k &&& 31)) &&& 1) = 0 then some c else if d = -1000 then none else if c = -1000 ∨ d = c then some d else none
def zAgr (u : zS) (i : Nat) (set least : Int32) : Nat → Option Int32
  | 0 => some (-1000)
  | k + 1 => match zAgr u i set least k with
    | none => none
    | some c => zAst (zDat u i k least).1 set k c
theorem zAgr_none {u : zS} {i : Nat} {set least : Int32} {k : Nat} (h : zAgr u i set least k = none) : ∀ n, zAgr u i set least (k + n) = none
  | 0 => h
  | n + 1 => by
    show (match zAgr u i set least (k + n) with | none => none | some c => zAst (zDat u i (k + n) least).1 set (k + n) c) = none
    rw [zAgr_none h n]
def zAnsA (o : Option Int32) : Int32 := match o with
  | none => 0
  | some c => if c = -1000 then 0 else 1
def fAgr (u : zS) (x set w : Int32) : zR := if zIn x (zrn u) then (if set < 0 ∨ ¬ (set >>> (nI (zmn u) &&& 31)) = 0 then (1, 0) else if zLe w then (0, zAnsA (zAgr u x.toNatClampNeg set w (zmn u))) else (2, 0)) else (1, 0)
def zNr (T : Nat → zN3) (n0 : Nat) : Nat → Nat
  | 0 => 0
  | i + 1 => if i = n0 ∨ (T i).1 = -1000 then zNr T n0 i else if zLess (T i).2.1 (T i).2.2 (T n0).2.1 (T n0).2.2 ∨ (¬ zLess (T n0).2.1 (T n0).2.2 (T i).2.1 (T i).2.2 ∧ i < n0) then zNr T n0 i + 1 else zNr T n0 i
theorem zNr_le (T : Nat → zN3) (n0 : Nat) : ∀ n, zNr T n0 n ≤ n
  | 0 => Nat.le_refl 0
  | n + 1 => by
    have := zNr_le T n0 n
    unfold zNr
    split
    · omega
    · split <;> omega
def zSrc (T : Nat → zN3) (mn : Nat) (k : Int32) : Nat → Option Nat
  | 0 => none
  | i + 1 => match zSrc T mn k i with
    | some r => some r
    | none => if (T i).1 ≠ -1000 ∧ nI (zNr T i mn) = k then some i else none
theorem zSrc_some {T : Nat → zN3} {mn : Nat} {k : Int32} {i r : Nat} (h : zSrc T mn k i = some r) : ∀ n, zSrc T mn k (i + n) = some r
  | 0 => h
  | n + 1 => by
    show (match zSrc T mn k (i + n) with | some r => some r | none => if (T (i + n)).1 ≠ -1000 ∧ nI (zNr T (i + n) mn) = k then some (i + n) else none) = some r
    rw [zSrc_some h n]
def zAnsS (o : Option Nat) : Int32 := match o with
  | none => -1
  | some i => nI i
def fSrc (u : zS) (x w k : Int32) : zR := if zIn x (zrn u) then (if k < 0 then (1, 0) else if zLe w then (0, zAnsS (zSrc (fun j => zDat u x.toNatClampNeg j w) (zmn u) k (zmn u))) else (2, 0)) else (1, 0)
end ZI
end
section
set_option maxHeartbeats 4000000 in
set_option maxRecDepth 100000 in
theorem lp_Rm_agrees {p : Program} {l : Launch} {e : Env} {s : State} {m : MethodId} {below : List Frame} {meth : Method} {c : Code} {args : Array Value} {G : xG} {M : xM} (ad : Nat → Nat) (u : zS) (hC : Core G M ad u) (hO : zOk u) (i : Nat) (hi : i < zrn u) (x st w : Int32) (h_x : zIn x (zrn u)) (e_i : i = x.toNatClampNeg) (h_s : ¬ (st < 0 ∨ ¬ (st >>> (nI (zmn u) &&& 31)) = 0)) (h_w : zLe w) (hs : Scr G M ad) (hE : xE p s m args meth c b_Rm_agrees (some .boolean) 8 R_Rm) (hK : KX G s) : ∀ (n k : Nat) (cc : Int32), k ≤ zmn u → zmn u + 1 ≤ k + n → zAgr u i st w k = some cc → ∀ (Mk : xM), xOff2 6 7 M Mk → Scr G Mk ad → ∀ (H : Heap) (locs : List Loc) (ls : Array Slot), xh G Mk H → va_S (xF G) s.heap H locs → lv_has ls 8 [(0, .ref (ad 0)), (2, .int st), (3, .int w), (4, .ref (ad (20 + i))), (5, .int cc), (6, .int (nI k))] → W p l e ({ frames := 7, cells := 2, slots := 12, locals := 125 }) s m args below meth c H locs 2 12 (vx_MQ below (xQi G (fun v M' => fAgr u x st w = (0, v) ∧ xKeep M M' ∧ Scr G M' ad)) (xX G (fun E M' => ((fAgr u x st w = (1, 0) ∧ E = nIOE) ∨ (fAgr u x st w = (2, 0) ∧ E = nIAE)) ∧ M' = M)) args s 2 12 (xF G)) (F0 m 42 ls []) := by
  obtain ⟨hx, hb, hr, hml, hown, hw, hlocks⟩ := id hE
  have hmn := hO.2.2.2.2.1
  intro n
  induction n with
  | zero =>
    intro k cc h1 h2
    exact absurd h2 (by omega)
  | succ n ih =>
    intro k cc hk hin hag Mk hof hsk H locs ls hM hS hl
    have hCk : Core G Mk ad u := hC.keep (hof.keep rfl rfl)
    obtain ⟨q6, c_tri⟩ := hsk.2.1
    obtain ⟨q7, c_nea⟩ := hsk.2.2.1
    have c_o : Mk (ad 0) = some (0, .inr (4, [.ref (ad 1), .int (nI (zpn u)), .ref (ad 2), .int (nI (zrn u)), .ref (ad 3), .int (nI (zmn u)), .ref (ad 4), .ref (ad 5), .ref (ad 6), .ref (ad 7), .ref (ad 8), .ref (ad 9)])) := hCk.1
    have c_means := hCk.2.2.2.1
    have c_row := (hCk.2.2.2.2.2.2.1 i hi).1
    have hst9 : zAgr u i st w (k + 1) = zAst (zDat u i k w).1 st k cc := by
      show (match zAgr u i st w k with | none => none | some c => zAst (zDat u i k w).1 st k c) = _
      rw [hag]
    refine lv_iload hx hb d_Rm_agrees_42 (lv_at hl 5 rfl) ?_
    refine lv_aload_n hx hb d_Rm_agrees_44 rfl (lv_at hl 0 rfl) ?_
    refine x_get (C := R_Rm) (T := F_Rm) (N := 12) hx hb hw i_Rm hown hK.1 hM c_o rfl 5 (by decide) (hw _ kw_70) rfl rfl d_Rm_agrees_45 ?_
    refine lv_icmp_ge (tgt := 114) hx hb d_Rm_agrees_48 (by decide) (fun c_48 => ?_) (fun c_48 => ?_)
    · have h48 : zmn u ≤ k := (nI_leI (by omega) (by omega)).mp c_48
      refine lv_iload hx hb d_Rm_agrees_114 (lv_at hl 4 rfl) ?_
      refine lv_sipush (v := (-1000)) hx hb d_Rm_agrees_116 (by decide) ?_
      refine lv_icmp_eq (tgt := 126) hx hb d_Rm_agrees_119 (by decide) (fun c_119 => ?_) (fun c_119 => ?_)
      · refine lv_iconst (v := 0) hx hb d_Rm_agrees_126 (by decide) ?_
        refine vx_ret ?_
        exact x_rz hE rfl (Or.inl rfl) hM hS ⟨by unfold fAgr; rw [if_pos h_x, if_neg h_s, if_pos h_w, ← e_i, show zmn u = k by omega, hag]; unfold zAnsA; simp only []; rw [if_pos c_119], hof.keep rfl rfl, hsk⟩ (by decide) (by decide) d_Rm_agrees_127
      · refine lv_iconst (v := 1) hx hb d_Rm_agrees_122 (by decide) ?_
        refine lv_goto (tgt := 127) hx hb d_Rm_agrees_123 (by decide) ?_
        refine vx_ret ?_
        exact x_rz hE rfl (Or.inr rfl) hM hS ⟨by unfold fAgr; rw [if_pos h_x, if_neg h_s, if_pos h_w, ← e_i, show zmn u = k by omega, hag]; unfold zAnsA; simp only []; rw [if_neg c_119], hof.keep rfl rfl, hsk⟩ (by decide) (by decide) d_Rm_agrees_127
    · have hkm : k < zmn u := Nat.not_le.mp (fun h9 => c_48 ((nI_leI (by omega) (by omega)).mpr h9))
      refine lv_iload_n hx hb d_Rm_agrees_51 rfl (lv_at hl 1 rfl) ?_
      refine lv_iload hx hb d_Rm_agrees_52 (lv_at hl 5 rfl) ?_
      refine lv_ishr hx hb d_Rm_agrees_54 ?_
      refine lv_iconst (v := 1) hx hb d_Rm_agrees_55 (by decide) ?_
      refine lv_iand hx hb d_Rm_agrees_56 ?_
      refine lv_if_ne (tgt := 63) hx hb d_Rm_agrees_57 (by decide) (fun c_57 => ?_) (fun c_57 => ?_)
      · refine lv_aload_n hx hb d_Rm_agrees_63 rfl (lv_at hl 0 rfl) ?_
        refine lv_aload hx hb d_Rm_agrees_64 (lv_at hl 3 rfl) ?_
        refine lv_aload_n hx hb d_Rm_agrees_66 rfl (lv_at hl 0 rfl) ?_
        refine x_get (C := R_Rm) (T := F_Rm) (N := 12) hx hb hw i_Rm hown hK.1 hM c_o rfl 4 (by decide) (hw _ kw_69) rfl rfl d_Rm_agrees_67 ?_
        refine lv_iload hx hb d_Rm_agrees_70 (lv_at hl 5 rfl) ?_
        refine x_aldq (v := .ref (ad (40 + k))) hx hb hK.1 hM c_means 3 rfl rfl (by omega) (by omega) (zrw_lt hkm) d_Rm_agrees_72 ?_
        refine lv_iload_n hx hb d_Rm_agrees_73 rfl (lv_at hl 2 rfl) ?_
        refine x_ci (x_runV (As := [.ref (ad (20 + i)), .ref (ad (40 + k)), .int w]) (rest := []) hE hK hM hl.1 (c_Rm_nearestYear l G Mk ad u hCk hO i hi k hkm w q6 c_tri q7 c_nea) c_o rfl kw_441 kw_443 ks_12 kw_1 kw_444 3 rfl rfl rfl (by decide +kernel) ⟨by decide, by decide⟩ rfl (Nat.le_of_ble_eq_true rfl) d_Rm_agrees_74 ⟨by decide, by decide⟩) hS (fun r1 M1 H locs hp hM hS => ?_)
        obtain ⟨e_r, hof1, h6, h7⟩ := hp
        have hsk := hsk.off2 hof1 h6 ⟨_, h7⟩
        have hof := hof.trans hof1
        refine lv_istore (lv' := [(7, .int r1), (0, .ref (ad 0)), (2, .int st), (3, .int w), (4, .ref (ad (20 + i))), (5, .int cc), (6, .int (nI k))]) hx hb d_Rm_agrees_77 hl (by decide) rfl (fun ls hl => ?_)
        refine lv_iload hx hb d_Rm_agrees_79 (lv_at hl 0 rfl) ?_
        refine lv_sipush (v := (-1000)) hx hb d_Rm_agrees_81 (by decide) ?_
        refine lv_icmp_eq (tgt := 102) hx hb d_Rm_agrees_84 (by decide) (fun c_84 => ?_) (fun c_84 => ?_)
        · refine lv_iconst (v := 0) hx hb d_Rm_agrees_102 (by decide) ?_
          have hno : zAgr u i st w (zmn u) = none := by
            have h9 := zAgr_none (show zAgr u i st w (k + 1) = none by rw [hst9]; unfold zAst; rw [if_neg c_57, ← e_r, if_pos c_84]) (zmn u - (k + 1))
            rw [show k + 1 + (zmn u - (k + 1)) = zmn u by omega] at h9
            exact h9
          refine vx_ret ?_
          exact x_rz hE rfl (Or.inl rfl) hM hS ⟨by unfold fAgr; rw [if_pos h_x, if_neg h_s, if_pos h_w, ← e_i, hno]; rfl, hof.keep rfl rfl, hsk⟩ (by decide) (by decide) d_Rm_agrees_103
        · refine lv_iload hx hb d_Rm_agrees_87 (lv_at hl 5 rfl) ?_
          refine lv_sipush (v := (-1000)) hx hb d_Rm_agrees_89 (by decide) ?_
          refine lv_icmp_eq (tgt := 104) hx hb d_Rm_agrees_92 (by decide) (fun c_92 => ?_) (fun c_92 => ?_)
          · refine lv_iload hx hb d_Rm_agrees_104 (lv_at hl 0 rfl) ?_
            refine lv_istore (lv' := [(5, .int r1), (7, .int r1), (0, .ref (ad 0)), (2, .int st), (3, .int w), (4, .ref (ad (20 + i))), (6, .int (nI k))]) hx hb d_Rm_agrees_106 hl (by decide) rfl (fun ls hl => ?_)
            refine lv_iinc (v := (nI (k + 1))) (lv' := [(6, .int (nI (k + 1))), (5, .int r1), (7, .int r1), (0, .ref (ad 0)), (2, .int st), (3, .int w), (4, .ref (ad (20 + i)))]) hx hb d_Rm_agrees_108 hl (k := 6) rfl (nI_1 k) (by decide) rfl (fun ls hl => ?_)
            refine lv_goto (tgt := 42) hx hb d_Rm_agrees_111 (by decide) ?_
            exact ih (k + 1) _ hkm (by omega) (by rw [hst9]; unfold zAst; rw [if_neg c_57, ← e_r, if_neg c_84, if_pos (Or.inl c_92)]) _ hof hsk _ _ _ hM hS (lv_sub hl [3, 4, 5, 6, 1, 0] rfl)
          · refine lv_iload hx hb d_Rm_agrees_95 (lv_at hl 0 rfl) ?_
            refine lv_iload hx hb d_Rm_agrees_97 (lv_at hl 5 rfl) ?_
            refine lv_icmp_eq (tgt := 104) hx hb d_Rm_agrees_99 (by decide) (fun c_99 => ?_) (fun c_99 => ?_)
            · refine lv_iload hx hb d_Rm_agrees_104 (lv_at hl 0 rfl) ?_
              refine lv_istore (lv' := [(5, .int r1), (7, .int r1), (0, .ref (ad 0)), (2, .int st), (3, .int w), (4, .ref (ad (20 + i))), (6, .int (nI k))]) hx hb d_Rm_agrees_106 hl (by decide) rfl (fun ls hl => ?_)
              refine lv_iinc (v := (nI (k + 1))) (lv' := [(6, .int (nI (k + 1))), (5, .int r1), (7, .int r1), (0, .ref (ad 0)), (2, .int st), (3, .int w), (4, .ref (ad (20 + i)))]) hx hb d_Rm_agrees_108 hl (k := 6) rfl (nI_1 k) (by decide) rfl (fun ls hl => ?_)
              refine lv_goto (tgt := 42) hx hb d_Rm_agrees_111 (by decide) ?_
              exact ih (k + 1) _ hkm (by omega) (by rw [hst9]; unfold zAst; rw [if_neg c_57, ← e_r, if_neg c_84, if_pos (Or.inr c_99)]) _ hof hsk _ _ _ hM hS (lv_sub hl [3, 4, 5, 6, 1, 0] rfl)
            · refine lv_iconst (v := 0) hx hb d_Rm_agrees_102 (by decide) ?_
              have hno : zAgr u i st w (zmn u) = none := by
                have h9 := zAgr_none (show zAgr u i st w (k + 1) = none by rw [hst9]; unfold zAst; rw [if_neg c_57, ← e_r, if_neg c_84, if_neg (fun h9 => h9.elim c_92 c_99)]) (zmn u - (k + 1))
                rw [show k + 1 + (zmn u - (k + 1)) = zmn u by omega] at h9
                exact h9
              refine vx_ret ?_
              exact x_rz hE rfl (Or.inl rfl) hM hS ⟨by unfold fAgr; rw [if_pos h_x, if_neg h_s, if_pos h_w, ← e_i, hno]; rfl, hof.keep rfl rfl, hsk⟩ (by decide) (by decide) d_Rm_agrees_103
      · refine lv_goto (tgt := 108) hx hb d_Rm_agrees_60 (by decide) ?_
        refine lv_iinc (v := (nI (k + 1))) (lv' := [(6, .int (nI (k + 1))), (0, .ref (ad 0)), (2, .int st), (3, .int w), (4, .ref (ad (20 + i))), (5, .int cc)]) hx hb d_Rm_agrees_108 hl (k := 5) rfl (nI_1 k) (by decide) rfl (fun ls hl => ?_)
        refine lv_goto (tgt := 42) hx hb d_Rm_agrees_111 (by decide) ?_
        exact ih (k + 1) _ hkm (by omega) (by rw [hst9]; unfold zAst; rw [if_pos c_57]) _ hof hsk _ _ _ hM hS (lv_sub hl [1, 2, 3, 4, 5, 0] rfl)

set_option maxHeartbeats 4000000 in
set_option maxRecDepth 100000 in
theorem c_Rm_agrees (l : Launch) (G : xG) (M : xM) (hst : l.stackTraces = false) (ad : Nat → Nat) (u : zS) (hC : Core G M ad u) (hO : zOk u) (hs : Scr G M ad) (x st w : Int32) : vx_Met l y_Rm_agrees w_Rm_agrees ({ frames := 7, cells := 2, slots := 12, locals := 125 }) (xP G [.ref (ad 0), .int x, .int st, .int w] M) (xQi G (fun v M' => fAgr u x st w = (0, v) ∧ xKeep M M' ∧ Scr G M' ad)) (xX G (fun E M' => ((fAgr u x st w = (1, 0) ∧ E = nIOE) ∨ (fAgr u x st w = (2, 0) ∧ E = nIAE)) ∧ M' = M)) 2 12 (xF G) := by
  refine x_metX (by decide) (Nat.le_of_ble_eq_true rfl) ?_
  intro p e s m below meth c ls hE hnx hl hM hK hS
  obtain ⟨hx, hb, hr, hml, hown, hw, hlocks⟩ := id hE
  have h0 := hM
  have hl : lv_has ls 8 [(0, .ref (ad 0)), (1, .int x), (2, .int st), (3, .int w)] := hl
  refine lv_aload_n hx hb d_Rm_agrees_0 rfl (lv_at hl 0 rfl) ?_
  refine lv_iload_n hx hb d_Rm_agrees_1 rfl (lv_at hl 1 rfl) ?_
  refine x_cxr (x_runVX (As := [.int x]) (rest := []) hE hK hM hl.1 (c_Rm_rowOf l G M hst ad u hC hO x) hC.1 rfl kw_232 kw_234 ks_2 kw_1 kw_235 1 rfl rfl rfl (by decide +kernel) ⟨by decide, by decide⟩ rfl (Nat.le_of_ble_eq_true rfl) d_Rm_agrees_2 ⟨by decide, by decide⟩) hS (fun E ce q9 M1 H locs hp hM hS hq1 hq2 hq3 => ?_) (fun r1 M1 H locs hp hM hS => ?_)
  · obtain ⟨h_x, rfl, e_M⟩ := hp
    have hM : xh G M H := e_M ▸ hM
    exact x_out hE hnx hM hS hq1 hq2 hq3 ⟨Or.inl ⟨by unfold fAgr; rw [if_neg h_x], rfl⟩, rfl⟩ (by decide) (by decide)
  obtain ⟨h_in, e_a, e_M⟩ := hp
  have hM : xh G M H := e_M ▸ hM
  obtain ⟨i, e_i, h_i, ex_i⟩ := z_in h_in (by have := hO.2.2.1; omega)
  rw [← e_i] at e_a
  subst e_a
  have hR_i := hC.2.2.2.2.2.2.1 i h_i
  have hZ_i := hO.2.2.2.1 i h_i
  refine lv_astore (lv' := [(4, .ref (ad (20 + i))), (0, .ref (ad 0)), (1, .int x), (2, .int st), (3, .int w)]) hx hb d_Rm_agrees_5 hl (by decide) rfl (fun ls hl => ?_)
  refine lv_iload_n hx hb d_Rm_agrees_7 rfl (lv_at hl 3 rfl) ?_
  refine lv_if_lt (tgt := 20) hx hb d_Rm_agrees_8 (by decide) (fun c_8 => ?_) (fun c_8 => ?_)
  · exact x_ioe (is := 182) (text := "no such master") hst hE hnx hK h0 hM hS hl.1 (by decide) d_Rm_agrees_20 d_Rm_agrees_23 d_Rm_agrees_24 d_Rm_agrees_26 d_Rm_agrees_29 (by decide) (Nat.le_of_ble_eq_true rfl) ⟨by decide, by decide⟩ ⟨by decide, by decide⟩ (⟨Or.inl ⟨by unfold fAgr; rw [if_pos h_in, if_pos (Or.inl c_8)], rfl⟩, rfl⟩)
  · refine lv_iload_n hx hb d_Rm_agrees_11 rfl (lv_at hl 3 rfl) ?_
    refine lv_aload_n hx hb d_Rm_agrees_12 rfl (lv_at hl 1 rfl) ?_
    refine x_get (C := R_Rm) (T := F_Rm) (N := 12) hx hb hw i_Rm hown hK.1 hM hC.1 rfl 5 (by decide) (hw _ kw_70) rfl rfl d_Rm_agrees_13 ?_
    refine lv_ishr hx hb d_Rm_agrees_16 ?_
    refine lv_if_eq (tgt := 30) hx hb d_Rm_agrees_17 (by decide) (fun c_17 => ?_) (fun c_17 => ?_)
    · have h_s : ¬ (st < 0 ∨ ¬ (st >>> (nI (zmn u) &&& 31)) = 0) := fun h9 => h9.elim c_8 (fun h8 => h8 c_17)
      refine lv_iload_n hx hb d_Rm_agrees_30 rfl (lv_at hl 4 rfl) ?_
      refine x_cxv (x_runSX (As := [.int w]) (rest := []) hE hK hM hl.1 (c_Rm_checkLeast l G M hst w) kw_437 kw_438 kw_1 kw_439 1 rfl rfl rfl (by decide +kernel) ⟨by decide, by decide⟩ rfl (Nat.le_of_ble_eq_true rfl) d_Rm_agrees_31 ⟨by decide, by decide⟩) hS (fun E ce q9 M1 H locs hp hM hS hq1 hq2 hq3 => ?_) (fun M1 H locs hp hM hS => ?_)
      · obtain ⟨h_x, rfl, e_M⟩ := hp
        have hM : xh G M H := e_M ▸ hM
        exact x_out hE hnx hM hS hq1 hq2 hq3 ⟨Or.inr ⟨by unfold fAgr; rw [if_pos h_in, if_neg h_s, if_neg h_x], rfl⟩, rfl⟩ (by decide) (by decide)
      obtain ⟨h_w, e_M⟩ := hp
      have hM : xh G M H := e_M ▸ hM
      refine lv_sipush (v := (-1000)) hx hb d_Rm_agrees_34 (by decide) ?_
      refine lv_istore (lv' := [(5, .int (-1000)), (4, .ref (ad (20 + i))), (0, .ref (ad 0)), (1, .int x), (2, .int st), (3, .int w)]) hx hb d_Rm_agrees_37 hl (by decide) rfl (fun ls hl => ?_)
      refine lv_iconst (v := 0) hx hb d_Rm_agrees_39 (by decide) ?_
      refine lv_istore (lv' := [(6, .int 0), (5, .int (-1000)), (4, .ref (ad (20 + i))), (0, .ref (ad 0)), (1, .int x), (2, .int st), (3, .int w)]) hx hb d_Rm_agrees_40 hl (by decide) rfl (fun ls hl => ?_)
      exact lp_Rm_agrees ad u hC hO i h_i x st w h_in e_i h_s h_w hs hE hK (zmn u + 1) 0 (-1000) (by omega) (by omega) rfl M xOff2.refl hs _ _ _ hM hS (lv_sub hl [3, 5, 6, 2, 1, 0] rfl)
    · exact x_ioe (is := 182) (text := "no such master") hst hE hnx hK h0 hM hS hl.1 (by decide) d_Rm_agrees_20 d_Rm_agrees_23 d_Rm_agrees_24 d_Rm_agrees_26 d_Rm_agrees_29 (by decide) (Nat.le_of_ble_eq_true rfl) ⟨by decide, by decide⟩ ⟨by decide, by decide⟩ (⟨Or.inl ⟨by unfold fAgr; rw [if_pos h_in, if_pos (Or.inr c_17)], rfl⟩, rfl⟩)

set_option maxHeartbeats 4000000 in
set_option maxRecDepth 100000 in
theorem lp_Rm_nearerThan {p : Program} {l : Launch} {e : Env} {s : State} {m : MethodId} {below : List Frame} {meth : Method} {c : Code} {args : Array Value} {G : xG} {M : xM} (ad : Nat → Nat) (u : zS) (hC : Core G M ad u) (hO : zOk u) (T : Nat → zN3) (f : Nat → Int32) (hf : M (ad 9) = some (9, eI G 8 f)) (hT : ∀ k, k < zmn u → f k = (T k).1 ∧ M (ad (10 + k)) = some (10 + k, eGap (T k).2)) (n0 : Nat) (hn0 : n0 < zmn u) (hE : xE p s m args meth c b_Rm_nearerThan (some .int) 5 R_Rm) (hK : KX G s) : ∀ (n k : Nat), k ≤ zmn u → zmn u + 1 ≤ k + n → ∀ (H : Heap) (locs : List Loc) (ls : Array Slot), xh G M H → va_S (xF G) s.heap H locs → lv_has ls 5 [(0, .ref (ad 0)), (1, .int (nI n0)), (2, .int (nI (zNr T n0 k))), (3, .int (nI k))] → W p l e ({ frames := 1, cells := 0, slots := 0, locals := 30 }) s m args below meth c H locs 0 0 (MQ below (xQi G (fun v M' => v = nI (zNr T n0 (zmn u)) ∧ M' = M)) args s 0 0 (xF G)) (F0 m 4 ls []) := by
  obtain ⟨hx, hb, hr, hml, hown, hw, hlocks⟩ := id hE
  have hmn := hO.2.2.2.2.1
  intro n
  induction n with
  | zero =>
    intro k h1 h2
    exact absurd h2 (by omega)
  | succ n ih =>
    intro k hk hin H locs ls hM hS hl
    have h_N := hT n0 hn0
    have h_un : zNr T n0 (k + 1) = (if k = n0 ∨ (T k).1 = -1000 then zNr T n0 k else if zLess (T k).2.1 (T k).2.2 (T n0).2.1 (T n0).2.2 ∨ (¬ zLess (T n0).2.1 (T n0).2.2 (T k).2.1 (T k).2.2 ∧ k < n0) then zNr T n0 k + 1 else zNr T n0 k) := rfl
    refine lv_iload_n hx hb d_Rm_nearerThan_4 rfl (lv_at hl 3 rfl) ?_
    refine lv_aload_n hx hb d_Rm_nearerThan_5 rfl (lv_at hl 0 rfl) ?_
    refine x_get (C := R_Rm) (T := F_Rm) (N := 12) hx hb hw i_Rm hown hK.1 hM hC.1 rfl 5 (by decide) (hw _ kw_70) rfl rfl d_Rm_nearerThan_6 ?_
    refine lv_icmp_ge (tgt := 94) hx hb d_Rm_nearerThan_9 (by decide) (fun c_9 => ?_) (fun c_9 => ?_)
    · have h9 : zmn u ≤ k := (nI_leI (by omega) (by omega)).mp c_9
      refine lv_iload_n hx hb d_Rm_nearerThan_94 rfl (lv_at hl 2 rfl) ?_
      exact x_ri hE rfl hM hS ⟨by rw [show k = zmn u by omega], rfl⟩ (by omega) (by omega) d_Rm_nearerThan_95
    · have hkm : k < zmn u := Nat.not_le.mp (fun h9 => c_9 ((nI_leI (by omega) (by omega)).mpr h9))
      have h_K := hT k hkm
      refine lv_iload_n hx hb d_Rm_nearerThan_12 rfl (lv_at hl 3 rfl) ?_
      refine lv_iload_n hx hb d_Rm_nearerThan_13 rfl (lv_at hl 1 rfl) ?_
      refine lv_icmp_eq (tgt := 88) hx hb d_Rm_nearerThan_14 (by decide) (fun c_14 => ?_) (fun c_14 => ?_)
      · refine lv_iinc (v := (nI (k + 1))) (lv' := [(3, .int (nI (k + 1))), (0, .ref (ad 0)), (1, .int (nI n0)), (2, .int (nI (zNr T n0 k)))]) hx hb d_Rm_nearerThan_88 hl (k := 3) rfl (nI_1 k) (by decide) rfl (fun ls hl => ?_)
        refine lv_goto (tgt := 4) hx hb d_Rm_nearerThan_91 (by decide) ?_
        have hz : zNr T n0 (k + 1) = zNr T n0 k := by rw [h_un, if_pos (Or.inl ((nI_eq (by omega) (by omega)).mp c_14))]
        exact ih (k + 1) hkm (by omega) _ _ _ hM hS (by rw [hz]; exact lv_sub hl [1, 2, 3, 0] rfl)
      · refine lv_aload_n hx hb d_Rm_nearerThan_17 rfl (lv_at hl 0 rfl) ?_
        refine x_get (C := R_Rm) (T := F_Rm) (N := 12) hx hb hw i_Rm hown hK.1 hM hC.1 rfl 11 (by decide) (hw _ kw_76) rfl rfl d_Rm_nearerThan_18 ?_
        refine lv_iload_n hx hb d_Rm_nearerThan_21 rfl (lv_at hl 3 rfl) ?_
        refine x_iald hx hb hK.1 hM hf 0 rfl rfl (by omega) (by decide) d_Rm_nearerThan_22 ?_
        refine lv_sipush (v := (-1000)) hx hb d_Rm_nearerThan_23 (by decide) ?_
        refine lv_icmp_ne (tgt := 32) hx hb d_Rm_nearerThan_26 (by decide) (fun c_26 => ?_) (fun c_26 => ?_)
        · refine lv_aload_n hx hb d_Rm_nearerThan_32 rfl (lv_at hl 0 rfl) ?_
          refine x_get (C := R_Rm) (T := F_Rm) (N := 12) hx hb hw i_Rm hown hK.1 hM hC.1 rfl 10 (by decide) (hw _ kw_75) rfl rfl d_Rm_nearerThan_33 ?_
          refine lv_iload_n hx hb d_Rm_nearerThan_36 rfl (lv_at hl 1 rfl) ?_
          refine x_aldq (v := .ref (ad (10 + n0))) hx hb hK.1 hM hC.2.2.2.2.2.1 4 rfl rfl (by omega) (by omega) (zrw_lt (by omega)) d_Rm_nearerThan_37 ?_
          refine lv_aload_n hx hb d_Rm_nearerThan_38 rfl (lv_at hl 0 rfl) ?_
          refine x_get (C := R_Rm) (T := F_Rm) (N := 12) hx hb hw i_Rm hown hK.1 hM hC.1 rfl 10 (by decide) (hw _ kw_75) rfl rfl d_Rm_nearerThan_39 ?_
          refine lv_iload_n hx hb d_Rm_nearerThan_42 rfl (lv_at hl 3 rfl) ?_
          refine x_aldq (v := .ref (ad (10 + k))) hx hb hK.1 hM hC.2.2.2.2.2.1 4 rfl rfl (by omega) (by omega) (zrw_lt (by omega)) d_Rm_nearerThan_43 ?_
          refine x_ci (x_runV (As := [.ref (ad (10 + k))]) (rest := []) hE hK hM hl.1 (c_Gap_lessThan l G M (ad (10 + n0)) (10 + n0) (T n0).2.1 (T n0).2.2 h_N.2 (ad (10 + k)) (10 + k) (T k).2.1 (T k).2.2 h_K.2) h_N.2 rfl kw_445 kw_446 kw_447 kw_3 kw_448 1 rfl rfl rfl (by decide +kernel) ⟨by decide, by decide⟩ rfl (Nat.le_of_ble_eq_true rfl) d_Rm_nearerThan_44 ⟨by decide, by decide⟩) hS (fun r1 M1 H locs hp hM hS => ?_)
          obtain ⟨e_a, e_M⟩ := hp
          have hM : xh G M H := e_M ▸ hM
          refine lv_if_ne (tgt := 54) hx hb d_Rm_nearerThan_47 (by decide) (fun c_47 => ?_) (fun c_47 => ?_)
          · refine lv_iconst (v := 0) hx hb d_Rm_nearerThan_54 (by decide) ?_
            refine lv_istore (lv' := [(4, .int 0), (0, .ref (ad 0)), (1, .int (nI n0)), (2, .int (nI (zNr T n0 k))), (3, .int (nI k))]) hx hb d_Rm_nearerThan_55 hl (by decide) rfl (fun ls hl => ?_)
            refine lv_aload_n hx hb d_Rm_nearerThan_57 rfl (lv_at hl 1 rfl) ?_
            refine x_get (C := R_Rm) (T := F_Rm) (N := 12) hx hb hw i_Rm hown hK.1 hM hC.1 rfl 10 (by decide) (hw _ kw_75) rfl rfl d_Rm_nearerThan_58 ?_
            refine lv_iload_n hx hb d_Rm_nearerThan_61 rfl (lv_at hl 4 rfl) ?_
            refine x_aldq (v := .ref (ad (10 + k))) hx hb hK.1 hM hC.2.2.2.2.2.1 4 rfl rfl (by omega) (by omega) (zrw_lt (by omega)) d_Rm_nearerThan_62 ?_
            refine lv_aload_n hx hb d_Rm_nearerThan_63 rfl (lv_at hl 1 rfl) ?_
            refine x_get (C := R_Rm) (T := F_Rm) (N := 12) hx hb hw i_Rm hown hK.1 hM hC.1 rfl 10 (by decide) (hw _ kw_75) rfl rfl d_Rm_nearerThan_64 ?_
            refine lv_iload_n hx hb d_Rm_nearerThan_67 rfl (lv_at hl 2 rfl) ?_
            refine x_aldq (v := .ref (ad (10 + n0))) hx hb hK.1 hM hC.2.2.2.2.2.1 4 rfl rfl (by omega) (by omega) (zrw_lt (by omega)) d_Rm_nearerThan_68 ?_
            refine x_ci (x_runV (As := [.ref (ad (10 + n0))]) (rest := []) hE hK hM hl.1 (c_Gap_lessThan l G M (ad (10 + k)) (10 + k) (T k).2.1 (T k).2.2 h_K.2 (ad (10 + n0)) (10 + n0) (T n0).2.1 (T n0).2.2 h_N.2) h_K.2 rfl kw_445 kw_446 kw_447 kw_3 kw_448 1 rfl rfl rfl (by decide +kernel) ⟨by decide, by decide⟩ rfl (Nat.le_of_ble_eq_true rfl) d_Rm_nearerThan_69 ⟨by decide, by decide⟩) hS (fun r2 M1 H locs hp hM hS => ?_)
            obtain ⟨e_b, e_M⟩ := hp
            have hM : xh G M H := e_M ▸ hM
            refine lv_if_ne (tgt := 85) hx hb d_Rm_nearerThan_72 (by decide) (fun c_72 => ?_) (fun c_72 => ?_)
            · refine lv_iinc (v := (nI ((zNr T n0 k) + 1))) (lv' := [(2, .int (nI ((zNr T n0 k) + 1))), (4, .int 0), (0, .ref (ad 0)), (1, .int (nI n0)), (3, .int (nI k))]) hx hb d_Rm_nearerThan_85 hl (k := 3) rfl (nI_1 (zNr T n0 k)) (by decide) rfl (fun ls hl => ?_)
              refine lv_iinc (v := (nI (k + 1))) (lv' := [(3, .int (nI (k + 1))), (2, .int (nI ((zNr T n0 k) + 1))), (4, .int 0), (0, .ref (ad 0)), (1, .int (nI n0))]) hx hb d_Rm_nearerThan_88 hl (k := 4) rfl (nI_1 k) (by decide) rfl (fun ls hl => ?_)
              refine lv_goto (tgt := 4) hx hb d_Rm_nearerThan_91 (by decide) ?_
              have h_no : ¬ (k = n0 ∨ (T k).1 = -1000) := fun h9 => h9.elim (fun h8 => c_14 (by rw [h8])) (fun h8 => c_26 (h_K.1.trans h8))
              have hz : zNr T n0 (k + 1) = zNr T n0 k + 1 := by rw [h_un, if_neg h_no, if_pos (Or.inl (Classical.byContradiction fun h9 => c_72 (by rw [e_b, if_neg h9])))]
              exact ih (k + 1) hkm (by omega) _ _ _ hM hS (by rw [hz]; exact lv_sub hl [3, 4, 1, 0] rfl)
            · refine lv_iload hx hb d_Rm_nearerThan_75 (lv_at hl 0 rfl) ?_
              refine lv_if_eq (tgt := 88) hx hb d_Rm_nearerThan_77 (by decide) (fun c_77 => ?_) (fun c_77 => ?_)
              · refine lv_iinc (v := (nI (k + 1))) (lv' := [(3, .int (nI (k + 1))), (4, .int 0), (0, .ref (ad 0)), (1, .int (nI n0)), (2, .int (nI (zNr T n0 k)))]) hx hb d_Rm_nearerThan_88 hl (k := 4) rfl (nI_1 k) (by decide) rfl (fun ls hl => ?_)
                refine lv_goto (tgt := 4) hx hb d_Rm_nearerThan_91 (by decide) ?_
                have h_no : ¬ (k = n0 ∨ (T k).1 = -1000) := fun h9 => h9.elim (fun h8 => c_14 (by rw [h8])) (fun h8 => c_26 (h_K.1.trans h8))
                have h_b : ¬ zLess (T k).2.1 (T k).2.2 (T n0).2.1 (T n0).2.2 := fun h9 => by rw [e_b, if_pos h9] at c_72; exact absurd c_72 (by decide)
                have h_a : zLess (T n0).2.1 (T n0).2.2 (T k).2.1 (T k).2.2 := Classical.byContradiction fun h9 => c_47 (by rw [e_a, if_neg h9])
                have hz : zNr T n0 (k + 1) = zNr T n0 k := by rw [h_un, if_neg h_no, if_neg (fun h9 => h9.elim h_b (fun h8 => h8.1 h_a))]
                exact ih (k + 1) hkm (by omega) _ _ _ hM hS (by rw [hz]; exact lv_sub hl [2, 3, 4, 0] rfl)
              · exact absurd rfl c_77
          · refine lv_iconst (v := 1) hx hb d_Rm_nearerThan_50 (by decide) ?_
            refine lv_goto (tgt := 55) hx hb d_Rm_nearerThan_51 (by decide) ?_
            refine lv_istore (lv' := [(4, .int 1), (0, .ref (ad 0)), (1, .int (nI n0)), (2, .int (nI (zNr T n0 k))), (3, .int (nI k))]) hx hb d_Rm_nearerThan_55 hl (by decide) rfl (fun ls hl => ?_)
            refine lv_aload_n hx hb d_Rm_nearerThan_57 rfl (lv_at hl 1 rfl) ?_
            refine x_get (C := R_Rm) (T := F_Rm) (N := 12) hx hb hw i_Rm hown hK.1 hM hC.1 rfl 10 (by decide) (hw _ kw_75) rfl rfl d_Rm_nearerThan_58 ?_
            refine lv_iload_n hx hb d_Rm_nearerThan_61 rfl (lv_at hl 4 rfl) ?_
            refine x_aldq (v := .ref (ad (10 + k))) hx hb hK.1 hM hC.2.2.2.2.2.1 4 rfl rfl (by omega) (by omega) (zrw_lt (by omega)) d_Rm_nearerThan_62 ?_
            refine lv_aload_n hx hb d_Rm_nearerThan_63 rfl (lv_at hl 1 rfl) ?_
            refine x_get (C := R_Rm) (T := F_Rm) (N := 12) hx hb hw i_Rm hown hK.1 hM hC.1 rfl 10 (by decide) (hw _ kw_75) rfl rfl d_Rm_nearerThan_64 ?_
            refine lv_iload_n hx hb d_Rm_nearerThan_67 rfl (lv_at hl 2 rfl) ?_
            refine x_aldq (v := .ref (ad (10 + n0))) hx hb hK.1 hM hC.2.2.2.2.2.1 4 rfl rfl (by omega) (by omega) (zrw_lt (by omega)) d_Rm_nearerThan_68 ?_
            refine x_ci (x_runV (As := [.ref (ad (10 + n0))]) (rest := []) hE hK hM hl.1 (c_Gap_lessThan l G M (ad (10 + k)) (10 + k) (T k).2.1 (T k).2.2 h_K.2 (ad (10 + n0)) (10 + n0) (T n0).2.1 (T n0).2.2 h_N.2) h_K.2 rfl kw_445 kw_446 kw_447 kw_3 kw_448 1 rfl rfl rfl (by decide +kernel) ⟨by decide, by decide⟩ rfl (Nat.le_of_ble_eq_true rfl) d_Rm_nearerThan_69 ⟨by decide, by decide⟩) hS (fun r2 M1 H locs hp hM hS => ?_)
            obtain ⟨e_b, e_M⟩ := hp
            have hM : xh G M H := e_M ▸ hM
            refine lv_if_ne (tgt := 85) hx hb d_Rm_nearerThan_72 (by decide) (fun c_72 => ?_) (fun c_72 => ?_)
            · refine lv_iinc (v := (nI ((zNr T n0 k) + 1))) (lv' := [(2, .int (nI ((zNr T n0 k) + 1))), (4, .int 1), (0, .ref (ad 0)), (1, .int (nI n0)), (3, .int (nI k))]) hx hb d_Rm_nearerThan_85 hl (k := 3) rfl (nI_1 (zNr T n0 k)) (by decide) rfl (fun ls hl => ?_)
              refine lv_iinc (v := (nI (k + 1))) (lv' := [(3, .int (nI (k + 1))), (2, .int (nI ((zNr T n0 k) + 1))), (4, .int 1), (0, .ref (ad 0)), (1, .int (nI n0))]) hx hb d_Rm_nearerThan_88 hl (k := 4) rfl (nI_1 k) (by decide) rfl (fun ls hl => ?_)
              refine lv_goto (tgt := 4) hx hb d_Rm_nearerThan_91 (by decide) ?_
              have h_no : ¬ (k = n0 ∨ (T k).1 = -1000) := fun h9 => h9.elim (fun h8 => c_14 (by rw [h8])) (fun h8 => c_26 (h_K.1.trans h8))
              have hz : zNr T n0 (k + 1) = zNr T n0 k + 1 := by rw [h_un, if_neg h_no, if_pos (Or.inl (Classical.byContradiction fun h9 => c_72 (by rw [e_b, if_neg h9])))]
              exact ih (k + 1) hkm (by omega) _ _ _ hM hS (by rw [hz]; exact lv_sub hl [3, 4, 1, 0] rfl)
            · refine lv_iload hx hb d_Rm_nearerThan_75 (lv_at hl 0 rfl) ?_
              refine lv_if_eq (tgt := 88) hx hb d_Rm_nearerThan_77 (by decide) (fun c_77 => ?_) (fun c_77 => ?_)
              · exact absurd c_77 (by decide)
              · refine lv_iload_n hx hb d_Rm_nearerThan_80 rfl (lv_at hl 4 rfl) ?_
                refine lv_iload_n hx hb d_Rm_nearerThan_81 rfl (lv_at hl 2 rfl) ?_
                refine lv_icmp_ge (tgt := 88) hx hb d_Rm_nearerThan_82 (by decide) (fun c_82 => ?_) (fun c_82 => ?_)
                · refine lv_iinc (v := (nI (k + 1))) (lv' := [(3, .int (nI (k + 1))), (4, .int 1), (0, .ref (ad 0)), (1, .int (nI n0)), (2, .int (nI (zNr T n0 k)))]) hx hb d_Rm_nearerThan_88 hl (k := 4) rfl (nI_1 k) (by decide) rfl (fun ls hl => ?_)
                  refine lv_goto (tgt := 4) hx hb d_Rm_nearerThan_91 (by decide) ?_
                  have h_no : ¬ (k = n0 ∨ (T k).1 = -1000) := fun h9 => h9.elim (fun h8 => c_14 (by rw [h8])) (fun h8 => c_26 (h_K.1.trans h8))
                  have h_b : ¬ zLess (T k).2.1 (T k).2.2 (T n0).2.1 (T n0).2.2 := fun h9 => by rw [e_b, if_pos h9] at c_72; exact absurd c_72 (by decide)
                  have h_a : ¬ zLess (T n0).2.1 (T n0).2.2 (T k).2.1 (T k).2.2 := fun h9 => by rw [e_a, if_pos h9] at c_47; exact absurd c_47 (by decide)
                  have hz : zNr T n0 (k + 1) = zNr T n0 k := by rw [h_un, if_neg h_no, if_neg (fun h9 => h9.elim h_b (fun h8 => absurd h8.2 (Nat.not_lt.mpr ((nI_leI (by omega) (by omega)).mp c_82))))]
                  exact ih (k + 1) hkm (by omega) _ _ _ hM hS (by rw [hz]; exact lv_sub hl [2, 3, 4, 0] rfl)
                · refine lv_iinc (v := (nI ((zNr T n0 k) + 1))) (lv' := [(2, .int (nI ((zNr T n0 k) + 1))), (4, .int 1), (0, .ref (ad 0)), (1, .int (nI n0)), (3, .int (nI k))]) hx hb d_Rm_nearerThan_85 hl (k := 3) rfl (nI_1 (zNr T n0 k)) (by decide) rfl (fun ls hl => ?_)
                  refine lv_iinc (v := (nI (k + 1))) (lv' := [(3, .int (nI (k + 1))), (2, .int (nI ((zNr T n0 k) + 1))), (4, .int 1), (0, .ref (ad 0)), (1, .int (nI n0))]) hx hb d_Rm_nearerThan_88 hl (k := 4) rfl (nI_1 k) (by decide) rfl (fun ls hl => ?_)
                  refine lv_goto (tgt := 4) hx hb d_Rm_nearerThan_91 (by decide) ?_
                  have h_no : ¬ (k = n0 ∨ (T k).1 = -1000) := fun h9 => h9.elim (fun h8 => c_14 (by rw [h8])) (fun h8 => c_26 (h_K.1.trans h8))
                  have h_b : ¬ zLess (T k).2.1 (T k).2.2 (T n0).2.1 (T n0).2.2 := fun h9 => by rw [e_b, if_pos h9] at c_72; exact absurd c_72 (by decide)
                  have h_a : ¬ zLess (T n0).2.1 (T n0).2.2 (T k).2.1 (T k).2.2 := fun h9 => by rw [e_a, if_pos h9] at c_47; exact absurd c_47 (by decide)
                  have hz : zNr T n0 (k + 1) = zNr T n0 k + 1 := by rw [h_un, if_neg h_no, if_pos (Or.inr ⟨h_a, Nat.not_le.mp (fun h8 => c_82 ((nI_leI (by omega) (by omega)).mpr h8))⟩)]
                  exact ih (k + 1) hkm (by omega) _ _ _ hM hS (by rw [hz]; exact lv_sub hl [3, 4, 1, 0] rfl)
        · refine lv_goto (tgt := 88) hx hb d_Rm_nearerThan_29 (by decide) ?_
          refine lv_iinc (v := (nI (k + 1))) (lv' := [(3, .int (nI (k + 1))), (0, .ref (ad 0)), (1, .int (nI n0)), (2, .int (nI (zNr T n0 k)))]) hx hb d_Rm_nearerThan_88 hl (k := 3) rfl (nI_1 k) (by decide) rfl (fun ls hl => ?_)
          refine lv_goto (tgt := 4) hx hb d_Rm_nearerThan_91 (by decide) ?_
          have hz : zNr T n0 (k + 1) = zNr T n0 k := by rw [h_un, if_pos (Or.inr (h_K.1 ▸ c_26))]
          exact ih (k + 1) hkm (by omega) _ _ _ hM hS (by rw [hz]; exact lv_sub hl [1, 2, 3, 0] rfl)

set_option maxHeartbeats 4000000 in
set_option maxRecDepth 100000 in
theorem c_Rm_nearerThan (l : Launch) (G : xG) (M : xM) (ad : Nat → Nat) (u : zS) (hC : Core G M ad u) (hO : zOk u) (T : Nat → zN3) (f : Nat → Int32) (hf : M (ad 9) = some (9, eI G 8 f)) (hT : ∀ k, k < zmn u → f k = (T k).1 ∧ M (ad (10 + k)) = some (10 + k, eGap (T k).2)) (n0 : Nat) (hn0 : n0 < zmn u) : Met l y_Rm_nearerThan w_Rm_nearerThan ({ frames := 1, cells := 0, slots := 0, locals := 30 }) (xP G [.ref (ad 0), .int (nI n0)] M) (xQi G (fun v M' => v = nI (zNr T n0 (zmn u)) ∧ M' = M)) 0 0 (xF G) := by
  refine x_met (by decide) (Nat.le_of_ble_eq_true rfl) ?_
  intro p e s m below meth c ls hE hin hl hM hK hS
  obtain ⟨hx, hb, hr, hml, hown, hw, hlocks⟩ := id hE
  have hl : lv_has ls 5 [(0, .ref (ad 0)), (1, .int (nI n0))] := hl
  refine lv_iconst (v := 0) hx hb d_Rm_nearerThan_0 (by decide) ?_
  refine lv_istore_n (lv' := [(2, .int 0), (0, .ref (ad 0)), (1, .int (nI n0))]) hx hb d_Rm_nearerThan_1 rfl hl (by decide) rfl (fun ls hl => ?_)
  refine lv_iconst (v := 0) hx hb d_Rm_nearerThan_2 (by decide) ?_
  refine lv_istore_n (lv' := [(3, .int 0), (2, .int 0), (0, .ref (ad 0)), (1, .int (nI n0))]) hx hb d_Rm_nearerThan_3 rfl hl (by decide) rfl (fun ls hl => ?_)
  exact lp_Rm_nearerThan ad u hC hO T f hf hT n0 hn0 hE hK (zmn u + 1) 0 (by omega) (by omega) _ _ _ hM hS (lv_sub hl [2, 3, 1, 0] rfl)
end
section
set_option maxHeartbeats 4000000 in
set_option maxRecDepth 100000 in
theorem lp_Rm_source2 {p : Program} {l : Launch} {e : Env} {s : State} {m : MethodId} {below : List Frame} {meth : Method} {c : Code} {args : Array Value} {G : xG} {M : xM} (ad : Nat → Nat) (u : zS) (hC : Core G M ad u) (hO : zOk u) (i : Nat) (hi : i < zrn u) (x w kk : Int32) (h_x : zIn x (zrn u)) (e_i : i = x.toNatClampNeg) (h_k : ¬ kk < 0) (h_w : zLe w) (hs : Scr G M ad) (hE : xE p s m args meth c b_Rm_source (some .int) 6 R_Rm) (hK : KX G s) (Mk : xM) (hkp : xKeep M Mk) (hsk : Scr G Mk ad) (f : Nat → Int32) (c_dat : Mk (ad 9) = some (9, eI G 8 f)) (hT : ∀ k, k < zmn u → f k = (zDat u i k w).1 ∧ Mk (ad (10 + k)) = some (10 + k, eGap (zDat u i k w).2)) : ∀ (n k : Nat), k ≤ zmn u → zmn u + 1 ≤ k + n → zSrc (fun j => zDat u i j w) (zmn u) kk k = none → ∀ (H : Heap) (locs : List Loc) (ls : Array Slot), xh G Mk H → va_S (xF G) s.heap H locs → lv_has ls 6 [(0, .ref (ad 0)), (3, .int kk), (5, .int (nI k))] → W p l e ({ frames := 7, cells := 2, slots := 12, locals := 125 }) s m args below meth c H locs 2 12 (vx_MQ below (xQi G (fun v M' => fSrc u x w kk = (0, v) ∧ xKeep M M' ∧ Scr G M' ad)) (xX G (fun E M' => ((fSrc u x w kk = (1, 0) ∧ E = nIOE) ∨ (fSrc u x w kk = (2, 0) ∧ E = nIAE)) ∧ M' = M)) args s 2 12 (xF G)) (F0 m 81 ls []) := by
  obtain ⟨hx, hb, hr, hml, hown, hw, hlocks⟩ := id hE
  have hmn := hO.2.2.2.2.1
  have hCk : Core G Mk ad u := hC.keep hkp
  intro n
  induction n with
  | zero =>
    intro k h1 h2
    exact absurd h2 (by omega)
  | succ n ih =>
    intro k hk hin hno H locs ls hM hS hl
    have h_un : zSrc (fun j => zDat u i j w) (zmn u) kk (k + 1) = (if (zDat u i k w).1 ≠ -1000 ∧ nI (zNr (fun j => zDat u i j w) k (zmn u)) = kk then some k else none) := by
      show (match zSrc (fun j => zDat u i j w) (zmn u) kk k with | some r => some r | none => _) = _
      rw [hno]
    refine lv_iload hx hb d_Rm_source_81 (lv_at hl 2 rfl) ?_
    refine lv_aload_n hx hb d_Rm_source_83 rfl (lv_at hl 0 rfl) ?_
    refine x_get (C := R_Rm) (T := F_Rm) (N := 12) hx hb hw i_Rm hown hK.1 hM hCk.1 rfl 5 (by decide) (hw _ kw_70) rfl rfl d_Rm_source_84 ?_
    refine lv_icmp_ge (tgt := 122) hx hb d_Rm_source_87 (by decide) (fun c_87 => ?_) (fun c_87 => ?_)
    · have h87 : zmn u ≤ k := (nI_leI (by omega) (by omega)).mp c_87
      refine lv_iconst (v := (-1)) hx hb d_Rm_source_122 (by decide) ?_
      refine vx_ret ?_
      exact x_ri hE rfl hM hS ⟨by unfold fSrc; rw [if_pos h_x, if_neg h_k, if_pos h_w, ← e_i]; rw [show zmn u = k by omega] at hno ⊢; rw [hno]; rfl, hkp, hsk⟩ (by decide) (by decide) d_Rm_source_123
    · have hkm : k < zmn u := Nat.not_le.mp (fun h9 => c_87 ((nI_leI (by omega) (by omega)).mpr h9))
      refine lv_aload_n hx hb d_Rm_source_90 rfl (lv_at hl 0 rfl) ?_
      refine x_get (C := R_Rm) (T := F_Rm) (N := 12) hx hb hw i_Rm hown hK.1 hM hCk.1 rfl 11 (by decide) (hw _ kw_76) rfl rfl d_Rm_source_91 ?_
      refine lv_iload hx hb d_Rm_source_94 (lv_at hl 2 rfl) ?_
      refine x_iald hx hb hK.1 hM c_dat 0 rfl rfl (by omega) (by decide) d_Rm_source_96 ?_
      refine lv_sipush (v := (-1000)) hx hb d_Rm_source_97 (by decide) ?_
      refine lv_icmp_eq (tgt := 116) hx hb d_Rm_source_100 (by decide) (fun c_100 => ?_) (fun c_100 => ?_)
      · refine lv_iinc (v := (nI (k + 1))) (lv' := [(5, .int (nI (k + 1))), (0, .ref (ad 0)), (3, .int kk)]) hx hb d_Rm_source_116 hl (k := 2) rfl (nI_1 k) (by decide) rfl (fun ls hl => ?_)
        refine lv_goto (tgt := 81) hx hb d_Rm_source_119 (by decide) ?_
        exact ih (k + 1) hkm (by omega) (by rw [h_un, if_neg (fun h9 => h9.1 ((hT k hkm).1 ▸ c_100))]) _ _ _ hM hS (lv_sub hl [1, 2, 0] rfl)
      · refine lv_aload_n hx hb d_Rm_source_103 rfl (lv_at hl 0 rfl) ?_
        refine lv_iload hx hb d_Rm_source_104 (lv_at hl 2 rfl) ?_
        refine x_ci (x_runV (As := [.int (nI k)]) (rest := []) hE hK hM hl.1 (c_Rm_nearerThan l G Mk ad u hCk hO (fun j => zDat u i j w) f c_dat hT k hkm) hCk.1 rfl kw_468 kw_470 ks_13 kw_1 kw_471 1 rfl rfl rfl (by decide +kernel) ⟨by decide, by decide⟩ rfl (Nat.le_of_ble_eq_true rfl) d_Rm_source_106 ⟨by decide, by decide⟩) hS (fun r1 M1 H locs hp hM hS => ?_)
        obtain ⟨e_r, e_M⟩ := hp
        have hM : xh G Mk H := e_M ▸ hM
        refine lv_iload_n hx hb d_Rm_source_109 rfl (lv_at hl 1 rfl) ?_
        refine lv_icmp_ne (tgt := 116) hx hb d_Rm_source_110 (by decide) (fun c_110 => ?_) (fun c_110 => ?_)
        · refine lv_iinc (v := (nI (k + 1))) (lv' := [(5, .int (nI (k + 1))), (0, .ref (ad 0)), (3, .int kk)]) hx hb d_Rm_source_116 hl (k := 2) rfl (nI_1 k) (by decide) rfl (fun ls hl => ?_)
          refine lv_goto (tgt := 81) hx hb d_Rm_source_119 (by decide) ?_
          exact ih (k + 1) hkm (by omega) (by rw [h_un, if_neg (fun h9 => c_110 (e_r.trans h9.2))]) _ _ _ hM hS (lv_sub hl [1, 2, 0] rfl)
        · refine lv_iload hx hb d_Rm_source_113 (lv_at hl 2 rfl) ?_
          have hso : zSrc (fun j => zDat u i j w) (zmn u) kk (zmn u) = some k := by
            have h9 := zSrc_some (show zSrc (fun j => zDat u i j w) (zmn u) kk (k + 1) = some k by rw [h_un, if_pos ⟨fun h8 => c_100 ((hT k hkm).1.trans h8), e_r ▸ c_110⟩]) (zmn u - (k + 1))
            rw [show k + 1 + (zmn u - (k + 1)) = zmn u by omega] at h9
            exact h9
          refine vx_ret ?_
          exact x_ri hE rfl hM hS ⟨by unfold fSrc; rw [if_pos h_x, if_neg h_k, if_pos h_w, ← e_i, hso]; rfl, hkp, hsk⟩ (by decide) (by decide) d_Rm_source_115

set_option maxHeartbeats 4000000 in
set_option maxRecDepth 100000 in
theorem lp_Rm_source1 {p : Program} {l : Launch} {e : Env} {s : State} {m : MethodId} {below : List Frame} {meth : Method} {c : Code} {args : Array Value} {G : xG} {M : xM} (ad : Nat → Nat) (u : zS) (hC : Core G M ad u) (hO : zOk u) (i : Nat) (hi : i < zrn u) (x w kk : Int32) (h_x : zIn x (zrn u)) (e_i : i = x.toNatClampNeg) (h_k : ¬ kk < 0) (h_w : zLe w) (hs : Scr G M ad) (hE : xE p s m args meth c b_Rm_source (some .int) 6 R_Rm) (hK : KX G s) : ∀ (n k : Nat), k ≤ zmn u → zmn u + 1 ≤ k + n → ∀ (Mk : xM), xKeep M Mk → Scr G Mk ad → ∀ (f : Nat → Int32), Mk (ad 9) = some (9, eI G 8 f) → (∀ k', k' < k → f k' = (zDat u i k' w).1 ∧ Mk (ad (10 + k')) = some (10 + k', eGap (zDat u i k' w).2)) → ∀ (H : Heap) (locs : List Loc) (ls : Array Slot), xh G Mk H → va_S (xF G) s.heap H locs → lv_has ls 6 [(0, .ref (ad 0)), (2, .int w), (3, .int kk), (4, .ref (ad (20 + i))), (5, .int (nI k))] → W p l e ({ frames := 7, cells := 2, slots := 12, locals := 125 }) s m args below meth c H locs 2 12 (vx_MQ below (xQi G (fun v M' => fSrc u x w kk = (0, v) ∧ xKeep M M' ∧ Scr G M' ad)) (xX G (fun E M' => ((fSrc u x w kk = (1, 0) ∧ E = nIOE) ∨ (fSrc u x w kk = (2, 0) ∧ E = nIAE)) ∧ M' = M)) args s 2 12 (xF G)) (F0 m 28 ls []) := by
  obtain ⟨hx, hb, hr, hml, hown, hw, hlocks⟩ := id hE
  have hmn := hO.2.2.2.2.1
  intro n
  induction n with
  | zero =>
    intro k h1 h2
    exact absurd h2 (by omega)
  | succ n ih =>
    intro k hk hin Mk hkp hsk f c_dat hT H locs ls hM hS hl
    have hCk : Core G Mk ad u := hC.keep hkp
    obtain ⟨q6, c_tri⟩ := hsk.2.1
    obtain ⟨q7, c_nea⟩ := hsk.2.2.1
    have c_o : Mk (ad 0) = some (0, .inr (4, [.ref (ad 1), .int (nI (zpn u)), .ref (ad 2), .int (nI (zrn u)), .ref (ad 3), .int (nI (zmn u)), .ref (ad 4), .ref (ad 5), .ref (ad 6), .ref (ad 7), .ref (ad 8), .ref (ad 9)])) := hCk.1
    have c_means := hCk.2.2.2.1
    have c_gaps := hCk.2.2.2.2.2.1
    refine lv_iload hx hb d_Rm_source_28 (lv_at hl 4 rfl) ?_
    refine lv_aload_n hx hb d_Rm_source_30 rfl (lv_at hl 0 rfl) ?_
    refine x_get (C := R_Rm) (T := F_Rm) (N := 12) hx hb hw i_Rm hown hK.1 hM c_o rfl 5 (by decide) (hw _ kw_70) rfl rfl d_Rm_source_31 ?_
    refine lv_icmp_ge (tgt := 78) hx hb d_Rm_source_34 (by decide) (fun c_34 => ?_) (fun c_34 => ?_)
    · have h34 : zmn u ≤ k := (nI_leI (by omega) (by omega)).mp c_34
      refine lv_iconst (v := 0) hx hb d_Rm_source_78 (by decide) ?_
      refine lv_istore (lv' := [(5, .int 0), (0, .ref (ad 0)), (2, .int w), (3, .int kk), (4, .ref (ad (20 + i)))]) hx hb d_Rm_source_79 hl (by decide) rfl (fun ls hl => ?_)
      exact lp_Rm_source2 ad u hC hO i hi x w kk h_x e_i h_k h_w hs hE hK Mk hkp hsk f c_dat (fun k2 h2 => hT k2 (by omega)) (zmn u + 1) 0 (by omega) (by omega) rfl _ _ _ hM hS (lv_sub hl [1, 3, 0] rfl)
    · have hkm : k < zmn u := Nat.not_le.mp (fun h9 => c_34 ((nI_leI (by omega) (by omega)).mpr h9))
      refine lv_aload_n hx hb d_Rm_source_37 rfl (lv_at hl 0 rfl) ?_
      refine x_get (C := R_Rm) (T := F_Rm) (N := 12) hx hb hw i_Rm hown hK.1 hM c_o rfl 11 (by decide) (hw _ kw_76) rfl rfl d_Rm_source_38 ?_
      refine lv_iload hx hb d_Rm_source_41 (lv_at hl 4 rfl) ?_
      refine lv_aload_n hx hb d_Rm_source_43 rfl (lv_at hl 0 rfl) ?_
      refine lv_aload hx hb d_Rm_source_44 (lv_at hl 3 rfl) ?_
      refine lv_aload_n hx hb d_Rm_source_46 rfl (lv_at hl 0 rfl) ?_
      refine x_get (C := R_Rm) (T := F_Rm) (N := 12) hx hb hw i_Rm hown hK.1 hM c_o rfl 4 (by decide) (hw _ kw_69) rfl rfl d_Rm_source_47 ?_
      refine lv_iload hx hb d_Rm_source_50 (lv_at hl 4 rfl) ?_
      refine x_aldq (v := .ref (ad (40 + k))) hx hb hK.1 hM c_means 3 rfl rfl (by omega) (by omega) (zrw_lt hkm) d_Rm_source_52 ?_
      refine lv_iload_n hx hb d_Rm_source_53 rfl (lv_at hl 1 rfl) ?_
      obtain ⟨qk, c_gk⟩ := hsk.2.2.2.2 k (by omega)
      refine x_ci (x_runV (As := [.ref (ad (20 + i)), .ref (ad (40 + k)), .int w]) (rest := [.int (nI k), .ref (ad 9)]) hE hK hM hl.1 (c_Rm_nearestYear l G Mk ad u hCk hO i hi k hkm w q6 c_tri q7 c_nea) c_o rfl kw_441 kw_443 ks_12 kw_1 kw_444 3 rfl rfl rfl (by decide +kernel) ⟨by decide, by decide⟩ rfl (Nat.le_of_ble_eq_true rfl) d_Rm_source_54 ⟨by decide, by decide⟩) hS (fun r1 M1 H locs hp hM hS => ?_)
      obtain ⟨e_r, hof1, h6, h7⟩ := hp
      have hsk := hsk.off2 hof1 h6 ⟨_, h7⟩
      have hkp := hkp.trans (hof1.keep rfl rfl)
      have c_o := hof1 _ _ _ c_o (by decide) (by decide)
      have c_gaps := hof1 _ _ _ c_gaps (by decide) (by decide)
      have c_dat := hof1 _ _ _ c_dat (by decide) (by decide)
      have c_gk := hof1 _ _ _ c_gk (by omega) (by omega)
      have hT : ∀ k', k' < k → f k' = (zDat u i k' w).1 ∧ M1 (ad (10 + k')) = some (10 + k', eGap (zDat u i k' w).2) := fun k' hk' => ⟨(hT k' hk').1, hof1 _ _ _ (hT k' hk').2 (by omega) (by omega)⟩
      obtain ⟨Ma, eMa⟩ : ∃ z : xM, z = M1 := ⟨_, rfl⟩
      subst eMa
      have c_dat0 := c_dat
      refine x_iast hx hb hK.1 hM hS c_dat 0 rfl rfl (by omega) (by decide) d_Rm_source_57 (fun H locs hM hS hz => ?_)
      have hM : xh G (va_up Ma (ad 9) (some (9, .inl (gI G, 8, .inl (upd f k r1))))) H := hM
      obtain ⟨Ma_1, eMa_1⟩ : ∃ z : xM, z = va_up Ma (ad 9) (some (9, .inl (gI G, 8, .inl (upd f k r1)))) := ⟨_, rfl⟩
      rw [← eMa_1] at hM
      have c_o := xw_upE eMa_1 c_o c_dat (by decide)
      have c_gaps := xw_upE eMa_1 c_gaps c_dat (by decide)
      have h7 := xw_upE eMa_1 h7 c_dat (by decide)
      have c_gk := xw_upE eMa_1 c_gk c_dat (by omega)
      have c_dat := xw_atE eMa_1
      have hT : ∀ k', k' < k → upd f k r1 k' = (zDat u i k' w).1 ∧ Ma_1 (ad (10 + k')) = some (10 + k', eGap (zDat u i k' w).2) := fun k' hk' => ⟨(pk_un (by omega)).trans (hT k' hk').1, xw_upE eMa_1 (hT k' hk').2 c_dat0 (by omega)⟩
      have hkp := hkp.trans (show xKeep Ma Ma_1 by rw [eMa_1]; exact xKeep.up c_dat0 rfl)
      have hsk : Scr G Ma_1 ad := by
        obtain ⟨⟨a5, b5⟩, ⟨a6, b6⟩, ⟨a7, b7⟩, -, bg⟩ := hsk
        refine ⟨⟨a5, xw_upE eMa_1 b5 c_dat0 (by decide)⟩, ⟨a6, xw_upE eMa_1 b6 c_dat0 (by decide)⟩, ⟨a7, xw_upE eMa_1 b7 c_dat0 (by decide)⟩, ⟨_, c_dat⟩, fun i9 h9 => ?_⟩
        obtain ⟨a9, b9⟩ := bg i9 h9
        exact ⟨a9, xw_upE eMa_1 b9 c_dat0 (by omega)⟩
      refine lv_aload_n hx hb d_Rm_source_58 rfl (lv_at hl 0 rfl) ?_
      refine x_get (C := R_Rm) (T := F_Rm) (N := 12) hx hb hw i_Rm hown hK.1 hM c_o rfl 10 (by decide) (hw _ kw_75) rfl rfl d_Rm_source_59 ?_
      refine lv_iload hx hb d_Rm_source_62 (lv_at hl 4 rfl) ?_
      refine x_aldq (v := .ref (ad (10 + k))) hx hb hK.1 hM c_gaps 4 rfl rfl (by omega) (by omega) (zrw_lt (by omega)) d_Rm_source_64 ?_
      refine lv_aload_n hx hb d_Rm_source_65 rfl (lv_at hl 0 rfl) ?_
      refine x_get (C := R_Rm) (T := F_Rm) (N := 12) hx hb hw i_Rm hown hK.1 hM c_o rfl 9 (by decide) (hw _ kw_74) rfl rfl d_Rm_source_66 ?_
      refine x_cv (x_runV (As := [.ref (ad 7)]) (rest := []) hE hK hM hl.1 (c_Gap_become l G Ma_1 (ad (10 + k)) (10 + k) qk.1 qk.2 c_gk (ad 7) 7 (zDat u i k w).2.1 (zDat u i k w).2.2 h7 (by omega)) c_gk rfl kw_449 kw_450 kw_451 kw_3 kw_452 1 rfl rfl rfl (by decide +kernel) ⟨by decide, by decide⟩ rfl (Nat.le_of_ble_eq_true rfl) d_Rm_source_69 ⟨by decide, by decide⟩) hS (fun M1 H locs hp hM hS => ?_)
      have hT : ∀ k', k' < k + 1 → upd f k r1 k' = (zDat u i k' w).1 ∧ M1 (ad (10 + k')) = some (10 + k', eGap (zDat u i k' w).2) := fun k' hk' => by
        by_cases h9 : k' = k
        · subst h9
          exact ⟨pk_us.trans e_r, xw_atE hp⟩
        · exact ⟨(hT k' (by omega)).1, xw_upE hp (hT k' (by omega)).2 c_gk (by omega)⟩
      have hkp := hkp.trans (show xKeep Ma_1 M1 by rw [hp]; exact xKeep.up c_gk (by simp [zScr]; omega))
      have hsk : Scr G M1 ad := by
        obtain ⟨⟨a5, b5⟩, ⟨a6, b6⟩, ⟨a7, b7⟩, -, bg⟩ := hsk
        refine ⟨⟨a5, xw_upE hp b5 c_gk (by omega)⟩, ⟨a6, xw_upE hp b6 c_gk (by omega)⟩, ⟨a7, xw_upE hp b7 c_gk (by omega)⟩, ⟨_, xw_upE hp c_dat c_gk (by omega)⟩, fun i9 h9 => ?_⟩
        by_cases h8 : i9 = k
        · subst h8
          exact ⟨_, xw_atE hp⟩
        · obtain ⟨a9, b9⟩ := bg i9 h9
          exact ⟨a9, xw_upE hp b9 c_gk (by omega)⟩
      have c_dat := xw_upE hp c_dat c_gk (by omega)
      refine lv_iinc (v := (nI (k + 1))) (lv' := [(5, .int (nI (k + 1))), (0, .ref (ad 0)), (2, .int w), (3, .int kk), (4, .ref (ad (20 + i)))]) hx hb d_Rm_source_72 hl (k := 4) rfl (nI_1 k) (by decide) rfl (fun ls hl => ?_)
      refine lv_goto (tgt := 28) hx hb d_Rm_source_75 (by decide) ?_
      exact ih (k + 1) hkm (by omega) _ hkp hsk _ c_dat hT _ _ _ hM hS (lv_sub hl [1, 2, 3, 4, 0] rfl)

set_option maxHeartbeats 4000000 in
set_option maxRecDepth 100000 in
theorem c_Rm_source (l : Launch) (G : xG) (M : xM) (hst : l.stackTraces = false) (ad : Nat → Nat) (u : zS) (hC : Core G M ad u) (hO : zOk u) (hs : Scr G M ad) (x w kk : Int32) : vx_Met l y_Rm_source w_Rm_source ({ frames := 7, cells := 2, slots := 12, locals := 125 }) (xP G [.ref (ad 0), .int x, .int w, .int kk] M) (xQi G (fun v M' => fSrc u x w kk = (0, v) ∧ xKeep M M' ∧ Scr G M' ad)) (xX G (fun E M' => ((fSrc u x w kk = (1, 0) ∧ E = nIOE) ∨ (fSrc u x w kk = (2, 0) ∧ E = nIAE)) ∧ M' = M)) 2 12 (xF G) := by
  refine x_metX (by decide) (Nat.le_of_ble_eq_true rfl) ?_
  intro p e s m below meth c ls hE hnx hl hM hK hS
  obtain ⟨hx, hb, hr, hml, hown, hw, hlocks⟩ := id hE
  have h0 := hM
  have hl : lv_has ls 6 [(0, .ref (ad 0)), (1, .int x), (2, .int w), (3, .int kk)] := hl
  refine lv_aload_n hx hb d_Rm_source_0 rfl (lv_at hl 0 rfl) ?_
  refine lv_iload_n hx hb d_Rm_source_1 rfl (lv_at hl 1 rfl) ?_
  refine x_cxr (x_runVX (As := [.int x]) (rest := []) hE hK hM hl.1 (c_Rm_rowOf l G M hst ad u hC hO x) hC.1 rfl kw_232 kw_234 ks_2 kw_1 kw_235 1 rfl rfl rfl (by decide +kernel) ⟨by decide, by decide⟩ rfl (Nat.le_of_ble_eq_true rfl) d_Rm_source_2 ⟨by decide, by decide⟩) hS (fun E ce q9 M1 H locs hp hM hS hq1 hq2 hq3 => ?_) (fun r1 M1 H locs hp hM hS => ?_)
  · obtain ⟨h_x, rfl, e_M⟩ := hp
    have hM : xh G M H := e_M ▸ hM
    exact x_out hE hnx hM hS hq1 hq2 hq3 ⟨Or.inl ⟨by unfold fSrc; rw [if_neg h_x], rfl⟩, rfl⟩ (by decide) (by decide)
  obtain ⟨h_in, e_a, e_M⟩ := hp
  have hM : xh G M H := e_M ▸ hM
  obtain ⟨i, e_i, h_i, ex_i⟩ := z_in h_in (by have := hO.2.2.1; omega)
  rw [← e_i] at e_a
  subst e_a
  have hR_i := hC.2.2.2.2.2.2.1 i h_i
  have hZ_i := hO.2.2.2.1 i h_i
  refine lv_astore (lv' := [(4, .ref (ad (20 + i))), (0, .ref (ad 0)), (1, .int x), (2, .int w), (3, .int kk)]) hx hb d_Rm_source_5 hl (by decide) rfl (fun ls hl => ?_)
  refine lv_iload_n hx hb d_Rm_source_7 rfl (lv_at hl 4 rfl) ?_
  refine lv_if_ge (tgt := 21) hx hb d_Rm_source_8 (by decide) (fun c_8 => ?_) (fun c_8 => ?_)
  · have h_k : ¬ kk < 0 := z_nlt c_8
    refine lv_iload_n hx hb d_Rm_source_21 rfl (lv_at hl 3 rfl) ?_
    refine x_cxv (x_runSX (As := [.int w]) (rest := []) hE hK hM hl.1 (c_Rm_checkLeast l G M hst w) kw_437 kw_438 kw_1 kw_439 1 rfl rfl rfl (by decide +kernel) ⟨by decide, by decide⟩ rfl (Nat.le_of_ble_eq_true rfl) d_Rm_source_22 ⟨by decide, by decide⟩) hS (fun E ce q9 M1 H locs hp hM hS hq1 hq2 hq3 => ?_) (fun M1 H locs hp hM hS => ?_)
    · obtain ⟨h_x, rfl, e_M⟩ := hp
      have hM : xh G M H := e_M ▸ hM
      exact x_out hE hnx hM hS hq1 hq2 hq3 ⟨Or.inr ⟨by unfold fSrc; rw [if_pos h_in, if_neg h_k, if_neg h_x], rfl⟩, rfl⟩ (by decide) (by decide)
    obtain ⟨h_w, e_M⟩ := hp
    have hM : xh G M H := e_M ▸ hM
    refine lv_iconst (v := 0) hx hb d_Rm_source_25 (by decide) ?_
    refine lv_istore (lv' := [(5, .int 0), (4, .ref (ad (20 + i))), (0, .ref (ad 0)), (1, .int x), (2, .int w), (3, .int kk)]) hx hb d_Rm_source_26 hl (by decide) rfl (fun ls hl => ?_)
    obtain ⟨f, c_dat⟩ := hs.2.2.2.1
    exact lp_Rm_source1 ad u hC hO i h_i x w kk h_in e_i h_k h_w hs hE hK (zmn u + 1) 0 (by omega) (by omega) M xKeep.refl hs f c_dat (fun k' hk' => absurd hk' (by omega)) _ _ _ hM hS (lv_sub hl [2, 4, 5, 1, 0] rfl)
  · exact x_ioe (is := 184) (text := "no such place among the sources") hst hE hnx hK h0 hM hS hl.1 (by decide) d_Rm_source_11 d_Rm_source_14 d_Rm_source_15 d_Rm_source_17 d_Rm_source_20 (by decide) (Nat.le_of_ble_eq_true rfl) ⟨by decide, by decide⟩ ⟨by decide, by decide⟩ (⟨Or.inl ⟨by unfold fSrc; rw [if_pos h_in, if_pos (Int32.not_le.mp c_8)], rfl⟩, rfl⟩)
end
section
section ZJ
def zEnd (wt : Nat → Int32) (due be : Int64) : Nat → Nat → Int64 → Int32
  | 0, _, _ => -1
  | r + 1, n, s => if (s + (wt n).toInt64) * be < due then zEnd wt due be r (n + 1) (s + (wt n).toInt64) else nI n
def zAll (wt : Nat → Int32) : Nat → Nat → Int64 → Int64
  | 0, _, s => s
  | r + 1, n, s => zAll wt r (n + 1) (s + (wt n).toInt64)
def zShB (wt : Nat → Int32) (due be : Int64) : Nat → Nat → Int32 × Int32 → Int32 × Int32
  | 0, _, q => q
  | r + 1, n, q => zShB wt due be r (n + 1) (if zEnd wt due be (61 - n) n 0 = -1 then q else if q.2 - q.1 ≤ zEnd wt due be (61 - n) n 0 - nI n then q else (nI n, zEnd wt due be (61 - n) n 0))
def zSh (wt : Nat → Int32) (last : Int32) (a : Nat) (ab be : Int32) : Int32 :=
  if lg_cmp (zAll wt (61 - a) a 0) 0 = 0 then -1 else 1000 * (last + (zShB wt (ab.toInt64 * zAll wt (61 - a) a 0) be.toInt64 (61 - a) a (nI a, 60)).1) + last + (zShB wt (ab.toInt64 * zAll wt (61 - a) a 0) be.toInt64 (61 - a) a (nI a, 60)).2
def fFell (u : zS) (x sap ab be : Int32) : zR := if zIn x (zrn u) then (if zst u x.toNatClampNeg = -1 then (2, 0) else if sap < 0 ∨ nI (zln u x.toNatClampNeg) < sap then (3, 0) else if ab < 1 ∨ be < ab ∨ 1000 < be then (3, 0) else (0, zSh (zwt u) (zst u x.toNatClampNeg + nI (zln u x.toNatClampNeg) - 1 - sap) sap.toNatClampNeg ab be)) else (1, 0)
end ZJ
end
section
set_option maxHeartbeats 4000000 in
set_option maxRecDepth 100000 in
theorem lp_Rm_endOfShare {p : Program} {l : Launch} {e : Env} {s : State} {m : MethodId} {below : List Frame} {meth : Method} {c : Code} {args : Array Value} {G : xG} {M : xM} (ad : Nat → Nat) (u : zS) (hC : Core G M ad u) (hO : zOk u) (a : Nat) (due : Int64) (be : Int32) (hE : xE p s m args meth c b_Rm_endOfShare (some .int) 8 R_Rm) (hK : KX G s) : ∀ (r n : Nat) (sm : Int64), n + r = 61 → zEnd (zwt u) due be.toInt64 r n sm = zEnd (zwt u) due be.toInt64 (61 - a) a 0 → ∀ (H : Heap) (locs : List Loc) (ls : Array Slot), xh G M H → va_S (xF G) s.heap H locs → lv_has ls 8 [(0, .ref (ad 0)), (2, .long due), (4, .int be), (5, .long sm), (7, .int (nI n))] → W p l e ({ frames := 0, cells := 0, slots := 0, locals := 0 }) s m args below meth c H locs 0 0 (MQ below (xQi G (fun v M' => v = zEnd (zwt u) due be.toInt64 (61 - a) a 0 ∧ M' = M)) args s 0 0 (xF G)) (F0 m 6 ls []) := by
  obtain ⟨hx, hb, hr, hml, hown, hw, hlocks⟩ := id hE
  intro r
  induction r with
  | zero =>
    intro n sm hn hz H locs ls hM hS hl
    refine lv_iload hx hb d_Rm_endOfShare_6 (lv_at hl 4 rfl) ?_
    refine lv_aload_n hx hb d_Rm_endOfShare_8 rfl (lv_at hl 0 rfl) ?_
    refine x_get (C := R_Rm) (T := F_Rm) (N := 12) hx hb hw i_Rm hown hK.1 hM hC.1 rfl 6 (by decide) (hw _ kw_71) rfl rfl d_Rm_endOfShare_9 ?_
    refine x_alen (v := nI 61) hx hb hK.1 hM hC.2.2.2.2.1 0 rfl rfl d_Rm_endOfShare_12 ?_
    refine lv_icmp_ge (tgt := 49) hx hb d_Rm_endOfShare_13 (by decide) (fun c_13 => ?_) (fun c_13 => ?_)
    · refine lv_iconst (v := (-1)) hx hb d_Rm_endOfShare_49 (by decide) ?_
      exact x_ri hE rfl hM hS ⟨by rw [← hz]; rfl, rfl⟩ (by omega) (by omega) d_Rm_endOfShare_50
    · exact absurd ((nI_leI (by omega) (by omega)).mpr (show 61 ≤ n by omega)) c_13
  | succ r ih =>
    intro n sm hn hz H locs ls hM hS hl
    refine lv_iload hx hb d_Rm_endOfShare_6 (lv_at hl 4 rfl) ?_
    refine lv_aload_n hx hb d_Rm_endOfShare_8 rfl (lv_at hl 0 rfl) ?_
    refine x_get (C := R_Rm) (T := F_Rm) (N := 12) hx hb hw i_Rm hown hK.1 hM hC.1 rfl 6 (by decide) (hw _ kw_71) rfl rfl d_Rm_endOfShare_9 ?_
    refine x_alen (v := nI 61) hx hb hK.1 hM hC.2.2.2.2.1 0 rfl rfl d_Rm_endOfShare_12 ?_
    refine lv_icmp_ge (tgt := 49) hx hb d_Rm_endOfShare_13 (by decide) (fun c_13 => ?_) (fun c_13 => ?_)
    · exact absurd ((nI_leI (by omega) (by omega)).mp c_13) (by omega)
    · refine lv_lload hx hb d_Rm_endOfShare_16 (lv_at hl 3 rfl) ?_
      refine lv_aload_n hx hb d_Rm_endOfShare_18 rfl (lv_at hl 0 rfl) ?_
      refine x_get (C := R_Rm) (T := F_Rm) (N := 12) hx hb hw i_Rm hown hK.1 hM hC.1 rfl 6 (by decide) (hw _ kw_71) rfl rfl d_Rm_endOfShare_19 ?_
      refine lv_iload hx hb d_Rm_endOfShare_22 (lv_at hl 4 rfl) ?_
      refine x_iald hx hb hK.1 hM hC.2.2.2.2.1 0 rfl rfl (by omega) (by decide) d_Rm_endOfShare_24 ?_
      refine lv_i2l (v := ((zwt u) n).toInt64) hx hb d_Rm_endOfShare_25 rfl ?_
      refine lv_ladd hx hb d_Rm_endOfShare_26 ?_
      refine lv_lstore (lv' := [(5, .long (sm + (((zwt u) n).toInt64))), (0, .ref (ad 0)), (2, .long due), (4, .int be), (7, .int (nI n))]) hx hb d_Rm_endOfShare_27 hl (by decide) rfl (fun ls hl => ?_)
      refine lv_lload hx hb d_Rm_endOfShare_29 (lv_at hl 0 rfl) ?_
      refine lv_iload hx hb d_Rm_endOfShare_31 (lv_at hl 3 rfl) ?_
      refine lv_i2l (v := be.toInt64) hx hb d_Rm_endOfShare_33 rfl ?_
      refine lv_lmul hx hb d_Rm_endOfShare_34 ?_
      refine lv_lload_n hx hb d_Rm_endOfShare_35 rfl (lv_at hl 2 rfl) ?_
      refine W.lcmp hx hb d_Rm_endOfShare_36 ?_
      refine lv_if_lt (tgt := 43) hx hb d_Rm_endOfShare_37 (by decide) (fun c_37 => ?_) (fun c_37 => ?_)
      · refine lv_iinc (v := (nI (n + 1))) (lv' := [(7, .int (nI (n + 1))), (5, .long (sm + (((zwt u) n).toInt64))), (0, .ref (ad 0)), (2, .long due), (4, .int be)]) hx hb d_Rm_endOfShare_43 hl (k := 4) rfl (nI_1 n) (by decide) rfl (fun ls hl => ?_)
        refine lv_goto (tgt := 6) hx hb d_Rm_endOfShare_46 (by decide) ?_
        exact ih (n + 1) _ (by omega) (by rw [← hz]; show _ = (if _ then _ else _); rw [if_pos ((lg_cmp_lt _ _).mp c_37)]) _ _ _ hM hS (lv_sub hl [2, 3, 4, 1, 0] rfl)
      · refine lv_iload hx hb d_Rm_endOfShare_40 (lv_at hl 4 rfl) ?_
        exact x_ri hE rfl hM hS ⟨by rw [← hz]; show _ = (if _ then _ else _); rw [if_neg (fun h9 => c_37 ((lg_cmp_lt _ _).mpr h9))], rfl⟩ (by omega) (by omega) d_Rm_endOfShare_42

set_option maxHeartbeats 4000000 in
set_option maxRecDepth 100000 in
theorem c_Rm_endOfShare (l : Launch) (G : xG) (M : xM) (ad : Nat → Nat) (u : zS) (hC : Core G M ad u) (hO : zOk u) (a : Nat) (ha : a ≤ 61) (due : Int64) (be : Int32) : Met l y_Rm_endOfShare w_Rm_endOfShare ({ frames := 0, cells := 0, slots := 0, locals := 0 }) (xP G [.ref (ad 0), .int (nI a), .long due, .int be] M) (xQi G (fun v M' => v = zEnd (zwt u) due be.toInt64 (61 - a) a 0 ∧ M' = M)) 0 0 (xF G) := by
  refine x_met (by decide) (Nat.le_of_ble_eq_true rfl) ?_
  intro p e s m below meth c ls hE hin hl hM hK hS
  obtain ⟨hx, hb, hr, hml, hown, hw, hlocks⟩ := id hE
  have hl : lv_has ls 8 [(0, .ref (ad 0)), (1, .int (nI a)), (2, .long due), (4, .int be)] := hl
  refine lv_lconst (v := 0) hx hb d_Rm_endOfShare_0 (by decide) ?_
  refine lv_lstore (lv' := [(5, .long 0), (0, .ref (ad 0)), (1, .int (nI a)), (2, .long due), (4, .int be)]) hx hb d_Rm_endOfShare_1 hl (by decide) rfl (fun ls hl => ?_)
  refine lv_iload_n hx hb d_Rm_endOfShare_3 rfl (lv_at hl 2 rfl) ?_
  refine lv_istore (lv' := [(7, .int (nI a)), (5, .long 0), (0, .ref (ad 0)), (1, .int (nI a)), (2, .long due), (4, .int be)]) hx hb d_Rm_endOfShare_4 hl (by decide) rfl (fun ls hl => ?_)
  exact lp_Rm_endOfShare ad u hC hO a due be hE hK (61 - a) a 0 (by omega) rfl _ _ _ hM hS (lv_sub hl [2, 4, 5, 1, 0] rfl)

set_option maxHeartbeats 4000000 in
set_option maxRecDepth 100000 in
theorem lp_Rm_shortB {p : Program} {l : Launch} {e : Env} {s : State} {m : MethodId} {below : List Frame} {meth : Method} {c : Code} {args : Array Value} {G : xG} {M : xM} (ad : Nat → Nat) (u : zS) (hC : Core G M ad u) (hO : zOk u) (a : Nat) (la ab be : Int32) (al : Int64) (hal : al = zAll (zwt u) (61 - a) a 0) (hnz : ¬ lg_cmp al 0 = 0) (hE : xE p s m args meth c b_Rm_shortestYears (some .int) 11 R_Rm) (hK : KX G s) : ∀ (r n : Nat) (q : Int32 × Int32), n + r = 61 → zShB (zwt u) (ab.toInt64 * al) be.toInt64 r n q = zShB (zwt u) (ab.toInt64 * al) be.toInt64 (61 - a) a (nI a, 60) → ∀ (H : Heap) (locs : List Loc) (ls : Array Slot), xh G M H → va_S (xF G) s.heap H locs → lv_has ls 11 [(0, .ref (ad 0)), (1, .int la), (3, .int ab), (4, .int be), (5, .long al), (7, .int q.1), (8, .int q.2), (9, .int (nI n))] → W p l e ({ frames := 1, cells := 0, slots := 0, locals := 40 }) s m args below meth c H locs 0 0 (MQ below (xQi G (fun v M' => v = zSh (zwt u) la a ab be ∧ M' = M)) args s 0 0 (xF G)) (F0 m 54 ls []) := by
  obtain ⟨hx, hb, hr, hml, hown, hw, hlocks⟩ := id hE
  intro r
  induction r with
  | zero =>
    intro n q hn hz H locs ls hM hS hl
    refine lv_iload hx hb d_Rm_shortestYears_54 (lv_at hl 7 rfl) ?_
    refine lv_aload_n hx hb d_Rm_shortestYears_56 rfl (lv_at hl 0 rfl) ?_
    refine x_get (C := R_Rm) (T := F_Rm) (N := 12) hx hb hw i_Rm hown hK.1 hM hC.1 rfl 6 (by decide) (hw _ kw_71) rfl rfl d_Rm_shortestYears_57 ?_
    refine x_alen (v := nI 61) hx hb hK.1 hM hC.2.2.2.2.1 0 rfl rfl d_Rm_shortestYears_60 ?_
    refine lv_icmp_ge (tgt := 112) hx hb d_Rm_shortestYears_61 (by decide) (fun c_61 => ?_) (fun c_61 => ?_)
    · refine lv_sipush (v := 1000) hx hb d_Rm_shortestYears_112 (by decide) ?_
      refine lv_iload_n hx hb d_Rm_shortestYears_115 rfl (lv_at hl 1 rfl) ?_
      refine lv_iload hx hb d_Rm_shortestYears_116 (lv_at hl 5 rfl) ?_
      refine lv_iadd hx hb d_Rm_shortestYears_118 ?_
      refine lv_imul hx hb d_Rm_shortestYears_119 ?_
      refine lv_iload_n hx hb d_Rm_shortestYears_120 rfl (lv_at hl 1 rfl) ?_
      refine lv_iadd hx hb d_Rm_shortestYears_121 ?_
      refine lv_iload hx hb d_Rm_shortestYears_122 (lv_at hl 6 rfl) ?_
      refine lv_iadd hx hb d_Rm_shortestYears_124 ?_
      have hz9 : q = zShB (zwt u) (ab.toInt64 * al) be.toInt64 (61 - a) a (nI a, 60) := hz
      exact x_ri hE rfl hM hS ⟨by unfold zSh; rw [← hal, if_neg hnz, ← hz9], rfl⟩ (by decide) (by decide) d_Rm_shortestYears_125
    · exact absurd ((nI_leI (by omega) (by omega)).mpr (show 61 ≤ n by omega)) c_61
  | succ r ih =>
    intro n q hn hz H locs ls hM hS hl
    refine lv_iload hx hb d_Rm_shortestYears_54 (lv_at hl 7 rfl) ?_
    refine lv_aload_n hx hb d_Rm_shortestYears_56 rfl (lv_at hl 0 rfl) ?_
    refine x_get (C := R_Rm) (T := F_Rm) (N := 12) hx hb hw i_Rm hown hK.1 hM hC.1 rfl 6 (by decide) (hw _ kw_71) rfl rfl d_Rm_shortestYears_57 ?_
    refine x_alen (v := nI 61) hx hb hK.1 hM hC.2.2.2.2.1 0 rfl rfl d_Rm_shortestYears_60 ?_
    refine lv_icmp_ge (tgt := 112) hx hb d_Rm_shortestYears_61 (by decide) (fun c_61 => ?_) (fun c_61 => ?_)
    · exact absurd ((nI_leI (by omega) (by omega)).mp c_61) (by omega)
    · refine lv_aload_n hx hb d_Rm_shortestYears_64 rfl (lv_at hl 0 rfl) ?_
      refine lv_iload hx hb d_Rm_shortestYears_65 (lv_at hl 7 rfl) ?_
      refine lv_iload_n hx hb d_Rm_shortestYears_67 rfl (lv_at hl 2 rfl) ?_
      refine lv_i2l (v := ab.toInt64) hx hb d_Rm_shortestYears_68 rfl ?_
      refine lv_lload hx hb d_Rm_shortestYears_69 (lv_at hl 4 rfl) ?_
      refine lv_lmul hx hb d_Rm_shortestYears_71 ?_
      refine lv_iload hx hb d_Rm_shortestYears_72 (lv_at hl 3 rfl) ?_
      refine x_ci (x_runV (As := [.int (nI n), .long ((ab.toInt64) * al), .int be]) (rest := []) hE hK hM hl.1 (c_Rm_endOfShare l G M ad u hC hO n (by omega) (ab.toInt64 * al) be) hC.1 rfl kw_495 kw_497 ks_15 kw_1 kw_498 3 rfl rfl rfl (by decide +kernel) ⟨by decide, by decide⟩ rfl (Nat.le_of_ble_eq_true rfl) d_Rm_shortestYears_74 ⟨by decide, by decide⟩) hS (fun r1 M1 H locs hp hM hS => ?_)
      obtain ⟨e_r, e_M⟩ := hp
      have hM : xh G M H := e_M ▸ hM
      refine lv_istore (lv' := [(10, .int r1), (0, .ref (ad 0)), (1, .int la), (3, .int ab), (4, .int be), (5, .long al), (7, .int q.1), (8, .int q.2), (9, .int (nI n))]) hx hb d_Rm_shortestYears_77 hl (by decide) rfl (fun ls hl => ?_)
      refine lv_iload hx hb d_Rm_shortestYears_79 (lv_at hl 0 rfl) ?_
      refine lv_iconst (v := (-1)) hx hb d_Rm_shortestYears_81 (by decide) ?_
      refine lv_icmp_eq (tgt := 106) hx hb d_Rm_shortestYears_82 (by decide) (fun c_82 => ?_) (fun c_82 => ?_)
      · refine lv_iinc (v := (nI (n + 1))) (lv' := [(9, .int (nI (n + 1))), (10, .int r1), (0, .ref (ad 0)), (1, .int la), (3, .int ab), (4, .int be), (5, .long al), (7, .int q.1), (8, .int q.2)]) hx hb d_Rm_shortestYears_106 hl (k := 8) rfl (nI_1 n) (by decide) rfl (fun ls hl => ?_)
        refine lv_goto (tgt := 54) hx hb d_Rm_shortestYears_109 (by decide) ?_
        refine ih (n + 1) q (by omega) (by rw [← hz]; show _ = zShB _ _ _ r (n + 1) (if _ then _ else _); rw [if_pos (e_r ▸ c_82)]) _ _ _ hM hS (lv_sub hl [2, 3, 4, 5, 6, 7, 8, 0] rfl)
      · refine lv_iload hx hb d_Rm_shortestYears_85 (lv_at hl 0 rfl) ?_
        refine lv_iload hx hb d_Rm_shortestYears_87 (lv_at hl 8 rfl) ?_
        refine lv_isub hx hb d_Rm_shortestYears_89 ?_
        refine lv_iload hx hb d_Rm_shortestYears_90 (lv_at hl 7 rfl) ?_
        refine lv_iload hx hb d_Rm_shortestYears_92 (lv_at hl 6 rfl) ?_
        refine lv_isub hx hb d_Rm_shortestYears_94 ?_
        refine lv_icmp_ge (tgt := 106) hx hb d_Rm_shortestYears_95 (by decide) (fun c_95 => ?_) (fun c_95 => ?_)
        · refine lv_iinc (v := (nI (n + 1))) (lv' := [(9, .int (nI (n + 1))), (10, .int r1), (0, .ref (ad 0)), (1, .int la), (3, .int ab), (4, .int be), (5, .long al), (7, .int q.1), (8, .int q.2)]) hx hb d_Rm_shortestYears_106 hl (k := 8) rfl (nI_1 n) (by decide) rfl (fun ls hl => ?_)
          refine lv_goto (tgt := 54) hx hb d_Rm_shortestYears_109 (by decide) ?_
          refine ih (n + 1) q (by omega) (by rw [← hz]; show _ = zShB _ _ _ r (n + 1) (if _ then _ else _); rw [if_neg (fun h9 => c_82 (e_r.trans h9)), if_pos (e_r ▸ c_95)]) _ _ _ hM hS (lv_sub hl [2, 3, 4, 5, 6, 7, 8, 0] rfl)
        · refine lv_iload hx hb d_Rm_shortestYears_98 (lv_at hl 8 rfl) ?_
          refine lv_istore (lv' := [(7, .int (nI n)), (10, .int r1), (0, .ref (ad 0)), (1, .int la), (3, .int ab), (4, .int be), (5, .long al), (8, .int q.2), (9, .int (nI n))]) hx hb d_Rm_shortestYears_100 hl (by decide) rfl (fun ls hl => ?_)
          refine lv_iload hx hb d_Rm_shortestYears_102 (lv_at hl 1 rfl) ?_
          refine lv_istore (lv' := [(8, .int r1), (7, .int (nI n)), (10, .int r1), (0, .ref (ad 0)), (1, .int la), (3, .int ab), (4, .int be), (5, .long al), (9, .int (nI n))]) hx hb d_Rm_shortestYears_104 hl (by decide) rfl (fun ls hl => ?_)
          refine lv_iinc (v := (nI (n + 1))) (lv' := [(9, .int (nI (n + 1))), (8, .int r1), (7, .int (nI n)), (10, .int r1), (0, .ref (ad 0)), (1, .int la), (3, .int ab), (4, .int be), (5, .long al)]) hx hb d_Rm_shortestYears_106 hl (k := 8) rfl (nI_1 n) (by decide) rfl (fun ls hl => ?_)
          refine lv_goto (tgt := 54) hx hb d_Rm_shortestYears_109 (by decide) ?_
          refine ih (n + 1) ((nI n), r1) (by omega) (by rw [← hz]; show _ = zShB _ _ _ r (n + 1) (if _ then _ else _); rw [if_neg (fun h9 => c_82 (e_r.trans h9)), if_neg (fun h9 => c_95 (by rw [e_r]; exact h9)), ← e_r]) _ _ _ hM hS (lv_sub hl [4, 5, 6, 7, 8, 2, 1, 0] rfl)

set_option maxHeartbeats 4000000 in
set_option maxRecDepth 100000 in
theorem lp_Rm_shortA {p : Program} {l : Launch} {e : Env} {s : State} {m : MethodId} {below : List Frame} {meth : Method} {c : Code} {args : Array Value} {G : xG} {M : xM} (ad : Nat → Nat) (u : zS) (hC : Core G M ad u) (hO : zOk u) (a : Nat) (ha : a ≤ 61) (la ab be : Int32) (hE : xE p s m args meth c b_Rm_shortestYears (some .int) 11 R_Rm) (hK : KX G s) : ∀ (r n : Nat) (sm : Int64), n + r = 61 → zAll (zwt u) r n sm = zAll (zwt u) (61 - a) a 0 → ∀ (H : Heap) (locs : List Loc) (ls : Array Slot), xh G M H → va_S (xF G) s.heap H locs → lv_has ls 11 [(0, .ref (ad 0)), (1, .int la), (2, .int (nI a)), (3, .int ab), (4, .int be), (5, .long sm), (7, .int (nI n))] → W p l e ({ frames := 1, cells := 0, slots := 0, locals := 40 }) s m args below meth c H locs 0 0 (MQ below (xQi G (fun v M' => v = zSh (zwt u) la a ab be ∧ M' = M)) args s 0 0 (xF G)) (F0 m 6 ls []) := by
  obtain ⟨hx, hb, hr, hml, hown, hw, hlocks⟩ := id hE
  intro r
  induction r with
  | zero =>
    intro n sm hn hz H locs ls hM hS hl
    refine lv_iload hx hb d_Rm_shortestYears_6 (lv_at hl 6 rfl) ?_
    refine lv_aload_n hx hb d_Rm_shortestYears_8 rfl (lv_at hl 0 rfl) ?_
    refine x_get (C := R_Rm) (T := F_Rm) (N := 12) hx hb hw i_Rm hown hK.1 hM hC.1 rfl 6 (by decide) (hw _ kw_71) rfl rfl d_Rm_shortestYears_9 ?_
    refine x_alen (v := nI 61) hx hb hK.1 hM hC.2.2.2.2.1 0 rfl rfl d_Rm_shortestYears_12 ?_
    refine lv_icmp_ge (tgt := 35) hx hb d_Rm_shortestYears_13 (by decide) (fun c_13 => ?_) (fun c_13 => ?_)
    · have hal : sm = zAll (zwt u) (61 - a) a 0 := hz
      refine lv_lload hx hb d_Rm_shortestYears_35 (lv_at hl 5 rfl) ?_
      refine lv_lconst (v := 0) hx hb d_Rm_shortestYears_37 (by decide) ?_
      refine W.lcmp hx hb d_Rm_shortestYears_38 ?_
      refine lv_if_ne (tgt := 44) hx hb d_Rm_shortestYears_39 (by decide) (fun c_39 => ?_) (fun c_39 => ?_)
      · refine lv_iload_n hx hb d_Rm_shortestYears_44 rfl (lv_at hl 2 rfl) ?_
        refine lv_istore (lv' := [(7, .int (nI a)), (0, .ref (ad 0)), (1, .int la), (2, .int (nI a)), (3, .int ab), (4, .int be), (5, .long sm)]) hx hb d_Rm_shortestYears_45 hl (by decide) rfl (fun ls hl => ?_)
        refine lv_bipush (v := 60) hx hb d_Rm_shortestYears_47 (by decide) ?_
        refine lv_istore (lv' := [(8, .int 60), (7, .int (nI a)), (0, .ref (ad 0)), (1, .int la), (2, .int (nI a)), (3, .int ab), (4, .int be), (5, .long sm)]) hx hb d_Rm_shortestYears_49 hl (by decide) rfl (fun ls hl => ?_)
        refine lv_iload_n hx hb d_Rm_shortestYears_51 rfl (lv_at hl 4 rfl) ?_
        refine lv_istore (lv' := [(9, .int (nI a)), (8, .int 60), (7, .int (nI a)), (0, .ref (ad 0)), (1, .int la), (2, .int (nI a)), (3, .int ab), (4, .int be), (5, .long sm)]) hx hb d_Rm_shortestYears_52 hl (by decide) rfl (fun ls hl => ?_)
        exact lp_Rm_shortB ad u hC hO a la ab be sm hal c_39 hE hK (61 - a) a (nI a, 60) (by omega) rfl _ _ _ hM hS (lv_sub hl [3, 4, 6, 7, 8, 2, 1, 0] rfl)
      · refine lv_iconst (v := (-1)) hx hb d_Rm_shortestYears_42 (by decide) ?_
        exact x_ri hE rfl hM hS ⟨by unfold zSh; rw [← hal, if_pos c_39], rfl⟩ (by omega) (by omega) d_Rm_shortestYears_43
    · exact absurd ((nI_leI (by omega) (by omega)).mpr (show 61 ≤ n by omega)) c_13
  | succ r ih =>
    intro n sm hn hz H locs ls hM hS hl
    refine lv_iload hx hb d_Rm_shortestYears_6 (lv_at hl 6 rfl) ?_
    refine lv_aload_n hx hb d_Rm_shortestYears_8 rfl (lv_at hl 0 rfl) ?_
    refine x_get (C := R_Rm) (T := F_Rm) (N := 12) hx hb hw i_Rm hown hK.1 hM hC.1 rfl 6 (by decide) (hw _ kw_71) rfl rfl d_Rm_shortestYears_9 ?_
    refine x_alen (v := nI 61) hx hb hK.1 hM hC.2.2.2.2.1 0 rfl rfl d_Rm_shortestYears_12 ?_
    refine lv_icmp_ge (tgt := 35) hx hb d_Rm_shortestYears_13 (by decide) (fun c_13 => ?_) (fun c_13 => ?_)
    · exact absurd ((nI_leI (by omega) (by omega)).mp c_13) (by omega)
    · refine lv_lload hx hb d_Rm_shortestYears_16 (lv_at hl 5 rfl) ?_
      refine lv_aload_n hx hb d_Rm_shortestYears_18 rfl (lv_at hl 0 rfl) ?_
      refine x_get (C := R_Rm) (T := F_Rm) (N := 12) hx hb hw i_Rm hown hK.1 hM hC.1 rfl 6 (by decide) (hw _ kw_71) rfl rfl d_Rm_shortestYears_19 ?_
      refine lv_iload hx hb d_Rm_shortestYears_22 (lv_at hl 6 rfl) ?_
      refine x_iald hx hb hK.1 hM hC.2.2.2.2.1 0 rfl rfl (by omega) (by decide) d_Rm_shortestYears_24 ?_
      refine lv_i2l (v := ((zwt u) n).toInt64) hx hb d_Rm_shortestYears_25 rfl ?_
      refine lv_ladd hx hb d_Rm_shortestYears_26 ?_
      refine lv_lstore (lv' := [(5, .long (sm + (((zwt u) n).toInt64))), (0, .ref (ad 0)), (1, .int la), (2, .int (nI a)), (3, .int ab), (4, .int be), (7, .int (nI n))]) hx hb d_Rm_shortestYears_27 hl (by decide) rfl (fun ls hl => ?_)
      refine lv_iinc (v := (nI (n + 1))) (lv' := [(7, .int (nI (n + 1))), (5, .long (sm + (((zwt u) n).toInt64))), (0, .ref (ad 0)), (1, .int la), (2, .int (nI a)), (3, .int ab), (4, .int be)]) hx hb d_Rm_shortestYears_29 hl (k := 6) rfl (nI_1 n) (by decide) rfl (fun ls hl => ?_)
      refine lv_goto (tgt := 6) hx hb d_Rm_shortestYears_32 (by decide) ?_
      exact ih (n + 1) _ (by omega) (by rw [← hz]; rfl) _ _ _ hM hS (lv_sub hl [2, 3, 4, 5, 6, 1, 0] rfl)

set_option maxHeartbeats 4000000 in
set_option maxRecDepth 100000 in
theorem c_Rm_shortestYears (l : Launch) (G : xG) (M : xM) (ad : Nat → Nat) (u : zS) (hC : Core G M ad u) (hO : zOk u) (a : Nat) (ha : a ≤ 61) (la ab be : Int32) : Met l y_Rm_shortestYears w_Rm_shortestYears ({ frames := 1, cells := 0, slots := 0, locals := 40 }) (xP G [.ref (ad 0), .int la, .int (nI a), .int ab, .int be] M) (xQi G (fun v M' => v = zSh (zwt u) la a ab be ∧ M' = M)) 0 0 (xF G) := by
  refine x_met (by decide) (Nat.le_of_ble_eq_true rfl) ?_
  intro p e s m below meth c ls hE hin hl hM hK hS
  obtain ⟨hx, hb, hr, hml, hown, hw, hlocks⟩ := id hE
  have hl : lv_has ls 11 [(0, .ref (ad 0)), (1, .int la), (2, .int (nI a)), (3, .int ab), (4, .int be)] := hl
  refine lv_lconst (v := 0) hx hb d_Rm_shortestYears_0 (by decide) ?_
  refine lv_lstore (lv' := [(5, .long 0), (0, .ref (ad 0)), (1, .int la), (2, .int (nI a)), (3, .int ab), (4, .int be)]) hx hb d_Rm_shortestYears_1 hl (by decide) rfl (fun ls hl => ?_)
  refine lv_iload_n hx hb d_Rm_shortestYears_3 rfl (lv_at hl 3 rfl) ?_
  refine lv_istore (lv' := [(7, .int (nI a)), (5, .long 0), (0, .ref (ad 0)), (1, .int la), (2, .int (nI a)), (3, .int ab), (4, .int be)]) hx hb d_Rm_shortestYears_4 hl (by decide) rfl (fun ls hl => ?_)
  exact lp_Rm_shortA ad u hC hO a ha la ab be hE hK (61 - a) a 0 (by omega) rfl _ _ _ hM hS (lv_sub hl [2, 3, 4, 5, 6, 1, 0] rfl)

set_option maxHeartbeats 4000000 in
set_option maxRecDepth 100000 in
theorem c_Rm_felling (l : Launch) (G : xG) (M : xM) (hst : l.stackTraces = false) (ad : Nat → Nat) (u : zS) (hC : Core G M ad u) (hO : zOk u) (x sap ab be : Int32) : vx_Met l y_Rm_felling w_Rm_felling ({ frames := 7, cells := 2, slots := 12, locals := 125 }) (xP G [.ref (ad 0), .int x, .int sap, .int ab, .int be] M) (xQi G (fun v M' => fFell u x sap ab be = (0, v) ∧ M' = M)) (xX G (fun E M' => ((fFell u x sap ab be = (1, 0) ∧ E = nIOE) ∨ (fFell u x sap ab be = (2, 0) ∧ E = nISE) ∨ (fFell u x sap ab be = (3, 0) ∧ E = nIAE)) ∧ M' = M)) 2 12 (xF G) := by
  refine x_metX (by decide) (Nat.le_of_ble_eq_true rfl) ?_
  intro p e s m below meth c ls hE hnx hl hM hK hS
  obtain ⟨hx, hb, hr, hml, hown, hw, hlocks⟩ := id hE
  have h0 := hM
  have hl : lv_has ls 7 [(0, .ref (ad 0)), (1, .int x), (2, .int sap), (3, .int ab), (4, .int be)] := hl
  refine lv_aload_n hx hb d_Rm_felling_0 rfl (lv_at hl 0 rfl) ?_
  refine lv_iload_n hx hb d_Rm_felling_1 rfl (lv_at hl 1 rfl) ?_
  refine x_cxr (x_runVX (As := [.int x]) (rest := []) hE hK hM hl.1 (c_Rm_rowOf l G M hst ad u hC hO x) hC.1 rfl kw_232 kw_234 ks_2 kw_1 kw_235 1 rfl rfl rfl (by decide +kernel) ⟨by decide, by decide⟩ rfl (Nat.le_of_ble_eq_true rfl) d_Rm_felling_2 ⟨by decide, by decide⟩) hS (fun E ce q9 M1 H locs hp hM hS hq1 hq2 hq3 => ?_) (fun r1 M1 H locs hp hM hS => ?_)
  · obtain ⟨h_x, rfl, e_M⟩ := hp
    have hM : xh G M H := e_M ▸ hM
    exact x_out hE hnx hM hS hq1 hq2 hq3 ⟨Or.inl ⟨by unfold fFell; rw [if_neg h_x], rfl⟩, rfl⟩ (by decide) (by decide)
  obtain ⟨h_in, e_a, e_M⟩ := hp
  have hM : xh G M H := e_M ▸ hM
  obtain ⟨i, e_i, h_i, ex_i⟩ := z_in h_in (by have := hO.2.2.1; omega)
  rw [← e_i] at e_a
  subst e_a
  have hR_i := hC.2.2.2.2.2.2.1 i h_i
  have hZ_i := hO.2.2.2.1 i h_i
  refine lv_astore (lv' := [(5, .ref (ad (20 + i))), (0, .ref (ad 0)), (1, .int x), (2, .int sap), (3, .int ab), (4, .int be)]) hx hb d_Rm_felling_5 hl (by decide) rfl (fun ls hl => ?_)
  refine lv_aload hx hb d_Rm_felling_7 (lv_at hl 0 rfl) ?_
  refine x_getN (C := R_Row) (T := F_Row) (N := 2) (host := R_Rm) hx hb hw i_Row hown hK.1 hM hR_i.1 rfl 1 (by decide) (va_Nw.use rfl (hK.2.1.1 (97, R_Row, "start", "I") (by decide))) rfl rfl d_Rm_felling_9 ?_
  refine lv_iconst (v := (-1)) hx hb d_Rm_felling_12 (by decide) ?_
  refine lv_icmp_ne (tgt := 26) hx hb d_Rm_felling_13 (by decide) (fun c_13 => ?_) (fun c_13 => ?_)
  · refine lv_iload_n hx hb d_Rm_felling_26 rfl (lv_at hl 3 rfl) ?_
    refine lv_if_lt (tgt := 40) hx hb d_Rm_felling_27 (by decide) (fun c_27 => ?_) (fun c_27 => ?_)
    · exact x_iae (is := 199) (text := "no such number of rings of sapwood") hst hE hnx hK h0 hM hS hl.1 (by decide) d_Rm_felling_40 d_Rm_felling_43 d_Rm_felling_44 d_Rm_felling_46 d_Rm_felling_49 (by decide) (Nat.le_of_ble_eq_true rfl) ⟨by decide, by decide⟩ ⟨by decide, by decide⟩ (⟨Or.inr (Or.inr ⟨by unfold fFell; rw [if_pos h_in, ← e_i, if_neg c_13, if_pos (Or.inl c_27)], rfl⟩), rfl⟩)
    · refine lv_iload_n hx hb d_Rm_felling_30 rfl (lv_at hl 3 rfl) ?_
      refine lv_aload hx hb d_Rm_felling_31 (lv_at hl 0 rfl) ?_
      refine x_getN (C := R_Row) (T := F_Row) (N := 2) (host := R_Rm) hx hb hw i_Row hown hK.1 hM hR_i.1 rfl 0 (by decide) (va_Nw.use rfl (hK.2.1.1 (87, R_Row, "even", "[I") (by decide))) rfl rfl d_Rm_felling_33 ?_
      refine x_alen (v := nI (zln u i)) hx hb hK.1 hM hR_i.2 0 rfl rfl d_Rm_felling_36 ?_
      refine lv_icmp_le (tgt := 50) hx hb d_Rm_felling_37 (by decide) (fun c_37 => ?_) (fun c_37 => ?_)
      · refine lv_iload_n hx hb d_Rm_felling_50 rfl (lv_at hl 4 rfl) ?_
        refine lv_iconst (v := 1) hx hb d_Rm_felling_51 (by decide) ?_
        refine lv_icmp_lt (tgt := 69) hx hb d_Rm_felling_52 (by decide) (fun c_52 => ?_) (fun c_52 => ?_)
        · exact x_iae (is := 201) (text := "no such share") hst hE hnx hK h0 hM hS hl.1 (by decide) d_Rm_felling_69 d_Rm_felling_72 d_Rm_felling_73 d_Rm_felling_75 d_Rm_felling_78 (by decide) (Nat.le_of_ble_eq_true rfl) ⟨by decide, by decide⟩ ⟨by decide, by decide⟩ (⟨Or.inr (Or.inr ⟨by unfold fFell; rw [if_pos h_in, ← e_i, if_neg c_13, if_neg (fun h9 => h9.elim c_27 (z_nlt c_37)), if_pos (Or.inl c_52)], rfl⟩), rfl⟩)
        · refine lv_iload_n hx hb d_Rm_felling_55 rfl (lv_at hl 4 rfl) ?_
          refine lv_iload hx hb d_Rm_felling_56 (lv_at hl 5 rfl) ?_
          refine lv_icmp_gt (tgt := 69) hx hb d_Rm_felling_58 (by decide) (fun c_58 => ?_) (fun c_58 => ?_)
          · exact x_iae (is := 201) (text := "no such share") hst hE hnx hK h0 hM hS hl.1 (by decide) d_Rm_felling_69 d_Rm_felling_72 d_Rm_felling_73 d_Rm_felling_75 d_Rm_felling_78 (by decide) (Nat.le_of_ble_eq_true rfl) ⟨by decide, by decide⟩ ⟨by decide, by decide⟩ (⟨Or.inr (Or.inr ⟨by unfold fFell; rw [if_pos h_in, ← e_i, if_neg c_13, if_neg (fun h9 => h9.elim c_27 (z_nlt c_37)), if_pos (Or.inr (Or.inl c_58))], rfl⟩), rfl⟩)
          · refine lv_iload hx hb d_Rm_felling_61 (lv_at hl 5 rfl) ?_
            refine lv_sipush (v := 1000) hx hb d_Rm_felling_63 (by decide) ?_
            refine lv_icmp_le (tgt := 79) hx hb d_Rm_felling_66 (by decide) (fun c_66 => ?_) (fun c_66 => ?_)
            · refine lv_aload hx hb d_Rm_felling_79 (lv_at hl 0 rfl) ?_
              refine x_ci (x_runV (As := []) (rest := []) hE hK hM hl.1 (c_Row_lastYear l G M (ad (20 + i)) (20 + i) (ad (30 + i)) (30 + i) (zln u i) (zev u i) (zst u i) hR_i.1 hR_i.2) hR_i.1 rfl kw_290 kw_291 kw_292 kw_10 kw_293 0 rfl rfl rfl (by decide +kernel) ⟨by decide, by decide⟩ rfl (Nat.le_of_ble_eq_true rfl) d_Rm_felling_81 ⟨by decide, by decide⟩) hS (fun r2 M1 H locs hp hM hS => ?_)
              obtain ⟨e_l, e_M⟩ := hp
              have hM : xh G M H := e_M ▸ hM
              subst e_l
              refine lv_iload_n hx hb d_Rm_felling_84 rfl (lv_at hl 3 rfl) ?_
              refine lv_isub hx hb d_Rm_felling_85 ?_
              refine lv_istore (lv' := [(6, .int ((zst u i + nI (zln u i) - 1) - sap)), (5, .ref (ad (20 + i))), (0, .ref (ad 0)), (1, .int x), (2, .int sap), (3, .int ab), (4, .int be)]) hx hb d_Rm_felling_86 hl (by decide) rfl (fun ls hl => ?_)
              refine lv_aload_n hx hb d_Rm_felling_88 rfl (lv_at hl 2 rfl) ?_
              refine lv_iload hx hb d_Rm_felling_89 (lv_at hl 0 rfl) ?_
              refine lv_iload_n hx hb d_Rm_felling_91 rfl (lv_at hl 4 rfl) ?_
              refine lv_iload_n hx hb d_Rm_felling_92 rfl (lv_at hl 5 rfl) ?_
              refine lv_iload hx hb d_Rm_felling_93 (lv_at hl 6 rfl) ?_
              obtain ⟨a, e_a, h_a, ex_a⟩ := z_in (x := sap) (n := 31) ⟨c_27, fun h9 => absurd (Int32.le_trans h9 c_37) (by rw [nI_leI (by decide) (by omega)]; omega)⟩ (by decide)
              have h_sap : ¬ (sap < 0 ∨ nI (zln u i) < sap) := fun h9 => h9.elim c_27 (z_nlt c_37)
              subst ex_a
              refine x_ci (x_runV (As := [.int ((zst u i + nI (zln u i) - 1) - (nI a)), .int (nI a), .int ab, .int be]) (rest := []) hE hK hM hl.1 (c_Rm_shortestYears l G M ad u hC hO a (by omega) (zst u i + nI (zln u i) - 1 - nI a) ab be) hC.1 rfl kw_491 kw_493 ks_14 kw_1 kw_494 4 rfl rfl rfl (by decide +kernel) ⟨by decide, by decide⟩ rfl (Nat.le_of_ble_eq_true rfl) d_Rm_felling_95 ⟨by decide, by decide⟩) hS (fun r3 M1 H locs hp hM hS => ?_)
              obtain ⟨e_r, e_M⟩ := hp
              have hM : xh G M H := e_M ▸ hM
              refine vx_ret ?_
              exact x_ri hE rfl hM hS ⟨by unfold fFell; rw [if_pos h_in, ← e_i, if_neg c_13, if_neg h_sap, if_neg (fun h9 => h9.elim c_52 (fun h8 => h8.elim c_58 (z_nlt c_66))), e_r, ← e_a], rfl⟩ (by omega) (by omega) d_Rm_felling_98
            · exact x_iae (is := 201) (text := "no such share") hst hE hnx hK h0 hM hS hl.1 (by decide) d_Rm_felling_69 d_Rm_felling_72 d_Rm_felling_73 d_Rm_felling_75 d_Rm_felling_78 (by decide) (Nat.le_of_ble_eq_true rfl) ⟨by decide, by decide⟩ ⟨by decide, by decide⟩ (⟨Or.inr (Or.inr ⟨by unfold fFell; rw [if_pos h_in, ← e_i, if_neg c_13, if_neg (fun h9 => h9.elim c_27 (z_nlt c_37)), if_pos (Or.inr (Or.inr (Int32.not_le.mp c_66)))], rfl⟩), rfl⟩)
      · exact x_iae (is := 199) (text := "no such number of rings of sapwood") hst hE hnx hK h0 hM hS hl.1 (by decide) d_Rm_felling_40 d_Rm_felling_43 d_Rm_felling_44 d_Rm_felling_46 d_Rm_felling_49 (by decide) (Nat.le_of_ble_eq_true rfl) ⟨by decide, by decide⟩ ⟨by decide, by decide⟩ (⟨Or.inr (Or.inr ⟨by unfold fFell; rw [if_pos h_in, ← e_i, if_neg c_13, if_pos (Or.inr (Int32.not_le.mp c_37))], rfl⟩), rfl⟩)
  · exact x_ise (is := 197) (text := "the series floats") hst hE hnx hK h0 hM hS hl.1 (by decide) d_Rm_felling_16 d_Rm_felling_19 d_Rm_felling_20 d_Rm_felling_22 d_Rm_felling_25 (by decide) (Nat.le_of_ble_eq_true rfl) ⟨by decide, by decide⟩ ⟨by decide, by decide⟩ (⟨Or.inr (Or.inl ⟨by unfold fFell; rw [if_pos h_in, ← e_i, if_pos c_13], rfl⟩), rfl⟩)
end
section
section XI
variable {p : Program} {l : Launch} {e : Env} {R : Room} {s : State} {m : MethodId} {args : Array Value} {below : List Frame} {meth : Method} {c : Code} {H : Heap} {locs : List Loc} {cells slots : Nat} {Q : State → Prop}
variable {cc : ByteArray} {pc nL : Nat} {ls : Array Slot} {rest st0 : List Value} {M : xM} {H0 : Heap} {G : xG} {own : String} {mret : Option FieldType}
variable {y : MethodName} {bytes : ByteArray} {maxL index mc ms : Nat} {rm : Room} {As : List Value} {b : Nat}
theorem x_runI {Qc : Array Value → State → Outcome → State → Prop} (hE : xE p s m args meth c cc mret nL own) (hK : KX G s) (hM : xh G M H) (hsz : ls.size = nL) (cm : Met l y (.code y bytes maxL none :: wW) rm (xP G (.ref b :: As) M) Qc mc ms (xF G))
    (h1 : Cond.methodLink own index y ∈ wW) (h2 : Cond.instanceMethod y ∈ wW) (h4 : Cond.initialized y.cls ∈ wW) (h5 : Cond.code y bytes maxL none ∈ wW) (hy : y.name = "<init>")
    (nA : Nat) (hA : As.length = nA) (hrc : rm.cells = mc) (hrs : rm.slots = ms) (hd : y.cls ≠ "java/lang/invoke/MethodHandle" ∧ y.cls ≠ "java/lang/invoke/VarHandle" ∧ (parseMethodDescriptor y.desc).map (fun d => d.parameters.length) = some nA)
    (hR : rm.frames + 1 ≤ R.frames ∧ 8 + (maxL + 11) + rm.locals ≤ R.locals) (hst : st0 = As.reverse ++ .ref b :: rest) (hro : (rest.map fun v => v.category).sum ≤ 8) (hdg : decode cc pc = .ok (.invokespecial index, 3)) (hf : cells + mc ≤ R.cells ∧ slots + ms ≤ R.slots) :
    va_Run p l e R s m args below meth c H locs cells slots mc ms (F0 m pc ls st0) rest (Qc (Value.ref b :: As).toArray) (xF G) := by
  obtain ⟨hx, hbb, hr, hml, hown, hw, hlocks⟩ := hE
  exact va_runI ⟨hx, hbb, hml, hown, hw⟩ cm (cwI nA hw (gi_c h5) rfl hrc hrs (hw _ h4) (hw _ h1) (hw _ h2) hy hd hR) (xP.S hK hM) rfl hA hsz hst (lv_room hro) hdg hf
theorem x_runIN {host : String} {Qc : Array Value → State → Outcome → State → Prop} (hE : xE p s m args meth c cc mret nL own) (hK : KX G s) (hM : xh G M H) (hsz : ls.size = nL) (cm : Met l y (.code y bytes maxL none :: wW) rm (xP G (.ref b :: As) M) Qc mc ms (xF G))
    (h1 : va_Nw (.methodLinkNest own index y host) s) (h2 : Cond.instanceMethod y ∈ wW) (h4 : Cond.initialized y.cls ∈ wW) (h5 : Cond.code y bytes maxL none ∈ wW) (hy : y.name = "<init>")
    (nA : Nat) (hA : As.length = nA) (hrc : rm.cells = mc) (hrs : rm.slots = ms) (hd : y.cls ≠ "java/lang/invoke/MethodHandle" ∧ y.cls ≠ "java/lang/invoke/VarHandle" ∧ (parseMethodDescriptor y.desc).map (fun d => d.parameters.length) = some nA)
    (hR : rm.frames + 1 ≤ R.frames ∧ 8 + (maxL + 11) + rm.locals ≤ R.locals) (hst : st0 = As.reverse ++ .ref b :: rest) (hro : (rest.map fun v => v.category).sum ≤ 8) (hdg : decode cc pc = .ok (.invokespecial index, 3)) (hf : cells + mc ≤ R.cells ∧ slots + ms ≤ R.slots) :
    va_Run p l e R s m args below meth c H locs cells slots mc ms (F0 m pc ls st0) rest (Qc (Value.ref b :: As).toArray) (xF G) := by
  obtain ⟨hx, hbb, hr, hml, hown, hw, hlocks⟩ := hE
  exact va_runIN ⟨hx, hbb, hml, hown, hw⟩ cm ⟨va_cnB nA hw (gi_c h5) rfl hrc hrs h1 (hw _ h4) hd hR, hy, hw _ h2⟩ (xP.S hK hM) rfl hA hsz hst (lv_room hro) hdg hf
end XI
section ZK
def zTot (pd : Nat → Int32) : Nat → Int32
  | 0 => 0
  | n + 1 => zTot pd n + pd n
theorem zTot_in {pd : Nat → Int32} : ∀ n, (∀ i, i < n → inR (pd i) 1 900) → ∃ t : Nat, zTot pd n = nI t ∧ n ≤ t ∧ t ≤ 900 * n
  | 0, _ => ⟨0, rfl, Nat.le_refl 0, Nat.le_refl 0⟩
  | n + 1, h => by
    obtain ⟨t, e, h1, h2⟩ := zTot_in n fun i hi => h i (by omega)
    obtain ⟨a, ea, ha, -⟩ := z_nat (⟨by have := (h n (by omega)).1; omega, (h n (by omega)).2⟩ : inR (pd n) 0 900)
    have h3 := (h n (by omega)).1
    rw [ea, nI_toInt (by omega)] at h3
    refine ⟨t + a, ?_, by omega, by omega⟩
    show zTot pd n + pd n = _
    rw [e, ea, nI_add]
def zEvn (pd : Nat → Int32) (n k : Nat) : Int32 := zMin 400 (100 * pd k * nI n / zTot pd n)
end ZK
end
section
set_option maxHeartbeats 4000000 in
set_option maxRecDepth 100000 in
theorem c_Row_init (l : Launch) (G : xG) (M : xM) (g r a : Nat) (hg : M g = some (r, .inr (2, [.null, .int 0]))) : Met l y_Row_init w_Row_init ({ frames := 1, cells := 0, slots := 0, locals := 12 }) (xP G [.ref g, .ref a] M) (xQv G (fun M' => M' = va_up M g (some (r, .inr (2, [.ref a, .int (-1)]))))) 0 0 (xF G) := by
  refine x_met (by decide) (Nat.le_of_ble_eq_true rfl) ?_
  intro p e s m below meth c ls hE hin hl hM hK hS
  obtain ⟨hx, hb, hr, hml, hown, hw, hlocks⟩ := id hE
  have hl : lv_has ls 2 [(0, .ref g), (1, .ref a)] := hl
  refine lv_aload_n hx hb d_Row_init_0 rfl (lv_at hl 0 rfl) ?_
  refine W.objInit hx hb hown (hw _ kw_214) (hw _ kw_22) (hw _ kw_23) rfl (by rw [hml]; exact hl.1) rfl d_Row_init_1 (Nat.le_of_ble_eq_true rfl) (Nat.le_of_ble_eq_true rfl) ?_
  refine W.eq (g2 := F0 m 4 ls []) rfl ?_
  refine lv_aload_n hx hb d_Row_init_4 rfl (lv_at hl 0 rfl) ?_
  refine lv_aload_n hx hb d_Row_init_5 rfl (lv_at hl 1 rfl) ?_
  refine x_putF (C := R_Row) (T := F_Row) (N := 2) (ty := .array (.int)) (v := .ref a) hx hb hw i_Row t_Row t_Row_ok n_Row hown hK.1 hM hS hg rfl 0 (by decide) (hw _ kw_215) rfl rfl hin rfl (by decide +kernel) rfl rfl (Nat.le_of_ble_eq_true rfl) d_Row_init_6 (fun H locs hM hS hz => ?_)
  have hM : xh G (va_up M g (some (r, .inr (2, [.ref a, .int 0])))) H := hM
  obtain ⟨M_1, eM_1⟩ : ∃ z : xM, z = va_up M g (some (r, .inr (2, [.ref a, .int 0]))) := ⟨_, rfl⟩
  rw [← eM_1] at hM
  have hg := xw_atE eM_1
  refine lv_aload_n hx hb d_Row_init_9 rfl (lv_at hl 0 rfl) ?_
  refine lv_iconst (v := (-1)) hx hb d_Row_init_10 (by decide) ?_
  refine x_put (C := R_Row) (T := F_Row) (N := 2) (ty := .int) (v := .int (-1)) hx hb hw i_Row t_Row t_Row_ok n_Row hown hK.1 hM hS hg rfl 1 (by decide) (hw _ kw_217) rfl rfl (by decide +kernel) rfl rfl (Nat.le_of_ble_eq_true rfl) d_Row_init_11 (fun H locs hM hS hz => ?_)
  have hM : xh G (va_up M_1 g (some (r, .inr (2, [.ref a, .int (-1)])))) H := hM
  obtain ⟨M_2, eM_2⟩ : ∃ z : xM, z = va_up M_1 g (some (r, .inr (2, [.ref a, .int (-1)]))) := ⟨_, rfl⟩
  rw [← eM_2] at hM
  have hg := xw_atE eM_2
  exact x_rv hE rfl hM hS (by rw [eM_2, eM_1]; exact bx_uu _ _ _ _) (by omega) (by omega) d_Row_init_14

set_option maxHeartbeats 4000000 in
set_option maxRecDepth 100000 in
theorem lp_Rm_evenedPad2 {p : Program} {l : Launch} {e : Env} {s : State} {m : MethodId} {below : List Frame} {meth : Method} {c : Code} {args : Array Value} {G : xG} {M : xM} (ad : Nat → Nat) (u : zS) (hC : Core G M ad u) (hO : zOk u) (h3 : 3 ≤ zpn u) (r0 q : Nat) (hqn : M q = none) (hE : xE p s m args meth c b_Rm_evenedPad (some (.array .int)) 4 R_Rm) (hK : KX G s) : ∀ (n k : Nat), k ≤ zpn u → zpn u + 1 ≤ k + n → ∀ (F : Nat → Int32), (∀ k', k' < k → F k' = zEvn (zpd u) (zpn u) k') → ∀ (H : Heap) (locs : List Loc) (ls : Array Slot), xh G (va_up M q (some (r0, eI G (zpn u) F))) H → va_S (xF G) s.heap H locs → lv_has ls 4 [(0, .ref (ad 0)), (1, .int (zTot (zpd u) (zpn u))), (2, .ref q), (3, .int (nI k))] → W p l e ({ frames := 1, cells := 1, slots := 30, locals := 40 }) s m args below meth c H locs 1 30 (MQ below (xQr G (fun a M' => M a = none ∧ ∃ F : Nat → Int32, (∀ k, k < zpn u → F k = zEvn (zpd u) (zpn u) k) ∧ M' = va_up M a (some (r0, eI G (zpn u) F)))) args s 1 30 (xF G)) (F0 m 36 ls []) := by
  obtain ⟨hx, hb, hr, hml, hown, hw, hlocks⟩ := id hE
  have hpn := hO.1
  obtain ⟨tt, e_t, ht1, ht2⟩ := zTot_in (zpn u) hO.2.1
  intro n
  induction n with
  | zero =>
    intro k h1 h2
    exact absurd h2 (by omega)
  | succ n ih =>
    intro k hk hin F hF H locs ls hM hS hl
    obtain ⟨Mi, eMi⟩ : ∃ z : xM, z = va_up M q (some (r0, eI G (zpn u) F)) := ⟨_, rfl⟩
    rw [← eMi] at hM
    have c_o : Mi (ad 0) = some (0, .inr (4, [.ref (ad 1), .int (nI (zpn u)), .ref (ad 2), .int (nI (zrn u)), .ref (ad 3), .int (nI (zmn u)), .ref (ad 4), .ref (ad 5), .ref (ad 6), .ref (ad 7), .ref (ad 8), .ref (ad 9)])) := xw_newE eMi hC.1 hqn
    have c_pad := xw_newE eMi hC.2.1 hqn
    have c_q := xw_atE eMi
    refine lv_iload_n hx hb d_Rm_evenedPad_36 rfl (lv_at hl 3 rfl) ?_
    refine lv_aload_n hx hb d_Rm_evenedPad_37 rfl (lv_at hl 2 rfl) ?_
    refine x_alen (v := nI (zpn u)) hx hb hK.1 hM c_q 0 rfl rfl d_Rm_evenedPad_38 ?_
    refine lv_icmp_ge (tgt := 75) hx hb d_Rm_evenedPad_39 (by decide) (fun c_39 => ?_) (fun c_39 => ?_)
    · have h39 : zpn u ≤ k := (nI_leI (by omega) (by omega)).mp c_39
      refine lv_aload_n hx hb d_Rm_evenedPad_75 rfl (lv_at hl 2 rfl) ?_
      exact x_rr hE rfl (Or.inr ⟨_, rfl⟩) hM hS ⟨hqn, F, fun k2 h2 => hF k2 (by omega), eMi⟩ (by decide) (by decide) d_Rm_evenedPad_76
    · have hkp : k < zpn u := Nat.not_le.mp (fun h9 => c_39 ((nI_leI (by omega) (by omega)).mpr h9))
      refine lv_iload_n hx hb d_Rm_evenedPad_42 rfl (lv_at hl 1 rfl) ?_
      refine lv_if_le (tgt := 75) hx hb d_Rm_evenedPad_43 (by decide) (fun c_43 => ?_) (fun c_43 => ?_)
      · exact absurd c_43 (by rw [e_t]; exact nI_nle (by omega) (by omega))
      · refine lv_aload_n hx hb d_Rm_evenedPad_46 rfl (lv_at hl 2 rfl) ?_
        refine lv_iload_n hx hb d_Rm_evenedPad_47 rfl (lv_at hl 3 rfl) ?_
        refine lv_sipush (v := 400) hx hb d_Rm_evenedPad_48 (by decide) ?_
        refine lv_bipush (v := 100) hx hb d_Rm_evenedPad_51 (by decide) ?_
        refine lv_aload_n hx hb d_Rm_evenedPad_53 rfl (lv_at hl 0 rfl) ?_
        refine x_get (C := R_Rm) (T := F_Rm) (N := 12) hx hb hw i_Rm hown hK.1 hM c_o rfl 0 (by decide) (hw _ kw_65) rfl rfl d_Rm_evenedPad_54 ?_
        refine lv_iload_n hx hb d_Rm_evenedPad_57 rfl (lv_at hl 3 rfl) ?_
        refine x_iald hx hb hK.1 hM c_pad 0 rfl rfl (by omega) (by decide) d_Rm_evenedPad_58 ?_
        refine lv_imul hx hb d_Rm_evenedPad_59 ?_
        refine lv_aload_n hx hb d_Rm_evenedPad_60 rfl (lv_at hl 2 rfl) ?_
        refine x_alen (v := nI (zpn u)) hx hb hK.1 hM c_q 0 rfl rfl d_Rm_evenedPad_61 ?_
        refine lv_imul hx hb d_Rm_evenedPad_62 ?_
        refine lv_iload_n hx hb d_Rm_evenedPad_63 rfl (lv_at hl 1 rfl) ?_
        refine lv_idiv hx hb d_Rm_evenedPad_64 (by rw [e_t]; exact nI_ne0 (by omega) (by omega)) ?_
        refine va_mmin hx hb (hml.trans hl.1.symm) hown (hw _ kw_208) (hw _ kJ_min') (hw _ kJ_M) (hw _ kJ_min) (by decide) (Nat.le_of_ble_eq_true rfl) (by decide) (by decide) d_Rm_evenedPad_65 ?_
        refine W.eq (g2 := F0 m 68 ls [.int (zMin 400 (((100 * ((zpd u) k)) * (nI (zpn u))) / (zTot (zpd u) (zpn u)))), .int (nI k), .ref q]) rfl ?_
        refine x_iast hx hb hK.1 hM hS c_q 0 rfl rfl hkp (by omega) d_Rm_evenedPad_68 (fun H locs hM hS hz => ?_)
        have hM : xh G (va_up Mi q (some (r0, .inl (gI G, (zpn u), .inl (upd F k (zMin 400 (((100 * ((zpd u) k)) * (nI (zpn u))) / (zTot (zpd u) (zpn u))))))))) H := hM
        obtain ⟨Mi_1, eMi_1⟩ : ∃ z : xM, z = va_up Mi q (some (r0, .inl (gI G, (zpn u), .inl (upd F k (zMin 400 (((100 * ((zpd u) k)) * (nI (zpn u))) / (zTot (zpd u) (zpn u)))))))) := ⟨_, rfl⟩
        rw [← eMi_1] at hM
        have c_q := xw_atE eMi_1
        refine lv_iinc (v := (nI (k + 1))) (lv' := [(3, .int (nI (k + 1))), (0, .ref (ad 0)), (1, .int (zTot (zpd u) (zpn u))), (2, .ref q)]) hx hb d_Rm_evenedPad_69 hl (k := 3) rfl (nI_1 k) (by decide) rfl (fun ls hl => ?_)
        refine lv_goto (tgt := 36) hx hb d_Rm_evenedPad_72 (by decide) ?_
        exact ih (k + 1) (by omega) (by omega) (upd F k (zEvn (zpd u) (zpn u) k)) (fun k' hk' => by
          by_cases h9 : k' = k
          · subst h9
            exact pk_us
          · rw [pk_un h9]
            exact hF k' (by omega)) _ _ _ (by rw [eMi_1, eMi, bx_uu] at hM; exact hM) hS (lv_sub hl [1, 2, 3, 0] rfl)

set_option maxHeartbeats 4000000 in
set_option maxRecDepth 100000 in
theorem lp_Rm_evenedPad1 {p : Program} {l : Launch} {e : Env} {s : State} {m : MethodId} {below : List Frame} {meth : Method} {c : Code} {args : Array Value} {G : xG} {M : xM} (ad : Nat → Nat) (u : zS) (hC : Core G M ad u) (hO : zOk u) (h3 : 3 ≤ zpn u) (r0 : Nat) (hE : xE p s m args meth c b_Rm_evenedPad (some (.array .int)) 4 R_Rm) (hK : KX G s) : ∀ (n k : Nat), k ≤ zpn u → zpn u + 1 ≤ k + n → ∀ (H : Heap) (locs : List Loc) (ls : Array Slot), xh G M H → va_S (xF G) s.heap H locs → lv_has ls 4 [(0, .ref (ad 0)), (1, .int (zTot (zpd u) k)), (2, .int (nI k))] → W p l e ({ frames := 1, cells := 1, slots := 30, locals := 40 }) s m args below meth c H locs 0 0 (MQ below (xQr G (fun a M' => M a = none ∧ ∃ F : Nat → Int32, (∀ k, k < zpn u → F k = zEvn (zpd u) (zpn u) k) ∧ M' = va_up M a (some (r0, eI G (zpn u) F)))) args s 1 30 (xF G)) (F0 m 4 ls []) := by
  obtain ⟨hx, hb, hr, hml, hown, hw, hlocks⟩ := id hE
  have hpn := hO.1
  intro n
  induction n with
  | zero =>
    intro k h1 h2
    exact absurd h2 (by omega)
  | succ n ih =>
    intro k hk hin H locs ls hM hS hl
    refine lv_iload_n hx hb d_Rm_evenedPad_4 rfl (lv_at hl 2 rfl) ?_
    refine lv_aload_n hx hb d_Rm_evenedPad_5 rfl (lv_at hl 0 rfl) ?_
    refine x_get (C := R_Rm) (T := F_Rm) (N := 12) hx hb hw i_Rm hown hK.1 hM hC.1 rfl 1 (by decide) (hw _ kw_66) rfl rfl d_Rm_evenedPad_6 ?_
    refine lv_icmp_ge (tgt := 27) hx hb d_Rm_evenedPad_9 (by decide) (fun c_9 => ?_) (fun c_9 => ?_)
    · have h9 : zpn u ≤ k := (nI_leI (by omega) (by omega)).mp c_9
      refine lv_aload_n hx hb d_Rm_evenedPad_27 rfl (lv_at hl 0 rfl) ?_
      refine x_get (C := R_Rm) (T := F_Rm) (N := 12) hx hb hw i_Rm hown hK.1 hM hC.1 rfl 1 (by decide) (hw _ kw_66) rfl rfl d_Rm_evenedPad_28 ?_
      refine x_newa (r0) (atype := .int) (a0 := ((zpn u), .inl (fun _ => 0))) (N' := (zpn u)) hx hb (hw _ kw_48) hK.1 hM hS 0 rfl (vp_cell_i _ _ _) rfl (by omega) (show (zpn u) * 4 ≤ _ by omega) (by decide) (show 0 + zpn u ≤ 30 by omega) d_Rm_evenedPad_31 (fun q H hn_q hM hS => ?_)
      refine W.widen (k := 1) (n := 30) (by omega) (by omega) ?_
      have hM : xh G (va_up M q (some (r0, .inl (gI G, (zpn u), .inl (fun _ => 0))))) H := hM
      obtain ⟨M_1, eM_1⟩ : ∃ z : xM, z = va_up M q (some (r0, .inl (gI G, (zpn u), .inl (fun _ => 0)))) := ⟨_, rfl⟩
      rw [← eM_1] at hM
      have k_ad0 := xw_newE eM_1 hC.1 hn_q
      have k_ad1 := xw_newE eM_1 hC.2.1 hn_q
      have c_q := xw_atE eM_1
      refine lv_astore_n (lv' := [(2, .ref q), (0, .ref (ad 0)), (1, .int (zTot (zpd u) k))]) hx hb d_Rm_evenedPad_33 rfl hl (by decide) rfl (fun ls hl => ?_)
      refine lv_iconst (v := 0) hx hb d_Rm_evenedPad_34 (by decide) ?_
      refine lv_istore_n (lv' := [(3, .int 0), (2, .ref q), (0, .ref (ad 0)), (1, .int (zTot (zpd u) k))]) hx hb d_Rm_evenedPad_35 rfl hl (by decide) rfl (fun ls hl => ?_)
      have hM : xh G (va_up M q (some (r0, eI G (zpn u) (fun _ => 0)))) H := by rw [← eM_1]; exact hM
      exact lp_Rm_evenedPad2 ad u hC hO h3 r0 q hn_q hE hK (zpn u + 1) 0 (by omega) (by omega) _ (fun k' hk' => absurd hk' (by omega)) _ _ _ hM hS (by rw [← show k = zpn u by omega]; exact lv_sub hl [2, 3, 1, 0] rfl)
    · have hkp : k < zpn u := Nat.not_le.mp (fun h9 => c_9 ((nI_leI (by omega) (by omega)).mpr h9))
      refine lv_iload_n hx hb d_Rm_evenedPad_12 rfl (lv_at hl 1 rfl) ?_
      refine lv_aload_n hx hb d_Rm_evenedPad_13 rfl (lv_at hl 0 rfl) ?_
      refine x_get (C := R_Rm) (T := F_Rm) (N := 12) hx hb hw i_Rm hown hK.1 hM hC.1 rfl 0 (by decide) (hw _ kw_65) rfl rfl d_Rm_evenedPad_14 ?_
      refine lv_iload_n hx hb d_Rm_evenedPad_17 rfl (lv_at hl 2 rfl) ?_
      refine x_iald hx hb hK.1 hM hC.2.1 0 rfl rfl (by omega) (by decide) d_Rm_evenedPad_18 ?_
      refine lv_iadd hx hb d_Rm_evenedPad_19 ?_
      refine lv_istore_n (lv' := [(1, .int ((zTot (zpd u) k) + ((zpd u) k))), (0, .ref (ad 0)), (2, .int (nI k))]) hx hb d_Rm_evenedPad_20 rfl hl (by decide) rfl (fun ls hl => ?_)
      refine lv_iinc (v := (nI (k + 1))) (lv' := [(2, .int (nI (k + 1))), (1, .int ((zTot (zpd u) k) + ((zpd u) k))), (0, .ref (ad 0))]) hx hb d_Rm_evenedPad_21 hl (k := 2) rfl (nI_1 k) (by decide) rfl (fun ls hl => ?_)
      refine lv_goto (tgt := 4) hx hb d_Rm_evenedPad_24 (by decide) ?_
      exact ih (k + 1) (by omega) (by omega) _ _ _ hM hS (lv_sub hl [2, 1, 0] rfl)

set_option maxHeartbeats 4000000 in
set_option maxRecDepth 100000 in
theorem c_Rm_evenedPad (l : Launch) (G : xG) (M : xM) (ad : Nat → Nat) (u : zS) (hC : Core G M ad u) (hO : zOk u) (h3 : 3 ≤ zpn u) (r0 : Nat) : Met l y_Rm_evenedPad w_Rm_evenedPad ({ frames := 1, cells := 1, slots := 30, locals := 40 }) (xP G [.ref (ad 0)] M) (xQr G (fun a M' => M a = none ∧ ∃ F : Nat → Int32, (∀ k, k < zpn u → F k = zEvn (zpd u) (zpn u) k) ∧ M' = va_up M a (some (r0, eI G (zpn u) F)))) 1 30 (xF G) := by
  refine x_met (by decide) (Nat.le_of_ble_eq_true rfl) ?_
  intro p e s m below meth c ls hE hin hl hM hK hS
  obtain ⟨hx, hb, hr, hml, hown, hw, hlocks⟩ := id hE
  have hl : lv_has ls 4 [(0, .ref (ad 0))] := hl
  refine lv_iconst (v := 0) hx hb d_Rm_evenedPad_0 (by decide) ?_
  refine lv_istore_n (lv' := [(1, .int 0), (0, .ref (ad 0))]) hx hb d_Rm_evenedPad_1 rfl hl (by decide) rfl (fun ls hl => ?_)
  refine lv_iconst (v := 0) hx hb d_Rm_evenedPad_2 (by decide) ?_
  refine lv_istore_n (lv' := [(2, .int 0), (1, .int 0), (0, .ref (ad 0))]) hx hb d_Rm_evenedPad_3 rfl hl (by decide) rfl (fun ls hl => ?_)
  exact lp_Rm_evenedPad1 ad u hC hO h3 r0 hE hK (zpn u + 1) 0 (by omega) (by omega) _ _ _ hM hS (lv_sub hl [2, 1, 0] rfl)
end
section
section ZO
theorem zRing_c {n n' : Nat} {f f' : Nat → Int32} {k : Int32} (h : n = n') (hf : f = f') : zRing n f k = zRing n' f' k := by rw [h, hf]
theorem zGat_c {ln ln' : Nat → Nat} {ev ev' : Nat → Nat → Int32} {b : Nat → Int32} {y wo : Int32} : ∀ n, (∀ i, i < n → b i = -1 ∨ (ln' i = ln i ∧ ev' i = ev i)) → zGat ln' ev' b y wo n = zGat ln ev b y wo n
  | 0, _ => rfl
  | n + 1, h => by
    show zGs ln' ev' b y wo n (zGat ln' ev' b y wo n) = zGs ln ev b y wo n (zGat ln ev b y wo n)
    rw [zGat_c n fun i hi => h i (by omega)]
    unfold zGs
    rcases h n (by omega) with h1 | ⟨h1, h2⟩
    · simp only [h1, if_true]
    · rw [h1, h2]
theorem zLst_c {ln ln' : Nat → Nat} {b : Nat → Int32} : ∀ n, (∀ i, i < n → b i = -1 ∨ ln' i = ln i) → zLst ln' b n = zLst ln b n
  | 0, _ => rfl
  | n + 1, h => by
    unfold zLst
    rw [zLst_c n fun i hi => h i (by omega)]
    rcases h n (by omega) with h1 | h1
    · simp only [h1, if_true]
    · rw [h1]
def uSer (u : zS) (F : Nat → Int32) : zS := ((0, zpd u), (zrn u + 1, va_up (zln u) (zrn u) (zpn u), va_up (zev u) (zrn u) F, va_up (zst u) (zrn u) (-1)), u.2.2.1, u.2.2.2)
def fSer (u : zS) : zR := if 10 ≤ zrn u then (1, 0) else if zpn u < 3 then (0, -1) else (0, nI (zrn u))
theorem zrw_up {ad : Nat → Nat} {b n q : Nat} : va_up (zrw ad b n) n (some q) = zrw (va_up ad (b + n) q) b (n + 1) := by
  funext i
  by_cases h : i = n
  · subst h
    simp [zrw, va_up]
  · rw [va_up_ne _ _ h]
    unfold zrw
    by_cases h2 : i < n
    · rw [if_pos h2, if_pos (by omega), va_up_ne _ _ (by omega)]
    · rw [if_neg h2, if_neg (by omega)]
theorem zrw_off {ad : Nat → Nat} {b n r q : Nat} (h : ∀ i, i < n → b + i ≠ r) : zrw (va_up ad r q) b n = zrw ad b n := by
  funext i
  unfold zrw
  by_cases h2 : i < n
  · rw [if_pos h2, if_pos h2, va_up_ne _ _ (h i h2)]
  · rw [if_neg h2, if_neg h2]
theorem CoreM.ser {G : xG} {M M' : xM} {ad ad' : Nat → Nat} {u : zS} {F : Nat → Int32} {j : Nat} (h : CoreM G M ad u j) (hO : zOk u) (hj : j < zmn u) (hext : ∀ r, 40 ≤ r → r < 80 → ad' r = ad r) (hj8 : j < 8) (hk : ∀ (a r : Nat) (e : va_E), M a = some (r, e) → 40 ≤ r → M' a = some (r, e)) : CoreM G M' ad' (uSer u F) j := by
  have hb : ∀ i, i < 10 → zms u j i = -1 ∨ i ≠ zrn u := fun i hi => by
    by_cases h9 : zms u j i = -1
    · exact Or.inl h9
    · have := ((hO.2.2.2.2.2.1 j hj).1 i hi).2 h9
      exact Or.inr (by omega)
  have e1 : zLst (zln (uSer u F)) (zms u j) 10 = zLst (zln u) (zms u j) 10 := zLst_c 10 fun i hi => (hb i hi).imp id (fun h9 => va_up_ne _ _ h9)
  have e2 : ∀ y wo, zGat (zln (uSer u F)) (zev (uSer u F)) (zms u j) y wo 10 = zGat (zln u) (zev u) (zms u j) y wo 10 := fun y wo => zGat_c 10 fun i hi => (hb i hi).imp id (fun h9 => ⟨va_up_ne _ _ h9, va_up_ne _ _ h9⟩)
  have e3 : zYn (zln (uSer u F)) (zms u j) = zYn (zln u) (zms u j) := by unfold zYn; rw [e1]
  obtain ⟨m1, m2, V, D, m3, m4, m5⟩ := h
  unfold CoreM
  rw [hext (40 + j) (by omega) (by omega), hext (50 + j) (by omega) (by omega), hext (60 + j) (by omega) (by omega), hext (70 + j) (by omega) (by omega)]
  show M' (ad (40 + j)) = some (40 + j, .inr (3, [.ref (ad (50 + j)), .int (zFst (zms u j) 10), .int (zLst (zln (uSer u F)) (zms u j) 10), .int (nI (zCnt (zms u j) 10)), .ref (ad (60 + j)), .ref (ad (70 + j))])) ∧ M' (ad (50 + j)) = some (50 + j, eI G 10 (zms u j)) ∧ ∃ V D : Nat → Int32, M' (ad (60 + j)) = some (60 + j, eI G (zYn (zln (uSer u F)) (zms u j)) V) ∧ M' (ad (70 + j)) = some (70 + j, eI G (zYn (zln (uSer u F)) (zms u j)) D) ∧ ∀ k, k < zYn (zln (uSer u F)) (zms u j) → V k = zAq (zGat (zln (uSer u F)) (zev (uSer u F)) (zms u j) (zFst (zms u j) 10 + nI k) (-1) 10) ∧ D k = (zGat (zln (uSer u F)) (zev (uSer u F)) (zms u j) (zFst (zms u j) 10 + nI k) (-1) 10).1
  rw [e1, e3]
  exact ⟨hk _ _ _ m1 (by omega), hk _ _ _ m2 (by omega), V, D, hk _ _ _ m3 (by omega), hk _ _ _ m4 (by omega), fun k hk2 => by rw [e2]; exact m5 k hk2⟩
theorem Core.ser {G : xG} {M M1 M2 M3 M4 M5 M6 : xM} {ad : Nat → Nat} {u : zS} {F : Nat → Int32} {q a : Nat} (hC : Core G M ad u) (hs : Scr G M ad) (hO : zOk u) (hr : zrn u < 10) {x1 : Option (Nat × va_E)}
    (hq : M q = none) (ha : M1 a = none) (e1 : M1 = va_up M q (some (20 + zrn u, .inr (2, [.null, .int 0])))) (e2 : M2 = va_up M1 a (some (30 + zrn u, eI G (zpn u) F))) (e3 : M3 = va_up M2 q (some (20 + zrn u, .inr (2, [.ref a, .int (-1)])))) (e4 : M4 = va_up M3 (ad 2) (some (2, eQ (gR G) 10 (va_up (zrw ad 20 (zrn u)) (zrn u) (some q)))))
    (e5 : M5 = va_up M4 (ad 0) x1) (e6 : M6 = va_up M5 (ad 0) (some (0, .inr (4, [.ref (ad 1), .int 0, .ref (ad 2), .int (nI (zrn u + 1)), .ref (ad 3), .int (nI (zmn u)), .ref (ad 4), .ref (ad 5), .ref (ad 6), .ref (ad 7), .ref (ad 8), .ref (ad 9)])))) :
    Core G M6 (va_up (va_up ad (20 + zrn u) q) (30 + zrn u) a) (uSer u F) ∧ Scr G M6 (va_up (va_up ad (20 + zrn u) q) (30 + zrn u) a) ∧ xK100 M M6 ∧ ∀ r, r < 20 ∨ 40 ≤ r → va_up (va_up ad (20 + zrn u) q) (30 + zrn u) a r = ad r := by
  obtain ⟨ad', had⟩ : ∃ z : Nat → Nat, z = va_up (va_up ad (20 + zrn u) q) (30 + zrn u) a := ⟨_, rfl⟩
  rw [← had]
  have hao : ∀ r, r ≠ 20 + zrn u → r ≠ 30 + zrn u → ad' r = ad r := fun r h1 h2 => by rw [had, va_up_ne _ _ h2, va_up_ne _ _ h1]
  have haq : ad' (20 + zrn u) = q := by rw [had, va_up_ne _ _ (by omega), va_up_self]
  have haa : ad' (30 + zrn u) = a := by rw [had, va_up_self]
  obtain ⟨h0, h1, h2, h3, h4, h8, hR, hM⟩ := hC
  have keep3 : ∀ (b r : Nat) (e : va_E), M b = some (r, e) → M3 b = some (r, e) := fun b r e hb => by
    have k1 := xw_newE e1 hb hq
    have k2 := xw_newE e2 k1 ha
    rw [e3, va_up_ne]
    · exact k2
    · intro z
      rw [z, hq] at hb
      cases hb
  have q2 : M2 q = some (20 + zrn u, .inr (2, [.null, .int 0])) := xw_newE e2 (xw_atE e1) ha
  have q3 : M3 q = some (20 + zrn u, .inr (2, [.ref a, .int (-1)])) := xw_atE e3
  have a3 : M3 a = some (30 + zrn u, eI G (zpn u) F) := xw_upE e3 (xw_atE e2) q2 (by omega)
  have r3 := keep3 _ _ _ h2
  have k4 : ∀ (b r : Nat) (e : va_E), M3 b = some (r, e) → r ≠ 2 → M4 b = some (r, e) := fun b r e hb hn => xw_upE e4 hb r3 hn
  have o4 := k4 _ _ _ (keep3 _ _ _ h0) (by decide)
  have k6 : ∀ (b r : Nat) (e : va_E), M4 b = some (r, e) → r ≠ 0 → M6 b = some (r, e) := fun b r e hb hn => by
    have hne : b ≠ ad 0 := xw_ne hb o4 hn
    rw [e6, va_up_ne _ _ hne, e5, va_up_ne _ _ hne]
    exact hb
  have k : ∀ (b r : Nat) (e : va_E), M b = some (r, e) → r ≠ 0 → r ≠ 2 → M6 b = some (r, e) := fun b r e hb n0 n2 => k6 _ _ _ (k4 _ _ _ (keep3 _ _ _ hb) n2) n0
  refine ⟨⟨?_, ?_, ?_, ?_, ?_, ?_, fun i hi => ?_, fun j hj => ?_⟩, ?_, fun b r e hb hr2 => k b r e hb (by omega) (by omega), fun r hr2 => hao r (by omega) (by omega)⟩
  · unfold CoreO
    rw [hao 0 (by omega) (by omega), hao 1 (by omega) (by omega), hao 2 (by omega) (by omega), hao 3 (by omega) (by omega), hao 4 (by omega) (by omega), hao 5 (by omega) (by omega), hao 6 (by omega) (by omega), hao 7 (by omega) (by omega), hao 8 (by omega) (by omega), hao 9 (by omega) (by omega)]
    exact xw_atE e6
  · rw [hao 1 (by omega) (by omega)]
    exact k _ _ _ h1 (by decide) (by decide)
  · rw [hao 2 (by omega) (by omega)]
    have e9 : zrw ad' 20 (zrn u + 1) = va_up (zrw ad 20 (zrn u)) (zrn u) (some q) := by
      rw [zrw_up, had]
      exact zrw_off fun i hi => by omega
    show M6 (ad 2) = some (2, eQ (gR G) 10 (zrw ad' 20 (zrn u + 1)))
    rw [e9]
    exact k6 _ _ _ (xw_atE e4) (by decide)
  · rw [hao 3 (by omega) (by omega)]
    have e9 : zrw ad' 40 (zmn u) = zrw ad 40 (zmn u) := by
      rw [had, zrw_off fun i hi => by omega, zrw_off fun i hi => by omega]
    show M6 (ad 3) = some (3, eQ (gM G) 8 (zrw ad' 40 (zmn u)))
    rw [e9]
    exact k _ _ _ h3 (by decide) (by decide)
  · rw [hao 4 (by omega) (by omega)]
    exact k _ _ _ h4 (by decide) (by decide)
  · rw [hao 8 (by omega) (by omega)]
    have e9 : zrw ad' 10 8 = zrw ad 10 8 := by
      rw [had, zrw_off fun i hi => by omega, zrw_off fun i hi => by omega]
    rw [e9]
    exact k _ _ _ h8 (by decide) (by decide)
  · by_cases hi2 : i = zrn u
    · subst hi2
      unfold CoreR
      rw [haq, haa]
      have s1 : zst (uSer u F) (zrn u) = -1 := va_up_self _ _ _
      have s2 : zln (uSer u F) (zrn u) = zpn u := va_up_self _ _ _
      have s3 : zev (uSer u F) (zrn u) = F := va_up_self _ _ _
      rw [s1, s2, s3]
      exact ⟨k6 _ _ _ (k4 _ _ _ q3 (by omega)) (by omega), k6 _ _ _ (k4 _ _ _ a3 (by omega)) (by omega)⟩
    · have hi3 : i < zrn u := by
        have : i < zrn u + 1 := hi
        omega
      unfold CoreR
      rw [hao (20 + i) (by omega) (by omega), hao (30 + i) (by omega) (by omega)]
      have s1 : zst (uSer u F) i = zst u i := va_up_ne _ _ hi2
      have s2 : zln (uSer u F) i = zln u i := va_up_ne _ _ hi2
      have s3 : zev (uSer u F) i = zev u i := va_up_ne _ _ hi2
      rw [s1, s2, s3]
      exact ⟨k _ _ _ (hR i hi3).1 (by omega) (by omega), k _ _ _ (hR i hi3).2 (by omega) (by omega)⟩
  · have hj2 : j < zmn u := hj
    have := hO.2.2.2.2.1
    exact (hM j hj2).ser hO hj2 (fun r h1 h2 => hao r (by omega) (by omega)) (by omega) (fun b r e hb hr2 => k b r e hb (by omega) (by omega))
  · obtain ⟨⟨q5, s5⟩, ⟨q6, s6⟩, ⟨q7, s7⟩, ⟨f, s9⟩, sg⟩ := hs
    refine ⟨⟨q5, ?_⟩, ⟨q6, ?_⟩, ⟨q7, ?_⟩, ⟨f, ?_⟩, fun i hi => ?_⟩
    · rw [hao 5 (by omega) (by omega)]; exact k _ _ _ s5 (by decide) (by decide)
    · rw [hao 6 (by omega) (by omega)]; exact k _ _ _ s6 (by decide) (by decide)
    · rw [hao 7 (by omega) (by omega)]; exact k _ _ _ s7 (by decide) (by decide)
    · rw [hao 9 (by omega) (by omega)]; exact k _ _ _ s9 (by decide) (by decide)
    · obtain ⟨g, hg⟩ := sg i hi
      refine ⟨g, ?_⟩
      rw [hao (10 + i) (by omega) (by omega)]
      exact k _ _ _ hg (by omega) (by omega)
end ZO
end
section
set_option maxHeartbeats 4000000 in
set_option maxRecDepth 100000 in
theorem c_Rm_series (l : Launch) (G : xG) (M : xM) (hst : l.stackTraces = false) (ad : Nat → Nat) (u : zS) (hC : Core G M ad u) (hO : zOk u) (hs : Scr G M ad) : vx_Met l y_Rm_series w_Rm_series ({ frames := 6, cells := 3, slots := 40, locals := 90 }) (xP G [.ref (ad 0)] M) (xQi G (fun v M' => fSer u = (0, v) ∧ ((v = -1 ∧ zpn u < 3 ∧ M' = M) ∨ (3 ≤ zpn u ∧ ∃ (F : Nat → Int32) (ad' : Nat → Nat), (∀ k, k < zpn u → F k = zEvn (zpd u) (zpn u) k) ∧ Core G M' ad' (uSer u F) ∧ Scr G M' ad' ∧ xK100 M M' ∧ ∀ r, r < 20 ∨ 40 ≤ r → ad' r = ad r)))) (xX G (fun E M' => fSer u = (1, 0) ∧ E = nISE ∧ M' = M)) 3 40 (xF G) := by
  refine x_metX (by decide) (Nat.le_of_ble_eq_true rfl) ?_
  intro p e s m below meth c ls hE hnx hl hM hK hS
  obtain ⟨hx, hb, hr, hml, hown, hw, hlocks⟩ := id hE
  have h0 := hM
  have hl : lv_has ls 1 [(0, .ref (ad 0))] := hl
  refine lv_aload_n hx hb d_Rm_series_0 rfl (lv_at hl 0 rfl) ?_
  refine x_get (C := R_Rm) (T := F_Rm) (N := 12) hx hb hw i_Rm hown hK.1 hM hC.1 rfl 3 (by decide) (hw _ kw_68) rfl rfl d_Rm_series_1 ?_
  refine lv_bipush (v := 10) hx hb d_Rm_series_4 (by decide) ?_
  refine lv_icmp_lt (tgt := 19) hx hb d_Rm_series_6 (by decide) (fun c_6 => ?_) (fun c_6 => ?_)
  · have h6 : zrn u < 10 := (nI_ltI (b := 10) (by have := hO.2.2.1; omega) (by decide)).mp c_6
    refine lv_aload_n hx hb d_Rm_series_19 rfl (lv_at hl 0 rfl) ?_
    refine x_get (C := R_Rm) (T := F_Rm) (N := 12) hx hb hw i_Rm hown hK.1 hM hC.1 rfl 1 (by decide) (hw _ kw_66) rfl rfl d_Rm_series_20 ?_
    refine lv_iconst (v := 3) hx hb d_Rm_series_23 (by decide) ?_
    refine lv_icmp_ge (tgt := 29) hx hb d_Rm_series_24 (by decide) (fun c_24 => ?_) (fun c_24 => ?_)
    · have h24 : 3 ≤ zpn u := (nI_leI (a := 3) (by decide) (by have := hO.1; omega)).mp c_24
      refine lv_aload_n hx hb d_Rm_series_29 rfl (lv_at hl 0 rfl) ?_
      refine x_get (C := R_Rm) (T := F_Rm) (N := 12) hx hb hw i_Rm hown hK.1 hM hC.1 rfl 2 (by decide) (hw _ kw_67) rfl rfl d_Rm_series_30 ?_
      refine lv_aload_n hx hb d_Rm_series_33 rfl (lv_at hl 0 rfl) ?_
      refine x_get (C := R_Rm) (T := F_Rm) (N := 12) hx hb hw i_Rm hown hK.1 hM hC.1 rfl 3 (by decide) (hw _ kw_68) rfl rfl d_Rm_series_34 ?_
      refine x_new (20 + zrn u) (ci := 2) (C := R_Row) (T := F_Row) (N := 2) (fs := [.null, .int 0]) hx hb hw i_Row t_Row t_Row_ok hown (hw _ kw_24) (hw _ kw_203) (hw _ kw_10) hK.1 hM hS rfl (fun j hj => by rcases (show j = 0 ∨ j = 1 by omega) with rfl | rfl <;> rfl) (by decide) (by decide) d_Rm_series_37 (fun q H hn_q hM hS => ?_)
      have hM : xh G (va_up M q (some (20 + zrn u, .inr (2, [.null, .int 0])))) H := hM
      obtain ⟨M_1, eM_1⟩ : ∃ z : xM, z = va_up M q (some (20 + zrn u, .inr (2, [.null, .int 0]))) := ⟨_, rfl⟩
      rw [← eM_1] at hM
      have k_ad0 := xw_newE eM_1 hC.1 hn_q
      have k_ad2 := xw_newE eM_1 hC.2.2.1 hn_q
      have c_q := xw_atE eM_1
      refine lv_dup hx hb d_Rm_series_40 rfl ?_
      refine lv_aload_n hx hb d_Rm_series_41 rfl (lv_at hl 0 rfl) ?_
      have hext : xKeep M M_1 := fun b r e hb _ => xw_newE eM_1 hb hn_q
      refine x_cr (x_runV (As := []) (rest := [.ref q, .ref q, .int (nI (zrn u)), .ref (ad 2)]) hE hK hM hl.1 (c_Rm_evenedPad l G M_1 ad u (hC.keep hext) hO h24 (30 + zrn u)) k_ad0 rfl kw_204 kw_206 ks_1 kw_1 kw_207 0 rfl rfl rfl (by decide +kernel) ⟨by decide, by decide⟩ rfl (Nat.le_of_ble_eq_true rfl) d_Rm_series_42 ⟨by decide, by decide⟩) hS (fun r1 M1 H locs hp hM hS => ?_)
      obtain ⟨hn_a, F, hF, e_M⟩ := hp
      obtain ⟨a, e_a⟩ : ∃ z : Nat, z = r1 := ⟨_, rfl⟩
      subst e_a
      obtain ⟨Mb, eMb⟩ : ∃ z : xM, z = M1 := ⟨_, rfl⟩
      subst eMb
      have k_ad0 := xw_newE e_M k_ad0 hn_a
      have k_ad2 := xw_newE e_M k_ad2 hn_a
      have c_q := xw_newE e_M c_q hn_a
      refine x_cv (x_runI (As := [.ref a]) (rest := [.ref q, .int (nI (zrn u)), .ref (ad 2)]) hE hK hM hl.1 (c_Row_init l G Mb q (20 + zrn u) a c_q) kw_211 kw_212 kw_10 kw_213 rfl 1 rfl rfl rfl (by decide +kernel) ⟨by decide, by decide⟩ rfl (Nat.le_of_ble_eq_true rfl) d_Rm_series_45 ⟨by decide, by decide⟩) hS (fun M1 H locs hp hM hS => ?_)
      obtain ⟨Mc, eMc⟩ : ∃ z : xM, z = M1 := ⟨_, rfl⟩
      subst eMc
      have k_ad0 := xw_upE hp k_ad0 c_q (by omega)
      have k_ad2 := xw_upE hp k_ad2 c_q (by omega)
      have hp3 := hp
      have c_q := xw_atE hp3
      refine x_astq hx hb hK.1 hM hS k_ad2 2 rfl c_q rfl rfl h6 (by decide) d_Rm_series_48 (fun H locs hM hS hz => ?_)
      have hM : xh G (va_up Mc (ad 2) (some (2, .inl (gR G, 10, .inr (.inr (.inr (.inr (va_up (zrw ad 20 (zrn u)) (zrn u) (some q))))))))) H := hM
      obtain ⟨Mc_2, eMc_2⟩ : ∃ z : xM, z = va_up Mc (ad 2) (some (2, .inl (gR G, 10, .inr (.inr (.inr (.inr (va_up (zrw ad 20 (zrn u)) (zrn u) (some q)))))))) := ⟨_, rfl⟩
      rw [← eMc_2] at hM
      have k_ad0 := xw_upE eMc_2 k_ad0 k_ad2 (by decide)
      have c_q := xw_upE eMc_2 c_q k_ad2 (by omega)
      have k_ad2 := xw_atE eMc_2
      refine lv_aload_n hx hb d_Rm_series_49 rfl (lv_at hl 0 rfl) ?_
      refine lv_dup hx hb d_Rm_series_50 rfl ?_
      refine x_get (C := R_Rm) (T := F_Rm) (N := 12) hx hb hw i_Rm hown hK.1 hM k_ad0 rfl 3 (by decide) (hw _ kw_68) rfl rfl d_Rm_series_51 ?_
      refine lv_iconst (v := 1) hx hb d_Rm_series_54 (by decide) ?_
      refine lv_iadd hx hb d_Rm_series_55 ?_
      refine lv_topi (fun tv etv => ?_)
      have etv : tv = nI (zrn u + 1) := by rw [etv]; exact nI_1 _
      subst etv
      refine x_put (C := R_Rm) (T := F_Rm) (N := 12) (ty := .int) (v := .int (nI (zrn u + 1))) hx hb hw i_Rm t_Rm t_Rm_ok n_Rm hown hK.1 hM hS k_ad0 rfl 3 (by decide) (hw _ kw_68) rfl rfl (by decide +kernel) rfl rfl (Nat.le_of_ble_eq_true rfl) d_Rm_series_56 (fun H locs hM hS hz => ?_)
      have hM : xh G (va_up Mc_2 (ad 0) (some (0, .inr (4, [.ref (ad 1), .int (nI (zpn u)), .ref (ad 2), .int (nI (zrn u + 1)), .ref (ad 3), .int (nI (zmn u)), .ref (ad 4), .ref (ad 5), .ref (ad 6), .ref (ad 7), .ref (ad 8), .ref (ad 9)])))) H := hM
      obtain ⟨Mc_3, eMc_3⟩ : ∃ z : xM, z = va_up Mc_2 (ad 0) (some (0, .inr (4, [.ref (ad 1), .int (nI (zpn u)), .ref (ad 2), .int (nI (zrn u + 1)), .ref (ad 3), .int (nI (zmn u)), .ref (ad 4), .ref (ad 5), .ref (ad 6), .ref (ad 7), .ref (ad 8), .ref (ad 9)]))) := ⟨_, rfl⟩
      rw [← eMc_3] at hM
      have k_ad2 := xw_upE eMc_3 k_ad2 k_ad0 (by decide)
      have c_q := xw_upE eMc_3 c_q k_ad0 (by omega)
      have k_ad0 := xw_atE eMc_3
      refine lv_aload_n hx hb d_Rm_series_59 rfl (lv_at hl 0 rfl) ?_
      refine lv_iconst (v := 0) hx hb d_Rm_series_60 (by decide) ?_
      refine x_put (C := R_Rm) (T := F_Rm) (N := 12) (ty := .int) (v := .int 0) hx hb hw i_Rm t_Rm t_Rm_ok n_Rm hown hK.1 hM hS k_ad0 rfl 1 (by decide) (hw _ kw_66) rfl rfl (by decide +kernel) rfl rfl (Nat.le_of_ble_eq_true rfl) d_Rm_series_61 (fun H locs hM hS hz => ?_)
      have hM : xh G (va_up Mc_3 (ad 0) (some (0, .inr (4, [.ref (ad 1), .int 0, .ref (ad 2), .int (nI (zrn u + 1)), .ref (ad 3), .int (nI (zmn u)), .ref (ad 4), .ref (ad 5), .ref (ad 6), .ref (ad 7), .ref (ad 8), .ref (ad 9)])))) H := hM
      obtain ⟨Mc_4, eMc_4⟩ : ∃ z : xM, z = va_up Mc_3 (ad 0) (some (0, .inr (4, [.ref (ad 1), .int 0, .ref (ad 2), .int (nI (zrn u + 1)), .ref (ad 3), .int (nI (zmn u)), .ref (ad 4), .ref (ad 5), .ref (ad 6), .ref (ad 7), .ref (ad 8), .ref (ad 9)]))) := ⟨_, rfl⟩
      rw [← eMc_4] at hM
      have k_ad2 := xw_upE eMc_4 k_ad2 k_ad0 (by decide)
      have c_q := xw_upE eMc_4 c_q k_ad0 (by omega)
      have k_ad0 := xw_atE eMc_4
      refine lv_aload_n hx hb d_Rm_series_64 rfl (lv_at hl 0 rfl) ?_
      refine x_get (C := R_Rm) (T := F_Rm) (N := 12) hx hb hw i_Rm hown hK.1 hM k_ad0 rfl 3 (by decide) (hw _ kw_68) rfl rfl d_Rm_series_65 ?_
      refine lv_iconst (v := 1) hx hb d_Rm_series_68 (by decide) ?_
      refine lv_isub hx hb d_Rm_series_69 ?_
      refine lv_topi (fun tv etv => ?_)
      have etv : tv = nI (zrn u) := by rw [etv]; exact nI_pred _
      subst etv
      refine vx_ret ?_
      obtain ⟨k1, k2, k3, k4⟩ := Core.ser hC hs hO h6 hn_q hn_a eM_1 e_M hp3 eMc_2 eMc_3 eMc_4
      exact x_ri hE rfl hM hS ⟨by unfold fSer; rw [if_neg (by omega), if_neg (by omega)], Or.inr ⟨h24, F, _, hF, k1, k2, k3, k4⟩⟩ (by decide) (by decide) d_Rm_series_70
    · have h24 : zpn u < 3 := Nat.not_le.mp (fun h9 => c_24 ((nI_leI (a := 3) (by decide) (by have := hO.1; omega)).mpr h9))
      refine lv_iconst (v := (-1)) hx hb d_Rm_series_27 (by decide) ?_
      refine vx_ret ?_
      exact x_ri hE rfl hM hS ⟨by unfold fSer; rw [if_neg (by omega), if_pos h24], Or.inl ⟨rfl, h24, rfl⟩⟩ (by omega) (by omega) d_Rm_series_28
  · have h6 : 10 ≤ zrn u := Nat.not_lt.mp (fun h9 => c_6 ((nI_ltI (b := 10) (by omega) (by decide)).mpr h9))
    exact x_ise (is := 74) (text := "there are ten series") hst hE hnx hK h0 hM hS hl.1 (by decide) d_Rm_series_9 d_Rm_series_12 d_Rm_series_13 d_Rm_series_15 d_Rm_series_18 (by decide) (Nat.le_of_ble_eq_true rfl) ⟨by decide, by decide⟩ ⟨by decide, by decide⟩ (⟨by unfold fSer; rw [if_pos h6], rfl, rfl⟩)
end
section
section ZB
def zB (u : zS) (set : Int32) : Nat → Int32 := fun i => if i < zrn u ∧ ((set >>> (nI i &&& 31)) &&& 1) = 1 then zst u i else -1
def zMk (b : Nat → Int32) : Nat → Nat
  | 0 => 0
  | n + 1 => if b n = -1 then zMk b n else zMk b n + 2 ^ n
theorem zMk_lt (b : Nat → Int32) : ∀ n, zMk b n < 2 ^ n
  | 0 => (show (0 : Nat) < 1 by decide)
  | n + 1 => by
    have := zMk_lt b n
    unfold zMk
    rw [Nat.pow_succ]
    split <;> omega
theorem z_or : ∀ n, n < 10 → ∀ m, m < 2 ^ n → nI m ||| ((1 : Int32) <<< (nI n &&& 31)) = nI (m + 2 ^ n) := by decide +kernel
theorem z_bit : ∀ i, i < 10 → ∀ m, m < 1024 → ((nI m >>> (nI i &&& 31)) &&& 1) = nI (m / 2 ^ i % 2) := by decide +kernel
theorem zMk_bit (b : Nat → Int32) : ∀ n i, i < n → zMk b n / 2 ^ i % 2 = if b i = -1 then 0 else 1
  | 0, i, h => absurd h (by omega)
  | n + 1, i, h => by
    have hlt := zMk_lt b n
    by_cases hi : i = n
    · subst hi
      show (if b i = -1 then zMk b i else zMk b i + 2 ^ i) / 2 ^ i % 2 = _
      split
      · rw [Nat.div_eq_of_lt hlt]
      · rw [Nat.add_div_right _ (Nat.two_pow_pos i), Nat.div_eq_of_lt hlt]
    · have h2 := zMk_bit b n i (by omega)
      show (if b n = -1 then zMk b n else zMk b n + 2 ^ n) / 2 ^ i % 2 = _
      split
      · exact h2
      · rw [← h2]
        have e : 2 ^ n = 2 ^ i * (2 * 2 ^ (n - i - 1)) := by
          rw [← Nat.pow_succ', ← Nat.pow_add]
          congr 1
          omega
        rw [e, Nat.add_mul_div_left _ _ (Nat.two_pow_pos i)]
        omega
theorem zMk_ext {b : Nat → Int32} {n : Nat} (h : ∀ i, n ≤ i → b i = -1) : ∀ k, zMk b (n + k) = zMk b n
  | 0 => rfl
  | k + 1 => by
    show (if b (n + k) = -1 then zMk b (n + k) else _) = _
    rw [if_pos (h (n + k) (by omega)), zMk_ext h k]
theorem zFst_ext {b : Nat → Int32} {n : Nat} (h : ∀ i, n ≤ i → b i = -1) : ∀ k, zFst b (n + k) = zFst b n
  | 0 => rfl
  | k + 1 => by
    show (if b (n + k) = -1 then zFst b (n + k) else _) = _
    rw [if_pos (h (n + k) (by omega)), zFst_ext h k]
theorem zLst_ext {ln : Nat → Nat} {b : Nat → Int32} {n : Nat} (h : ∀ i, n ≤ i → b i = -1) : ∀ k, zLst ln b (n + k) = zLst ln b n
  | 0 => rfl
  | k + 1 => by
    show (if b (n + k) = -1 then zLst ln b (n + k) else _) = _
    rw [if_pos (h (n + k) (by omega)), zLst_ext h k]
theorem zGat_ext {ln : Nat → Nat} {ev : Nat → Nat → Int32} {b : Nat → Int32} {y wo : Int32} {n : Nat} : ∀ k, (∀ i, n ≤ i → i < n + k → b i = -1) → zGat ln ev b y wo (n + k) = zGat ln ev b y wo n
  | 0, _ => rfl
  | k + 1, h => by
    show zGs ln ev b y wo (n + k) (zGat ln ev b y wo (n + k)) = _
    rw [zGat_ext k fun i h1 h2 => h i h1 (by omega)]
    unfold zGs
    rw [h (n + k) (by omega) (by omega)]
    simp
theorem zFst_cg {b b' : Nat → Int32} : ∀ n, (∀ i, i < n → b i = b' i) → zFst b n = zFst b' n
  | 0, _ => rfl
  | n + 1, h => by
    unfold zFst
    rw [zFst_cg n fun i hi => h i (by omega), h n (by omega)]
theorem zLst_cg {ln : Nat → Nat} {b b' : Nat → Int32} : ∀ n, (∀ i, i < n → b i = b' i) → zLst ln b n = zLst ln b' n
  | 0, _ => rfl
  | n + 1, h => by
    unfold zLst
    rw [zLst_cg n fun i hi => h i (by omega), h n (by omega)]
theorem zCnt_cg {b b' : Nat → Int32} : ∀ n, (∀ i, i < n → b i = b' i) → zCnt b n = zCnt b' n
  | 0, _ => rfl
  | n + 1, h => by
    unfold zCnt
    rw [zCnt_cg n fun i hi => h i (by omega), h n (by omega)]
theorem zGat_cg {ln : Nat → Nat} {ev : Nat → Nat → Int32} {b b' : Nat → Int32} {y wo : Int32} : ∀ n, (∀ i, i < n → b i = b' i) → zGat ln ev b y wo n = zGat ln ev b' y wo n
  | 0, _ => rfl
  | n + 1, h => by
    show zGs ln ev b y wo n (zGat ln ev b y wo n) = zGs ln ev b' y wo n (zGat ln ev b' y wo n)
    rw [zGat_cg n fun i hi => h i (by omega)]
    unfold zGs
    rw [h n (by omega)]
def zBc (x : Int32) : Int32 :=
  let us (a : Int32) (k : Int32) : Int32 := (a.toUInt32 >>> (k.toUInt32 &&& Int32.toUInt32 31)).toInt32
  let a := x - (us x 1 &&& 1431655765)
  let b := (a &&& 858993459) + (us a 2 &&& 858993459)
  let d := (b + us b 4) &&& 252645135
  let f := d + us d 8
  (f + us f 16) &&& 63
theorem zBc_all : ∀ m, m < 1024 → zBc (nI m) = nI (m / 2 ^ 0 % 2 + m / 2 ^ 1 % 2 + m / 2 ^ 2 % 2 + m / 2 ^ 3 % 2 + m / 2 ^ 4 % 2 + m / 2 ^ 5 % 2 + m / 2 ^ 6 % 2 + m / 2 ^ 7 % 2 + m / 2 ^ 8 % 2 + m / 2 ^ 9 % 2) := by decide +kernel
theorem zCnt_s (b : Nat → Int32) (n : Nat) : zCnt b (n + 1) = zCnt b n + (if b n = -1 then 0 else 1) := by
  show (if b n = -1 then zCnt b n else zCnt b n + 1) = _
  split <;> rfl
theorem zBc_cnt (b : Nat → Int32) : zBc (nI (zMk b 10)) = nI (zCnt b 10) := by
  rw [zBc_all _ (zMk_lt b 10)]
  rw [zMk_bit b 10 0 (by decide), zMk_bit b 10 1 (by decide), zMk_bit b 10 2 (by decide), zMk_bit b 10 3 (by decide), zMk_bit b 10 4 (by decide), zMk_bit b 10 5 (by decide), zMk_bit b 10 6 (by decide), zMk_bit b 10 7 (by decide), zMk_bit b 10 8 (by decide), zMk_bit b 10 9 (by decide)]
  rw [zCnt_s, zCnt_s, zCnt_s, zCnt_s, zCnt_s, zCnt_s, zCnt_s, zCnt_s, zCnt_s, zCnt_s]
  congr 1
  show _ = 0 + _ + _ + _ + _ + _ + _ + _ + _ + _ + _
  omega
theorem z_max0 (x : Int32) : zMax 0 x = nI x.toNatClampNeg := by
  unfold zMax
  by_cases h : 0 < x
  · rw [if_pos h]
    obtain ⟨j, hj, rfl⟩ := nI_of (x := x) (Int32.not_lt.mpr (Int32.le_of_lt h))
    rw [nI_clamp hj]
  · rw [if_neg h]
    have h1 := Int32.le_iff_toInt_le.mp (Int32.not_lt.mp h)
    have h2 : (0 : Int32).toInt = 0 := rfl
    have h3 : x.toNatClampNeg = 0 := by
      show x.toInt.toNat = 0
      omega
    rw [h3]
    rfl
theorem zB_ge {u : zS} {set : Int32} {i : Nat} (h : zrn u ≤ i) : zB u set i = -1 := by
  unfold zB
  rw [if_neg (by omega)]
end ZB
end
section
theorem xw_id {M : xM} {a : Nat} {x : Option (Nat × va_E)} (h : M a = x) : va_up M a x = M := by
  funext b
  by_cases hb : b = a
  · rw [hb, va_up_self, h]
  · rw [va_up_ne _ _ hb]

set_option maxHeartbeats 4000000 in
set_option maxRecDepth 100000 in
theorem lp_JA_fill {p : Program} {l : Launch} {e : Env} {s : State} {m : MethodId} {below : List Frame} {meth : Method} {c : Code} {args : Array Value} {G : xG} {M : xM} (a r nn : Nat) (hnn : nn < 2 ^ 20) (v : Int32) (f0 : Nat → Int32) (ha : M a = some (r, eI G nn f0)) (hE : xE p s m args meth c b_JA_fill none 4 "java/util/Arrays") (hK : KX G s) : ∀ (n k : Nat), k ≤ nn → nn + 1 ≤ k + n → ∀ (F : Nat → Int32), (∀ k', k' < k → F k' = v) → ∀ (H : Heap) (locs : List Loc) (ls : Array Slot), xh G (va_up M a (some (r, eI G nn F))) H → va_S (xF G) s.heap H locs → lv_has ls 4 [(0, .ref a), (1, .int v), (2, .int (nI k)), (3, .int (nI nn))] → W p l e ({ frames := 0, cells := 0, slots := 0, locals := 0 }) s m args below meth c H locs 0 0 (MQ below (xQv G (fun M' => ∃ F : Nat → Int32, (∀ k, k < nn → F k = v) ∧ M' = va_up M a (some (r, eI G nn F)))) args s 0 0 (xF G)) (F0 m 5 ls []) := by
  obtain ⟨hx, hb, hr, hml, hown, hw, hlocks⟩ := id hE
  intro n
  induction n with
  | zero =>
    intro k h1 h2
    exact absurd h2 (by omega)
  | succ n ih =>
    intro k hk hin F hF H locs ls hM hS hl
    obtain ⟨Mi, eMi⟩ : ∃ z : xM, z = va_up M a (some (r, eI G nn F)) := ⟨_, rfl⟩
    rw [← eMi] at hM
    have c_a := xw_atE eMi
    refine lv_iload_n hx hb d_JA_fill_5 rfl (lv_at hl 2 rfl) ?_
    refine lv_iload_n hx hb d_JA_fill_6 rfl (lv_at hl 3 rfl) ?_
    refine lv_icmp_ge (tgt := 20) hx hb d_JA_fill_7 (by decide) (fun c_7 => ?_) (fun c_7 => ?_)
    · have h7 : nn ≤ k := (nI_leI (by omega) (by omega)).mp c_7
      exact x_rv hE rfl hM hS ⟨F, fun k2 h2 => hF k2 (by omega), eMi⟩ (by omega) (by omega) d_JA_fill_20
    · have hkn : k < nn := Nat.not_le.mp (fun h9 => c_7 ((nI_leI (by omega) (by omega)).mpr h9))
      refine lv_aload_n hx hb d_JA_fill_10 rfl (lv_at hl 0 rfl) ?_
      refine lv_iload_n hx hb d_JA_fill_11 rfl (lv_at hl 2 rfl) ?_
      refine lv_iload_n hx hb d_JA_fill_12 rfl (lv_at hl 1 rfl) ?_
      refine x_iast hx hb hK.1 hM hS c_a 0 rfl rfl hkn (by omega) d_JA_fill_13 (fun H locs hM hS hz => ?_)
      have hM : xh G (va_up Mi a (some (r, .inl (gI G, nn, .inl (upd F k v))))) H := hM
      obtain ⟨Mi_1, eMi_1⟩ : ∃ z : xM, z = va_up Mi a (some (r, .inl (gI G, nn, .inl (upd F k v)))) := ⟨_, rfl⟩
      rw [← eMi_1] at hM
      have c_a := xw_atE eMi_1
      refine lv_iinc (v := (nI (k + 1))) (lv' := [(2, .int (nI (k + 1))), (0, .ref a), (1, .int v), (3, .int (nI nn))]) hx hb d_JA_fill_14 hl (k := 2) rfl (nI_1 k) (by decide) rfl (fun ls hl => ?_)
      refine lv_goto (tgt := 5) hx hb d_JA_fill_17 (by decide) ?_
      exact ih (k + 1) (by omega) (by omega) (upd F k v) (fun k' hk' => by
        by_cases h9 : k' = k
        · subst h9
          exact pk_us
        · rw [pk_un h9]
          exact hF k' (by omega)) _ _ _ (by rw [eMi_1, eMi, bx_uu] at hM; exact hM) hS (lv_sub hl [1, 2, 0, 3] rfl)

set_option maxHeartbeats 4000000 in
set_option maxRecDepth 100000 in
theorem c_JA_fill (l : Launch) (G : xG) (M : xM) (a r nn : Nat) (hnn : nn < 2 ^ 20) (v : Int32) (f0 : Nat → Int32) (ha : M a = some (r, eI G nn f0)) : Met l y_JA_fill w_JA_fill ({ frames := 0, cells := 0, slots := 0, locals := 0 }) (xP G [.ref a, .int v] M) (xQv G (fun M' => ∃ F : Nat → Int32, (∀ k, k < nn → F k = v) ∧ M' = va_up M a (some (r, eI G nn F)))) 0 0 (xF G) := by
  refine x_met (by decide) (Nat.le_of_ble_eq_true rfl) ?_
  intro p e s m below meth c ls hE hin hl hM hK hS
  obtain ⟨hx, hb, hr, hml, hown, hw, hlocks⟩ := id hE
  have hl : lv_has ls 4 [(0, .ref a), (1, .int v)] := hl
  refine lv_iconst (v := 0) hx hb d_JA_fill_0 (by decide) ?_
  refine lv_istore_n (lv' := [(2, .int 0), (0, .ref a), (1, .int v)]) hx hb d_JA_fill_1 rfl hl (by decide) rfl (fun ls hl => ?_)
  refine lv_aload_n hx hb d_JA_fill_2 rfl (lv_at hl 1 rfl) ?_
  refine x_alen (v := nI nn) hx hb hK.1 hM ha 0 rfl rfl d_JA_fill_3 ?_
  refine lv_istore_n (lv' := [(3, .int (nI nn)), (2, .int 0), (0, .ref a), (1, .int v)]) hx hb d_JA_fill_4 rfl hl (by decide) rfl (fun ls hl => ?_)
  exact lp_JA_fill a r nn hnn v f0 ha hE hK (nn + 1) 0 (by omega) (by omega) f0 (fun k' hk' => absurd hk' (by omega)) _ _ _ (by rw [xw_id ha]; exact hM) hS (lv_sub hl [2, 3, 1, 0] rfl)

set_option maxHeartbeats 4000000 in
set_option maxRecDepth 100000 in
theorem c_JI_bitCount (l : Launch) (G : xG) (M : xM) (x : Int32) : Met l y_JI_bitCount w_JI_bitCount ({ frames := 0, cells := 0, slots := 0, locals := 0 }) (xP G [.int x] M) (xQi G (fun v M' => v = zBc x ∧ M' = M)) 0 0 (xF G) := by
  refine x_met (by decide) (Nat.le_of_ble_eq_true rfl) ?_
  intro p e s m below meth c ls hE hin hl hM hK hS
  obtain ⟨hx, hb, hr, hml, hown, hw, hlocks⟩ := id hE
  have hl : lv_has ls 1 [(0, .int x)] := hl
  refine lv_iload_n hx hb d_JI_bitCount_0 rfl (lv_at hl 0 rfl) ?_
  refine lv_iload_n hx hb d_JI_bitCount_1 rfl (lv_at hl 0 rfl) ?_
  refine lv_iconst (v := 1) hx hb d_JI_bitCount_2 (by decide) ?_
  refine lv_iushr (v := (x.toUInt32 >>> ((1 : Int32).toUInt32 &&& Int32.toUInt32 31)).toInt32) hx hb d_JI_bitCount_3 rfl ?_
  refine lv_ldcw (v := 1431655765) hx hb hown (hw _ kw_300) d_JI_bitCount_4 ?_
  refine lv_iand hx hb d_JI_bitCount_7 ?_
  refine lv_isub hx hb d_JI_bitCount_8 ?_
  refine lv_istore_n (lv' := [(0, .int (x - (((x.toUInt32 >>> ((1 : Int32).toUInt32 &&& Int32.toUInt32 31)).toInt32) &&& 1431655765)))]) hx hb d_JI_bitCount_9 rfl hl (by decide) rfl (fun ls hl => ?_)
  refine lv_iload_n hx hb d_JI_bitCount_10 rfl (lv_at hl 0 rfl) ?_
  refine lv_ldcw (v := 858993459) hx hb hown (hw _ kw_301) d_JI_bitCount_11 ?_
  refine lv_iand hx hb d_JI_bitCount_14 ?_
  refine lv_iload_n hx hb d_JI_bitCount_15 rfl (lv_at hl 0 rfl) ?_
  refine lv_iconst (v := 2) hx hb d_JI_bitCount_16 (by decide) ?_
  refine lv_iushr (v := ((x - (((x.toUInt32 >>> ((1 : Int32).toUInt32 &&& Int32.toUInt32 31)).toInt32) &&& 1431655765)).toUInt32 >>> ((2 : Int32).toUInt32 &&& Int32.toUInt32 31)).toInt32) hx hb d_JI_bitCount_17 rfl ?_
  refine lv_ldcw (v := 858993459) hx hb hown (hw _ kw_301) d_JI_bitCount_18 ?_
  refine lv_iand hx hb d_JI_bitCount_21 ?_
  refine lv_iadd hx hb d_JI_bitCount_22 ?_
  refine lv_istore_n (lv' := [(0, .int (((x - (((x.toUInt32 >>> ((1 : Int32).toUInt32 &&& Int32.toUInt32 31)).toInt32) &&& 1431655765)) &&& 858993459) + ((((x - (((x.toUInt32 >>> ((1 : Int32).toUInt32 &&& Int32.toUInt32 31)).toInt32) &&& 1431655765)).toUInt32 >>> ((2 : Int32).toUInt32 &&& Int32.toUInt32 31)).toInt32) &&& 858993459)))]) hx hb d_JI_bitCount_23 rfl hl (by decide) rfl (fun ls hl => ?_)
  refine lv_iload_n hx hb d_JI_bitCount_24 rfl (lv_at hl 0 rfl) ?_
  refine lv_iload_n hx hb d_JI_bitCount_25 rfl (lv_at hl 0 rfl) ?_
  refine lv_iconst (v := 4) hx hb d_JI_bitCount_26 (by decide) ?_
  refine lv_iushr (v := ((((x - (((x.toUInt32 >>> ((1 : Int32).toUInt32 &&& Int32.toUInt32 31)).toInt32) &&& 1431655765)) &&& 858993459) + ((((x - (((x.toUInt32 >>> ((1 : Int32).toUInt32 &&& Int32.toUInt32 31)).toInt32) &&& 1431655765)).toUInt32 >>> ((2 : Int32).toUInt32 &&& Int32.toUInt32 31)).toInt32) &&& 858993459)).toUInt32 >>> ((4 : Int32).toUInt32 &&& Int32.toUInt32 31)).toInt32) hx hb d_JI_bitCount_27 rfl ?_
  refine lv_iadd hx hb d_JI_bitCount_28 ?_
  refine lv_ldcw (v := 252645135) hx hb hown (hw _ kw_302) d_JI_bitCount_29 ?_
  refine lv_iand hx hb d_JI_bitCount_32 ?_
  refine lv_istore_n (lv' := [(0, .int (((((x - (((x.toUInt32 >>> ((1 : Int32).toUInt32 &&& Int32.toUInt32 31)).toInt32) &&& 1431655765)) &&& 858993459) + ((((x - (((x.toUInt32 >>> ((1 : Int32).toUInt32 &&& Int32.toUInt32 31)).toInt32) &&& 1431655765)).toUInt32 >>> ((2 : Int32).toUInt32 &&& Int32.toUInt32 31)).toInt32) &&& 858993459)) + (((((x - (((x.toUInt32 >>> ((1 : Int32).toUInt32 &&& Int32.toUInt32 31)).toInt32) &&& 1431655765)) &&& 858993459) + ((((x - (((x.toUInt32 >>> ((1 : Int32).toUInt32 &&& Int32.toUInt32 31)).toInt32) &&& 1431655765)).toUInt32 >>> ((2 : Int32).toUInt32 &&& Int32.toUInt32 31)).toInt32) &&& 858993459)).toUInt32 >>> ((4 : Int32).toUInt32 &&& Int32.toUInt32 31)).toInt32)) &&& 252645135))]) hx hb d_JI_bitCount_33 rfl hl (by decide) rfl (fun ls hl => ?_)
  refine lv_iload_n hx hb d_JI_bitCount_34 rfl (lv_at hl 0 rfl) ?_
  refine lv_iload_n hx hb d_JI_bitCount_35 rfl (lv_at hl 0 rfl) ?_
  refine lv_bipush (v := 8) hx hb d_JI_bitCount_36 (by decide) ?_
  refine lv_iushr (v := ((((((x - (((x.toUInt32 >>> ((1 : Int32).toUInt32 &&& Int32.toUInt32 31)).toInt32) &&& 1431655765)) &&& 858993459) + ((((x - (((x.toUInt32 >>> ((1 : Int32).toUInt32 &&& Int32.toUInt32 31)).toInt32) &&& 1431655765)).toUInt32 >>> ((2 : Int32).toUInt32 &&& Int32.toUInt32 31)).toInt32) &&& 858993459)) + (((((x - (((x.toUInt32 >>> ((1 : Int32).toUInt32 &&& Int32.toUInt32 31)).toInt32) &&& 1431655765)) &&& 858993459) + ((((x - (((x.toUInt32 >>> ((1 : Int32).toUInt32 &&& Int32.toUInt32 31)).toInt32) &&& 1431655765)).toUInt32 >>> ((2 : Int32).toUInt32 &&& Int32.toUInt32 31)).toInt32) &&& 858993459)).toUInt32 >>> ((4 : Int32).toUInt32 &&& Int32.toUInt32 31)).toInt32)) &&& 252645135).toUInt32 >>> ((8 : Int32).toUInt32 &&& Int32.toUInt32 31)).toInt32) hx hb d_JI_bitCount_38 rfl ?_
  refine lv_iadd hx hb d_JI_bitCount_39 ?_
  refine lv_istore_n (lv' := [(0, .int ((((((x - (((x.toUInt32 >>> ((1 : Int32).toUInt32 &&& Int32.toUInt32 31)).toInt32) &&& 1431655765)) &&& 858993459) + ((((x - (((x.toUInt32 >>> ((1 : Int32).toUInt32 &&& Int32.toUInt32 31)).toInt32) &&& 1431655765)).toUInt32 >>> ((2 : Int32).toUInt32 &&& Int32.toUInt32 31)).toInt32) &&& 858993459)) + (((((x - (((x.toUInt32 >>> ((1 : Int32).toUInt32 &&& Int32.toUInt32 31)).toInt32) &&& 1431655765)) &&& 858993459) + ((((x - (((x.toUInt32 >>> ((1 : Int32).toUInt32 &&& Int32.toUInt32 31)).toInt32) &&& 1431655765)).toUInt32 >>> ((2 : Int32).toUInt32 &&& Int32.toUInt32 31)).toInt32) &&& 858993459)).toUInt32 >>> ((4 : Int32).toUInt32 &&& Int32.toUInt32 31)).toInt32)) &&& 252645135) + (((((((x - (((x.toUInt32 >>> ((1 : Int32).toUInt32 &&& Int32.toUInt32 31)).toInt32) &&& 1431655765)) &&& 858993459) + ((((x - (((x.toUInt32 >>> ((1 : Int32).toUInt32 &&& Int32.toUInt32 31)).toInt32) &&& 1431655765)).toUInt32 >>> ((2 : Int32).toUInt32 &&& Int32.toUInt32 31)).toInt32) &&& 858993459)) + (((((x - (((x.toUInt32 >>> ((1 : Int32).toUInt32 &&& Int32.toUInt32 31)).toInt32) &&& 1431655765)) &&& 858993459) + ((((x - (((x.toUInt32 >>> ((1 : Int32).toUInt32 &&& Int32.toUInt32 31)).toInt32) &&& 1431655765)).toUInt32 >>> ((2 : Int32).toUInt32 &&& Int32.toUInt32 31)).toInt32) &&& 858993459)).toUInt32 >>> ((4 : Int32).toUInt32 &&& Int32.toUInt32 31)).toInt32)) &&& 252645135).toUInt32 >>> ((8 : Int32).toUInt32 &&& Int32.toUInt32 31)).toInt32)))]) hx hb d_JI_bitCount_40 rfl hl (by decide) rfl (fun ls hl => ?_)
  refine lv_iload_n hx hb d_JI_bitCount_41 rfl (lv_at hl 0 rfl) ?_
  refine lv_iload_n hx hb d_JI_bitCount_42 rfl (lv_at hl 0 rfl) ?_
  refine lv_bipush (v := 16) hx hb d_JI_bitCount_43 (by decide) ?_
  refine lv_iushr (v := (((((((x - (((x.toUInt32 >>> ((1 : Int32).toUInt32 &&& Int32.toUInt32 31)).toInt32) &&& 1431655765)) &&& 858993459) + ((((x - (((x.toUInt32 >>> ((1 : Int32).toUInt32 &&& Int32.toUInt32 31)).toInt32) &&& 1431655765)).toUInt32 >>> ((2 : Int32).toUInt32 &&& Int32.toUInt32 31)).toInt32) &&& 858993459)) + (((((x - (((x.toUInt32 >>> ((1 : Int32).toUInt32 &&& Int32.toUInt32 31)).toInt32) &&& 1431655765)) &&& 858993459) + ((((x - (((x.toUInt32 >>> ((1 : Int32).toUInt32 &&& Int32.toUInt32 31)).toInt32) &&& 1431655765)).toUInt32 >>> ((2 : Int32).toUInt32 &&& Int32.toUInt32 31)).toInt32) &&& 858993459)).toUInt32 >>> ((4 : Int32).toUInt32 &&& Int32.toUInt32 31)).toInt32)) &&& 252645135) + (((((((x - (((x.toUInt32 >>> ((1 : Int32).toUInt32 &&& Int32.toUInt32 31)).toInt32) &&& 1431655765)) &&& 858993459) + ((((x - (((x.toUInt32 >>> ((1 : Int32).toUInt32 &&& Int32.toUInt32 31)).toInt32) &&& 1431655765)).toUInt32 >>> ((2 : Int32).toUInt32 &&& Int32.toUInt32 31)).toInt32) &&& 858993459)) + (((((x - (((x.toUInt32 >>> ((1 : Int32).toUInt32 &&& Int32.toUInt32 31)).toInt32) &&& 1431655765)) &&& 858993459) + ((((x - (((x.toUInt32 >>> ((1 : Int32).toUInt32 &&& Int32.toUInt32 31)).toInt32) &&& 1431655765)).toUInt32 >>> ((2 : Int32).toUInt32 &&& Int32.toUInt32 31)).toInt32) &&& 858993459)).toUInt32 >>> ((4 : Int32).toUInt32 &&& Int32.toUInt32 31)).toInt32)) &&& 252645135).toUInt32 >>> ((8 : Int32).toUInt32 &&& Int32.toUInt32 31)).toInt32)).toUInt32 >>> ((16 : Int32).toUInt32 &&& Int32.toUInt32 31)).toInt32) hx hb d_JI_bitCount_45 rfl ?_
  refine lv_iadd hx hb d_JI_bitCount_46 ?_
  refine lv_istore_n (lv' := [(0, .int (((((((x - (((x.toUInt32 >>> ((1 : Int32).toUInt32 &&& Int32.toUInt32 31)).toInt32) &&& 1431655765)) &&& 858993459) + ((((x - (((x.toUInt32 >>> ((1 : Int32).toUInt32 &&& Int32.toUInt32 31)).toInt32) &&& 1431655765)).toUInt32 >>> ((2 : Int32).toUInt32 &&& Int32.toUInt32 31)).toInt32) &&& 858993459)) + (((((x - (((x.toUInt32 >>> ((1 : Int32).toUInt32 &&& Int32.toUInt32 31)).toInt32) &&& 1431655765)) &&& 858993459) + ((((x - (((x.toUInt32 >>> ((1 : Int32).toUInt32 &&& Int32.toUInt32 31)).toInt32) &&& 1431655765)).toUInt32 >>> ((2 : Int32).toUInt32 &&& Int32.toUInt32 31)).toInt32) &&& 858993459)).toUInt32 >>> ((4 : Int32).toUInt32 &&& Int32.toUInt32 31)).toInt32)) &&& 252645135) + (((((((x - (((x.toUInt32 >>> ((1 : Int32).toUInt32 &&& Int32.toUInt32 31)).toInt32) &&& 1431655765)) &&& 858993459) + ((((x - (((x.toUInt32 >>> ((1 : Int32).toUInt32 &&& Int32.toUInt32 31)).toInt32) &&& 1431655765)).toUInt32 >>> ((2 : Int32).toUInt32 &&& Int32.toUInt32 31)).toInt32) &&& 858993459)) + (((((x - (((x.toUInt32 >>> ((1 : Int32).toUInt32 &&& Int32.toUInt32 31)).toInt32) &&& 1431655765)) &&& 858993459) + ((((x - (((x.toUInt32 >>> ((1 : Int32).toUInt32 &&& Int32.toUInt32 31)).toInt32) &&& 1431655765)).toUInt32 >>> ((2 : Int32).toUInt32 &&& Int32.toUInt32 31)).toInt32) &&& 858993459)).toUInt32 >>> ((4 : Int32).toUInt32 &&& Int32.toUInt32 31)).toInt32)) &&& 252645135).toUInt32 >>> ((8 : Int32).toUInt32 &&& Int32.toUInt32 31)).toInt32)) + ((((((((x - (((x.toUInt32 >>> ((1 : Int32).toUInt32 &&& Int32.toUInt32 31)).toInt32) &&& 1431655765)) &&& 858993459) + ((((x - (((x.toUInt32 >>> ((1 : Int32).toUInt32 &&& Int32.toUInt32 31)).toInt32) &&& 1431655765)).toUInt32 >>> ((2 : Int32).toUInt32 &&& Int32.toUInt32 31)).toInt32) &&& 858993459)) + (((((x - (((x.toUInt32 >>> ((1 : Int32).toUInt32 &&& Int32.toUInt32 31)).toInt32) &&& 1431655765)) &&& 858993459) + ((((x - (((x.toUInt32 >>> ((1 : Int32).toUInt32 &&& Int32.toUInt32 31)).toInt32) &&& 1431655765)).toUInt32 >>> ((2 : Int32).toUInt32 &&& Int32.toUInt32 31)).toInt32) &&& 858993459)).toUInt32 >>> ((4 : Int32).toUInt32 &&& Int32.toUInt32 31)).toInt32)) &&& 252645135) + (((((((x - (((x.toUInt32 >>> ((1 : Int32).toUInt32 &&& Int32.toUInt32 31)).toInt32) &&& 1431655765)) &&& 858993459) + ((((x - (((x.toUInt32 >>> ((1 : Int32).toUInt32 &&& Int32.toUInt32 31)).toInt32) &&& 1431655765)).toUInt32 >>> ((2 : Int32).toUInt32 &&& Int32.toUInt32 31)).toInt32) &&& 858993459)) + (((((x - (((x.toUInt32 >>> ((1 : Int32).toUInt32 &&& Int32.toUInt32 31)).toInt32) &&& 1431655765)) &&& 858993459) + ((((x - (((x.toUInt32 >>> ((1 : Int32).toUInt32 &&& Int32.toUInt32 31)).toInt32) &&& 1431655765)).toUInt32 >>> ((2 : Int32).toUInt32 &&& Int32.toUInt32 31)).toInt32) &&& 858993459)).toUInt32 >>> ((4 : Int32).toUInt32 &&& Int32.toUInt32 31)).toInt32)) &&& 252645135).toUInt32 >>> ((8 : Int32).toUInt32 &&& Int32.toUInt32 31)).toInt32)).toUInt32 >>> ((16 : Int32).toUInt32 &&& Int32.toUInt32 31)).toInt32)))]) hx hb d_JI_bitCount_47 rfl hl (by decide) rfl (fun ls hl => ?_)
  refine lv_iload_n hx hb d_JI_bitCount_48 rfl (lv_at hl 0 rfl) ?_
  refine lv_bipush (v := 63) hx hb d_JI_bitCount_49 (by decide) ?_
  refine lv_iand hx hb d_JI_bitCount_51 ?_
  exact x_ri hE rfl hM hS ⟨rfl, rfl⟩ (by omega) (by omega) d_JI_bitCount_52

set_option maxHeartbeats 4000000 in
set_option maxRecDepth 100000 in
theorem lp_Rm_membersOf {p : Program} {l : Launch} {e : Env} {s : State} {m : MethodId} {below : List Frame} {meth : Method} {c : Code} {args : Array Value} {G : xG} {M : xM} (ad : Nat → Nat) (u : zS) (hC : Core G M ad u) (hO : zOk u) (set : Int32) (hE : xE p s m args meth c b_Rm_membersOf (some .int) 4 R_Rm) (hK : KX G s) : ∀ (n i : Nat), i ≤ zrn u → zrn u + 1 ≤ i + n → ∀ (H : Heap) (locs : List Loc) (ls : Array Slot), xh G M H → va_S (xF G) s.heap H locs → lv_has ls 4 [(0, .ref (ad 0)), (1, .int set), (2, .int (nI (zMk (zB u set) i))), (3, .int (nI i))] → W p l e ({ frames := 0, cells := 0, slots := 0, locals := 0 }) s m args below meth c H locs 0 0 (MQ below (xQi G (fun v M' => v = nI (zMk (zB u set) (zrn u)) ∧ M' = M)) args s 0 0 (xF G)) (F0 m 4 ls []) := by
  obtain ⟨hx, hb, hr, hml, hown, hw, hlocks⟩ := id hE
  have hrn : zrn u ≤ 10 := hO.2.2.1
  intro n
  induction n with
  | zero =>
    intro i h1 h2
    exact absurd h2 (by omega)
  | succ n ih =>
    intro i hi hin H locs ls hM hS hl
    refine lv_iload_n hx hb d_Rm_membersOf_4 rfl (lv_at hl 3 rfl) ?_
    refine lv_aload_n hx hb d_Rm_membersOf_5 rfl (lv_at hl 0 rfl) ?_
    refine x_get (C := R_Rm) (T := F_Rm) (N := 12) hx hb hw i_Rm hown hK.1 hM hC.1 rfl 3 (by decide) (hw _ kw_68) rfl rfl d_Rm_membersOf_6 ?_
    refine lv_icmp_ge (tgt := 46) hx hb d_Rm_membersOf_9 (by decide) (fun c_9 => ?_) (fun c_9 => ?_)
    · have h9 : zrn u ≤ i := (nI_leI (by omega) (by omega)).mp c_9
      refine lv_iload_n hx hb d_Rm_membersOf_46 rfl (lv_at hl 2 rfl) ?_
      exact x_ri hE rfl hM hS ⟨by rw [show i = zrn u by omega], rfl⟩ (by omega) (by omega) d_Rm_membersOf_47
    · have hir : i < zrn u := Nat.not_le.mp (fun h9 => c_9 ((nI_leI (by omega) (by omega)).mpr h9))
      refine lv_iload_n hx hb d_Rm_membersOf_12 rfl (lv_at hl 1 rfl) ?_
      refine lv_iload_n hx hb d_Rm_membersOf_13 rfl (lv_at hl 3 rfl) ?_
      refine lv_ishr hx hb d_Rm_membersOf_14 ?_
      refine lv_iconst (v := 1) hx hb d_Rm_membersOf_15 (by decide) ?_
      refine lv_iand hx hb d_Rm_membersOf_16 ?_
      refine lv_iconst (v := 1) hx hb d_Rm_membersOf_17 (by decide) ?_
      refine lv_icmp_ne (tgt := 40) hx hb d_Rm_membersOf_18 (by decide) (fun c_18 => ?_) (fun c_18 => ?_)
      · refine lv_iinc (v := (nI (i + 1))) (lv' := [(3, .int (nI (i + 1))), (0, .ref (ad 0)), (1, .int set), (2, .int (nI (zMk (zB u set) i)))]) hx hb d_Rm_membersOf_40 hl (k := 3) rfl (nI_1 i) (by decide) rfl (fun ls hl => ?_)
        refine lv_goto (tgt := 4) hx hb d_Rm_membersOf_43 (by decide) ?_
        have hb : zB u set i = -1 := by unfold zB; rw [if_neg (fun h9 => c_18 h9.2)]
        have hz : zMk (zB u set) (i + 1) = zMk (zB u set) i := by show (if zB u set i = -1 then _ else _) = _; rw [hb, if_pos rfl]
        exact ih (i + 1) hir (by omega) _ _ _ hM hS (by rw [hz]; exact lv_sub hl [1, 2, 3, 0] rfl)
      · refine lv_aload_n hx hb d_Rm_membersOf_21 rfl (lv_at hl 0 rfl) ?_
        refine x_get (C := R_Rm) (T := F_Rm) (N := 12) hx hb hw i_Rm hown hK.1 hM hC.1 rfl 2 (by decide) (hw _ kw_67) rfl rfl d_Rm_membersOf_22 ?_
        refine lv_iload_n hx hb d_Rm_membersOf_25 rfl (lv_at hl 3 rfl) ?_
        have hRi := hC.2.2.2.2.2.2.1 i hir
        refine x_aldq (v := .ref (ad (20 + i))) hx hb hK.1 hM hC.2.2.1 2 rfl rfl (by omega) (by omega) (zrw_lt hir) d_Rm_membersOf_26 ?_
        refine x_getN (C := R_Row) (T := F_Row) (N := 2) (host := R_Rm) hx hb hw i_Row hown hK.1 hM hRi.1 rfl 1 (by decide) (va_Nw.use rfl (hK.2.1.1 (97, R_Row, "start", "I") (by decide))) rfl rfl d_Rm_membersOf_27 ?_
        refine lv_iconst (v := (-1)) hx hb d_Rm_membersOf_30 (by decide) ?_
        refine lv_icmp_eq (tgt := 40) hx hb d_Rm_membersOf_31 (by decide) (fun c_31 => ?_) (fun c_31 => ?_)
        · refine lv_iinc (v := (nI (i + 1))) (lv' := [(3, .int (nI (i + 1))), (0, .ref (ad 0)), (1, .int set), (2, .int (nI (zMk (zB u set) i)))]) hx hb d_Rm_membersOf_40 hl (k := 3) rfl (nI_1 i) (by decide) rfl (fun ls hl => ?_)
          refine lv_goto (tgt := 4) hx hb d_Rm_membersOf_43 (by decide) ?_
          have hb : zB u set i = zst u i := by unfold zB; rw [if_pos ⟨hir, c_18⟩]
          have hz : zMk (zB u set) (i + 1) = zMk (zB u set) i := by show (if zB u set i = -1 then _ else _) = _; rw [hb, if_pos c_31]
          exact ih (i + 1) hir (by omega) _ _ _ hM hS (by rw [hz]; exact lv_sub hl [1, 2, 3, 0] rfl)
        · refine lv_iload_n hx hb d_Rm_membersOf_34 rfl (lv_at hl 2 rfl) ?_
          refine lv_iconst (v := 1) hx hb d_Rm_membersOf_35 (by decide) ?_
          refine lv_iload_n hx hb d_Rm_membersOf_36 rfl (lv_at hl 3 rfl) ?_
          refine lv_ishl hx hb d_Rm_membersOf_37 ?_
          refine lv_ior hx hb d_Rm_membersOf_38 ?_
          refine lv_istore_n (lv' := [(2, .int ((nI (zMk (zB u set) i)) ||| (1 <<< ((nI i) &&& 31)))), (0, .ref (ad 0)), (1, .int set), (3, .int (nI i))]) hx hb d_Rm_membersOf_39 rfl hl (by decide) rfl (fun ls hl => ?_)
          refine lv_iinc (v := (nI (i + 1))) (lv' := [(3, .int (nI (i + 1))), (2, .int ((nI (zMk (zB u set) i)) ||| (1 <<< ((nI i) &&& 31)))), (0, .ref (ad 0)), (1, .int set)]) hx hb d_Rm_membersOf_40 hl (k := 3) rfl (nI_1 i) (by decide) rfl (fun ls hl => ?_)
          refine lv_goto (tgt := 4) hx hb d_Rm_membersOf_43 (by decide) ?_
          have hb : zB u set i = zst u i := by unfold zB; rw [if_pos ⟨hir, c_18⟩]
          have hz : zMk (zB u set) (i + 1) = zMk (zB u set) i + 2 ^ i := by show (if zB u set i = -1 then _ else _) = _; rw [hb, if_neg c_31]
          exact ih (i + 1) hir (by omega) _ _ _ hM hS (by rw [hz]; rw [← z_or i (by omega) _ (zMk_lt _ i)]; exact lv_sub hl [2, 3, 1, 0] rfl)

set_option maxHeartbeats 4000000 in
set_option maxRecDepth 100000 in
theorem c_Rm_membersOf (l : Launch) (G : xG) (M : xM) (ad : Nat → Nat) (u : zS) (hC : Core G M ad u) (hO : zOk u) (set : Int32) : Met l y_Rm_membersOf w_Rm_membersOf ({ frames := 0, cells := 0, slots := 0, locals := 0 }) (xP G [.ref (ad 0), .int set] M) (xQi G (fun v M' => v = nI (zMk (zB u set) (zrn u)) ∧ M' = M)) 0 0 (xF G) := by
  refine x_met (by decide) (Nat.le_of_ble_eq_true rfl) ?_
  intro p e s m below meth c ls hE hin hl hM hK hS
  obtain ⟨hx, hb, hr, hml, hown, hw, hlocks⟩ := id hE
  have hl : lv_has ls 4 [(0, .ref (ad 0)), (1, .int set)] := hl
  refine lv_iconst (v := 0) hx hb d_Rm_membersOf_0 (by decide) ?_
  refine lv_istore_n (lv' := [(2, .int 0), (0, .ref (ad 0)), (1, .int set)]) hx hb d_Rm_membersOf_1 rfl hl (by decide) rfl (fun ls hl => ?_)
  refine lv_iconst (v := 0) hx hb d_Rm_membersOf_2 (by decide) ?_
  refine lv_istore_n (lv' := [(3, .int 0), (2, .int 0), (0, .ref (ad 0)), (1, .int set)]) hx hb d_Rm_membersOf_3 rfl hl (by decide) rfl (fun ls hl => ?_)
  exact lp_Rm_membersOf ad u hC hO set hE hK (zrn u + 1) 0 (by omega) (by omega) _ _ _ hM hS (lv_sub hl [2, 3, 1, 0] rfl)

set_option maxHeartbeats 4000000 in
set_option maxRecDepth 100000 in
theorem lp_Rm_firstYearOf {p : Program} {l : Launch} {e : Env} {s : State} {m : MethodId} {below : List Frame} {meth : Method} {c : Code} {args : Array Value} {G : xG} {M : xM} (ad : Nat → Nat) (u : zS) (hC : Core G M ad u) (hO : zOk u) (b : Nat → Int32) (hb9 : ∀ i, i < zrn u → b i = -1 ∨ b i = zst u i)  (hE : xE p s m args meth c b_Rm_firstYearOf (some .int) 4 R_Rm) (hK : KX G s) : ∀ (n i : Nat), i ≤ zrn u → zrn u + 1 ≤ i + n → ∀ (H : Heap) (locs : List Loc) (ls : Array Slot), xh G M H → va_S (xF G) s.heap H locs → lv_has ls 4 [(0, .ref (ad 0)), (1, .int (nI (zMk b (zrn u)))), (2, .int (zFst b i)), (3, .int (nI i))] → W p l e ({ frames := 1, cells := 0, slots := 0, locals := 20 }) s m args below meth c H locs 0 0 (MQ below (xQi G (fun v M' => v = zFst b (zrn u) ∧ M' = M)) args s 0 0 (xF G)) (F0 m 6 ls []) := by
  obtain ⟨hx, hb, hr, hml, hown, hw, hlocks⟩ := id hE
  have hrn : zrn u ≤ 10 := hO.2.2.1
  have hbit : ∀ i, i < zrn u → (((nI (zMk b (zrn u)) >>> (nI i &&& 31)) &&& 1) = 1 ↔ b i ≠ -1) := fun i hi => by
    have hlt : zMk b (zrn u) < 1024 := Nat.lt_of_lt_of_le (zMk_lt b _) (Nat.pow_le_pow_right (by decide) hrn : 2 ^ zrn u ≤ 2 ^ 10)
    rw [z_bit i (by omega) _ hlt, zMk_bit b _ i hi]
    by_cases h9 : b i = -1
    · rw [if_pos h9]
      exact ⟨fun h8 => absurd h8 (by decide), fun h8 => absurd h9 h8⟩
    · rw [if_neg h9]
      exact ⟨fun _ => h9, fun _ => rfl⟩
  intro n
  induction n with
  | zero =>
    intro i h1 h2
    exact absurd h2 (by omega)
  | succ n ih =>
    intro i hi hin H locs ls hM hS hl
    refine lv_iload_n hx hb d_Rm_firstYearOf_6 rfl (lv_at hl 3 rfl) ?_
    refine lv_aload_n hx hb d_Rm_firstYearOf_7 rfl (lv_at hl 0 rfl) ?_
    refine x_get (C := R_Rm) (T := F_Rm) (N := 12) hx hb hw i_Rm hown hK.1 hM hC.1 rfl 3 (by decide) (hw _ kw_68) rfl rfl d_Rm_firstYearOf_8 ?_
    refine lv_icmp_ge (tgt := 43) hx hb d_Rm_firstYearOf_11 (by decide) (fun c_11 => ?_) (fun c_11 => ?_)
    · have h9 : zrn u ≤ i := (nI_leI (by omega) (by omega)).mp c_11
      refine lv_iload_n hx hb d_Rm_firstYearOf_43 rfl (lv_at hl 2 rfl) ?_
      exact x_ri hE rfl hM hS ⟨by rw [show i = zrn u by omega], rfl⟩ (by omega) (by omega) d_Rm_firstYearOf_44
    · have hir : i < zrn u := Nat.not_le.mp (fun h9 => c_11 ((nI_leI (by omega) (by omega)).mpr h9))
      refine lv_iload_n hx hb d_Rm_firstYearOf_14 rfl (lv_at hl 1 rfl) ?_
      refine lv_iload_n hx hb d_Rm_firstYearOf_15 rfl (lv_at hl 3 rfl) ?_
      refine lv_ishr hx hb d_Rm_firstYearOf_16 ?_
      refine lv_iconst (v := 1) hx hb d_Rm_firstYearOf_17 (by decide) ?_
      refine lv_iand hx hb d_Rm_firstYearOf_18 ?_
      refine lv_iconst (v := 1) hx hb d_Rm_firstYearOf_19 (by decide) ?_
      refine lv_icmp_ne (tgt := 37) hx hb d_Rm_firstYearOf_20 (by decide) (fun c_20 => ?_) (fun c_20 => ?_)
      · refine lv_iinc (v := (nI (i + 1))) (lv' := [(3, .int (nI (i + 1))), (0, .ref (ad 0)), (1, .int (nI (zMk b (zrn u)))), (2, .int (zFst b i))]) hx hb d_Rm_firstYearOf_37 hl (k := 3) rfl (nI_1 i) (by decide) rfl (fun ls hl => ?_)
        refine lv_goto (tgt := 6) hx hb d_Rm_firstYearOf_40 (by decide) ?_
        have hbi : b i = -1 := Classical.byContradiction fun h9 => c_20 ((hbit i hir).mpr h9)
        have hz : zFst b (i + 1) = zFst b i := by show (if b i = -1 then _ else _) = _; rw [if_pos hbi]
        exact ih (i + 1) hir (by omega) _ _ _ hM hS (by rw [hz]; exact lv_sub hl [1, 2, 3, 0] rfl)
      · refine lv_iload_n hx hb d_Rm_firstYearOf_23 rfl (lv_at hl 2 rfl) ?_
        refine lv_aload_n hx hb d_Rm_firstYearOf_24 rfl (lv_at hl 0 rfl) ?_
        refine x_get (C := R_Rm) (T := F_Rm) (N := 12) hx hb hw i_Rm hown hK.1 hM hC.1 rfl 2 (by decide) (hw _ kw_67) rfl rfl d_Rm_firstYearOf_25 ?_
        refine lv_iload_n hx hb d_Rm_firstYearOf_28 rfl (lv_at hl 3 rfl) ?_
        have hRi := hC.2.2.2.2.2.2.1 i hir
        refine x_aldq (v := .ref (ad (20 + i))) hx hb hK.1 hM hC.2.2.1 2 rfl rfl (by omega) (by omega) (zrw_lt hir) d_Rm_firstYearOf_29 ?_
        refine x_getN (C := R_Row) (T := F_Row) (N := 2) (host := R_Rm) hx hb hw i_Row hown hK.1 hM hRi.1 rfl 1 (by decide) (va_Nw.use rfl (hK.2.1.1 (97, R_Row, "start", "I") (by decide))) rfl rfl d_Rm_firstYearOf_30 ?_
        refine va_mmin hx hb (hml.trans hl.1.symm) hown (hw _ kw_208) (hw _ kJ_min') (hw _ kJ_M) (hw _ kJ_min) (by decide) (Nat.le_of_ble_eq_true rfl) (by decide) (by decide) d_Rm_firstYearOf_33 ?_
        refine W.eq (g2 := F0 m 36 ls [.int (zMin (zFst b i) (zst u i))]) rfl ?_
        refine lv_istore_n (lv' := [(2, .int (zMin (zFst b i) (zst u i))), (0, .ref (ad 0)), (1, .int (nI (zMk b (zrn u)))), (3, .int (nI i))]) hx hb d_Rm_firstYearOf_36 rfl hl (by decide) rfl (fun ls hl => ?_)
        refine lv_iinc (v := (nI (i + 1))) (lv' := [(3, .int (nI (i + 1))), (2, .int (zMin (zFst b i) (zst u i))), (0, .ref (ad 0)), (1, .int (nI (zMk b (zrn u))))]) hx hb d_Rm_firstYearOf_37 hl (k := 3) rfl (nI_1 i) (by decide) rfl (fun ls hl => ?_)
        refine lv_goto (tgt := 6) hx hb d_Rm_firstYearOf_40 (by decide) ?_
        have hbi := (hbit i hir).mp c_20
        have hst := (hb9 i hir).resolve_left hbi
        have hz : zFst b (i + 1) = zMin (zFst b i) (zst u i) := by show (if b i = -1 then _ else _) = _; rw [if_neg hbi, hst]
        exact ih (i + 1) hir (by omega) _ _ _ hM hS (by rw [hz]; exact lv_sub hl [2, 3, 1, 0] rfl)

set_option maxHeartbeats 4000000 in
set_option maxRecDepth 100000 in
theorem c_Rm_firstYearOf (l : Launch) (G : xG) (M : xM) (ad : Nat → Nat) (u : zS) (hC : Core G M ad u) (hO : zOk u) (b : Nat → Int32) (hb9 : ∀ i, i < zrn u → b i = -1 ∨ b i = zst u i)  : Met l y_Rm_firstYearOf w_Rm_firstYearOf ({ frames := 1, cells := 0, slots := 0, locals := 20 }) (xP G [.ref (ad 0), .int (nI (zMk b (zrn u)))] M) (xQi G (fun v M' => v = zFst b (zrn u) ∧ M' = M)) 0 0 (xF G) := by
  refine x_met (by decide) (Nat.le_of_ble_eq_true rfl) ?_
  intro p e s m below meth c ls hE hin hl hM hK hS
  obtain ⟨hx, hb, hr, hml, hown, hw, hlocks⟩ := id hE
  have hl : lv_has ls 4 [(0, .ref (ad 0)), (1, .int (nI (zMk b (zrn u))))] := hl
  refine lv_sipush (v := 500) hx hb d_Rm_firstYearOf_0 (by decide) ?_
  refine lv_istore_n (lv' := [(2, .int 500), (0, .ref (ad 0)), (1, .int (nI (zMk b (zrn u))))]) hx hb d_Rm_firstYearOf_3 rfl hl (by decide) rfl (fun ls hl => ?_)
  refine lv_iconst (v := 0) hx hb d_Rm_firstYearOf_4 (by decide) ?_
  refine lv_istore_n (lv' := [(3, .int 0), (2, .int 500), (0, .ref (ad 0)), (1, .int (nI (zMk b (zrn u))))]) hx hb d_Rm_firstYearOf_5 rfl hl (by decide) rfl (fun ls hl => ?_)
  exact lp_Rm_firstYearOf ad u hC hO b hb9 hE hK (zrn u + 1) 0 (by omega) (by omega) _ _ _ hM hS (lv_sub hl [2, 3, 1, 0] rfl)

set_option maxHeartbeats 4000000 in
set_option maxRecDepth 100000 in
theorem lp_Rm_lastYearOf {p : Program} {l : Launch} {e : Env} {s : State} {m : MethodId} {below : List Frame} {meth : Method} {c : Code} {args : Array Value} {G : xG} {M : xM} (ad : Nat → Nat) (u : zS) (hC : Core G M ad u) (hO : zOk u) (b : Nat → Int32) (hb9 : ∀ i, i < zrn u → b i = -1 ∨ b i = zst u i)  (hE : xE p s m args meth c b_Rm_lastYearOf (some .int) 4 R_Rm) (hK : KX G s) : ∀ (n i : Nat), i ≤ zrn u → zrn u + 1 ≤ i + n → ∀ (H : Heap) (locs : List Loc) (ls : Array Slot), xh G M H → va_S (xF G) s.heap H locs → lv_has ls 4 [(0, .ref (ad 0)), (1, .int (nI (zMk b (zrn u)))), (2, .int (zLst (zln u) b i)), (3, .int (nI i))] → W p l e ({ frames := 1, cells := 0, slots := 0, locals := 25 }) s m args below meth c H locs 0 0 (MQ below (xQi G (fun v M' => v = zLst (zln u) b (zrn u) ∧ M' = M)) args s 0 0 (xF G)) (F0 m 4 ls []) := by
  obtain ⟨hx, hb, hr, hml, hown, hw, hlocks⟩ := id hE
  have hrn : zrn u ≤ 10 := hO.2.2.1
  have hbit : ∀ i, i < zrn u → (((nI (zMk b (zrn u)) >>> (nI i &&& 31)) &&& 1) = 1 ↔ b i ≠ -1) := fun i hi => by
    have hlt : zMk b (zrn u) < 1024 := Nat.lt_of_lt_of_le (zMk_lt b _) (Nat.pow_le_pow_right (by decide) hrn : 2 ^ zrn u ≤ 2 ^ 10)
    rw [z_bit i (by omega) _ hlt, zMk_bit b _ i hi]
    by_cases h9 : b i = -1
    · rw [if_pos h9]
      exact ⟨fun h8 => absurd h8 (by decide), fun h8 => absurd h9 h8⟩
    · rw [if_neg h9]
      exact ⟨fun _ => h9, fun _ => rfl⟩
  intro n
  induction n with
  | zero =>
    intro i h1 h2
    exact absurd h2 (by omega)
  | succ n ih =>
    intro i hi hin H locs ls hM hS hl
    refine lv_iload_n hx hb d_Rm_lastYearOf_4 rfl (lv_at hl 3 rfl) ?_
    refine lv_aload_n hx hb d_Rm_lastYearOf_5 rfl (lv_at hl 0 rfl) ?_
    refine x_get (C := R_Rm) (T := F_Rm) (N := 12) hx hb hw i_Rm hown hK.1 hM hC.1 rfl 3 (by decide) (hw _ kw_68) rfl rfl d_Rm_lastYearOf_6 ?_
    refine lv_icmp_ge (tgt := 41) hx hb d_Rm_lastYearOf_9 (by decide) (fun c_9 => ?_) (fun c_9 => ?_)
    · have h9 : zrn u ≤ i := (nI_leI (by omega) (by omega)).mp c_9
      refine lv_iload_n hx hb d_Rm_lastYearOf_41 rfl (lv_at hl 2 rfl) ?_
      exact x_ri hE rfl hM hS ⟨by rw [show i = zrn u by omega], rfl⟩ (by omega) (by omega) d_Rm_lastYearOf_42
    · have hir : i < zrn u := Nat.not_le.mp (fun h9 => c_9 ((nI_leI (by omega) (by omega)).mpr h9))
      refine lv_iload_n hx hb d_Rm_lastYearOf_12 rfl (lv_at hl 1 rfl) ?_
      refine lv_iload_n hx hb d_Rm_lastYearOf_13 rfl (lv_at hl 3 rfl) ?_
      refine lv_ishr hx hb d_Rm_lastYearOf_14 ?_
      refine lv_iconst (v := 1) hx hb d_Rm_lastYearOf_15 (by decide) ?_
      refine lv_iand hx hb d_Rm_lastYearOf_16 ?_
      refine lv_iconst (v := 1) hx hb d_Rm_lastYearOf_17 (by decide) ?_
      refine lv_icmp_ne (tgt := 35) hx hb d_Rm_lastYearOf_18 (by decide) (fun c_18 => ?_) (fun c_18 => ?_)
      · refine lv_iinc (v := (nI (i + 1))) (lv' := [(3, .int (nI (i + 1))), (0, .ref (ad 0)), (1, .int (nI (zMk b (zrn u)))), (2, .int (zLst (zln u) b i))]) hx hb d_Rm_lastYearOf_35 hl (k := 3) rfl (nI_1 i) (by decide) rfl (fun ls hl => ?_)
        refine lv_goto (tgt := 4) hx hb d_Rm_lastYearOf_38 (by decide) ?_
        have hbi : b i = -1 := Classical.byContradiction fun h9 => c_18 ((hbit i hir).mpr h9)
        have hz : zLst (zln u) b (i + 1) = zLst (zln u) b i := by show (if b i = -1 then _ else _) = _; rw [if_pos hbi]
        exact ih (i + 1) hir (by omega) _ _ _ hM hS (by rw [hz]; exact lv_sub hl [1, 2, 3, 0] rfl)
      · refine lv_iload_n hx hb d_Rm_lastYearOf_21 rfl (lv_at hl 2 rfl) ?_
        refine lv_aload_n hx hb d_Rm_lastYearOf_22 rfl (lv_at hl 0 rfl) ?_
        refine x_get (C := R_Rm) (T := F_Rm) (N := 12) hx hb hw i_Rm hown hK.1 hM hC.1 rfl 2 (by decide) (hw _ kw_67) rfl rfl d_Rm_lastYearOf_23 ?_
        refine lv_iload_n hx hb d_Rm_lastYearOf_26 rfl (lv_at hl 3 rfl) ?_
        have hRi := hC.2.2.2.2.2.2.1 i hir
        refine x_aldq (v := .ref (ad (20 + i))) hx hb hK.1 hM hC.2.2.1 2 rfl rfl (by omega) (by omega) (zrw_lt hir) d_Rm_lastYearOf_27 ?_
        refine x_ci (x_runV (As := []) (rest := [.int (zLst (zln u) b i)]) hE hK hM hl.1 (c_Row_lastYear l G M (ad (20 + i)) (20 + i) (ad (30 + i)) (30 + i) (zln u i) (zev u i) (zst u i) hRi.1 hRi.2) hRi.1 rfl kw_290 kw_291 kw_292 kw_10 kw_293 0 rfl rfl rfl (by decide +kernel) ⟨by decide, by decide⟩ rfl (Nat.le_of_ble_eq_true rfl) d_Rm_lastYearOf_28 ⟨by decide, by decide⟩) hS (fun r1 M1 H locs hp hM hS => ?_)
        obtain ⟨e_l, e_M⟩ := hp
        have hM : xh G M H := e_M ▸ hM
        subst e_l
        refine va_mmax hx hb (hml.trans hl.1.symm) hown (hw _ kw_294) (hw _ kJ_max') (hw _ kJ_M) (hw _ kJ_max) (by decide) (Nat.le_of_ble_eq_true rfl) (by decide) (by decide) d_Rm_lastYearOf_31 ?_
        refine W.eq (g2 := F0 m 34 ls [.int (zMax (zLst (zln u) b i) (zst u i + nI (zln u i) - 1))]) rfl ?_
        refine lv_istore_n (lv' := [(2, .int (zMax (zLst (zln u) b i) (zst u i + nI (zln u i) - 1))), (0, .ref (ad 0)), (1, .int (nI (zMk b (zrn u)))), (3, .int (nI i))]) hx hb d_Rm_lastYearOf_34 rfl hl (by decide) rfl (fun ls hl => ?_)
        refine lv_iinc (v := (nI (i + 1))) (lv' := [(3, .int (nI (i + 1))), (2, .int (zMax (zLst (zln u) b i) (zst u i + nI (zln u i) - 1))), (0, .ref (ad 0)), (1, .int (nI (zMk b (zrn u))))]) hx hb d_Rm_lastYearOf_35 hl (k := 3) rfl (nI_1 i) (by decide) rfl (fun ls hl => ?_)
        refine lv_goto (tgt := 4) hx hb d_Rm_lastYearOf_38 (by decide) ?_
        have hbi := (hbit i hir).mp c_18
        have hst := (hb9 i hir).resolve_left hbi
        have hz : zLst (zln u) b (i + 1) = zMax (zLst (zln u) b i) (zst u i + nI (zln u i) - 1) := by show (if b i = -1 then _ else _) = _; rw [if_neg hbi, hst]
        exact ih (i + 1) hir (by omega) _ _ _ hM hS (by rw [hz]; exact lv_sub hl [2, 3, 1, 0] rfl)

set_option maxHeartbeats 4000000 in
set_option maxRecDepth 100000 in
theorem c_Rm_lastYearOf (l : Launch) (G : xG) (M : xM) (ad : Nat → Nat) (u : zS) (hC : Core G M ad u) (hO : zOk u) (b : Nat → Int32) (hb9 : ∀ i, i < zrn u → b i = -1 ∨ b i = zst u i)  : Met l y_Rm_lastYearOf w_Rm_lastYearOf ({ frames := 1, cells := 0, slots := 0, locals := 25 }) (xP G [.ref (ad 0), .int (nI (zMk b (zrn u)))] M) (xQi G (fun v M' => v = zLst (zln u) b (zrn u) ∧ M' = M)) 0 0 (xF G) := by
  refine x_met (by decide) (Nat.le_of_ble_eq_true rfl) ?_
  intro p e s m below meth c ls hE hin hl hM hK hS
  obtain ⟨hx, hb, hr, hml, hown, hw, hlocks⟩ := id hE
  have hl : lv_has ls 4 [(0, .ref (ad 0)), (1, .int (nI (zMk b (zrn u))))] := hl
  refine lv_iconst (v := 0) hx hb d_Rm_lastYearOf_0 (by decide) ?_
  refine lv_istore_n (lv' := [(2, .int 0), (0, .ref (ad 0)), (1, .int (nI (zMk b (zrn u))))]) hx hb d_Rm_lastYearOf_1 rfl hl (by decide) rfl (fun ls hl => ?_)
  refine lv_iconst (v := 0) hx hb d_Rm_lastYearOf_2 (by decide) ?_
  refine lv_istore_n (lv' := [(3, .int 0), (2, .int 0), (0, .ref (ad 0)), (1, .int (nI (zMk b (zrn u))))]) hx hb d_Rm_lastYearOf_3 rfl hl (by decide) rfl (fun ls hl => ?_)
  exact lp_Rm_lastYearOf ad u hC hO b hb9 hE hK (zrn u + 1) 0 (by omega) (by omega) _ _ _ hM hS (lv_sub hl [2, 3, 1, 0] rfl)
end
section
section ZP
theorem xOff.refl {r : Nat} {M : xM} : xOff r M M := fun _ _ _ h _ => h
theorem xOff.put {r : Nat} {M M1 M2 : xM} {a : Nat} {e : va_E} {x : Option (Nat × va_E)} (h : xOff r M M1) (ha : M1 a = some (r, e)) (hm : M2 = va_up M1 a x) : xOff r M M2 := fun b r2 e2 hb hn => xw_upE hm (h b r2 e2 hb hn) ha hn
theorem xOff.new {r : Nat} {M M1 M2 : xM} {a : Nat} {x : Option (Nat × va_E)} (h : xOff r M M1) (ha : M1 a = none) (hm : M2 = va_up M1 a x) : xOff r M M2 := fun b r2 e2 hb hn => xw_newE hm (h b r2 e2 hb hn) ha
def xOff3 (r1 r2 r3 : Nat) (M M' : xM) : Prop := ∀ (b r : Nat) (e : va_E), M b = some (r, e) → r ≠ r1 → r ≠ r2 → r ≠ r3 → M' b = some (r, e)
theorem xOff3.refl {r1 r2 r3 : Nat} {M : xM} : xOff3 r1 r2 r3 M M := fun _ _ _ h _ _ _ => h
theorem xOff3.put {r r1 r2 r3 : Nat} {M M1 M2 : xM} {a : Nat} {e : va_E} {x : Option (Nat × va_E)} (h : xOff3 r1 r2 r3 M M1) (ha : M1 a = some (r, e)) (hm : M2 = va_up M1 a x) (hr : r = r1 ∨ r = r2 ∨ r = r3) : xOff3 r1 r2 r3 M M2 := fun b r9 e9 hb n1 n2 n3 => xw_upE hm (h b r9 e9 hb n1 n2 n3) ha (by omega)
theorem Core.keepM {G : xG} {M M' : xM} {ad : Nat → Nat} {u : zS} (h : Core G M ad u) (hr : zrn u ≤ 10) (hm : zmn u < 8) (hk : xOff3 5 (60 + zmn u) (70 + zmn u) M M') : Core G M' ad u := by
  obtain ⟨h0, h1, h2, h3, h4, h8, hR, hM⟩ := h
  refine ⟨hk _ _ _ h0 (by omega) (by omega) (by omega), hk _ _ _ h1 (by omega) (by omega) (by omega), hk _ _ _ h2 (by omega) (by omega) (by omega), hk _ _ _ h3 (by omega) (by omega) (by omega), hk _ _ _ h4 (by omega) (by omega) (by omega), hk _ _ _ h8 (by omega) (by omega) (by omega), fun i hi => ⟨hk _ _ _ (hR i hi).1 (by omega) (by omega) (by omega), hk _ _ _ (hR i hi).2 (by omega) (by omega) (by omega)⟩, fun j hj => ?_⟩
  obtain ⟨m1, m2, V, D, m3, m4, m5⟩ := hM j hj
  exact ⟨hk _ _ _ m1 (by omega) (by omega) (by omega), hk _ _ _ m2 (by omega) (by omega) (by omega), V, D, hk _ _ _ m3 (by omega) (by omega) (by omega), hk _ _ _ m4 (by omega) (by omega) (by omega), m5⟩
def uMas (u : zS) (B : Nat → Int32) : zS := (u.1, u.2.1, (zmn u + 1, va_up (zms u) (zmn u) B), u.2.2.2)
def fMas (u : zS) (set : Int32) : zR := if 8 ≤ zmn u then (1, 0) else if set < 0 ∨ 1023 < set then (2, 0) else if zMk (zB u set) (zrn u) = 0 then (0, -1) else (0, nI (zmn u))
theorem Core.mas {G : xG} {M M5 M6 M7 : xM} {ad : Nat → Nat} {u : zS} {B V D : Nat → Int32} {q a va da : Nat} (hC : Core G M ad u) (hs : Scr G M ad) (hr : zrn u ≤ 10) (hm : zmn u < 8)
    (hk : ∀ (b r : Nat) (e : va_E), M b = some (r, e) → r ≠ 5 → r ≠ 40 + zmn u → r ≠ 60 + zmn u → r ≠ 70 + zmn u → M5 b = some (r, e)) (h5 : ∃ z : zQ, M5 (ad 5) = some (5, eRob z))
    (c1 : M5 q = some (40 + zmn u, .inr (3, [.ref a, .int (zFst B 10), .int (zLst (zln u) B 10), .int (nI (zCnt B 10)), .ref va, .ref da]))) (c2 : M5 a = some (50 + zmn u, eI G 10 B)) (c3 : M5 va = some (60 + zmn u, eI G (zYn (zln u) B) V)) (c4 : M5 da = some (70 + zmn u, eI G (zYn (zln u) B) D))
    (c5 : ∀ k, k < zYn (zln u) B → V k = zAq (zGat (zln u) (zev u) B (zFst B 10 + nI k) (-1) 10) ∧ D k = (zGat (zln u) (zev u) B (zFst B 10 + nI k) (-1) 10).1)
    (e6 : M6 = va_up M5 (ad 3) (some (3, eQ (gM G) 8 (va_up (zrw ad 40 (zmn u)) (zmn u) (some q))))) (e7 : M7 = va_up M6 (ad 0) (some (0, .inr (4, [.ref (ad 1), .int (nI (zpn u)), .ref (ad 2), .int (nI (zrn u)), .ref (ad 3), .int (nI (zmn u + 1)), .ref (ad 4), .ref (ad 5), .ref (ad 6), .ref (ad 7), .ref (ad 8), .ref (ad 9)])))) :
    ∃ ad' : Nat → Nat, Core G M7 ad' (uMas u B) ∧ Scr G M7 ad' ∧ xK100 M M7 ∧ ∀ r, r < 40 ∨ 80 ≤ r → ad' r = ad r := by
  obtain ⟨ad', had⟩ : ∃ z : Nat → Nat, z = va_up (va_up (va_up (va_up ad (40 + zmn u) q) (50 + zmn u) a) (60 + zmn u) va) (70 + zmn u) da := ⟨_, rfl⟩
  have hao : ∀ r, r ≠ 40 + zmn u → r ≠ 50 + zmn u → r ≠ 60 + zmn u → r ≠ 70 + zmn u → ad' r = ad r := fun r n1 n2 n3 n4 => by rw [had, va_up_ne _ _ n4, va_up_ne _ _ n3, va_up_ne _ _ n2, va_up_ne _ _ n1]
  have a1 : ad' (40 + zmn u) = q := by rw [had, va_up_ne _ _ (by omega), va_up_ne _ _ (by omega), va_up_ne _ _ (by omega), va_up_self]
  have a2 : ad' (50 + zmn u) = a := by rw [had, va_up_ne _ _ (by omega), va_up_ne _ _ (by omega), va_up_self]
  have a3 : ad' (60 + zmn u) = va := by rw [had, va_up_ne _ _ (by omega), va_up_self]
  have a4 : ad' (70 + zmn u) = da := by rw [had, va_up_self]
  have lo : ∀ r, r < 40 → ad' r = ad r := fun r h => hao r (by omega) (by omega) (by omega) (by omega)
  obtain ⟨h0, h1, h2, h3, h4, h8, hR, hM⟩ := hC
  have m5 := hk _ _ _ h3 (by omega) (by omega) (by omega) (by omega)
  have k6 : ∀ (b r : Nat) (e : va_E), M5 b = some (r, e) → r ≠ 3 → M6 b = some (r, e) := fun b r e hb hn => xw_upE e6 hb m5 hn
  have o6 := k6 _ _ _ (hk _ _ _ h0 (by omega) (by omega) (by omega) (by omega)) (by omega)
  have k7 : ∀ (b r : Nat) (e : va_E), M5 b = some (r, e) → r ≠ 3 → r ≠ 0 → M7 b = some (r, e) := fun b r e hb n1 n2 => xw_upE e7 (k6 _ _ _ hb n1) o6 n2
  have k : ∀ (b r : Nat) (e : va_E), M b = some (r, e) → r ≠ 5 → r ≠ 40 + zmn u → r ≠ 60 + zmn u → r ≠ 70 + zmn u → r ≠ 3 → r ≠ 0 → M7 b = some (r, e) := fun b r e hb n1 n2 n3 n4 n5 n6 => k7 _ _ _ (hk _ _ _ hb n1 n2 n3 n4) n5 n6
  refine ⟨ad', ⟨?_, ?_, ?_, ?_, ?_, ?_, fun i hi => ?_, fun j hj => ?_⟩, ?_, fun b r e hb hr2 => k b r e hb (by omega) (by omega) (by omega) (by omega) (by omega) (by omega), fun r hr2 => hao r (by omega) (by omega) (by omega) (by omega)⟩
  · unfold CoreO
    rw [lo 0 (by omega), lo 1 (by omega), lo 2 (by omega), lo 3 (by omega), lo 4 (by omega), lo 5 (by omega), lo 6 (by omega), lo 7 (by omega), lo 8 (by omega), lo 9 (by omega)]
    exact xw_atE e7
  · rw [lo 1 (by omega)]
    exact k _ _ _ h1 (by omega) (by omega) (by omega) (by omega) (by omega) (by omega)
  · rw [lo 2 (by omega)]
    have e9 : zrw ad' 20 (zrn u) = zrw ad 20 (zrn u) := by
      funext i
      unfold zrw
      by_cases h : i < zrn u
      · rw [if_pos h, if_pos h, lo (20 + i) (by omega)]
      · rw [if_neg h, if_neg h]
    show M7 (ad 2) = some (2, eQ (gR G) 10 (zrw ad' 20 (zrn u)))
    rw [e9]
    exact k _ _ _ h2 (by omega) (by omega) (by omega) (by omega) (by omega) (by omega)
  · rw [lo 3 (by omega)]
    have e9 : zrw ad' 40 (zmn u + 1) = va_up (zrw ad 40 (zmn u)) (zmn u) (some q) := by
      rw [zrw_up, had, zrw_off fun i hi => by omega, zrw_off fun i hi => by omega, zrw_off fun i hi => by omega]
    show M7 (ad 3) = some (3, eQ (gM G) 8 (zrw ad' 40 (zmn u + 1)))
    rw [e9]
    exact xw_upE e7 (xw_atE e6) o6 (by omega)
  · rw [lo 4 (by omega)]
    exact k _ _ _ h4 (by omega) (by omega) (by omega) (by omega) (by omega) (by omega)
  · rw [lo 8 (by omega)]
    have e9 : zrw ad' 10 8 = zrw ad 10 8 := by
      funext i
      unfold zrw
      by_cases h : i < 8
      · rw [if_pos h, if_pos h, lo (10 + i) (by omega)]
      · rw [if_neg h, if_neg h]
    rw [e9]
    exact k _ _ _ h8 (by omega) (by omega) (by omega) (by omega) (by omega) (by omega)
  · have hi3 : i < zrn u := hi
    unfold CoreR
    rw [lo (20 + i) (by omega), lo (30 + i) (by omega)]
    exact ⟨k _ _ _ (hR i hi3).1 (by omega) (by omega) (by omega) (by omega) (by omega) (by omega), k _ _ _ (hR i hi3).2 (by omega) (by omega) (by omega) (by omega) (by omega) (by omega)⟩
  · by_cases hj2 : j = zmn u
    · subst hj2
      have s1 : zms (uMas u B) (zmn u) = B := va_up_self _ _ _
      unfold CoreM
      rw [a1, a2, a3, a4, s1]
      exact ⟨k7 _ _ _ c1 (by omega) (by omega), k7 _ _ _ c2 (by omega) (by omega), V, D, k7 _ _ _ c3 (by omega) (by omega), k7 _ _ _ c4 (by omega) (by omega), c5⟩
    · have hj3 : j < zmn u := by
        have : j < zmn u + 1 := hj
        omega
      have s1 : zms (uMas u B) j = zms u j := va_up_ne _ _ hj2
      obtain ⟨m1, m2, V2, D2, m3, m4, m5⟩ := hM j hj3
      unfold CoreM
      rw [hao (40 + j) (by omega) (by omega) (by omega) (by omega), hao (50 + j) (by omega) (by omega) (by omega) (by omega), hao (60 + j) (by omega) (by omega) (by omega) (by omega), hao (70 + j) (by omega) (by omega) (by omega) (by omega), s1]
      exact ⟨k _ _ _ m1 (by omega) (by omega) (by omega) (by omega) (by omega) (by omega), k _ _ _ m2 (by omega) (by omega) (by omega) (by omega) (by omega) (by omega), V2, D2, k _ _ _ m3 (by omega) (by omega) (by omega) (by omega) (by omega) (by omega), k _ _ _ m4 (by omega) (by omega) (by omega) (by omega) (by omega) (by omega), m5⟩
  · obtain ⟨-, ⟨q6, s6⟩, ⟨q7, s7⟩, ⟨f, s9⟩, sg⟩ := hs
    obtain ⟨z, hz⟩ := h5
    refine ⟨⟨z, ?_⟩, ⟨q6, ?_⟩, ⟨q7, ?_⟩, ⟨f, ?_⟩, fun i hi => ?_⟩
    · rw [lo 5 (by omega)]; exact k7 _ _ _ hz (by omega) (by omega)
    · rw [lo 6 (by omega)]; exact k _ _ _ s6 (by omega) (by omega) (by omega) (by omega) (by omega) (by omega)
    · rw [lo 7 (by omega)]; exact k _ _ _ s7 (by omega) (by omega) (by omega) (by omega) (by omega) (by omega)
    · rw [lo 9 (by omega)]; exact k _ _ _ s9 (by omega) (by omega) (by omega) (by omega) (by omega) (by omega)
    · obtain ⟨g, hg⟩ := sg i hi
      refine ⟨g, ?_⟩
      rw [lo (10 + i) (by omega)]
      exact k _ _ _ hg (by omega) (by omega) (by omega) (by omega) (by omega) (by omega)
end ZP
end
section
set_option maxHeartbeats 4000000 in
set_option maxRecDepth 100000 in
theorem lp_Rm_startsOf {p : Program} {l : Launch} {e : Env} {s : State} {m : MethodId} {below : List Frame} {meth : Method} {c : Code} {args : Array Value} {G : xG} {M : xM} (ad : Nat → Nat) (u : zS) (hC : Core G M ad u) (hO : zOk u) (b : Nat → Int32) (hb9 : ∀ i, i < zrn u → b i = -1 ∨ b i = zst u i) (hge : ∀ k, zrn u ≤ k → b k = -1) (r0 q : Nat) (hqn : M q = none) (hE : xE p s m args meth c b_Rm_startsOf (some (.array .int)) 4 R_Rm) (hK : KX G s) : ∀ (n i : Nat), i ≤ zrn u → zrn u + 1 ≤ i + n → ∀ (F : Nat → Int32), (∀ k, k < 10 → F k = if k < i then b k else -1) → ∀ (H : Heap) (locs : List Loc) (ls : Array Slot), xh G (va_up M q (some (r0, eI G 10 F))) H → va_S (xF G) s.heap H locs → lv_has ls 4 [(0, .ref (ad 0)), (1, .int (nI (zMk b (zrn u)))), (2, .ref q), (3, .int (nI i))] → W p l e ({ frames := 1, cells := 1, slots := 10, locals := 40 }) s m args below meth c H locs 1 10 (MQ below (xQr G (fun a M' => M a = none ∧ ∃ F : Nat → Int32, (∀ k, k < 10 → F k = b k) ∧ M' = va_up M a (some (r0, eI G 10 F)))) args s 1 10 (xF G)) (F0 m 12 ls []) := by
  obtain ⟨hx, hb, hr, hml, hown, hw, hlocks⟩ := id hE
  have hrn : zrn u ≤ 10 := hO.2.2.1
  have hbit : ∀ i, i < zrn u → (((nI (zMk b (zrn u)) >>> (nI i &&& 31)) &&& 1) = 1 ↔ b i ≠ -1) := fun i hi => by
    have hlt : zMk b (zrn u) < 1024 := Nat.lt_of_lt_of_le (zMk_lt b _) (Nat.pow_le_pow_right (by decide) hrn : 2 ^ zrn u ≤ 2 ^ 10)
    rw [z_bit i (by omega) _ hlt, zMk_bit b _ i hi]
    by_cases h9 : b i = -1
    · rw [if_pos h9]
      exact ⟨fun h8 => absurd h8 (by decide), fun h8 => absurd h9 h8⟩
    · rw [if_neg h9]
      exact ⟨fun _ => h9, fun _ => rfl⟩
  intro n
  induction n with
  | zero =>
    intro i h1 h2
    exact absurd h2 (by omega)
  | succ n ih =>
    intro i hi hin F hF H locs ls hM hS hl
    obtain ⟨Mi, eMi⟩ : ∃ z : xM, z = va_up M q (some (r0, eI G 10 F)) := ⟨_, rfl⟩
    rw [← eMi] at hM
    have c_o : Mi (ad 0) = some (0, .inr (4, [.ref (ad 1), .int (nI (zpn u)), .ref (ad 2), .int (nI (zrn u)), .ref (ad 3), .int (nI (zmn u)), .ref (ad 4), .ref (ad 5), .ref (ad 6), .ref (ad 7), .ref (ad 8), .ref (ad 9)])) := xw_newE eMi hC.1 hqn
    have c_rows := xw_newE eMi hC.2.2.1 hqn
    have c_q := xw_atE eMi
    refine lv_iload_n hx hb d_Rm_startsOf_12 rfl (lv_at hl 3 rfl) ?_
    refine lv_aload_n hx hb d_Rm_startsOf_13 rfl (lv_at hl 0 rfl) ?_
    refine x_get (C := R_Rm) (T := F_Rm) (N := 12) hx hb hw i_Rm hown hK.1 hM c_o rfl 3 (by decide) (hw _ kw_68) rfl rfl d_Rm_startsOf_14 ?_
    refine lv_icmp_ge (tgt := 47) hx hb d_Rm_startsOf_17 (by decide) (fun c_17 => ?_) (fun c_17 => ?_)
    · have h9 : zrn u ≤ i := (nI_leI (by omega) (by omega)).mp c_17
      refine lv_aload_n hx hb d_Rm_startsOf_47 rfl (lv_at hl 2 rfl) ?_
      exact x_rr hE rfl (Or.inr ⟨_, rfl⟩) hM hS ⟨hqn, F, fun k hk2 => by
        rw [hF k hk2]
        by_cases h8 : k < i
        · rw [if_pos h8]
        · rw [if_neg h8, hge k (by omega)], eMi⟩ (by decide) (by decide) d_Rm_startsOf_48
    · have hir : i < zrn u := Nat.not_le.mp (fun h9 => c_17 ((nI_leI (by omega) (by omega)).mpr h9))
      refine lv_iload_n hx hb d_Rm_startsOf_20 rfl (lv_at hl 1 rfl) ?_
      refine lv_iload_n hx hb d_Rm_startsOf_21 rfl (lv_at hl 3 rfl) ?_
      refine lv_ishr hx hb d_Rm_startsOf_22 ?_
      refine lv_iconst (v := 1) hx hb d_Rm_startsOf_23 (by decide) ?_
      refine lv_iand hx hb d_Rm_startsOf_24 ?_
      refine lv_iconst (v := 1) hx hb d_Rm_startsOf_25 (by decide) ?_
      refine lv_icmp_ne (tgt := 41) hx hb d_Rm_startsOf_26 (by decide) (fun c_26 => ?_) (fun c_26 => ?_)
      · refine lv_iinc (v := (nI (i + 1))) (lv' := [(3, .int (nI (i + 1))), (0, .ref (ad 0)), (1, .int (nI (zMk b (zrn u)))), (2, .ref q)]) hx hb d_Rm_startsOf_41 hl (k := 3) rfl (nI_1 i) (by decide) rfl (fun ls hl => ?_)
        refine lv_goto (tgt := 12) hx hb d_Rm_startsOf_44 (by decide) ?_
        have hbi : b i = -1 := Classical.byContradiction fun h9 => c_26 ((hbit i hir).mpr h9)
        exact ih (i + 1) hir (by omega) F (fun k hk2 => by
          rw [hF k hk2]
          by_cases h9 : k < i
          · rw [if_pos h9, if_pos (by omega)]
          · rw [if_neg h9]
            by_cases h8 : k = i
            · subst h8
              rw [if_pos (by omega), hbi]
            · rw [if_neg (by omega)]) _ _ _ (by rw [← eMi]; exact hM) hS (lv_sub hl [1, 2, 3, 0] rfl)
      · refine lv_aload_n hx hb d_Rm_startsOf_29 rfl (lv_at hl 2 rfl) ?_
        refine lv_iload_n hx hb d_Rm_startsOf_30 rfl (lv_at hl 3 rfl) ?_
        refine lv_aload_n hx hb d_Rm_startsOf_31 rfl (lv_at hl 0 rfl) ?_
        refine x_get (C := R_Rm) (T := F_Rm) (N := 12) hx hb hw i_Rm hown hK.1 hM c_o rfl 2 (by decide) (hw _ kw_67) rfl rfl d_Rm_startsOf_32 ?_
        refine lv_iload_n hx hb d_Rm_startsOf_35 rfl (lv_at hl 3 rfl) ?_
        have hRi := hC.2.2.2.2.2.2.1 i hir
        have c_row := xw_newE eMi hRi.1 hqn
        refine x_aldq (v := .ref (ad (20 + i))) hx hb hK.1 hM c_rows 2 rfl rfl (by omega) (by omega) (zrw_lt hir) d_Rm_startsOf_36 ?_
        refine x_getN (C := R_Row) (T := F_Row) (N := 2) (host := R_Rm) hx hb hw i_Row hown hK.1 hM c_row rfl 1 (by decide) (va_Nw.use rfl (hK.2.1.1 (97, R_Row, "start", "I") (by decide))) rfl rfl d_Rm_startsOf_37 ?_
        refine x_iast hx hb hK.1 hM hS c_q 0 rfl rfl (by omega) (by omega) d_Rm_startsOf_40 (fun H locs hM hS hz => ?_)
        have hM : xh G (va_up Mi q (some (r0, .inl (gI G, 10, .inl (upd F i (zst u i)))))) H := hM
        obtain ⟨Mi_1, eMi_1⟩ : ∃ z : xM, z = va_up Mi q (some (r0, .inl (gI G, 10, .inl (upd F i (zst u i))))) := ⟨_, rfl⟩
        rw [← eMi_1] at hM
        have c_q := xw_atE eMi_1
        refine lv_iinc (v := (nI (i + 1))) (lv' := [(3, .int (nI (i + 1))), (0, .ref (ad 0)), (1, .int (nI (zMk b (zrn u)))), (2, .ref q)]) hx hb d_Rm_startsOf_41 hl (k := 3) rfl (nI_1 i) (by decide) rfl (fun ls hl => ?_)
        refine lv_goto (tgt := 12) hx hb d_Rm_startsOf_44 (by decide) ?_
        have hst := (hb9 i hir).resolve_left ((hbit i hir).mp c_26)
        exact ih (i + 1) hir (by omega) (upd F i (zst u i)) (fun k hk2 => by
          by_cases h8 : k = i
          · subst h8
            rw [pk_us, if_pos (by omega), hst]
          · rw [pk_un h8, hF k hk2]
            by_cases h9 : k < i
            · rw [if_pos h9, if_pos (by omega)]
            · rw [if_neg h9, if_neg (by omega)]) _ _ _ (by rw [eMi_1, eMi, bx_uu] at hM; exact hM) hS (lv_sub hl [1, 2, 3, 0] rfl)

set_option maxHeartbeats 4000000 in
set_option maxRecDepth 100000 in
theorem c_Rm_startsOf (l : Launch) (G : xG) (M : xM) (ad : Nat → Nat) (u : zS) (hC : Core G M ad u) (hO : zOk u) (b : Nat → Int32) (hb9 : ∀ i, i < zrn u → b i = -1 ∨ b i = zst u i) (hge : ∀ k, zrn u ≤ k → b k = -1) (r0 : Nat) : Met l y_Rm_startsOf w_Rm_startsOf ({ frames := 1, cells := 1, slots := 10, locals := 40 }) (xP G [.ref (ad 0), .int (nI (zMk b (zrn u)))] M) (xQr G (fun a M' => M a = none ∧ ∃ F : Nat → Int32, (∀ k, k < 10 → F k = b k) ∧ M' = va_up M a (some (r0, eI G 10 F)))) 1 10 (xF G) := by
  refine x_met (by decide) (Nat.le_of_ble_eq_true rfl) ?_
  intro p e s m below meth c ls hE hin hl hM hK hS
  obtain ⟨hx, hb, hr, hml, hown, hw, hlocks⟩ := id hE
  have hl : lv_has ls 4 [(0, .ref (ad 0)), (1, .int (nI (zMk b (zrn u))))] := hl
  refine lv_bipush (v := 10) hx hb d_Rm_startsOf_0 (by decide) ?_
  refine x_newa (r0) (atype := .int) (a0 := (10, .inl (fun _ => 0))) (N' := 10) hx hb (hw _ kw_48) hK.1 hM hS 0 rfl (vp_cell_i _ _ _) rfl (by decide) (show 10 * 4 ≤ _ by omega) (by decide) (by decide) d_Rm_startsOf_2 (fun q H hn_q hM hS => ?_)
  have hM : xh G (va_up M q (some (r0, .inl (gI G, 10, .inl (fun _ => 0))))) H := hM
  obtain ⟨M_1, eM_1⟩ : ∃ z : xM, z = va_up M q (some (r0, .inl (gI G, 10, .inl (fun _ => 0)))) := ⟨_, rfl⟩
  rw [← eM_1] at hM
  have k_ad0 := xw_newE eM_1 hC.1 hn_q
  have c_q := xw_atE eM_1
  refine lv_astore_n (lv' := [(2, .ref q), (0, .ref (ad 0)), (1, .int (nI (zMk b (zrn u))))]) hx hb d_Rm_startsOf_4 rfl hl (by decide) rfl (fun ls hl => ?_)
  refine lv_aload_n hx hb d_Rm_startsOf_5 rfl (lv_at hl 0 rfl) ?_
  refine lv_iconst (v := (-1)) hx hb d_Rm_startsOf_6 (by decide) ?_
  refine x_cv (x_runS (As := [.ref q, .int (-1)]) (rest := []) hE hK hM hl.1 (c_JA_fill l G M_1 q r0 10 (by decide) (-1) (fun _ => 0) c_q) kw_279 kw_280 kw_14 kw_281 2 rfl rfl rfl (by decide +kernel) ⟨by decide, by decide⟩ rfl (Nat.le_of_ble_eq_true rfl) d_Rm_startsOf_7 ⟨by decide, by decide⟩) hS (fun M1 H locs hp hM hS => ?_)
  obtain ⟨F, hF, e_M⟩ := hp
  have hM : xh G (va_up M q (some (r0, eI G 10 F))) H := by rw [e_M, eM_1, bx_uu] at hM; exact hM
  refine lv_iconst (v := 0) hx hb d_Rm_startsOf_10 (by decide) ?_
  refine lv_istore_n (lv' := [(3, .int 0), (2, .ref q), (0, .ref (ad 0)), (1, .int (nI (zMk b (zrn u))))]) hx hb d_Rm_startsOf_11 rfl hl (by decide) rfl (fun ls hl => ?_)
  exact lp_Rm_startsOf ad u hC hO b hb9 hge r0 q hn_q hE hK (zrn u + 1) 0 (by omega) (by omega) F (fun k hk2 => by rw [hF k hk2, if_neg (by omega)]) _ _ _ hM hS (lv_sub hl [2, 3, 1, 0] rfl)

set_option maxHeartbeats 4000000 in
set_option maxRecDepth 100000 in
theorem c_Men_init (l : Launch) (G : xG) (M : xM) (g r sa rv rd : Nat) (f l0 nn : Int32) (h1 : rv ≠ r) (h2 : rd ≠ r) (h3 : rv ≠ rd) (hY : (l0 - f + 1).toNatClampNeg ≤ 530) (hg : M g = some (r, .inr (3, [.null, .int 0, .int 0, .int 0, .null, .null]))) : Met l y_Men_init w_Men_init ({ frames := 1, cells := 2, slots := 1060, locals := 40 }) (xP G [.ref g, .ref sa, .int f, .int l0, .int nn] M) (xQv G (fun M' => xOff r M M' ∧ ∃ va da, M' g = some (r, .inr (3, [.ref sa, .int f, .int l0, .int nn, .ref va, .ref da])) ∧ M' va = some (rv, eI G (l0 - f + 1).toNatClampNeg (fun _ => 0)) ∧ M' da = some (rd, eI G (l0 - f + 1).toNatClampNeg (fun _ => 0)))) 2 1060 (xF G) := by
  refine x_met (by decide) (Nat.le_of_ble_eq_true rfl) ?_
  intro p e s m below meth c ls hE hin hl hM hK hS
  obtain ⟨hx, hb, hr, hml, hown, hw, hlocks⟩ := id hE
  have hl : lv_has ls 6 [(0, .ref g), (1, .ref sa), (2, .int f), (3, .int l0), (4, .int nn)] := hl
  refine lv_aload_n hx hb d_Men_init_0 rfl (lv_at hl 0 rfl) ?_
  refine W.objInit hx hb hown (hw _ kw_306) (hw _ kw_22) (hw _ kw_23) rfl (by rw [hml]; exact hl.1) rfl d_Men_init_1 (Nat.le_of_ble_eq_true rfl) (Nat.le_of_ble_eq_true rfl) ?_
  refine W.eq (g2 := F0 m 4 ls []) rfl ?_
  have hof : xOff r M M := xOff.refl
  refine lv_aload_n hx hb d_Men_init_4 rfl (lv_at hl 0 rfl) ?_
  refine lv_aload_n hx hb d_Men_init_5 rfl (lv_at hl 1 rfl) ?_
  refine x_putF (C := R_Men) (T := F_Men) (N := 6) (ty := .array (.int)) (v := .ref sa) hx hb hw i_Men t_Men t_Men_ok n_Men hown hK.1 hM hS hg rfl 0 (by decide) (hw _ kw_308) rfl rfl hin rfl (by decide +kernel) rfl rfl (Nat.le_of_ble_eq_true rfl) d_Men_init_6 (fun H locs hM hS hz => ?_)
  have hM : xh G (va_up M g (some (r, .inr (3, [.ref sa, .int 0, .int 0, .int 0, .null, .null])))) H := hM
  obtain ⟨M_1, eM_1⟩ : ∃ z : xM, z = va_up M g (some (r, .inr (3, [.ref sa, .int 0, .int 0, .int 0, .null, .null]))) := ⟨_, rfl⟩
  rw [← eM_1] at hM
  have hof := hof.put hg eM_1
  have hg := xw_atE eM_1
  refine lv_aload_n hx hb d_Men_init_9 rfl (lv_at hl 0 rfl) ?_
  refine lv_iload_n hx hb d_Men_init_10 rfl (lv_at hl 2 rfl) ?_
  refine x_putF (C := R_Men) (T := F_Men) (N := 6) (ty := .int) (v := .int f) hx hb hw i_Men t_Men t_Men_ok n_Men hown hK.1 hM hS hg rfl 1 (by decide) (hw _ kw_310) rfl rfl hin rfl (by decide +kernel) rfl rfl (Nat.le_of_ble_eq_true rfl) d_Men_init_11 (fun H locs hM hS hz => ?_)
  have hM : xh G (va_up M_1 g (some (r, .inr (3, [.ref sa, .int f, .int 0, .int 0, .null, .null])))) H := hM
  obtain ⟨M_2, eM_2⟩ : ∃ z : xM, z = va_up M_1 g (some (r, .inr (3, [.ref sa, .int f, .int 0, .int 0, .null, .null]))) := ⟨_, rfl⟩
  rw [← eM_2] at hM
  have hof := hof.put hg eM_2
  have hg := xw_atE eM_2
  refine lv_aload_n hx hb d_Men_init_14 rfl (lv_at hl 0 rfl) ?_
  refine lv_iload_n hx hb d_Men_init_15 rfl (lv_at hl 3 rfl) ?_
  refine x_putF (C := R_Men) (T := F_Men) (N := 6) (ty := .int) (v := .int l0) hx hb hw i_Men t_Men t_Men_ok n_Men hown hK.1 hM hS hg rfl 2 (by decide) (hw _ kw_312) rfl rfl hin rfl (by decide +kernel) rfl rfl (Nat.le_of_ble_eq_true rfl) d_Men_init_16 (fun H locs hM hS hz => ?_)
  have hM : xh G (va_up M_2 g (some (r, .inr (3, [.ref sa, .int f, .int l0, .int 0, .null, .null])))) H := hM
  obtain ⟨M_3, eM_3⟩ : ∃ z : xM, z = va_up M_2 g (some (r, .inr (3, [.ref sa, .int f, .int l0, .int 0, .null, .null]))) := ⟨_, rfl⟩
  rw [← eM_3] at hM
  have hof := hof.put hg eM_3
  have hg := xw_atE eM_3
  refine lv_aload_n hx hb d_Men_init_19 rfl (lv_at hl 0 rfl) ?_
  refine lv_iload hx hb d_Men_init_20 (lv_at hl 4 rfl) ?_
  refine x_putF (C := R_Men) (T := F_Men) (N := 6) (ty := .int) (v := .int nn) hx hb hw i_Men t_Men t_Men_ok n_Men hown hK.1 hM hS hg rfl 3 (by decide) (hw _ kw_314) rfl rfl hin rfl (by decide +kernel) rfl rfl (Nat.le_of_ble_eq_true rfl) d_Men_init_22 (fun H locs hM hS hz => ?_)
  have hM : xh G (va_up M_3 g (some (r, .inr (3, [.ref sa, .int f, .int l0, .int nn, .null, .null])))) H := hM
  obtain ⟨M_4, eM_4⟩ : ∃ z : xM, z = va_up M_3 g (some (r, .inr (3, [.ref sa, .int f, .int l0, .int nn, .null, .null]))) := ⟨_, rfl⟩
  rw [← eM_4] at hM
  have hof := hof.put hg eM_4
  have hg := xw_atE eM_4
  refine lv_iconst (v := 0) hx hb d_Men_init_25 (by decide) ?_
  refine lv_iload_n hx hb d_Men_init_26 rfl (lv_at hl 3 rfl) ?_
  refine lv_iload_n hx hb d_Men_init_27 rfl (lv_at hl 2 rfl) ?_
  refine lv_isub hx hb d_Men_init_28 ?_
  refine lv_iconst (v := 1) hx hb d_Men_init_29 (by decide) ?_
  refine lv_iadd hx hb d_Men_init_30 ?_
  refine va_mmax hx hb (hml.trans hl.1.symm) hown (hw _ kw_307) (hw _ kJ_max') (hw _ kJ_M) (hw _ kJ_max) (by decide) (Nat.le_of_ble_eq_true rfl) (by decide) (by decide) d_Men_init_31 ?_
  refine W.eq (g2 := F0 m 34 ls [.int (zMax 0 ((l0 - f) + 1))]) rfl ?_
  refine lv_topi (fun tv etv => ?_)
  have etv : tv = nI (l0 - f + 1).toNatClampNeg := by rw [etv]; exact z_max0 _
  subst etv
  refine lv_istore (lv' := [(5, .int (nI (l0 - f + 1).toNatClampNeg)), (0, .ref g), (1, .ref sa), (2, .int f), (3, .int l0), (4, .int nn)]) hx hb d_Men_init_34 hl (by decide) rfl (fun ls hl => ?_)
  refine lv_aload_n hx hb d_Men_init_36 rfl (lv_at hl 1 rfl) ?_
  refine lv_iload hx hb d_Men_init_37 (lv_at hl 0 rfl) ?_
  refine x_newa (rv) (atype := .int) (a0 := ((l0 - f + 1).toNatClampNeg, .inl (fun _ => 0))) (N' := (l0 - f + 1).toNatClampNeg) hx hb (hw _ kw_48) hK.1 hM hS 0 rfl (vp_cell_i _ _ _) rfl (by omega) (show (l0 - f + 1).toNatClampNeg * 4 ≤ _ by omega) (by decide) (show 0 + (l0 - f + 1).toNatClampNeg ≤ 1060 by omega) d_Men_init_39 (fun va H hn_va hM hS => ?_)
  refine W.widen (k := 1) (n := 530) (by omega) (by omega) ?_
  have hM : xh G (va_up M_4 va (some (rv, .inl (gI G, (l0 - f + 1).toNatClampNeg, .inl (fun _ => 0))))) H := hM
  obtain ⟨M_5, eM_5⟩ : ∃ z : xM, z = va_up M_4 va (some (rv, .inl (gI G, (l0 - f + 1).toNatClampNeg, .inl (fun _ => 0)))) := ⟨_, rfl⟩
  rw [← eM_5] at hM
  have hof := hof.new hn_va eM_5
  have hg := xw_newE eM_5 hg hn_va
  have c_va := xw_atE eM_5
  refine x_putF (C := R_Men) (T := F_Men) (N := 6) (ty := .array (.int)) (v := .ref va) hx hb hw i_Men t_Men t_Men_ok n_Men hown hK.1 hM hS hg rfl 4 (by decide) (hw _ kw_316) rfl rfl hin rfl (by decide +kernel) rfl rfl (Nat.le_of_ble_eq_true rfl) d_Men_init_41 (fun H locs hM hS hz => ?_)
  have hM : xh G (va_up M_5 g (some (r, .inr (3, [.ref sa, .int f, .int l0, .int nn, .ref va, .null])))) H := hM
  obtain ⟨M_6, eM_6⟩ : ∃ z : xM, z = va_up M_5 g (some (r, .inr (3, [.ref sa, .int f, .int l0, .int nn, .ref va, .null]))) := ⟨_, rfl⟩
  rw [← eM_6] at hM
  have hof := hof.put hg eM_6
  have c_va := xw_upE eM_6 c_va hg (by omega)
  have hg := xw_atE eM_6
  refine lv_aload_n hx hb d_Men_init_44 rfl (lv_at hl 1 rfl) ?_
  refine lv_iload hx hb d_Men_init_45 (lv_at hl 0 rfl) ?_
  refine x_newa (rd) (atype := .int) (a0 := ((l0 - f + 1).toNatClampNeg, .inl (fun _ => 0))) (N' := (l0 - f + 1).toNatClampNeg) hx hb (hw _ kw_48) hK.1 hM hS 0 rfl (vp_cell_i _ _ _) rfl (by omega) (show (l0 - f + 1).toNatClampNeg * 4 ≤ _ by omega) (by decide) (show 530 + (l0 - f + 1).toNatClampNeg ≤ 1060 by omega) d_Men_init_47 (fun da H hn_da hM hS => ?_)
  refine W.widen (k := 2) (n := 1060) (by omega) (by omega) ?_
  have hM : xh G (va_up M_6 da (some (rd, .inl (gI G, (l0 - f + 1).toNatClampNeg, .inl (fun _ => 0))))) H := hM
  obtain ⟨M_7, eM_7⟩ : ∃ z : xM, z = va_up M_6 da (some (rd, .inl (gI G, (l0 - f + 1).toNatClampNeg, .inl (fun _ => 0)))) := ⟨_, rfl⟩
  rw [← eM_7] at hM
  have hof := hof.new hn_da eM_7
  have hg := xw_newE eM_7 hg hn_da
  have c_va := xw_newE eM_7 c_va hn_da
  have c_da := xw_atE eM_7
  refine x_putF (C := R_Men) (T := F_Men) (N := 6) (ty := .array (.int)) (v := .ref da) hx hb hw i_Men t_Men t_Men_ok n_Men hown hK.1 hM hS hg rfl 5 (by decide) (hw _ kw_318) rfl rfl hin rfl (by decide +kernel) rfl rfl (Nat.le_of_ble_eq_true rfl) d_Men_init_49 (fun H locs hM hS hz => ?_)
  have hM : xh G (va_up M_7 g (some (r, .inr (3, [.ref sa, .int f, .int l0, .int nn, .ref va, .ref da])))) H := hM
  obtain ⟨M_8, eM_8⟩ : ∃ z : xM, z = va_up M_7 g (some (r, .inr (3, [.ref sa, .int f, .int l0, .int nn, .ref va, .ref da]))) := ⟨_, rfl⟩
  rw [← eM_8] at hM
  have hof := hof.put hg eM_8
  have c_va := xw_upE eM_8 c_va hg (by omega)
  have c_da := xw_upE eM_8 c_da hg (by omega)
  have hg := xw_atE eM_8
  exact x_rv hE rfl hM hS ⟨hof, va, da, hg, c_va, c_da⟩ (by omega) (by omega) d_Men_init_52

set_option maxHeartbeats 4000000 in
set_option maxRecDepth 100000 in
theorem lp_Rm_fillValues {p : Program} {l : Launch} {e : Env} {s : State} {m : MethodId} {below : List Frame} {meth : Method} {c : Code} {args : Array Value} {G : xG} {M : xM} (ad : Nat → Nat) (u : zS) (hC : Core G M ad u) (hO : zOk u) (hm8 : zmn u < 8) (q sa va da : Nat) (B : Nat → Int32) (f l0 nn : Int32) (Y : Nat) (hY : Y ≤ 530) (hsa : M sa = some (50 + zmn u, eI G 10 B)) (hq : M q = some (40 + zmn u, .inr (3, [.ref sa, .int f, .int l0, .int nn, .ref va, .ref da]))) (hE : xE p s m args meth c b_Rm_fillValues none 3 R_Rm) (hK : KX G s) : ∀ (n k : Nat), k ≤ Y → Y + 1 ≤ k + n → ∀ (Mk : xM) (z5 : zQ) (V D : Nat → Int32), xOff3 5 (60 + zmn u) (70 + zmn u) M Mk → Mk (ad 5) = some (5, eRob z5) → Mk va = some (60 + zmn u, eI G Y V) → Mk da = some (70 + zmn u, eI G Y D) → (∀ k', k' < k → V k' = zAq (zGat (zln u) (zev u) B (f + nI k') (-1) (zrn u)) ∧ D k' = (zGat (zln u) (zev u) B (f + nI k') (-1) (zrn u)).1) → ∀ (H : Heap) (locs : List Loc) (ls : Array Slot), xh G Mk H → va_S (xF G) s.heap H locs → lv_has ls 3 [(0, .ref (ad 0)), (1, .ref q), (2, .int (nI k))] → W p l e ({ frames := 3, cells := 0, slots := 0, locals := 70 }) s m args below meth c H locs 0 0 (MQ below (xQv G (fun M' => xOff3 5 (60 + zmn u) (70 + zmn u) M M' ∧ (∃ z : zQ, M' (ad 5) = some (5, eRob z)) ∧ ∃ V D : Nat → Int32, M' va = some (60 + zmn u, eI G Y V) ∧ M' da = some (70 + zmn u, eI G Y D) ∧ ∀ k, k < Y → V k = zAq (zGat (zln u) (zev u) B (f + nI k) (-1) (zrn u)) ∧ D k = (zGat (zln u) (zev u) B (f + nI k) (-1) (zrn u)).1)) args s 0 0 (xF G)) (F0 m 2 ls []) := by
  obtain ⟨hx, hb, hr, hml, hown, hw, hlocks⟩ := id hE
  intro n
  induction n with
  | zero =>
    intro k h1 h2
    exact absurd h2 (by omega)
  | succ n ih =>
    intro k hk hin Mk z5 V D hof c_rob c_va c_da hVD H locs ls hM hS hl
    have hCk : Core G Mk ad u := hC.keepM hO.2.2.1 hm8 hof
    have c_o : Mk (ad 0) = some (0, .inr (4, [.ref (ad 1), .int (nI (zpn u)), .ref (ad 2), .int (nI (zrn u)), .ref (ad 3), .int (nI (zmn u)), .ref (ad 4), .ref (ad 5), .ref (ad 6), .ref (ad 7), .ref (ad 8), .ref (ad 9)])) := hCk.1
    have c_q := hof _ _ _ hq (by omega) (by omega) (by omega)
    have c_sa := hof _ _ _ hsa (by omega) (by omega) (by omega)
    refine lv_iload_n hx hb d_Rm_fillValues_2 rfl (lv_at hl 2 rfl) ?_
    refine lv_aload_n hx hb d_Rm_fillValues_3 rfl (lv_at hl 1 rfl) ?_
    refine x_getN (C := R_Men) (T := F_Men) (N := 6) (host := R_Rm) hx hb hw i_Men hown hK.1 hM c_q rfl 4 (by decide) (va_Nw.use rfl (hK.2.1.1 (145, R_Men, "values", "[I") (by decide))) rfl rfl d_Rm_fillValues_4 ?_
    refine x_alen (v := nI Y) hx hb hK.1 hM c_va 0 rfl rfl d_Rm_fillValues_7 ?_
    refine lv_icmp_ge (tgt := 58) hx hb d_Rm_fillValues_8 (by decide) (fun c_8 => ?_) (fun c_8 => ?_)
    · have h8 : Y ≤ k := (nI_leI (by omega) (by omega)).mp c_8
      exact x_rv hE rfl hM hS ⟨hof, ⟨z5, c_rob⟩, V, D, c_va, c_da, fun k2 h2 => hVD k2 (by omega)⟩ (by omega) (by omega) d_Rm_fillValues_58
    · have hkY : k < Y := Nat.not_le.mp (fun h9 => c_8 ((nI_leI (by omega) (by omega)).mpr h9))
      refine lv_aload_n hx hb d_Rm_fillValues_11 rfl (lv_at hl 0 rfl) ?_
      refine lv_aload_n hx hb d_Rm_fillValues_12 rfl (lv_at hl 1 rfl) ?_
      refine x_getN (C := R_Men) (T := F_Men) (N := 6) (host := R_Rm) hx hb hw i_Men hown hK.1 hM c_q rfl 0 (by decide) (va_Nw.use rfl (hK.2.1.1 (159, R_Men, "starts", "[I") (by decide))) rfl rfl d_Rm_fillValues_13 ?_
      refine lv_aload_n hx hb d_Rm_fillValues_16 rfl (lv_at hl 1 rfl) ?_
      refine x_getN (C := R_Men) (T := F_Men) (N := 6) (host := R_Rm) hx hb hw i_Men hown hK.1 hM c_q rfl 1 (by decide) (va_Nw.use rfl (hK.2.1.1 (134, R_Men, "first", "I") (by decide))) rfl rfl d_Rm_fillValues_17 ?_
      refine lv_iload_n hx hb d_Rm_fillValues_20 rfl (lv_at hl 2 rfl) ?_
      refine lv_iadd hx hb d_Rm_fillValues_21 ?_
      refine lv_iconst (v := (-1)) hx hb d_Rm_fillValues_22 (by decide) ?_
      refine x_cv (x_runV (As := [.ref sa, .int (f + (nI k)), .int (-1)]) (rest := []) hE hK hM hl.1 (c_Rm_gather l G Mk ad u hCk hO sa (50 + zmn u) B (f + nI k) (-1) c_sa (by omega) z5 c_rob) c_o rfl kw_337 kw_339 ks_8 kw_1 kw_340 3 rfl rfl rfl (by decide +kernel) ⟨by decide, by decide⟩ rfl (Nat.le_of_ble_eq_true rfl) d_Rm_fillValues_23 ⟨by decide, by decide⟩) hS (fun M1 H locs hp hM hS => ?_)
      obtain ⟨g, eg⟩ : ∃ z : zQ, z = zGat (zln u) (zev u) B (f + nI k) (-1) (zrn u) := ⟨_, rfl⟩
      rw [← eg] at hp
      have hof := hof.put c_rob hp (Or.inl rfl)
      have c_o := xw_upE hp c_o c_rob (by decide)
      have c_q := xw_upE hp c_q c_rob (by omega)
      have c_sa := xw_upE hp c_sa c_rob (by omega)
      have c_va := xw_upE hp c_va c_rob (by omega)
      have c_da := xw_upE hp c_da c_rob (by omega)
      have c_rob := xw_atE hp
      obtain ⟨Ma, eMa⟩ : ∃ z : xM, z = M1 := ⟨_, rfl⟩
      subst eMa
      refine lv_aload_n hx hb d_Rm_fillValues_26 rfl (lv_at hl 1 rfl) ?_
      refine x_getN (C := R_Men) (T := F_Men) (N := 6) (host := R_Rm) hx hb hw i_Men hown hK.1 hM c_q rfl 4 (by decide) (va_Nw.use rfl (hK.2.1.1 (145, R_Men, "values", "[I") (by decide))) rfl rfl d_Rm_fillValues_27 ?_
      refine lv_iload_n hx hb d_Rm_fillValues_30 rfl (lv_at hl 2 rfl) ?_
      refine lv_aload_n hx hb d_Rm_fillValues_31 rfl (lv_at hl 0 rfl) ?_
      refine x_get (C := R_Rm) (T := F_Rm) (N := 12) hx hb hw i_Rm hown hK.1 hM c_o rfl 7 (by decide) (hw _ kw_72) rfl rfl d_Rm_fillValues_32 ?_
      refine x_ci (x_runV (As := []) (rest := [.int (nI k), .ref va]) hE hK hM hl.1 (c_Rob_answer l G Ma (ad 5) 5 g.1 g.2.1 g.2.2.1 g.2.2.2 c_rob) c_rob rfl kw_355 kw_356 kw_357 kw_2 kw_358 0 rfl rfl rfl (by decide +kernel) ⟨by decide, by decide⟩ rfl (Nat.le_of_ble_eq_true rfl) d_Rm_fillValues_35 ⟨by decide, by decide⟩) hS (fun r2 M1 H locs hp hM hS => ?_)
      obtain ⟨e_r, e_M⟩ := hp
      have hM : xh G Ma H := e_M ▸ hM
      refine x_iast hx hb hK.1 hM hS c_va 0 rfl rfl hkY (by omega) d_Rm_fillValues_38 (fun H locs hM hS hz => ?_)
      have hM : xh G (va_up Ma va (some (60 + zmn u, .inl (gI G, Y, .inl (upd V k r2))))) H := hM
      obtain ⟨Ma_1, eMa_1⟩ : ∃ z : xM, z = va_up Ma va (some (60 + zmn u, .inl (gI G, Y, .inl (upd V k r2)))) := ⟨_, rfl⟩
      rw [← eMa_1] at hM
      have hof := hof.put c_va eMa_1 (by omega)
      have c_o := xw_upE eMa_1 c_o c_va (by omega)
      have c_q := xw_upE eMa_1 c_q c_va (by omega)
      have c_sa := xw_upE eMa_1 c_sa c_va (by omega)
      have c_da := xw_upE eMa_1 c_da c_va (by omega)
      have c_rob := xw_upE eMa_1 c_rob c_va (by omega)
      have c_va := xw_atE eMa_1
      refine lv_aload_n hx hb d_Rm_fillValues_39 rfl (lv_at hl 1 rfl) ?_
      refine x_getN (C := R_Men) (T := F_Men) (N := 6) (host := R_Rm) hx hb hw i_Men hown hK.1 hM c_q rfl 5 (by decide) (va_Nw.use rfl (hK.2.1.1 (152, R_Men, "depths", "[I") (by decide))) rfl rfl d_Rm_fillValues_40 ?_
      refine lv_iload_n hx hb d_Rm_fillValues_43 rfl (lv_at hl 2 rfl) ?_
      refine lv_aload_n hx hb d_Rm_fillValues_44 rfl (lv_at hl 0 rfl) ?_
      refine x_get (C := R_Rm) (T := F_Rm) (N := 12) hx hb hw i_Rm hown hK.1 hM c_o rfl 7 (by decide) (hw _ kw_72) rfl rfl d_Rm_fillValues_45 ?_
      refine x_getN (C := R_Rob) (T := F_Rob) (N := 4) (host := R_Rm) hx hb hw i_Rob hown hK.1 hM c_rob rfl 0 (by decide) (va_Nw.use rfl (hK.2.1.1 (256, R_Rob, "taken", "I") (by decide))) rfl rfl d_Rm_fillValues_48 ?_
      refine x_iast hx hb hK.1 hM hS c_da 0 rfl rfl hkY (by omega) d_Rm_fillValues_51 (fun H locs hM hS hz => ?_)
      have hM : xh G (va_up Ma_1 da (some (70 + zmn u, .inl (gI G, Y, .inl (upd D k g.1))))) H := hM
      obtain ⟨Ma_2, eMa_2⟩ : ∃ z : xM, z = va_up Ma_1 da (some (70 + zmn u, .inl (gI G, Y, .inl (upd D k g.1)))) := ⟨_, rfl⟩
      rw [← eMa_2] at hM
      have hof := hof.put c_da eMa_2 (by omega)
      have c_o := xw_upE eMa_2 c_o c_da (by omega)
      have c_q := xw_upE eMa_2 c_q c_da (by omega)
      have c_sa := xw_upE eMa_2 c_sa c_da (by omega)
      have c_va := xw_upE eMa_2 c_va c_da (by omega)
      have c_rob := xw_upE eMa_2 c_rob c_da (by omega)
      have c_da := xw_atE eMa_2
      refine lv_iinc (v := (nI (k + 1))) (lv' := [(2, .int (nI (k + 1))), (0, .ref (ad 0)), (1, .ref q)]) hx hb d_Rm_fillValues_52 hl (k := 2) rfl (nI_1 k) (by decide) rfl (fun ls hl => ?_)
      refine lv_goto (tgt := 2) hx hb d_Rm_fillValues_55 (by decide) ?_
      exact ih (k + 1) (by omega) (by omega) _ _ _ _ hof c_rob c_va c_da (fun k' hk' => by
        by_cases h9 : k' = k
        · subst h9
          rw [pk_us, pk_us, ← eg]
          exact ⟨e_r, rfl⟩
        · rw [pk_un h9, pk_un h9]
          exact hVD k' (by omega)) _ _ _ hM hS (lv_sub hl [1, 2, 0] rfl)

set_option maxHeartbeats 4000000 in
set_option maxRecDepth 100000 in
theorem c_Rm_fillValues (l : Launch) (G : xG) (M : xM) (ad : Nat → Nat) (u : zS) (hC : Core G M ad u) (hO : zOk u) (hm8 : zmn u < 8) (q sa va da : Nat) (B : Nat → Int32) (f l0 nn : Int32) (Y : Nat) (hY : Y ≤ 530) (hsa : M sa = some (50 + zmn u, eI G 10 B)) (hq : M q = some (40 + zmn u, .inr (3, [.ref sa, .int f, .int l0, .int nn, .ref va, .ref da]))) (z5 : zQ) (h5 : M (ad 5) = some (5, eRob z5)) (V0 D0 : Nat → Int32) (hva : M va = some (60 + zmn u, eI G Y V0)) (hda : M da = some (70 + zmn u, eI G Y D0)) : Met l y_Rm_fillValues w_Rm_fillValues ({ frames := 3, cells := 0, slots := 0, locals := 70 }) (xP G [.ref (ad 0), .ref q] M) (xQv G (fun M' => xOff3 5 (60 + zmn u) (70 + zmn u) M M' ∧ (∃ z : zQ, M' (ad 5) = some (5, eRob z)) ∧ ∃ V D : Nat → Int32, M' va = some (60 + zmn u, eI G Y V) ∧ M' da = some (70 + zmn u, eI G Y D) ∧ ∀ k, k < Y → V k = zAq (zGat (zln u) (zev u) B (f + nI k) (-1) (zrn u)) ∧ D k = (zGat (zln u) (zev u) B (f + nI k) (-1) (zrn u)).1)) 0 0 (xF G) := by
  refine x_met (by decide) (Nat.le_of_ble_eq_true rfl) ?_
  intro p e s m below meth c ls hE hin hl hM hK hS
  obtain ⟨hx, hb, hr, hml, hown, hw, hlocks⟩ := id hE
  have hl : lv_has ls 3 [(0, .ref (ad 0)), (1, .ref q)] := hl
  refine lv_iconst (v := 0) hx hb d_Rm_fillValues_0 (by decide) ?_
  refine lv_istore_n (lv' := [(2, .int 0), (0, .ref (ad 0)), (1, .ref q)]) hx hb d_Rm_fillValues_1 rfl hl (by decide) rfl (fun ls hl => ?_)
  exact lp_Rm_fillValues ad u hC hO hm8 q sa va da B f l0 nn Y hY hsa hq hE hK (Y + 1) 0 (by omega) (by omega) M z5 V0 D0 xOff3.refl h5 hva hda (fun k' hk' => absurd hk' (by omega)) _ _ _ hM hS (lv_sub hl [1, 2, 0] rfl)
end
section
theorem Core.keepQ {G : xG} {M M' : xM} {ad : Nat → Nat} {u : zS} (h : Core G M ad u) (hr : zrn u ≤ 10) (hm : zmn u < 8) (hk : xOff (40 + zmn u) M M') : Core G M' ad u := by
  obtain ⟨h0, h1, h2, h3, h4, h8, hR, hM⟩ := h
  refine ⟨hk _ _ _ h0 (by omega), hk _ _ _ h1 (by omega), hk _ _ _ h2 (by omega), hk _ _ _ h3 (by omega), hk _ _ _ h4 (by omega), hk _ _ _ h8 (by omega), fun i hi => ⟨hk _ _ _ (hR i hi).1 (by omega), hk _ _ _ (hR i hi).2 (by omega)⟩, fun j hj => ?_⟩
  obtain ⟨m1, m2, V, D, m3, m4, m5⟩ := hM j hj
  exact ⟨hk _ _ _ m1 (by omega), hk _ _ _ m2 (by omega), V, D, hk _ _ _ m3 (by omega), hk _ _ _ m4 (by omega), m5⟩

set_option maxHeartbeats 4000000 in
set_option maxRecDepth 100000 in
theorem c_Rm_master (l : Launch) (G : xG) (M : xM) (hst : l.stackTraces = false) (ad : Nat → Nat) (u : zS) (hC : Core G M ad u) (hO : zOk u) (hs : Scr G M ad) (set : Int32) : vx_Met l y_Rm_master w_Rm_master ({ frames := 6, cells := 5, slots := 1100, locals := 110 }) (xP G [.ref (ad 0), .int set] M) (xQi G (fun v M' => fMas u set = (0, v) ∧ ((zMk (zB u set) (zrn u) = 0 ∧ M' = M) ∨ (¬ zMk (zB u set) (zrn u) = 0 ∧ ∃ (B : Nat → Int32) (ad' : Nat → Nat), (∀ i, i < 10 → B i = zB u set i) ∧ Core G M' ad' (uMas u B) ∧ Scr G M' ad' ∧ xK100 M M' ∧ ∀ r, r < 40 ∨ 80 ≤ r → ad' r = ad r)))) (xX G (fun E M' => ((fMas u set = (1, 0) ∧ E = nISE) ∨ (fMas u set = (2, 0) ∧ E = nIAE)) ∧ M' = M)) 5 1100 (xF G) := by
  refine x_metX (by decide) (Nat.le_of_ble_eq_true rfl) ?_
  intro p e s m below meth c ls hE hnx hl hM hK hS
  obtain ⟨hx, hb, hr, hml, hown, hw, hlocks⟩ := id hE
  have h0 := hM
  have hl : lv_has ls 4 [(0, .ref (ad 0)), (1, .int set)] := hl
  refine lv_aload_n hx hb d_Rm_master_0 rfl (lv_at hl 0 rfl) ?_
  refine x_get (C := R_Rm) (T := F_Rm) (N := 12) hx hb hw i_Rm hown hK.1 hM hC.1 rfl 5 (by decide) (hw _ kw_70) rfl rfl d_Rm_master_1 ?_
  refine lv_bipush (v := 8) hx hb d_Rm_master_4 (by decide) ?_
  refine lv_icmp_lt (tgt := 19) hx hb d_Rm_master_6 (by decide) (fun c_6 => ?_) (fun c_6 => ?_)
  · have h6 : zmn u < 8 := (nI_ltI (b := 8) (by have := hO.2.2.2.2.1; omega) (by decide)).mp c_6
    refine lv_iload_n hx hb d_Rm_master_19 rfl (lv_at hl 1 rfl) ?_
    refine lv_if_lt (tgt := 30) hx hb d_Rm_master_20 (by decide) (fun c_20 => ?_) (fun c_20 => ?_)
    · exact x_iae (is := 102) (text := "no such set") hst hE hnx hK h0 hM hS hl.1 (by decide) d_Rm_master_30 d_Rm_master_33 d_Rm_master_34 d_Rm_master_36 d_Rm_master_39 (by decide) (Nat.le_of_ble_eq_true rfl) ⟨by decide, by decide⟩ ⟨by decide, by decide⟩ (⟨Or.inr ⟨by unfold fMas; rw [if_neg (by omega), if_pos (Or.inl c_20)], rfl⟩, rfl⟩)
    · refine lv_iload_n hx hb d_Rm_master_23 rfl (lv_at hl 1 rfl) ?_
      refine lv_sipush (v := 1023) hx hb d_Rm_master_24 (by decide) ?_
      refine lv_icmp_le (tgt := 40) hx hb d_Rm_master_27 (by decide) (fun c_27 => ?_) (fun c_27 => ?_)
      · refine lv_aload_n hx hb d_Rm_master_40 rfl (lv_at hl 0 rfl) ?_
        refine lv_iload_n hx hb d_Rm_master_41 rfl (lv_at hl 1 rfl) ?_
        refine x_ci (x_runV (As := [.int set]) (rest := []) hE hK hM hl.1 (c_Rm_membersOf l G M ad u hC hO set) hC.1 rfl kw_270 kw_272 ks_3 kw_1 kw_273 1 rfl rfl rfl (by decide +kernel) ⟨by decide, by decide⟩ rfl (Nat.le_of_ble_eq_true rfl) d_Rm_master_42 ⟨by decide, by decide⟩) hS (fun r1 M1 H locs hp hM hS => ?_)
        obtain ⟨e_r, e_M⟩ := hp
        have hM : xh G M H := e_M ▸ hM
        subst e_r
        obtain ⟨b, eb⟩ : ∃ z : Nat → Int32, z = zB u set := ⟨_, rfl⟩
        rw [← eb]
        have hb9 : ∀ i, i < zrn u → b i = -1 ∨ b i = zst u i := fun i hi => by
          rw [eb]
          unfold zB
          by_cases h9 : i < zrn u ∧ ((set >>> (nI i &&& 31)) &&& 1) = 1
          · rw [if_pos h9]; exact Or.inr rfl
          · rw [if_neg h9]; exact Or.inl rfl
        have hge : ∀ k, zrn u ≤ k → b k = -1 := fun k hk => by rw [eb]; exact zB_ge hk
        have hrn := hO.2.2.1
        refine lv_istore_n (lv' := [(2, .int (nI (zMk b (zrn u)))), (0, .ref (ad 0)), (1, .int set)]) hx hb d_Rm_master_45 rfl hl (by decide) rfl (fun ls hl => ?_)
        refine lv_iload_n hx hb d_Rm_master_46 rfl (lv_at hl 0 rfl) ?_
        refine lv_if_ne (tgt := 52) hx hb d_Rm_master_47 (by decide) (fun c_47 => ?_) (fun c_47 => ?_)
        · have h47 : ¬ zMk b (zrn u) = 0 := fun h9 => c_47 (by rw [h9]; rfl)
          refine x_new (40 + zmn u) (ci := 3) (C := R_Men) (T := F_Men) (N := 6) (fs := [.null, .int 0, .int 0, .int 0, .null, .null]) hx hb hw i_Men t_Men t_Men_ok hown (hw _ kw_26) (hw _ kw_274) (hw _ kw_13) hK.1 hM hS rfl (fun j hj => by rcases (show j = 0 ∨ j = 1 ∨ j = 2 ∨ j = 3 ∨ j = 4 ∨ j = 5 by omega) with rfl | rfl | rfl | rfl | rfl | rfl <;> rfl) (by decide) (by decide) d_Rm_master_52 (fun q H hn_q hM hS => ?_)
          have hM : xh G (va_up M q (some (40 + zmn u, .inr (3, [.null, .int 0, .int 0, .int 0, .null, .null])))) H := hM
          obtain ⟨M_1, eM_1⟩ : ∃ z : xM, z = va_up M q (some (40 + zmn u, .inr (3, [.null, .int 0, .int 0, .int 0, .null, .null]))) := ⟨_, rfl⟩
          rw [← eM_1] at hM
          have k_ad0 := xw_newE eM_1 hC.1 hn_q
          have k_ad3 := xw_newE eM_1 hC.2.2.2.1 hn_q
          have c_q := xw_atE eM_1
          refine lv_dup hx hb d_Rm_master_55 rfl ?_
          refine lv_aload_n hx hb d_Rm_master_56 rfl (lv_at hl 1 rfl) ?_
          refine lv_iload_n hx hb d_Rm_master_57 rfl (lv_at hl 0 rfl) ?_
          have hext : xKeep M M_1 := fun b r e hb _ => xw_newE eM_1 hb hn_q
          have hC1 := hC.keep hext
          refine x_cr (x_runV (As := [.int (nI (zMk b (zrn u)))]) (rest := [.ref q, .ref q]) hE hK hM hl.1 (c_Rm_startsOf l G M_1 ad u hC1 hO b hb9 hge (50 + zmn u)) k_ad0 rfl kw_275 kw_277 ks_4 kw_1 kw_278 1 rfl rfl rfl (by decide +kernel) ⟨by decide, by decide⟩ rfl (Nat.le_of_ble_eq_true rfl) d_Rm_master_58 ⟨by decide, by decide⟩) hS (fun r2 M1 H locs hp hM hS => ?_)
          obtain ⟨hn_a, B, hB, e_M⟩ := hp
          obtain ⟨a, e_a⟩ : ∃ z : Nat, z = r2 := ⟨_, rfl⟩
          subst e_a
          obtain ⟨Mb, eMb⟩ : ∃ z : xM, z = M1 := ⟨_, rfl⟩
          subst eMb
          have k_ad0 := xw_newE e_M k_ad0 hn_a
          have k_ad3 := xw_newE e_M k_ad3 hn_a
          have c_q := xw_newE e_M c_q hn_a
          have c_a := xw_atE e_M
          have hC2 : Core G Mb ad u := hC1.keep (fun b r e hb _ => xw_newE e_M hb hn_a)
          refine lv_aload_n hx hb d_Rm_master_61 rfl (lv_at hl 1 rfl) ?_
          refine lv_iload_n hx hb d_Rm_master_62 rfl (lv_at hl 0 rfl) ?_
          refine x_ci (x_runV (As := [.int (nI (zMk b (zrn u)))]) (rest := [.ref a, .ref q, .ref q]) hE hK hM hl.1 (c_Rm_firstYearOf l G Mb ad u hC2 hO b hb9) k_ad0 rfl kw_282 kw_284 ks_5 kw_1 kw_285 1 rfl rfl rfl (by decide +kernel) ⟨by decide, by decide⟩ rfl (Nat.le_of_ble_eq_true rfl) d_Rm_master_63 ⟨by decide, by decide⟩) hS (fun r3 M1 H locs hp hM hS => ?_)
          obtain ⟨e_r, e_M9⟩ := hp
          have hM : xh G Mb H := e_M9 ▸ hM
          subst e_r
          refine lv_aload_n hx hb d_Rm_master_66 rfl (lv_at hl 1 rfl) ?_
          refine lv_iload_n hx hb d_Rm_master_67 rfl (lv_at hl 0 rfl) ?_
          refine x_ci (x_runV (As := [.int (nI (zMk b (zrn u)))]) (rest := [.int (zFst b (zrn u)), .ref a, .ref q, .ref q]) hE hK hM hl.1 (c_Rm_lastYearOf l G Mb ad u hC2 hO b hb9) k_ad0 rfl kw_286 kw_288 ks_6 kw_1 kw_289 1 rfl rfl rfl (by decide +kernel) ⟨by decide, by decide⟩ rfl (Nat.le_of_ble_eq_true rfl) d_Rm_master_68 ⟨by decide, by decide⟩) hS (fun r4 M1 H locs hp hM hS => ?_)
          obtain ⟨e_r, e_M9⟩ := hp
          have hM : xh G Mb H := e_M9 ▸ hM
          subst e_r
          refine lv_iload_n hx hb d_Rm_master_71 rfl (lv_at hl 0 rfl) ?_
          refine x_ci (x_runS (As := [.int (nI (zMk b (zrn u)))]) (rest := [.int (zLst (zln u) b (zrn u)), .int (zFst b (zrn u)), .ref a, .ref q, .ref q]) hE hK hM hl.1 (c_JI_bitCount l G Mb (nI (zMk b (zrn u)))) kw_297 kw_298 kw_15 kw_299 1 rfl rfl rfl (by decide +kernel) ⟨by decide, by decide⟩ rfl (Nat.le_of_ble_eq_true rfl) d_Rm_master_72 ⟨by decide, by decide⟩) hS (fun r5 M1 H locs hp hM hS => ?_)
          obtain ⟨e_r, e_M9⟩ := hp
          have hM : xh G Mb H := e_M9 ▸ hM
          subst e_r
          have eF : zFst b (zrn u) = zFst B 10 := by
            rw [zFst_cg 10 hB]
            have h9 := zFst_ext (b := b) (n := zrn u) (fun i hi => hge i hi) (10 - zrn u)
            rw [show zrn u + (10 - zrn u) = 10 by omega] at h9
            exact h9.symm
          have eL : zLst (zln u) b (zrn u) = zLst (zln u) B 10 := by
            rw [zLst_cg 10 hB]
            have h9 := zLst_ext (ln := zln u) (b := b) (n := zrn u) (fun i hi => hge i hi) (10 - zrn u)
            rw [show zrn u + (10 - zrn u) = 10 by omega] at h9
            exact h9.symm
          have eN : zBc (nI (zMk b (zrn u))) = nI (zCnt B 10) := by
            rw [zCnt_cg 10 hB, ← zBc_cnt]
            have h9 := zMk_ext (b := b) (n := zrn u) (fun i hi => hge i hi) (10 - zrn u)
            rw [show zrn u + (10 - zrn u) = 10 by omega] at h9
            rw [h9]
          rw [eF, eL, eN]
          have hB1 : ∀ i, i < 10 → inR (B i) (-1) 500 ∧ (B i ≠ -1 → i < zrn u) := fun i hi => by
            rw [hB i hi]
            by_cases h9 : i < zrn u
            · refine ⟨?_, fun _ => h9⟩
              rcases hb9 i h9 with h8 | h8
              · rw [h8]; exact ⟨by decide, by decide⟩
              · rw [h8]; exact (hO.2.2.2.1 i h9).2.2.2
            · rw [hge i (by omega)]
              exact ⟨⟨by decide, by decide⟩, fun h8 => absurd rfl h8⟩
          have hIf : inR (zFst B 10) 0 500 := zFst_in 10 fun i hi => (hB1 i hi).1
          have hIl : inR (zLst (zln u) B 10) 0 529 := zLst_in 10 fun i hi => ⟨(hB1 i hi).1, fun h9 => by
            have h8 := hO.2.2.2.1 i ((hB1 i hi).2 h9)
            exact ⟨by omega, h8.2.1⟩⟩
          have hY : zYn (zln u) B ≤ 530 := by
            show (zLst (zln u) B 10 - zFst B 10 + 1).toNatClampNeg ≤ 530
            rw [z_yn hIf hIl]
            have h8 := hIf.1
            have h9 := hIl.2
            omega
          refine x_cv (x_runI (As := [.ref a, .int (zFst B 10), .int (zLst (zln u) B 10), .int (nI (zCnt B 10))]) (rest := [.ref q]) hE hK hM hl.1 (c_Men_init l G Mb q (40 + zmn u) a (60 + zmn u) (70 + zmn u) (zFst B 10) (zLst (zln u) B 10) (nI (zCnt B 10)) (by omega) (by omega) (by omega) hY c_q) kw_303 kw_304 kw_13 kw_305 rfl 4 rfl rfl rfl (by decide +kernel) ⟨by decide, by decide⟩ rfl (Nat.le_of_ble_eq_true rfl) d_Rm_master_75 ⟨by decide, by decide⟩) hS (fun M1 H locs hp hM hS => ?_)
          obtain ⟨hof, va, da, c_q2, c_va, c_da⟩ := hp
          obtain ⟨Mc, eMc⟩ : ∃ z : xM, z = M1 := ⟨_, rfl⟩
          subst eMc
          have c_q := c_q2
          have c_a := hof _ _ _ c_a (by omega)
          have hC3 : Core G Mc ad u := hC2.keepQ hrn h6 hof
          obtain ⟨z5, k5⟩ := hs.1
          have k5c := hof _ _ _ (xw_newE e_M (xw_newE eM_1 k5 hn_q) hn_a) (by omega)
          refine lv_astore_n (lv' := [(3, .ref q), (2, .int (nI (zMk b (zrn u)))), (0, .ref (ad 0)), (1, .int set)]) hx hb d_Rm_master_78 rfl hl (by decide) rfl (fun ls hl => ?_)
          refine lv_aload_n hx hb d_Rm_master_79 rfl (lv_at hl 2 rfl) ?_
          refine lv_aload_n hx hb d_Rm_master_80 rfl (lv_at hl 0 rfl) ?_
          refine x_cv (x_runV (As := [.ref q]) (rest := []) hE hK hM hl.1 (c_Rm_fillValues l G Mc ad u hC3 hO h6 q a va da B (zFst B 10) (zLst (zln u) B 10) (nI (zCnt B 10)) (zYn (zln u) B) hY c_a c_q z5 k5c _ _ c_va c_da) hC3.1 rfl kw_333 kw_335 ks_7 kw_1 kw_336 1 rfl rfl rfl (by decide +kernel) ⟨by decide, by decide⟩ rfl (Nat.le_of_ble_eq_true rfl) d_Rm_master_81 ⟨by decide, by decide⟩) hS (fun M1 H locs hp hM hS => ?_)
          obtain ⟨hof3, h5, V, D, c_va, c_da, hVD⟩ := hp
          obtain ⟨Md, eMd⟩ : ∃ z : xM, z = M1 := ⟨_, rfl⟩
          subst eMd
          have hC4 : Core G Md ad u := hC3.keepM hrn h6 hof3
          have c_q := hof3 _ _ _ c_q (by omega) (by omega) (by omega)
          have c_a := hof3 _ _ _ c_a (by omega) (by omega) (by omega)
          refine lv_aload_n hx hb d_Rm_master_84 rfl (lv_at hl 2 rfl) ?_
          refine x_get (C := R_Rm) (T := F_Rm) (N := 12) hx hb hw i_Rm hown hK.1 hM hC4.1 rfl 4 (by decide) (hw _ kw_69) rfl rfl d_Rm_master_85 ?_
          refine lv_aload_n hx hb d_Rm_master_88 rfl (lv_at hl 2 rfl) ?_
          refine x_get (C := R_Rm) (T := F_Rm) (N := 12) hx hb hw i_Rm hown hK.1 hM hC4.1 rfl 5 (by decide) (hw _ kw_70) rfl rfl d_Rm_master_89 ?_
          refine lv_aload_n hx hb d_Rm_master_92 rfl (lv_at hl 0 rfl) ?_
          have c_q0 := c_q
          refine x_astq hx hb hK.1 hM hS hC4.2.2.2.1 3 rfl c_q rfl rfl h6 (by decide) d_Rm_master_93 (fun H locs hM hS hz => ?_)
          have hM : xh G (va_up Md (ad 3) (some (3, .inl (gM G, 8, .inr (.inr (.inr (.inr (va_up (zrw ad 40 (zmn u)) (zmn u) (some q))))))))) H := hM
          obtain ⟨Md_2, eMd_2⟩ : ∃ z : xM, z = va_up Md (ad 3) (some (3, .inl (gM G, 8, .inr (.inr (.inr (.inr (va_up (zrw ad 40 (zmn u)) (zmn u) (some q)))))))) := ⟨_, rfl⟩
          rw [← eMd_2] at hM
          have k_ad0 := xw_upE eMd_2 hC4.1 hC4.2.2.2.1 (by decide)
          have c_q := xw_upE eMd_2 c_q hC4.2.2.2.1 (by omega)
          have k_ad3 := xw_atE eMd_2
          refine lv_aload_n hx hb d_Rm_master_94 rfl (lv_at hl 2 rfl) ?_
          refine lv_dup hx hb d_Rm_master_95 rfl ?_
          refine x_get (C := R_Rm) (T := F_Rm) (N := 12) hx hb hw i_Rm hown hK.1 hM k_ad0 rfl 5 (by decide) (hw _ kw_70) rfl rfl d_Rm_master_96 ?_
          refine lv_iconst (v := 1) hx hb d_Rm_master_99 (by decide) ?_
          refine lv_iadd hx hb d_Rm_master_100 ?_
          refine lv_topi (fun tv etv => ?_)
          have etv : tv = nI (zmn u + 1) := by rw [etv]; exact nI_1 _
          subst etv
          refine x_put (C := R_Rm) (T := F_Rm) (N := 12) (ty := .int) (v := .int (nI (zmn u + 1))) hx hb hw i_Rm t_Rm t_Rm_ok n_Rm hown hK.1 hM hS k_ad0 rfl 5 (by decide) (hw _ kw_70) rfl rfl (by decide +kernel) rfl rfl (Nat.le_of_ble_eq_true rfl) d_Rm_master_101 (fun H locs hM hS hz => ?_)
          have hM : xh G (va_up Md_2 (ad 0) (some (0, .inr (4, [.ref (ad 1), .int (nI (zpn u)), .ref (ad 2), .int (nI (zrn u)), .ref (ad 3), .int (nI (zmn u + 1)), .ref (ad 4), .ref (ad 5), .ref (ad 6), .ref (ad 7), .ref (ad 8), .ref (ad 9)])))) H := hM
          obtain ⟨Md_3, eMd_3⟩ : ∃ z : xM, z = va_up Md_2 (ad 0) (some (0, .inr (4, [.ref (ad 1), .int (nI (zpn u)), .ref (ad 2), .int (nI (zrn u)), .ref (ad 3), .int (nI (zmn u + 1)), .ref (ad 4), .ref (ad 5), .ref (ad 6), .ref (ad 7), .ref (ad 8), .ref (ad 9)]))) := ⟨_, rfl⟩
          rw [← eMd_3] at hM
          have k_ad3 := xw_upE eMd_3 k_ad3 k_ad0 (by decide)
          have c_q := xw_upE eMd_3 c_q k_ad0 (by omega)
          have k_ad0 := xw_atE eMd_3
          refine lv_aload_n hx hb d_Rm_master_104 rfl (lv_at hl 2 rfl) ?_
          refine x_get (C := R_Rm) (T := F_Rm) (N := 12) hx hb hw i_Rm hown hK.1 hM k_ad0 rfl 5 (by decide) (hw _ kw_70) rfl rfl d_Rm_master_105 ?_
          refine lv_iconst (v := 1) hx hb d_Rm_master_108 (by decide) ?_
          refine lv_isub hx hb d_Rm_master_109 ?_
          refine lv_topi (fun tv etv => ?_)
          have etv : tv = nI (zmn u) := by rw [etv]; exact nI_pred _
          subst etv
          have hGx : ∀ y, zGat (zln u) (zev u) B y (-1) (zrn u) = zGat (zln u) (zev u) B y (-1) 10 := fun y => by
            have h9 := zGat_ext (ln := zln u) (ev := zev u) (b := B) (y := y) (wo := -1) (n := zrn u) (10 - zrn u) (fun i h1 h2 => by rw [hB i (by omega)]; exact hge i h1)
            rw [show zrn u + (10 - zrn u) = 10 by omega] at h9
            exact h9.symm
          have hkk : ∀ (b r : Nat) (e : va_E), M b = some (r, e) → r ≠ 5 → r ≠ 40 + zmn u → r ≠ 60 + zmn u → r ≠ 70 + zmn u → Md b = some (r, e) := fun b r e hb n1 n2 n3 n4 => hof3 _ _ _ (hof _ _ _ (xw_newE e_M (xw_newE eM_1 hb hn_q) hn_a) n2) n1 n3 n4
          obtain ⟨ad', k1, k2, k3, k4⟩ := Core.mas hC hs hrn h6 hkk h5 c_q0 c_a c_va c_da (fun k hk => by rw [← hGx]; exact hVD k hk) eMd_2 eMd_3
          refine vx_ret ?_
          exact x_ri hE rfl hM hS ⟨by unfold fMas; rw [if_neg (by omega), if_neg (fun h9 => h9.elim c_20 (z_nlt c_27)), ← eb, if_neg h47], Or.inr ⟨h47, B, ad', hB, k1, k2, k3, k4⟩⟩ (by decide) (by decide) d_Rm_master_110
        · have h47 : zMk b (zrn u) = 0 := (nI_eq (b := 0) (Nat.lt_trans (zMk_lt b _) (Nat.lt_of_le_of_lt (Nat.pow_le_pow_right (by decide) hrn : 2 ^ zrn u ≤ 2 ^ 10) (by decide))) (by decide)).mp c_47
          refine lv_iconst (v := (-1)) hx hb d_Rm_master_50 (by decide) ?_
          refine vx_ret ?_
          exact x_ri hE rfl hM hS ⟨by unfold fMas; rw [if_neg (by omega), if_neg (fun h9 => h9.elim c_20 (z_nlt c_27)), ← eb, if_pos h47], Or.inl ⟨h47, rfl⟩⟩ (by omega) (by omega) d_Rm_master_51
      · exact x_iae (is := 102) (text := "no such set") hst hE hnx hK h0 hM hS hl.1 (by decide) d_Rm_master_30 d_Rm_master_33 d_Rm_master_34 d_Rm_master_36 d_Rm_master_39 (by decide) (Nat.le_of_ble_eq_true rfl) ⟨by decide, by decide⟩ ⟨by decide, by decide⟩ (⟨Or.inr ⟨by unfold fMas; rw [if_neg (by omega), if_pos (Or.inr (Int32.not_le.mp c_27))], rfl⟩, rfl⟩)
  · have h6 : 8 ≤ zmn u := Nat.not_lt.mp (fun h9 => c_6 ((nI_ltI (b := 8) (by omega) (by decide)).mpr h9))
    exact x_ise (is := 100) (text := "there are eight masters") hst hE hnx hK h0 hM hS hl.1 (by decide) d_Rm_master_9 d_Rm_master_12 d_Rm_master_13 d_Rm_master_15 d_Rm_master_18 (by decide) (Nat.le_of_ble_eq_true rfl) ⟨by decide, by decide⟩ ⟨by decide, by decide⟩ (⟨Or.inl ⟨by unfold fMas; rw [if_pos h6], rfl⟩, rfl⟩)
end
section
def u0 : zS := ((0, fun _ => 0), (0, fun _ => 0, fun _ _ => 0, fun _ => 0), (0, fun _ _ => 0), fun _ => 0)
theorem xw_nn {M M1 : xM} {a b : Nat} {x : Nat × va_E} (e : M1 = va_up M a (some x)) (h : M1 b = none) : M b = none := by
  by_cases hb : b = a
  · rw [e, hb, va_up_self] at h
    cases h
  · rw [e, va_up_ne _ _ hb] at h
    exact h

set_option maxHeartbeats 4000000 in
set_option maxRecDepth 100000 in
theorem lp_Rm_init {p : Program} {l : Launch} {e : Env} {s : State} {m : MethodId} {below : List Frame} {meth : Method} {c : Code} {args : Array Value} {G : xG} {M : xM} (M0 : xM) (g pd rw mw wt ro tr ne gp : Nat) (ad9 : Nat → Nat) (h_g : M0 g = some (0, .inr (4, [.ref pd, .int 0, .ref rw, .int 0, .ref mw, .int 0, .ref wt, .ref ro, .ref tr, .ref ne, .ref gp, .null]))) (h_pd : M0 pd = some (1, .inl (gI G, 30, .inl (fun _ => 0)))) (h_rw : M0 rw = some (2, .inl (gR G, 10, .inr (.inr (.inr (.inr (fun _ => none))))))) (h_mw : M0 mw = some (3, .inl (gM G, 8, .inr (.inr (.inr (.inr (fun _ => none))))))) (h_wt : M0 wt = some (4, .inl (gI G, 61, .inl (fun _ => 0)))) (h_ro : M0 ro = some (5, .inr (1, [.int 0, .int 0, .int 0, .int 0]))) (h_tr : M0 tr = some (6, .inr (0, [.int 0, .int 0]))) (h_ne : M0 ne = some (7, .inr (0, [.int 0, .int 0]))) (hof0 : xOff 0 M M0) (hgn : M gp = none) (hE : xE p s m args meth c b_Rm_init none 2 R_Rm) (hin : meth.name = "<init>") (hK : KX G s) : ∀ (n i : Nat), i ≤ 8 → 9 ≤ i + n → ∀ (Mk : xM) (ad : Nat → Nat), (ad 0 = g ∧ ad 1 = pd ∧ ad 2 = rw ∧ ad 3 = mw ∧ ad 4 = wt ∧ ad 5 = ro ∧ ad 6 = tr ∧ ad 7 = ne ∧ ad 8 = gp) → (∀ r, 100 ≤ r → ad r = ad9 r) → xOff 8 M0 Mk → (∀ b r e, M b = some (r, e) → r ≠ 0 → Mk b = some (r, e)) → Mk gp = some (8, eQ (gG G) 8 (zrw ad 10 i)) → (∀ k, k < i → ∃ q : Int32 × Int32, Mk (ad (10 + k)) = some (10 + k, eGap q)) → ∀ (H : Heap) (locs : List Loc) (ls : Array Slot), xh G Mk H → va_S (xF G) s.heap H locs → lv_has ls 2 [(0, .ref g), (1, .int (nI i))] → W p l e ({ frames := 2, cells := 17, slots := 149, locals := 60 }) s m args below meth c H locs (8 + i) (125 + 2 * i) (MQ below (xQv G (fun M' => ∃ ad : Nat → Nat, ad 0 = g ∧ Core G M' ad u0 ∧ Scr G M' ad ∧ xOff 0 M M' ∧ ∀ r, 100 ≤ r → ad r = ad9 r)) args s 17 149 (xF G)) (F0 m 97 ls []) := by
  obtain ⟨hx, hb, hr, hml, hown, hw, hlocks⟩ := id hE
  intro n
  induction n with
  | zero =>
    intro i h1 h2
    exact absurd h2 (by omega)
  | succ n ih =>
    intro i hi hin9 Mk ad hAd hAd9 hof hofM c_gp hgs H locs ls hM hS hl
    have c_g := hof _ _ _ h_g (by decide)
    have c_pd := hof _ _ _ h_pd (by decide)
    have c_rw := hof _ _ _ h_rw (by decide)
    have c_mw := hof _ _ _ h_mw (by decide)
    have c_wt := hof _ _ _ h_wt (by decide)
    have c_ro := hof _ _ _ h_ro (by decide)
    have c_tr := hof _ _ _ h_tr (by decide)
    have c_ne := hof _ _ _ h_ne (by decide)
    refine lv_iload_n hx hb d_Rm_init_97 rfl (lv_at hl 1 rfl) ?_
    refine lv_aload_n hx hb d_Rm_init_98 rfl (lv_at hl 0 rfl) ?_
    refine x_get (C := R_Rm) (T := F_Rm) (N := 12) hx hb hw i_Rm hown hK.1 hM c_g rfl 10 (by decide) (hw _ kw_75) rfl rfl d_Rm_init_99 ?_
    refine x_alen (v := nI 8) hx hb hK.1 hM c_gp 4 rfl rfl d_Rm_init_102 ?_
    refine lv_icmp_ge (tgt := 125) hx hb d_Rm_init_103 (by decide) (fun c_103 => ?_) (fun c_103 => ?_)
    · have h103 : 8 ≤ i := (nI_leI (by decide) (by omega)).mp c_103
      refine lv_aload_n hx hb d_Rm_init_125 rfl (lv_at hl 0 rfl) ?_
      refine lv_bipush (v := 8) hx hb d_Rm_init_126 (by decide) ?_
      refine x_newa (9) (atype := .int) (a0 := (8, .inl (fun _ => 0))) (N' := 8) hx hb (hw _ kw_48) hK.1 hM hS 0 rfl (vp_cell_i _ _ _) rfl (by decide) (show 8 * 4 ≤ _ by omega) (show 8 + i + 1 ≤ 17 by omega) (show 125 + 2 * i + 8 ≤ 149 by omega) d_Rm_init_128 (fun dt H hn_dt hM hS => ?_)
      have hM : xh G (va_up Mk dt (some (9, .inl (gI G, 8, .inl (fun _ => 0))))) H := hM
      obtain ⟨Mk_1, eMk_1⟩ : ∃ z : xM, z = va_up Mk dt (some (9, .inl (gI G, 8, .inl (fun _ => 0)))) := ⟨_, rfl⟩
      rw [← eMk_1] at hM
      have c_g := xw_newE eMk_1 c_g hn_dt
      have c_pd := xw_newE eMk_1 c_pd hn_dt
      have c_rw := xw_newE eMk_1 c_rw hn_dt
      have c_mw := xw_newE eMk_1 c_mw hn_dt
      have c_wt := xw_newE eMk_1 c_wt hn_dt
      have c_ro := xw_newE eMk_1 c_ro hn_dt
      have c_tr := xw_newE eMk_1 c_tr hn_dt
      have c_ne := xw_newE eMk_1 c_ne hn_dt
      have c_gp := xw_newE eMk_1 c_gp hn_dt
      have c_dt := xw_atE eMk_1
      have c_g0 := c_g
      refine x_putF (C := R_Rm) (T := F_Rm) (N := 12) (ty := .array (.int)) (v := .ref dt) hx hb hw i_Rm t_Rm t_Rm_ok n_Rm hown hK.1 hM hS c_g rfl 11 (by decide) (hw _ kw_76) rfl rfl hin rfl (by decide +kernel) rfl rfl (Nat.le_of_ble_eq_true rfl) d_Rm_init_130 (fun H locs hM hS hz => ?_)
      have hM : xh G (va_up Mk_1 g (some (0, .inr (4, [.ref pd, .int 0, .ref rw, .int 0, .ref mw, .int 0, .ref wt, .ref ro, .ref tr, .ref ne, .ref gp, .ref dt])))) H := hM
      obtain ⟨Mk_2, eMk_2⟩ : ∃ z : xM, z = va_up Mk_1 g (some (0, .inr (4, [.ref pd, .int 0, .ref rw, .int 0, .ref mw, .int 0, .ref wt, .ref ro, .ref tr, .ref ne, .ref gp, .ref dt]))) := ⟨_, rfl⟩
      rw [← eMk_2] at hM
      have c_pd := xw_upE eMk_2 c_pd c_g (by decide)
      have c_rw := xw_upE eMk_2 c_rw c_g (by decide)
      have c_mw := xw_upE eMk_2 c_mw c_g (by decide)
      have c_wt := xw_upE eMk_2 c_wt c_g (by decide)
      have c_ro := xw_upE eMk_2 c_ro c_g (by decide)
      have c_tr := xw_upE eMk_2 c_tr c_g (by decide)
      have c_ne := xw_upE eMk_2 c_ne c_g (by decide)
      have c_gp := xw_upE eMk_2 c_gp c_g (by decide)
      have c_dt := xw_upE eMk_2 c_dt c_g (by decide)
      have c_g := xw_atE eMk_2
      have hi8 : i = 8 := by omega
      subst hi8
      have hk : ∀ b r e, Mk b = some (r, e) → r ≠ 0 → Mk_2 b = some (r, e) := fun b r e hb hn => xw_upE eMk_2 (xw_newE eMk_1 hb hn_dt) c_g0 hn
      obtain ⟨a0, a1, a2, a3, a4, a5, a6, a7, a8⟩ := hAd
      have hA : ∀ r, r ≠ 9 → va_up ad 9 dt r = ad r := fun r hr => va_up_ne _ _ hr
      have hA9 : va_up ad 9 dt 9 = dt := va_up_self _ _ _
      have hg8 : zrw (va_up ad 9 dt) 10 8 = zrw ad 10 8 := zrw_off fun i hi => by omega
      have hn1 : zrw (va_up ad 9 dt) 20 (zrn u0) = fun _ => none := by funext i; rfl
      have hn2 : zrw (va_up ad 9 dt) 40 (zmn u0) = fun _ => none := by funext i; rfl
      refine x_rv hE rfl hM hS ⟨va_up ad 9 dt, (hA 0 (by decide)).trans a0, ⟨?_, ?_, ?_, ?_, ?_, ?_, fun i hi => absurd hi (Nat.not_lt_zero i), fun j hj => absurd hj (Nat.not_lt_zero j)⟩, ⟨⟨(0, 0, 0, 0), ?_⟩, ⟨(0, 0), ?_⟩, ⟨(0, 0), ?_⟩, ⟨fun _ => 0, ?_⟩, fun i hi => ?_⟩, ?_, fun r hr => (hA r (by omega)).trans (hAd9 r hr)⟩ (by omega) (by omega) d_Rm_init_133
      · unfold CoreO
        rw [hA 0 (by decide), hA 1 (by decide), hA 2 (by decide), hA 3 (by decide), hA 4 (by decide), hA 5 (by decide), hA 6 (by decide), hA 7 (by decide), hA 8 (by decide), hA9, a0, a1, a2, a3, a4, a5, a6, a7, a8]
        exact c_g
      · rw [hA 1 (by decide), a1]
        exact c_pd
      · rw [hA 2 (by decide), a2, hn1]
        exact c_rw
      · rw [hA 3 (by decide), a3, hn2]
        exact c_mw
      · rw [hA 4 (by decide), a4]
        exact c_wt
      · rw [hA 8 (by decide), a8, hg8]
        exact c_gp
      · rw [hA 5 (by decide), a5]
        exact c_ro
      · rw [hA 6 (by decide), a6]
        exact c_tr
      · rw [hA 7 (by decide), a7]
        exact c_ne
      · rw [hA9]
        exact c_dt
      · obtain ⟨q, hq⟩ := hgs i hi
        rw [hA (10 + i) (by omega)]
        exact ⟨q, hk _ _ _ hq (by omega)⟩
      · exact fun b r e hb hn => hk _ _ _ (hofM b r e hb hn) hn
    · have hi8 : i < 8 := Nat.not_le.mp (fun h9 => c_103 ((nI_leI (by decide) (by omega)).mpr h9))
      refine lv_aload_n hx hb d_Rm_init_106 rfl (lv_at hl 0 rfl) ?_
      refine x_get (C := R_Rm) (T := F_Rm) (N := 12) hx hb hw i_Rm hown hK.1 hM c_g rfl 10 (by decide) (hw _ kw_75) rfl rfl d_Rm_init_107 ?_
      refine lv_iload_n hx hb d_Rm_init_110 rfl (lv_at hl 1 rfl) ?_
      refine x_new (10 + i) (ci := 0) (C := R_Gap) (T := F_Gap) (N := 2) (fs := [.int 0, .int 0]) hx hb hw i_Gap t_Gap t_Gap_ok hown (hw _ kw_49) (hw _ kw_50) (hw _ kw_3) hK.1 hM hS rfl (fun j hj => by rcases (show j = 0 ∨ j = 1 by omega) with rfl | rfl <;> rfl) (show 8 + i + 1 ≤ 17 by omega) (show 125 + 2 * i + 2 ≤ 149 by omega) d_Rm_init_111 (fun gq H hn_gq hM hS => ?_)
      have hM : xh G (va_up Mk gq (some (10 + i, .inr (0, [.int 0, .int 0])))) H := hM
      obtain ⟨Mk_1, eMk_1⟩ : ∃ z : xM, z = va_up Mk gq (some (10 + i, .inr (0, [.int 0, .int 0]))) := ⟨_, rfl⟩
      rw [← eMk_1] at hM
      have c_g := xw_newE eMk_1 c_g hn_gq
      have c_pd := xw_newE eMk_1 c_pd hn_gq
      have c_rw := xw_newE eMk_1 c_rw hn_gq
      have c_mw := xw_newE eMk_1 c_mw hn_gq
      have c_wt := xw_newE eMk_1 c_wt hn_gq
      have c_ro := xw_newE eMk_1 c_ro hn_gq
      have c_tr := xw_newE eMk_1 c_tr hn_gq
      have c_ne := xw_newE eMk_1 c_ne hn_gq
      have c_gp := xw_newE eMk_1 c_gp hn_gq
      have c_gq := xw_atE eMk_1
      have hof := hof.new hn_gq eMk_1
      have hofM : ∀ b r e, M b = some (r, e) → r ≠ 0 → Mk_1 b = some (r, e) := fun b r e hb hn => xw_newE eMk_1 (hofM b r e hb hn) hn_gq
      have hgs : ∀ k, k < i → ∃ q : Int32 × Int32, Mk_1 (ad (10 + k)) = some (10 + k, eGap q) := fun k hk => by obtain ⟨q, hq⟩ := hgs k hk; exact ⟨q, xw_newE eMk_1 hq hn_gq⟩
      have hne : ∀ k, k < i → ad (10 + k) ≠ gq := fun k hk z => by obtain ⟨q, hq⟩ := hgs k hk; rw [z, c_gq] at hq; have h9 := congrArg (fun x => x.map Prod.fst) hq; simp at h9; omega
      refine lv_dup hx hb d_Rm_init_114 rfl ?_
      refine x_cv (x_runIN (host := R_Rm) (As := []) (rest := [.ref gq, .int (nI i), .ref gp]) hE hK hM hl.1 (c_Gap_init l G Mk_1 gq) hK.2.1.2.2 kw_52 kw_3 kw_53 rfl 0 rfl rfl rfl (by decide +kernel) ⟨by decide, by decide⟩ rfl (Nat.le_of_ble_eq_true rfl) d_Rm_init_115 ⟨show 8 + i + 1 + 0 ≤ 17 by omega, show 125 + 2 * i + 2 + 0 ≤ 149 by omega⟩) hS (fun M1 H locs hp hM hS => ?_)
      have hM : xh G Mk_1 H := hp ▸ hM
      have c_gp0 := c_gp
      refine x_astq hx hb hK.1 hM hS c_gp 4 rfl c_gq rfl rfl (by omega) (by decide) d_Rm_init_118 (fun H locs hM hS hz => ?_)
      have hM : xh G (va_up Mk_1 gp (some (8, .inl (gG G, 8, .inr (.inr (.inr (.inr (va_up (zrw ad 10 i) i (some gq))))))))) H := hM
      obtain ⟨Mk_2, eMk_2⟩ : ∃ z : xM, z = va_up Mk_1 gp (some (8, .inl (gG G, 8, .inr (.inr (.inr (.inr (va_up (zrw ad 10 i) i (some gq)))))))) := ⟨_, rfl⟩
      rw [← eMk_2] at hM
      have c_g := xw_upE eMk_2 c_g c_gp (by decide)
      have c_pd := xw_upE eMk_2 c_pd c_gp (by decide)
      have c_rw := xw_upE eMk_2 c_rw c_gp (by decide)
      have c_mw := xw_upE eMk_2 c_mw c_gp (by decide)
      have c_wt := xw_upE eMk_2 c_wt c_gp (by decide)
      have c_ro := xw_upE eMk_2 c_ro c_gp (by decide)
      have c_tr := xw_upE eMk_2 c_tr c_gp (by decide)
      have c_ne := xw_upE eMk_2 c_ne c_gp (by decide)
      have c_gq := xw_upE eMk_2 c_gq c_gp (by omega)
      have c_gp := xw_atE eMk_2
      refine lv_iinc (v := (nI (i + 1))) (lv' := [(1, .int (nI (i + 1))), (0, .ref g)]) hx hb d_Rm_init_119 hl (k := 1) rfl (nI_1 i) (by decide) rfl (fun ls hl => ?_)
      refine lv_goto (tgt := 97) hx hb d_Rm_init_122 (by decide) ?_
      have hof := hof.put c_gp0 eMk_2
      exact ih (i + 1) (by omega) (by omega) _ (va_up ad (10 + i) gq) (by obtain ⟨a0, a1, a2, a3, a4, a5, a6, a7, a8⟩ := hAd; exact ⟨(va_up_ne _ _ (by omega)).trans a0, (va_up_ne _ _ (by omega)).trans a1, (va_up_ne _ _ (by omega)).trans a2, (va_up_ne _ _ (by omega)).trans a3, (va_up_ne _ _ (by omega)).trans a4, (va_up_ne _ _ (by omega)).trans a5, (va_up_ne _ _ (by omega)).trans a6, (va_up_ne _ _ (by omega)).trans a7, (va_up_ne _ _ (by omega)).trans a8⟩) (fun r hr => (va_up_ne _ _ (by omega)).trans (hAd9 r hr)) hof (fun b r e hb hn => by rw [eMk_2, va_up_ne]; exact hofM b r e hb hn; intro z; rw [z, hgn] at hb; cases hb) (by rw [c_gp, zrw_up]) (fun k hk => by
        by_cases h9 : k = i
        · subst h9
          rw [va_up_self]
          exact ⟨(0, 0), c_gq⟩
        · rw [va_up_ne _ _ (by omega)]
          obtain ⟨q, hq⟩ := hgs k (by omega)
          exact ⟨q, xw_upE eMk_2 hq c_gp0 (by omega)⟩) _ _ _ hM hS (lv_sub hl [1, 0] rfl)

set_option maxHeartbeats 4000000 in
set_option maxRecDepth 100000 in
theorem c_Rm_init (l : Launch) (G : xG) (M : xM) (g : Nat) (ad9 : Nat → Nat) (hg : M g = some (0, .inr (4, [.null, .int 0, .null, .int 0, .null, .int 0, .null, .null, .null, .null, .null, .null]))) : Met l y_Rm_init w_Rm_init ({ frames := 2, cells := 17, slots := 149, locals := 60 }) (xP G [.ref g] M) (xQv G (fun M' => ∃ ad : Nat → Nat, ad 0 = g ∧ Core G M' ad u0 ∧ Scr G M' ad ∧ xOff 0 M M' ∧ ∀ r, 100 ≤ r → ad r = ad9 r)) 17 149 (xF G) := by
  refine x_met (by decide) (Nat.le_of_ble_eq_true rfl) ?_
  intro p e s m below meth c ls hE hin hl hM hK hS
  obtain ⟨hx, hb, hr, hml, hown, hw, hlocks⟩ := id hE
  have hl : lv_has ls 2 [(0, .ref g)] := hl
  refine lv_aload_n hx hb d_Rm_init_0 rfl (lv_at hl 0 rfl) ?_
  refine W.objInit hx hb hown (hw _ kw_21) (hw _ kw_22) (hw _ kw_23) rfl (by rw [hml]; exact hl.1) rfl d_Rm_init_1 (Nat.le_of_ble_eq_true rfl) (Nat.le_of_ble_eq_true rfl) ?_
  refine W.eq (g2 := F0 m 4 ls []) rfl ?_
  have hof : xOff 0 M M := xOff.refl
  refine lv_aload_n hx hb d_Rm_init_4 rfl (lv_at hl 0 rfl) ?_
  refine lv_bipush (v := 30) hx hb d_Rm_init_5 (by decide) ?_
  refine x_newa (1) (atype := .int) (a0 := (30, .inl (fun _ => 0))) (N' := 30) hx hb (hw _ kw_48) hK.1 hM hS 0 rfl (vp_cell_i _ _ _) rfl (by decide) (show 30 * 4 ≤ _ by omega) (by decide) (by decide) d_Rm_init_7 (fun pd H hn_pd hM hS => ?_)
  have hM : xh G (va_up M pd (some (1, .inl (gI G, 30, .inl (fun _ => 0))))) H := hM
  obtain ⟨M_1, eM_1⟩ : ∃ z : xM, z = va_up M pd (some (1, .inl (gI G, 30, .inl (fun _ => 0)))) := ⟨_, rfl⟩
  rw [← eM_1] at hM
  have hof := hof.new hn_pd eM_1
  have hg := xw_newE eM_1 hg hn_pd
  have c_pd := xw_atE eM_1
  refine x_putF (C := R_Rm) (T := F_Rm) (N := 12) (ty := .array (.int)) (v := .ref pd) hx hb hw i_Rm t_Rm t_Rm_ok n_Rm hown hK.1 hM hS hg rfl 0 (by decide) (hw _ kw_65) rfl rfl hin rfl (by decide +kernel) rfl rfl (Nat.le_of_ble_eq_true rfl) d_Rm_init_9 (fun H locs hM hS hz => ?_)
  have hM : xh G (va_up M_1 g (some (0, .inr (4, [.ref pd, .int 0, .null, .int 0, .null, .int 0, .null, .null, .null, .null, .null, .null])))) H := hM
  obtain ⟨M_2, eM_2⟩ : ∃ z : xM, z = va_up M_1 g (some (0, .inr (4, [.ref pd, .int 0, .null, .int 0, .null, .int 0, .null, .null, .null, .null, .null, .null]))) := ⟨_, rfl⟩
  rw [← eM_2] at hM
  have hof := hof.put hg eM_2
  have c_pd := xw_upE eM_2 c_pd hg (by decide)
  have hg := xw_atE eM_2
  refine lv_aload_n hx hb d_Rm_init_12 rfl (lv_at hl 0 rfl) ?_
  refine lv_iconst (v := 0) hx hb d_Rm_init_13 (by decide) ?_
  refine x_put (C := R_Rm) (T := F_Rm) (N := 12) (ty := .int) (v := .int 0) hx hb hw i_Rm t_Rm t_Rm_ok n_Rm hown hK.1 hM hS hg rfl 1 (by decide) (hw _ kw_66) rfl rfl (by decide +kernel) rfl rfl (Nat.le_of_ble_eq_true rfl) d_Rm_init_14 (fun H locs hM hS hz => ?_)
  have hM : xh G (va_up M_2 g (some (0, .inr (4, [.ref pd, .int 0, .null, .int 0, .null, .int 0, .null, .null, .null, .null, .null, .null])))) H := hM
  obtain ⟨M_3, eM_3⟩ : ∃ z : xM, z = va_up M_2 g (some (0, .inr (4, [.ref pd, .int 0, .null, .int 0, .null, .int 0, .null, .null, .null, .null, .null, .null]))) := ⟨_, rfl⟩
  rw [← eM_3] at hM
  have hof := hof.put hg eM_3
  have c_pd := xw_upE eM_3 c_pd hg (by decide)
  have hg := xw_atE eM_3
  refine lv_aload_n hx hb d_Rm_init_17 rfl (lv_at hl 0 rfl) ?_
  refine lv_bipush (v := 10) hx hb d_Rm_init_18 (by decide) ?_
  refine x_newq (2) (N' := 10) hx hb hown (hw _ kw_24) (va_AO.use (hK.2.2.2.1 R_Row (by simp))) hK.1 hM hS 2 rfl rfl (by decide) (by decide) (by decide) d_Rm_init_20 (fun rw H hn_rw hM hS => ?_)
  have hM : xh G (va_up M_3 rw (some (2, .inl (gR G, 10, .inr (.inr (.inr (.inr (fun _ => none)))))))) H := hM
  obtain ⟨M_4, eM_4⟩ : ∃ z : xM, z = va_up M_3 rw (some (2, .inl (gR G, 10, .inr (.inr (.inr (.inr (fun _ => none))))))) := ⟨_, rfl⟩
  rw [← eM_4] at hM
  have hof := hof.new hn_rw eM_4
  have hg := xw_newE eM_4 hg hn_rw
  have c_pd := xw_newE eM_4 c_pd hn_rw
  have c_rw := xw_atE eM_4
  refine x_putF (C := R_Rm) (T := F_Rm) (N := 12) (ty := .array (.object "RingMasters$Row")) (v := .ref rw) hx hb hw i_Rm t_Rm t_Rm_ok n_Rm hown hK.1 hM hS hg rfl 2 (by decide) (hw _ kw_67) rfl rfl hin rfl (by decide +kernel) rfl rfl (Nat.le_of_ble_eq_true rfl) d_Rm_init_23 (fun H locs hM hS hz => ?_)
  have hM : xh G (va_up M_4 g (some (0, .inr (4, [.ref pd, .int 0, .ref rw, .int 0, .null, .int 0, .null, .null, .null, .null, .null, .null])))) H := hM
  obtain ⟨M_5, eM_5⟩ : ∃ z : xM, z = va_up M_4 g (some (0, .inr (4, [.ref pd, .int 0, .ref rw, .int 0, .null, .int 0, .null, .null, .null, .null, .null, .null]))) := ⟨_, rfl⟩
  rw [← eM_5] at hM
  have hof := hof.put hg eM_5
  have c_pd := xw_upE eM_5 c_pd hg (by decide)
  have c_rw := xw_upE eM_5 c_rw hg (by decide)
  have hg := xw_atE eM_5
  refine lv_aload_n hx hb d_Rm_init_26 rfl (lv_at hl 0 rfl) ?_
  refine lv_iconst (v := 0) hx hb d_Rm_init_27 (by decide) ?_
  refine x_put (C := R_Rm) (T := F_Rm) (N := 12) (ty := .int) (v := .int 0) hx hb hw i_Rm t_Rm t_Rm_ok n_Rm hown hK.1 hM hS hg rfl 3 (by decide) (hw _ kw_68) rfl rfl (by decide +kernel) rfl rfl (Nat.le_of_ble_eq_true rfl) d_Rm_init_28 (fun H locs hM hS hz => ?_)
  have hM : xh G (va_up M_5 g (some (0, .inr (4, [.ref pd, .int 0, .ref rw, .int 0, .null, .int 0, .null, .null, .null, .null, .null, .null])))) H := hM
  obtain ⟨M_6, eM_6⟩ : ∃ z : xM, z = va_up M_5 g (some (0, .inr (4, [.ref pd, .int 0, .ref rw, .int 0, .null, .int 0, .null, .null, .null, .null, .null, .null]))) := ⟨_, rfl⟩
  rw [← eM_6] at hM
  have hof := hof.put hg eM_6
  have c_pd := xw_upE eM_6 c_pd hg (by decide)
  have c_rw := xw_upE eM_6 c_rw hg (by decide)
  have hg := xw_atE eM_6
  refine lv_aload_n hx hb d_Rm_init_31 rfl (lv_at hl 0 rfl) ?_
  refine lv_bipush (v := 8) hx hb d_Rm_init_32 (by decide) ?_
  refine x_newq (3) (N' := 8) hx hb hown (hw _ kw_26) (va_AO.use (hK.2.2.2.1 R_Men (by simp))) hK.1 hM hS 3 rfl rfl (by decide) (by decide) (by decide) d_Rm_init_34 (fun mw H hn_mw hM hS => ?_)
  have hM : xh G (va_up M_6 mw (some (3, .inl (gM G, 8, .inr (.inr (.inr (.inr (fun _ => none)))))))) H := hM
  obtain ⟨M_7, eM_7⟩ : ∃ z : xM, z = va_up M_6 mw (some (3, .inl (gM G, 8, .inr (.inr (.inr (.inr (fun _ => none))))))) := ⟨_, rfl⟩
  rw [← eM_7] at hM
  have hof := hof.new hn_mw eM_7
  have hg := xw_newE eM_7 hg hn_mw
  have c_pd := xw_newE eM_7 c_pd hn_mw
  have c_rw := xw_newE eM_7 c_rw hn_mw
  have c_mw := xw_atE eM_7
  refine x_putF (C := R_Rm) (T := F_Rm) (N := 12) (ty := .array (.object "RingMasters$Mean")) (v := .ref mw) hx hb hw i_Rm t_Rm t_Rm_ok n_Rm hown hK.1 hM hS hg rfl 4 (by decide) (hw _ kw_69) rfl rfl hin rfl (by decide +kernel) rfl rfl (Nat.le_of_ble_eq_true rfl) d_Rm_init_37 (fun H locs hM hS hz => ?_)
  have hM : xh G (va_up M_7 g (some (0, .inr (4, [.ref pd, .int 0, .ref rw, .int 0, .ref mw, .int 0, .null, .null, .null, .null, .null, .null])))) H := hM
  obtain ⟨M_8, eM_8⟩ : ∃ z : xM, z = va_up M_7 g (some (0, .inr (4, [.ref pd, .int 0, .ref rw, .int 0, .ref mw, .int 0, .null, .null, .null, .null, .null, .null]))) := ⟨_, rfl⟩
  rw [← eM_8] at hM
  have hof := hof.put hg eM_8
  have c_pd := xw_upE eM_8 c_pd hg (by decide)
  have c_rw := xw_upE eM_8 c_rw hg (by decide)
  have c_mw := xw_upE eM_8 c_mw hg (by decide)
  have hg := xw_atE eM_8
  refine lv_aload_n hx hb d_Rm_init_40 rfl (lv_at hl 0 rfl) ?_
  refine lv_iconst (v := 0) hx hb d_Rm_init_41 (by decide) ?_
  refine x_put (C := R_Rm) (T := F_Rm) (N := 12) (ty := .int) (v := .int 0) hx hb hw i_Rm t_Rm t_Rm_ok n_Rm hown hK.1 hM hS hg rfl 5 (by decide) (hw _ kw_70) rfl rfl (by decide +kernel) rfl rfl (Nat.le_of_ble_eq_true rfl) d_Rm_init_42 (fun H locs hM hS hz => ?_)
  have hM : xh G (va_up M_8 g (some (0, .inr (4, [.ref pd, .int 0, .ref rw, .int 0, .ref mw, .int 0, .null, .null, .null, .null, .null, .null])))) H := hM
  obtain ⟨M_9, eM_9⟩ : ∃ z : xM, z = va_up M_8 g (some (0, .inr (4, [.ref pd, .int 0, .ref rw, .int 0, .ref mw, .int 0, .null, .null, .null, .null, .null, .null]))) := ⟨_, rfl⟩
  rw [← eM_9] at hM
  have hof := hof.put hg eM_9
  have c_pd := xw_upE eM_9 c_pd hg (by decide)
  have c_rw := xw_upE eM_9 c_rw hg (by decide)
  have c_mw := xw_upE eM_9 c_mw hg (by decide)
  have hg := xw_atE eM_9
  refine lv_aload_n hx hb d_Rm_init_45 rfl (lv_at hl 0 rfl) ?_
  refine lv_bipush (v := 61) hx hb d_Rm_init_46 (by decide) ?_
  refine x_newa (4) (atype := .int) (a0 := (61, .inl (fun _ => 0))) (N' := 61) hx hb (hw _ kw_48) hK.1 hM hS 0 rfl (vp_cell_i _ _ _) rfl (by decide) (show 61 * 4 ≤ _ by omega) (by decide) (by decide) d_Rm_init_48 (fun wt H hn_wt hM hS => ?_)
  have hM : xh G (va_up M_9 wt (some (4, .inl (gI G, 61, .inl (fun _ => 0))))) H := hM
  obtain ⟨M_10, eM_10⟩ : ∃ z : xM, z = va_up M_9 wt (some (4, .inl (gI G, 61, .inl (fun _ => 0)))) := ⟨_, rfl⟩
  rw [← eM_10] at hM
  have hof := hof.new hn_wt eM_10
  have hg := xw_newE eM_10 hg hn_wt
  have c_pd := xw_newE eM_10 c_pd hn_wt
  have c_rw := xw_newE eM_10 c_rw hn_wt
  have c_mw := xw_newE eM_10 c_mw hn_wt
  have c_wt := xw_atE eM_10
  refine x_putF (C := R_Rm) (T := F_Rm) (N := 12) (ty := .array (.int)) (v := .ref wt) hx hb hw i_Rm t_Rm t_Rm_ok n_Rm hown hK.1 hM hS hg rfl 6 (by decide) (hw _ kw_71) rfl rfl hin rfl (by decide +kernel) rfl rfl (Nat.le_of_ble_eq_true rfl) d_Rm_init_50 (fun H locs hM hS hz => ?_)
  have hM : xh G (va_up M_10 g (some (0, .inr (4, [.ref pd, .int 0, .ref rw, .int 0, .ref mw, .int 0, .ref wt, .null, .null, .null, .null, .null])))) H := hM
  obtain ⟨M_11, eM_11⟩ : ∃ z : xM, z = va_up M_10 g (some (0, .inr (4, [.ref pd, .int 0, .ref rw, .int 0, .ref mw, .int 0, .ref wt, .null, .null, .null, .null, .null]))) := ⟨_, rfl⟩
  rw [← eM_11] at hM
  have hof := hof.put hg eM_11
  have c_pd := xw_upE eM_11 c_pd hg (by decide)
  have c_rw := xw_upE eM_11 c_rw hg (by decide)
  have c_mw := xw_upE eM_11 c_mw hg (by decide)
  have c_wt := xw_upE eM_11 c_wt hg (by decide)
  have hg := xw_atE eM_11
  refine lv_aload_n hx hb d_Rm_init_53 rfl (lv_at hl 0 rfl) ?_
  refine x_new (5) (ci := 1) (C := R_Rob) (T := F_Rob) (N := 4) (fs := [.int 0, .int 0, .int 0, .int 0]) hx hb hw i_Rob t_Rob t_Rob_ok hown (hw _ kw_28) (hw _ kw_29) (hw _ kw_2) hK.1 hM hS rfl (fun j hj => by rcases (show j = 0 ∨ j = 1 ∨ j = 2 ∨ j = 3 by omega) with rfl | rfl | rfl | rfl <;> rfl) (by decide) (by decide) d_Rm_init_54 (fun ro H hn_ro hM hS => ?_)
  have hM : xh G (va_up M_11 ro (some (5, .inr (1, [.int 0, .int 0, .int 0, .int 0])))) H := hM
  obtain ⟨M_12, eM_12⟩ : ∃ z : xM, z = va_up M_11 ro (some (5, .inr (1, [.int 0, .int 0, .int 0, .int 0]))) := ⟨_, rfl⟩
  rw [← eM_12] at hM
  have hof := hof.new hn_ro eM_12
  have hg := xw_newE eM_12 hg hn_ro
  have c_pd := xw_newE eM_12 c_pd hn_ro
  have c_rw := xw_newE eM_12 c_rw hn_ro
  have c_mw := xw_newE eM_12 c_mw hn_ro
  have c_wt := xw_newE eM_12 c_wt hn_ro
  have c_ro := xw_atE eM_12
  refine lv_dup hx hb d_Rm_init_57 rfl ?_
  refine x_cv (x_runIN (host := R_Rm) (As := []) (rest := [.ref ro, .ref g]) hE hK hM hl.1 (c_Rob_init l G M_12 ro) hK.2.1.2.1 kw_31 kw_2 kw_32 rfl 0 rfl rfl rfl (by decide +kernel) ⟨by decide, by decide⟩ rfl (Nat.le_of_ble_eq_true rfl) d_Rm_init_58 ⟨by decide, by decide⟩) hS (fun M1 H locs hp hM hS => ?_)
  have hM : xh G M_12 H := hp ▸ hM
  refine x_putF (C := R_Rm) (T := F_Rm) (N := 12) (ty := .object "RingMasters$Robust") (v := .ref ro) hx hb hw i_Rm t_Rm t_Rm_ok n_Rm hown hK.1 hM hS hg rfl 7 (by decide) (hw _ kw_72) rfl rfl hin rfl (by decide +kernel) rfl rfl (Nat.le_of_ble_eq_true rfl) d_Rm_init_61 (fun H locs hM hS hz => ?_)
  have hM : xh G (va_up M_12 g (some (0, .inr (4, [.ref pd, .int 0, .ref rw, .int 0, .ref mw, .int 0, .ref wt, .ref ro, .null, .null, .null, .null])))) H := hM
  obtain ⟨M_13, eM_13⟩ : ∃ z : xM, z = va_up M_12 g (some (0, .inr (4, [.ref pd, .int 0, .ref rw, .int 0, .ref mw, .int 0, .ref wt, .ref ro, .null, .null, .null, .null]))) := ⟨_, rfl⟩
  rw [← eM_13] at hM
  have hof := hof.put hg eM_13
  have c_pd := xw_upE eM_13 c_pd hg (by decide)
  have c_rw := xw_upE eM_13 c_rw hg (by decide)
  have c_mw := xw_upE eM_13 c_mw hg (by decide)
  have c_wt := xw_upE eM_13 c_wt hg (by decide)
  have c_ro := xw_upE eM_13 c_ro hg (by decide)
  have hg := xw_atE eM_13
  refine lv_aload_n hx hb d_Rm_init_64 rfl (lv_at hl 0 rfl) ?_
  refine x_new (6) (ci := 0) (C := R_Gap) (T := F_Gap) (N := 2) (fs := [.int 0, .int 0]) hx hb hw i_Gap t_Gap t_Gap_ok hown (hw _ kw_49) (hw _ kw_50) (hw _ kw_3) hK.1 hM hS rfl (fun j hj => by rcases (show j = 0 ∨ j = 1 by omega) with rfl | rfl <;> rfl) (by decide) (by decide) d_Rm_init_65 (fun tr H hn_tr hM hS => ?_)
  have hM : xh G (va_up M_13 tr (some (6, .inr (0, [.int 0, .int 0])))) H := hM
  obtain ⟨M_14, eM_14⟩ : ∃ z : xM, z = va_up M_13 tr (some (6, .inr (0, [.int 0, .int 0]))) := ⟨_, rfl⟩
  rw [← eM_14] at hM
  have hof := hof.new hn_tr eM_14
  have hg := xw_newE eM_14 hg hn_tr
  have c_pd := xw_newE eM_14 c_pd hn_tr
  have c_rw := xw_newE eM_14 c_rw hn_tr
  have c_mw := xw_newE eM_14 c_mw hn_tr
  have c_wt := xw_newE eM_14 c_wt hn_tr
  have c_ro := xw_newE eM_14 c_ro hn_tr
  have c_tr := xw_atE eM_14
  refine lv_dup hx hb d_Rm_init_68 rfl ?_
  refine x_cv (x_runIN (host := R_Rm) (As := []) (rest := [.ref tr, .ref g]) hE hK hM hl.1 (c_Gap_init l G M_14 tr) hK.2.1.2.2 kw_52 kw_3 kw_53 rfl 0 rfl rfl rfl (by decide +kernel) ⟨by decide, by decide⟩ rfl (Nat.le_of_ble_eq_true rfl) d_Rm_init_69 ⟨by decide, by decide⟩) hS (fun M1 H locs hp hM hS => ?_)
  have hM : xh G M_14 H := hp ▸ hM
  refine x_putF (C := R_Rm) (T := F_Rm) (N := 12) (ty := .object "RingMasters$Gap") (v := .ref tr) hx hb hw i_Rm t_Rm t_Rm_ok n_Rm hown hK.1 hM hS hg rfl 8 (by decide) (hw _ kw_73) rfl rfl hin rfl (by decide +kernel) rfl rfl (Nat.le_of_ble_eq_true rfl) d_Rm_init_72 (fun H locs hM hS hz => ?_)
  have hM : xh G (va_up M_14 g (some (0, .inr (4, [.ref pd, .int 0, .ref rw, .int 0, .ref mw, .int 0, .ref wt, .ref ro, .ref tr, .null, .null, .null])))) H := hM
  obtain ⟨M_15, eM_15⟩ : ∃ z : xM, z = va_up M_14 g (some (0, .inr (4, [.ref pd, .int 0, .ref rw, .int 0, .ref mw, .int 0, .ref wt, .ref ro, .ref tr, .null, .null, .null]))) := ⟨_, rfl⟩
  rw [← eM_15] at hM
  have hof := hof.put hg eM_15
  have c_pd := xw_upE eM_15 c_pd hg (by decide)
  have c_rw := xw_upE eM_15 c_rw hg (by decide)
  have c_mw := xw_upE eM_15 c_mw hg (by decide)
  have c_wt := xw_upE eM_15 c_wt hg (by decide)
  have c_ro := xw_upE eM_15 c_ro hg (by decide)
  have c_tr := xw_upE eM_15 c_tr hg (by decide)
  have hg := xw_atE eM_15
  refine lv_aload_n hx hb d_Rm_init_75 rfl (lv_at hl 0 rfl) ?_
  refine x_new (7) (ci := 0) (C := R_Gap) (T := F_Gap) (N := 2) (fs := [.int 0, .int 0]) hx hb hw i_Gap t_Gap t_Gap_ok hown (hw _ kw_49) (hw _ kw_50) (hw _ kw_3) hK.1 hM hS rfl (fun j hj => by rcases (show j = 0 ∨ j = 1 by omega) with rfl | rfl <;> rfl) (by decide) (by decide) d_Rm_init_76 (fun ne H hn_ne hM hS => ?_)
  have hM : xh G (va_up M_15 ne (some (7, .inr (0, [.int 0, .int 0])))) H := hM
  obtain ⟨M_16, eM_16⟩ : ∃ z : xM, z = va_up M_15 ne (some (7, .inr (0, [.int 0, .int 0]))) := ⟨_, rfl⟩
  rw [← eM_16] at hM
  have hof := hof.new hn_ne eM_16
  have hg := xw_newE eM_16 hg hn_ne
  have c_pd := xw_newE eM_16 c_pd hn_ne
  have c_rw := xw_newE eM_16 c_rw hn_ne
  have c_mw := xw_newE eM_16 c_mw hn_ne
  have c_wt := xw_newE eM_16 c_wt hn_ne
  have c_ro := xw_newE eM_16 c_ro hn_ne
  have c_tr := xw_newE eM_16 c_tr hn_ne
  have c_ne := xw_atE eM_16
  refine lv_dup hx hb d_Rm_init_79 rfl ?_
  refine x_cv (x_runIN (host := R_Rm) (As := []) (rest := [.ref ne, .ref g]) hE hK hM hl.1 (c_Gap_init l G M_16 ne) hK.2.1.2.2 kw_52 kw_3 kw_53 rfl 0 rfl rfl rfl (by decide +kernel) ⟨by decide, by decide⟩ rfl (Nat.le_of_ble_eq_true rfl) d_Rm_init_80 ⟨by decide, by decide⟩) hS (fun M1 H locs hp hM hS => ?_)
  have hM : xh G M_16 H := hp ▸ hM
  refine x_putF (C := R_Rm) (T := F_Rm) (N := 12) (ty := .object "RingMasters$Gap") (v := .ref ne) hx hb hw i_Rm t_Rm t_Rm_ok n_Rm hown hK.1 hM hS hg rfl 9 (by decide) (hw _ kw_74) rfl rfl hin rfl (by decide +kernel) rfl rfl (Nat.le_of_ble_eq_true rfl) d_Rm_init_83 (fun H locs hM hS hz => ?_)
  have hM : xh G (va_up M_16 g (some (0, .inr (4, [.ref pd, .int 0, .ref rw, .int 0, .ref mw, .int 0, .ref wt, .ref ro, .ref tr, .ref ne, .null, .null])))) H := hM
  obtain ⟨M_17, eM_17⟩ : ∃ z : xM, z = va_up M_16 g (some (0, .inr (4, [.ref pd, .int 0, .ref rw, .int 0, .ref mw, .int 0, .ref wt, .ref ro, .ref tr, .ref ne, .null, .null]))) := ⟨_, rfl⟩
  rw [← eM_17] at hM
  have hof := hof.put hg eM_17
  have c_pd := xw_upE eM_17 c_pd hg (by decide)
  have c_rw := xw_upE eM_17 c_rw hg (by decide)
  have c_mw := xw_upE eM_17 c_mw hg (by decide)
  have c_wt := xw_upE eM_17 c_wt hg (by decide)
  have c_ro := xw_upE eM_17 c_ro hg (by decide)
  have c_tr := xw_upE eM_17 c_tr hg (by decide)
  have c_ne := xw_upE eM_17 c_ne hg (by decide)
  have hg := xw_atE eM_17
  refine lv_aload_n hx hb d_Rm_init_86 rfl (lv_at hl 0 rfl) ?_
  refine lv_bipush (v := 8) hx hb d_Rm_init_87 (by decide) ?_
  refine x_newq (8) (N' := 8) hx hb hown (hw _ kw_49) (va_AO.use (hK.2.2.2.1 R_Gap (by simp))) hK.1 hM hS 4 rfl rfl (by decide) (by decide) (by decide) d_Rm_init_89 (fun gp H hn_gp hM hS => ?_)
  have hM : xh G (va_up M_17 gp (some (8, .inl (gG G, 8, .inr (.inr (.inr (.inr (fun _ => none)))))))) H := hM
  obtain ⟨M_18, eM_18⟩ : ∃ z : xM, z = va_up M_17 gp (some (8, .inl (gG G, 8, .inr (.inr (.inr (.inr (fun _ => none))))))) := ⟨_, rfl⟩
  rw [← eM_18] at hM
  have hof := hof.new hn_gp eM_18
  have hg := xw_newE eM_18 hg hn_gp
  have c_pd := xw_newE eM_18 c_pd hn_gp
  have c_rw := xw_newE eM_18 c_rw hn_gp
  have c_mw := xw_newE eM_18 c_mw hn_gp
  have c_wt := xw_newE eM_18 c_wt hn_gp
  have c_ro := xw_newE eM_18 c_ro hn_gp
  have c_tr := xw_newE eM_18 c_tr hn_gp
  have c_ne := xw_newE eM_18 c_ne hn_gp
  have c_gp := xw_atE eM_18
  refine x_putF (C := R_Rm) (T := F_Rm) (N := 12) (ty := .array (.object "RingMasters$Gap")) (v := .ref gp) hx hb hw i_Rm t_Rm t_Rm_ok n_Rm hown hK.1 hM hS hg rfl 10 (by decide) (hw _ kw_75) rfl rfl hin rfl (by decide +kernel) rfl rfl (Nat.le_of_ble_eq_true rfl) d_Rm_init_92 (fun H locs hM hS hz => ?_)
  have hM : xh G (va_up M_18 g (some (0, .inr (4, [.ref pd, .int 0, .ref rw, .int 0, .ref mw, .int 0, .ref wt, .ref ro, .ref tr, .ref ne, .ref gp, .null])))) H := hM
  obtain ⟨M_19, eM_19⟩ : ∃ z : xM, z = va_up M_18 g (some (0, .inr (4, [.ref pd, .int 0, .ref rw, .int 0, .ref mw, .int 0, .ref wt, .ref ro, .ref tr, .ref ne, .ref gp, .null]))) := ⟨_, rfl⟩
  rw [← eM_19] at hM
  have hof := hof.put hg eM_19
  have c_pd := xw_upE eM_19 c_pd hg (by decide)
  have c_rw := xw_upE eM_19 c_rw hg (by decide)
  have c_mw := xw_upE eM_19 c_mw hg (by decide)
  have c_wt := xw_upE eM_19 c_wt hg (by decide)
  have c_ro := xw_upE eM_19 c_ro hg (by decide)
  have c_tr := xw_upE eM_19 c_tr hg (by decide)
  have c_ne := xw_upE eM_19 c_ne hg (by decide)
  have c_gp := xw_upE eM_19 c_gp hg (by decide)
  have hg := xw_atE eM_19
  refine lv_iconst (v := 0) hx hb d_Rm_init_95 (by decide) ?_
  refine lv_istore_n (lv' := [(1, .int 0), (0, .ref g)]) hx hb d_Rm_init_96 rfl hl (by decide) rfl (fun ls hl => ?_)
  have hgn : M gp = none := xw_nn eM_1 (xw_nn eM_2 (xw_nn eM_3 (xw_nn eM_4 (xw_nn eM_5 (xw_nn eM_6 (xw_nn eM_7 (xw_nn eM_8 (xw_nn eM_9 (xw_nn eM_10 (xw_nn eM_11 (xw_nn eM_12 (xw_nn eM_13 (xw_nn eM_14 (xw_nn eM_15 (xw_nn eM_16 (xw_nn eM_17 (hn_gp)))))))))))))))))
  obtain ⟨adf, hadf⟩ : ∃ z : Nat → Nat, z = fun r => if r = 0 then g else if r = 1 then pd else if r = 2 then rw else if r = 3 then mw else if r = 4 then wt else if r = 5 then ro else if r = 6 then tr else if r = 7 then ne else if r = 8 then gp else ad9 r := ⟨_, rfl⟩
  refine W.widen (k := 8 + 0) (n := 125 + 2 * 0) (by decide) (by decide) ?_
  have hz0 : zrw adf 10 0 = fun _ => none := by funext i; rfl
  exact lp_Rm_init M_19 g pd rw mw wt ro tr ne gp ad9 hg c_pd c_rw c_mw c_wt c_ro c_tr c_ne hof hgn hE hin hK 9 0 (by decide) (by decide) M_19 adf (by subst hadf; exact ⟨rfl, rfl, rfl, rfl, rfl, rfl, rfl, rfl, rfl⟩) (fun r hr => by subst hadf; simp only []; rw [if_neg (by omega), if_neg (by omega), if_neg (by omega), if_neg (by omega), if_neg (by omega), if_neg (by omega), if_neg (by omega), if_neg (by omega), if_neg (by omega)]) xOff.refl hof (by rw [hz0]; exact c_gp) (fun k hk => absurd hk (by omega)) _ _ _ hM hS (lv_sub hl [1, 0] rfl)
end
