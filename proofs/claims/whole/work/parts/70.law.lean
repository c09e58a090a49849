def R_law : String := "RingMastersLaw"
def lw_P (b : Addr) (xs : List Int32) (args : Array Value) (s : State) : Prop := args = #[.ref b] ∧ s.IntsAt b xs ∧ xs.length ≤ 2560 ∧ (Jvm.Cond.and given_1 narrow_1).before args s = true
def lw_Q (_ : Array Value) (s : State) (o : Outcome) (t : State) : Prop := o = .returned (some (.int 1)) ∧ Framed s o t [] room_1.cells room_1.slots
def lw_Z (below : List Frame) (a : Array Value) (s : State) : State → Prop := fun t => ∃ o, t.status = .running ∧ Ended t below o ∧ lw_Q a s o t
theorem lw_ret {p : Program} {l : Launch} {e : Env} {s : State} {m : MethodId} {below : List Frame} {meth : Method} {c : Code} {b : Nat} (hx : p.tables.exec = Jvm.exec) (hb : c.code = code) (hr : meth.sig.returnType = ret) (hlocks : meth.locks = false) {pc : Nat} {H : Heap} {ls : Array Slot} (hdg : decode code pc = .ok (.ireturn, 1)) : W p l e room_1 s m #[Value.ref b] below meth c H [] room_1.cells room_1.slots (lw_Z below #[Value.ref b] s) (F0 m pc ls [.int 1]) := by
  intro T hT X
  obtain ⟨fs, hret, hrun, hended, hW, hframe⟩ := X.leave (v := some (.int 1)) (hlocks := hlocks) (fun h => by rw [hr] at h; cases h)
  have hmeth' : T.vm.method? m = some meth := X.method'
  refine ⟨T.setFrames fs, ?_, .returned (some (.int 1)), hrun, hended, rfl, ⟨_, rfl⟩, hW, hframe⟩
  jvm_step X.here [X.here.top, hx, hb, hdg, hmeth', hr, ret, narrow_b1]
  (try refine ⟨rfl, ?_⟩); (try refine ⟨rfl, ?_⟩)
  first | (intro acts; rw [hret _ acts rfl rfl rfl]) | rw [hret _ _ rfl rfl rfl]
  exact Steps.refl _
def lw_At (p : Program) (s : State) (m : MethodId) (meth : Method) (c : Code) (b L : Nat) (xs : Nat → Int32) : Prop :=
  p.tables.exec = Jvm.exec ∧ c.code = code ∧ meth.sig.returnType = ret ∧ c.maxLocals = 7 ∧ s.vm.findClass R_law = some m.cls ∧ (∀ w ∈ lw_tbl, w.before #[Value.ref b] s = true) ∧ va_X b L xs s s.heap ∧ b < s.heap.size ∧ meth.locks = false ∧ (Jvm.Cond.and given_1 narrow_1).before #[Value.ref b] s = true
set_option maxHeartbeats 4000000 in
set_option maxRecDepth 100000 in
theorem law_loop {p : Program} {l : Launch} {e : Env} {s : State} {m : MethodId} {below : List Frame} {meth : Method} {c : Code} {G : xG} {b L : Nat} {xs : Nat → Int32} (hst : l.stackTraces = false) (hE : xE p s m #[Value.ref b] meth c code ret 7 R_L) (hK : KX G s) (hX : va_X b L xs s s.heap) (hbl : b < s.heap.size) (hbA : ¬ xF G b) (hsz : ∀ q, xF G q → s.heap.size ≤ q) (hL : L ≤ 2560) (hlocks : meth.locks = false) (ob og : Nat) (bd : Nat → Nat) : ∀ (n t : Nat), 5 * t ≤ L + 4 → 514 ≤ t + n → ∀ (M : xM) (u : zS), LI G M ob og bd u → ∀ (H : Heap) (locs : List Loc) (ls : Array Slot), xh G M H → va_S (xF G) s.heap H locs → lv_has ls 7 [(0, .ref b), (1, .ref ob), (2, .ref (bd 100)), (3, .ref og), (4, .int (nI (5 * t)))] → W p l e room_1 s m #[Value.ref b] below meth c H locs (31 + 5 * t) (713 + 1100 * t) (lw_Z below #[Value.ref b] s) (F0 m 23 ls []) := by
  obtain ⟨hx, hb, hr, hml, hown, hw, -⟩ := id hE
  intro n
  induction n with
  | zero =>
    intro t h1 h2
    exact absurd h2 (by omega)
  | succ n ih =>
    intro t ht4 hin M u hI H locs ls hM hS hl
    refine lv_iload hx hb d_L_law_23 (lv_at hl 4 rfl) ?_
    refine lv_aload_n hx hb d_L_law_25 rfl (lv_at hl 0 rfl) ?_
    refine va_slen hx hb hX hbl hbA hS d_L_law_26 ?_
    refine W.eq (g2 := F0 m 27 ls [.int (nI L), .int (nI (5 * t))]) rfl ?_
    refine lv_iconst (v := 5) hx hb d_L_law_27 (by decide) ?_
    refine lv_isub hx hb d_L_law_28 ?_
    refine lv_icmp_gt (tgt := 1332) hx hb d_L_law_29 (by decide) (fun c_29 => ?_) (fun c_29 => ?_)
    · have h_gt : L < 5 * t + 5 := (z_len hL (by omega)).mp c_29
      refine lv_iconst (v := 1) hx hb d_L_law_1332 (by decide) ?_
      refine va_forget (fun q hq => hsz _ (hS.2.2 q hq)) ?_
      refine W.widen (k := room_1.cells) (n := room_1.slots) (Nat.le_trans (show _ ≤ 3000 by omega) rm_c) (Nat.le_trans (show _ ≤ 600000 by omega) rm_s) ?_
      exact lw_ret hx hb hr hlocks d_L_law_1333
    · have ht : 5 * t + 5 ≤ L := Nat.not_lt.mp (fun h9 => c_29 ((z_len hL (by omega)).mpr h9))
      refine lv_aload_n hx hb d_L_law_32 rfl (lv_at hl 0 rfl) ?_
      refine lv_iload hx hb d_L_law_33 (lv_at hl 4 rfl) ?_
      refine x_sld hx hb hX hbl hbA hS (j := 5 * t) rfl (by omega) (by omega) d_L_law_35 ?_
      refine lv_bipush (v := 31) hx hb d_L_law_36 (by decide) ?_
      refine lv_iand hx hb d_L_law_38 ?_
      have kk : ∀ (M2 : xM) (u2 : zS), LI G M2 ob og bd u2 → ∀ (H : Heap) (locs : List Loc) (ls : Array Slot), xh G M2 H → va_S (xF G) s.heap H locs → lv_has ls 7 [(0, .ref b), (1, .ref ob), (2, .ref (bd 100)), (3, .ref og), (4, .int (nI (5 * t)))] → W p l e room_1 s m #[Value.ref b] below meth c H locs (36 + 5 * t) (1813 + 1100 * t) (lw_Z below #[Value.ref b] s) (F0 m 1326 ls []) := by
        intro M2 u2 hI2 H locs ls hM hS hl
        refine lv_iinc (v := (nI (5 * (t + 1)))) (lv' := [(4, .int (nI (5 * (t + 1)))), (0, .ref b), (1, .ref ob), (2, .ref (bd 100)), (3, .ref og)]) hx hb d_L_law_1326 hl (k := 4) rfl (nI_add (5 * t) 5) (by decide) rfl (fun ls hl => ?_)
        refine lv_goto (tgt := 23) hx hb d_L_law_1329 (by decide) ?_
        refine W.widen (k := 31 + 5 * (t + 1)) (n := 713 + 1100 * (t + 1)) (by omega) (by omega) ?_
        exact ih (t + 1) (by omega) (by omega) M2 u2 hI2 _ _ _ hM hS (lv_sub hl [1, 2, 3, 4, 0] rfl)
      refine lv_topi (fun sw e_sw => ?_)
      by_cases t0 : sw = 0
      · subst t0
        refine lv_tableIn (off := 81) (tgt := 120) hx hb d_L_law_39 (by decide) (by decide) (by decide) (by decide) ?_
        exact lc_ring hst hE hK hX hbl hbA hL t ht ob og bd u M hI kk hM hS (lv_sub hl [0, 1, 2, 3, 4] rfl)
      by_cases t1 : sw = 1
      · subst t1
        refine lv_tableIn (off := 137) (tgt := 176) hx hb d_L_law_39 (by decide) (by decide) (by decide) (by decide) ?_
        exact lc_series hst hE hK hX hbl hbA hL t ht ob og bd u M hI kk hM hS (lv_sub hl [0, 1, 2, 3, 4] rfl)
      by_cases t2 : sw = 2
      · subst t2
        refine lv_tableIn (off := 181) (tgt := 220) hx hb d_L_law_39 (by decide) (by decide) (by decide) (by decide) ?_
        exact lc_evened hst hE hK hX hbl hbA hL t ht ob og bd u M hI kk hM hS (lv_sub hl [0, 1, 2, 3, 4] rfl)
      by_cases t3 : sw = 3
      · subst t3
        refine lv_tableIn (off := 249) (tgt := 288) hx hb d_L_law_39 (by decide) (by decide) (by decide) (by decide) ?_
        exact lc_place hst hE hK hX hbl hbA hL t ht ob og bd u M hI kk hM hS (lv_sub hl [0, 1, 2, 3, 4] rfl)
      by_cases t4 : sw = 4
      · subst t4
        refine lv_tableIn (off := 317) (tgt := 356) hx hb d_L_law_39 (by decide) (by decide) (by decide) (by decide) ?_
        exact lc_master hst hE hK hX hbl hbA hL t ht ob og bd u M hI kk hM hS (lv_sub hl [0, 1, 2, 3, 4] rfl)
      by_cases t5 : sw = 5
      · subst t5
        refine lv_tableIn (off := 373) (tgt := 412) hx hb d_L_law_39 (by decide) (by decide) (by decide) (by decide) ?_
        exact lc_about hst hE hK hX hbl hbA hL t ht ob og bd u M hI kk hM hS (lv_sub hl [0, 1, 2, 3, 4] rfl)
      by_cases t6 : sw = 6
      · subst t6
        refine lv_tableIn (off := 441) (tgt := 480) hx hb d_L_law_39 (by decide) (by decide) (by decide) (by decide) ?_
        exact lc_at hst hE hK hX hbl hbA hL t ht ob og bd u M hI kk hM hS (lv_sub hl [0, 1, 2, 3, 4] rfl)
      by_cases t7 : sw = 7
      · subst t7
        refine lv_tableIn (off := 509) (tgt := 548) hx hb d_L_law_39 (by decide) (by decide) (by decide) (by decide) ?_
        exact lc_depth hst hE hK hX hbl hbA hL t ht ob og bd u M hI kk hM hS (lv_sub hl [0, 1, 2, 3, 4] rfl)
      by_cases t8 : sw = 8
      · subst t8
        refine lv_tableIn (off := 577) (tgt := 616) hx hb d_L_law_39 (by decide) (by decide) (by decide) (by decide) ?_
        exact lc_leftOut hst hE hK hX hbl hbA hL t ht ob og bd u M hI kk hM hS (lv_sub hl [0, 1, 2, 3, 4] rfl)
      by_cases t9 : sw = 9
      · subst t9
        refine lv_tableIn (off := 657) (tgt := 696) hx hb d_L_law_39 (by decide) (by decide) (by decide) (by decide) ?_
        exact lc_distance hst hE hK hX hbl hbA hL t ht ob og bd u M hI kk hM hS (lv_sub hl [0, 1, 2, 3, 4] rfl)
      by_cases t10 : sw = 10
      · subst t10
        refine lv_tableIn (off := 749) (tgt := 788) hx hb d_L_law_39 (by decide) (by decide) (by decide) (by decide) ?_
        exact lc_date hst hE hK hX hbl hbA hL t ht ob og bd u M hI kk hM hS (lv_sub hl [0, 1, 2, 3, 4] rfl)
      by_cases t11 : sw = 11
      · subst t11
        refine lv_tableIn (off := 829) (tgt := 868) hx hb d_L_law_39 (by decide) (by decide) (by decide) (by decide) ?_
        exact lc_agrees hst hE hK hX hbl hbA hL t ht ob og bd u M hI kk hM hS (lv_sub hl [0, 1, 2, 3, 4] rfl)
      by_cases t12 : sw = 12
      · subst t12
        refine lv_tableIn (off := 916) (tgt := 955) hx hb d_L_law_39 (by decide) (by decide) (by decide) (by decide) ?_
        exact lc_source hst hE hK hX hbl hbA hL t ht ob og bd u M hI kk hM hS (lv_sub hl [0, 1, 2, 3, 4] rfl)
      by_cases t13 : sw = 13
      · subst t13
        refine lv_tableIn (off := 996) (tgt := 1035) hx hb d_L_law_39 (by decide) (by decide) (by decide) (by decide) ?_
        exact lc_sapwood hst hE hK hX hbl hbA hL t ht ob og bd u M hI kk hM hS (lv_sub hl [0, 1, 2, 3, 4] rfl)
      by_cases t14 : sw = 14
      · subst t14
        refine lv_tableIn (off := 1064) (tgt := 1103) hx hb d_L_law_39 (by decide) (by decide) (by decide) (by decide) ?_
        exact lc_felling hst hE hK hX hbl hbA hL t ht ob og bd u M hI kk hM hS (lv_sub hl [0, 1, 2, 3, 4] rfl)
      by_cases t15 : sw = 15
      · subst t15
        refine lv_tableIn (off := 1156) (tgt := 1195) hx hb d_L_law_39 (by decide) (by decide) (by decide) (by decide) ?_
        exact lc_sameTree hst hE hK hX hbl hbA hL t ht ob og bd u M hI kk hM hS (lv_sub hl [0, 1, 2, 3, 4] rfl)
      by_cases t16 : sw = 16
      · subst t16
        refine lv_tableIn (off := 1231) (tgt := 1270) hx hb d_L_law_39 (by decide) (by decide) (by decide) (by decide) ?_
        exact lc_count hst hE hK hX hbl hbA hL t ht ob og bd u M hI kk hM hS (lv_sub hl [0, 1, 2, 3, 4] rfl)
      · refine lv_tableOut (tgt := 1326) hx hb d_L_law_39 (z_tab17 t0 t1 t2 t3 t4 t5 t6 t7 t8 t9 t10 t11 t12 t13 t14 t15 t16) (by decide) ?_
        refine W.widen (k := 36 + 5 * t) (n := 1813 + 1100 * t) (by omega) (by omega) ?_
        exact kk M u hI _ _ _ hM hS (lv_sub hl [0, 1, 2, 3, 4] rfl)

set_option maxHeartbeats 4000000 in
set_option maxRecDepth 100000 in
theorem whole_start {p : Program} {e : Env} {s : State} {m : MethodId} {below : List Frame} {meth : Method} {c : Code} (l : Launch) (hst : l.stackTraces = false) {b L : Nat} {xs : Nat → Int32} (hL : L ≤ 2560) (C0 : lw_At p s m meth c b L xs) : W p l e room_1 s m #[Value.ref b] below meth c s.heap [] 0 0 (lw_Z below #[Value.ref b] s) (entryFrame m ([Value.ref b] : List Value).toArray 7) := by
  obtain ⟨hx, hb, hr, hml, hown, hts, hX, hbl, hlocks, hgv⟩ := id C0
  obtain ⟨G, hGH, hK⟩ := kx_start hts hgv
  have hw : ∀ w ∈ wW, w.before #[Value.ref b] s = true := fun w h => hts w (wW_in w h)
  have hE : xE p s m #[Value.ref b] meth c code ret 7 R_L := ⟨hx, hb, hr, hml, hown, hw, hlocks⟩
  have hsz : ∀ q, xF G q → s.heap.size ≤ q := fun q h => by
    have h9 : (gH G).size ≤ q := h
    rw [hGH] at h9
    exact h9
  have hbA : ¬ xF G b := fun h => absurd (hsz b h) (Nat.not_le.mpr hbl)
  have hS : va_S (xF G) s.heap s.heap [] := va_S.rf
  obtain ⟨M, eM0⟩ : ∃ z : xM, z = fun _ => none := ⟨_, rfl⟩
  have hM : xh G M s.heap := ⟨⟨by rw [hGH]; exact Nat.le_refl _, fun q hq => by rw [hGH]⟩, fun a r e h => by rw [eM0] at h; cases h⟩
  have hl := lv_entry ([.ref b]) (n := 7) (Nat.le_of_ble_eq_true rfl)
  rw [lg_entry_eq]
  generalize (lg_sl ([.ref b]) ++ List.replicate (7 - (lg_sl ([.ref b])).length) Slot.unset).toArray = ls at hl ⊢
  have hl : lv_has ls 7 [(0, .ref b)] := hl
  have hown : s.vm.findClass R_L = some m.cls := hown
  refine x_new (0) (ci := 4) (C := R_Rm) (T := F_Rm) (N := 12) (fs := [.null, .int 0, .null, .int 0, .null, .int 0, .null, .null, .null, .null, .null, .null]) hx hb hw i_Rm t_Rm t_Rm_ok hown (hw _ kw_16) (hw _ kw_17) (hw _ kw_1) hK.1 hM hS rfl (fun j hj => by rcases (show j = 0 ∨ j = 1 ∨ j = 2 ∨ j = 3 ∨ j = 4 ∨ j = 5 ∨ j = 6 ∨ j = 7 ∨ j = 8 ∨ j = 9 ∨ j = 10 ∨ j = 11 by omega) with rfl | rfl | rfl | rfl | rfl | rfl | rfl | rfl | rfl | rfl | rfl | rfl <;> rfl) (by decide) (by decide) d_L_law_0 (fun ob H hn_ob hM hS => ?_)
  have hM : xh G (va_up M ob (some (0, .inr (4, [.null, .int 0, .null, .int 0, .null, .int 0, .null, .null, .null, .null, .null, .null])))) H := hM
  obtain ⟨M_1, eM_1⟩ : ∃ z : xM, z = va_up M ob (some (0, .inr (4, [.null, .int 0, .null, .int 0, .null, .int 0, .null, .null, .null, .null, .null, .null]))) := ⟨_, rfl⟩
  rw [← eM_1] at hM
  have c_ob := xw_atE eM_1
  refine lv_dup hx hb d_L_law_3 rfl ?_
  refine x_cv (x_runI (As := []) (rest := [.ref ob]) hE hK hM hl.1 (c_Rm_init l G M_1 ob (fun _ => 0) c_ob) kw_18 kw_19 kw_1 kw_20 rfl 0 rfl rfl rfl (by decide +kernel) ⟨by decide, by decide⟩ rfl (Nat.le_of_ble_eq_true rfl) d_L_law_4 ⟨by decide, by decide⟩) hS (fun M1 H locs hp hM hS => ?_)
  obtain ⟨ad, had, hC, hs, hof, -⟩ := hp
  obtain ⟨Ma, eMa⟩ : ∃ zz9 : xM, zz9 = M1 := ⟨_, rfl⟩
  subst eMa
  refine lv_astore_n (lv' := [(1, .ref ob), (0, .ref b)]) hx hb d_L_law_7 rfl hl (by decide) rfl (fun ls hl => ?_)
  refine x_new (100) (ci := 5) (C := R_Mo) (T := F_Mo) (N := 20) (fs := [.int 0, .int 0, .null, .int 0, .null, .null, .null, .int 0, .null, .null, .null, .null, .int 0, .int 0, .int 0, .int 0, .int 0, .null, .null, .null]) hx hb hw i_Mo t_Mo t_Mo_ok hown (hw _ kw_517) (hw _ kw_518) (hw _ kw_4) hK.1 hM hS rfl (fun j hj => by rcases (show j = 0 ∨ j = 1 ∨ j = 2 ∨ j = 3 ∨ j = 4 ∨ j = 5 ∨ j = 6 ∨ j = 7 ∨ j = 8 ∨ j = 9 ∨ j = 10 ∨ j = 11 ∨ j = 12 ∨ j = 13 ∨ j = 14 ∨ j = 15 ∨ j = 16 ∨ j = 17 ∨ j = 18 ∨ j = 19 by omega) with rfl | rfl | rfl | rfl | rfl | rfl | rfl | rfl | rfl | rfl | rfl | rfl | rfl | rfl | rfl | rfl | rfl | rfl | rfl | rfl <;> rfl) (by decide) (by decide) d_L_law_8 (fun mo H hn_mo hM hS => ?_)
  have hM : xh G (va_up Ma mo (some (100, .inr (5, [.int 0, .int 0, .null, .int 0, .null, .null, .null, .int 0, .null, .null, .null, .null, .int 0, .int 0, .int 0, .int 0, .int 0, .null, .null, .null])))) H := hM
  obtain ⟨Ma_2, eMa_2⟩ : ∃ z : xM, z = va_up Ma mo (some (100, .inr (5, [.int 0, .int 0, .null, .int 0, .null, .null, .null, .int 0, .null, .null, .null, .null, .int 0, .int 0, .int 0, .int 0, .int 0, .null, .null, .null]))) := ⟨_, rfl⟩
  rw [← eMa_2] at hM
  have c_mo := xw_atE eMa_2
  refine lv_dup hx hb d_L_law_11 rfl ?_
  refine x_cv (x_runI (As := []) (rest := [.ref mo]) hE hK hM hl.1 (c_Mo_init l G Ma_2 mo c_mo) kw_519 kw_520 kw_4 kw_521 rfl 0 rfl rfl rfl (by decide +kernel) ⟨by decide, by decide⟩ rfl (Nat.le_of_ble_eq_true rfl) d_L_law_12 ⟨by decide, by decide⟩) hS (fun M1 H locs hp hM hS => ?_)
  obtain ⟨bd, hbd, hD, hof2⟩ := hp
  obtain ⟨Mb, eMb⟩ : ∃ zz9 : xM, zz9 = M1 := ⟨_, rfl⟩
  subst eMb
  have hxl : xL Ma Mb := fun a r e h hr => hof2 a r e (xw_newE eMa_2 h hn_mo) (by omega)
  have hC := hC.l zOk_0 hxl
  have hs := hs.l hxl
  refine lv_astore_n (lv' := [(2, .ref mo), (1, .ref ob), (0, .ref b)]) hx hb d_L_law_15 rfl hl (by decide) rfl (fun ls hl => ?_)
  refine lv_iconst (v := 1) hx hb d_L_law_16 (by decide) ?_
  refine x_newa (200) (atype := .long) (a0 := (1, .inr (.inl (fun _ => 0)))) (N' := 1) hx hb (hw _ kw_705) hK.1 hM hS 1 rfl (vp_cell_l _ _ _) rfl (by decide) (by decide) (by decide) (by decide) d_L_law_17 (fun og H hn_og hM hS => ?_)
  have hM : xh G (va_up Mb og (some (200, .inl (gJ G, 1, .inr (.inl (fun _ => 0)))))) H := hM
  obtain ⟨Mb_3, eMb_3⟩ : ∃ z : xM, z = va_up Mb og (some (200, .inl (gJ G, 1, .inr (.inl (fun _ => 0))))) := ⟨_, rfl⟩
  rw [← eMb_3] at hM
  have c_og := xw_atE eMb_3
  have hxl2 : ∀ (a r : Nat) (e : va_E), Mb a = some (r, e) → Mb_3 a = some (r, e) := fun a r e h => xw_newE eMb_3 h hn_og
  refine lv_astore_n (lv' := [(3, .ref og), (2, .ref mo), (1, .ref ob), (0, .ref b)]) hx hb d_L_law_19 rfl hl (by decide) rfl (fun ls hl => ?_)
  refine lv_iconst (v := 0) hx hb d_L_law_20 (by decide) ?_
  refine lv_istore (lv' := [(4, .int 0), (3, .ref og), (2, .ref mo), (1, .ref ob), (0, .ref b)]) hx hb d_L_law_21 hl (by decide) rfl (fun ls hl => ?_)
  have hI : LI G Mb_3 ob og bd u0 := ⟨zOk_0, ⟨ad, had, hC.l zOk_0 (fun a r e h _ => hxl2 a r e h), hs.l (fun a r e h _ => hxl2 a r e h)⟩, ⟨0, hD.k (fun a r e h _ _ => hxl2 a r e h)⟩, _, c_og⟩
  refine W.widen (k := 31 + 5 * 0) (n := 713 + 1100 * 0) (by decide) (by decide) ?_
  exact law_loop hst hE hK hX hbl hbA hsz hL hlocks ob og bd 514 0 (by omega) (by omega) Mb_3 u0 hI _ _ _ hM hS (by rw [hbd]; exact lv_sub hl [4, 3, 2, 1, 0] rfl)
