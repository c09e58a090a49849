set_option maxHeartbeats 4000000 in
set_option maxRecDepth 100000 in
theorem c_Rm_about (l : Launch) (G : xG) (M : xM) (hst : l.stackTraces = false) (ad : Nat → Nat) (u : zS) (hC : Core G M ad u) (hO : zOk u) (x k : Int32) : vx_Met l y_Rm_about w_Rm_about ({ frames := 7, cells := 2, slots := 12, locals := 125 }) (xP G [.ref (ad 0), .int x, .int k] M) (xQi G (fun v M' => fAbout u x k = (0, v) ∧ M' = M)) (xX G (fun E M' => fAbout u x k = (1, 0) ∧ E = nIOE ∧ M' = M)) 2 12 (xF G) := by
  refine x_metX (by decide) (Nat.le_of_ble_eq_true rfl) ?_
  intro p e s m below meth c ls hE hnx hl hM hK hS
  obtain ⟨hx, hb, hr, hml, hown, hw, hlocks⟩ := id hE
  have h0 := hM
  have hl : lv_has ls 4 [(0, .ref (ad 0)), (1, .int x), (2, .int k)] := hl
  refine lv_aload_n hx hb d_Rm_about_0 rfl (lv_at hl 0 rfl) ?_
  refine lv_iload_n hx hb d_Rm_about_1 rfl (lv_at hl 1 rfl) ?_
  refine x_cxr (x_runVX (As := [.int x]) (rest := []) hE hK hM hl.1 (c_Rm_meanOf l G M hst ad u hC hO x) hC.1 rfl kw_366 kw_368 ks_9 kw_1 kw_369 1 rfl rfl rfl (by decide +kernel) ⟨by decide, by decide⟩ rfl (Nat.le_of_ble_eq_true rfl) d_Rm_about_2 ⟨by decide, by decide⟩) hS (fun E ce q9 M1 H locs hp hM hS hq1 hq2 hq3 => ?_) (fun r1 M1 H locs hp hM hS => ?_)
  · obtain ⟨h_x, rfl, e_M⟩ := hp
    have hM : xh G M H := e_M ▸ hM
    exact x_out hE hnx hM hS hq1 hq2 hq3 ⟨by unfold fAbout; rw [if_neg h_x], rfl, rfl⟩ (by decide) (by decide)
  obtain ⟨h_inj, e_a, e_M⟩ := hp
  have hM : xh G M H := e_M ▸ hM
  obtain ⟨j, e_j, h_j, ex_j⟩ := z_in h_inj (by have := hO.2.2.2.2.1; omega)
  rw [← e_j] at e_a
  subst e_a
  obtain ⟨hJ1, hJ2, V, D, hJ3, hJ4, hJ5⟩ := hC.2.2.2.2.2.2.2 j h_j
  have hB := hO.mas h_j
  refine lv_astore_n (lv' := [(3, .ref (ad (40 + j))), (0, .ref (ad 0)), (1, .int x), (2, .int k)]) hx hb d_Rm_about_5 rfl hl (by decide) rfl (fun ls hl => ?_)
  refine lv_iload_n hx hb d_Rm_about_6 rfl (lv_at hl 3 rfl) ?_
  by_cases t0 : k = 0
  · subst t0
    refine lv_tableIn (off := 25) (tgt := 32) hx hb d_Rm_about_7 (by decide) (by decide) (by decide) (by decide) ?_
    refine lv_aload_n hx hb d_Rm_about_32 rfl (lv_at hl 0 rfl) ?_
    refine x_getN (C := R_Men) (T := F_Men) (N := 6) (host := R_Rm) hx hb hw i_Men hown hK.1 hM hJ1 rfl 1 (by decide) (va_Nw.use rfl (hK.2.1.1 (134, R_Men, "first", "I") (by decide))) rfl rfl d_Rm_about_33 ?_
    refine vx_ret ?_
    exact x_ri hE rfl hM hS ⟨by unfold fAbout; rw [if_pos h_inj, if_pos rfl, ← e_j], rfl⟩ (by omega) (by omega) d_Rm_about_36
  by_cases t1 : k = 1
  · subst t1
    refine lv_tableIn (off := 30) (tgt := 37) hx hb d_Rm_about_7 (by decide) (by decide) (by decide) (by decide) ?_
    refine lv_aload_n hx hb d_Rm_about_37 rfl (lv_at hl 0 rfl) ?_
    refine x_getN (C := R_Men) (T := F_Men) (N := 6) (host := R_Rm) hx hb hw i_Men hown hK.1 hM hJ1 rfl 2 (by decide) (va_Nw.use rfl (hK.2.1.1 (137, R_Men, "last", "I") (by decide))) rfl rfl d_Rm_about_38 ?_
    refine vx_ret ?_
    exact x_ri hE rfl hM hS ⟨by unfold fAbout; rw [if_pos h_inj, if_neg (by decide), if_pos rfl, ← e_j], rfl⟩ (by omega) (by omega) d_Rm_about_41
  by_cases t2 : k = 2
  · subst t2
    refine lv_tableIn (off := 35) (tgt := 42) hx hb d_Rm_about_7 (by decide) (by decide) (by decide) (by decide) ?_
    refine lv_aload_n hx hb d_Rm_about_42 rfl (lv_at hl 0 rfl) ?_
    refine x_getN (C := R_Men) (T := F_Men) (N := 6) (host := R_Rm) hx hb hw i_Men hown hK.1 hM hJ1 rfl 3 (by decide) (va_Nw.use rfl (hK.2.1.1 (140, R_Men, "members", "I") (by decide))) rfl rfl d_Rm_about_43 ?_
    refine vx_ret ?_
    exact x_ri hE rfl hM hS ⟨by unfold fAbout; rw [if_pos h_inj, if_neg (by decide), if_neg (by decide), if_pos rfl, ← e_j], rfl⟩ (by omega) (by omega) d_Rm_about_46
  · refine lv_tableOut (tgt := 47) hx hb d_Rm_about_7 (z_tab3 t0 t1 t2) (by decide) ?_
    exact x_ioe (is := 143) (text := "no such what") hst hE hnx hK h0 hM hS hl.1 (by decide) d_Rm_about_47 d_Rm_about_50 d_Rm_about_51 d_Rm_about_53 d_Rm_about_56 (by decide) (Nat.le_of_ble_eq_true rfl) ⟨by decide, by decide⟩ ⟨by decide, by decide⟩ (⟨by unfold fAbout; rw [if_pos h_inj, if_neg t0, if_neg t1, if_neg t2], rfl, rfl⟩)

set_option maxHeartbeats 4000000 in
set_option maxRecDepth 100000 in
theorem lp_Rm_floatingRows {p : Program} {l : Launch} {e : Env} {s : State} {m : MethodId} {below : List Frame} {meth : Method} {c : Code} {args : Array Value} {G : xG} {M : xM} (ad : Nat → Nat) (u : zS) (hC : Core G M ad u) (hO : zOk u) (hE : xE p s m args meth c b_Rm_floatingRows (some .int) 3 R_Rm) (hK : KX G s) : ∀ (n i : Nat), i ≤ zrn u → zrn u + 1 ≤ i + n → ∀ (H : Heap) (locs : List Loc) (ls : Array Slot), xh G M H → va_S (xF G) s.heap H locs → lv_has ls 3 [(0, .ref (ad 0)), (1, .int (nI (zFlo (zst u) i))), (2, .int (nI i))] → W p l e ({ frames := 0, cells := 0, slots := 0, locals := 0 }) s m args below meth c H locs 0 0 (MQ below (xQi G (fun v M' => v = nI (zFlo (zst u) (zrn u)) ∧ M' = M)) args s 0 0 (xF G)) (F0 m 4 ls []) := by
  obtain ⟨hx, hb, hr, hml, hown, hw, hlocks⟩ := id hE
  have hrn : zrn u ≤ 10 := hO.2.2.1
  intro n
  induction n with
  | zero =>
    intro i h1 h2
    exact absurd h2 (by omega)
  | succ n ih =>
    intro i hi hin H locs ls hM hS hl
    refine lv_iload_n hx hb d_Rm_floatingRows_4 rfl (lv_at hl 2 rfl) ?_
    refine lv_aload_n hx hb d_Rm_floatingRows_5 rfl (lv_at hl 0 rfl) ?_
    refine x_get (C := R_Rm) (T := F_Rm) (N := 12) hx hb hw i_Rm hown hK.1 hM hC.1 rfl 3 (by decide) (hw _ kw_68) rfl rfl d_Rm_floatingRows_6 ?_
    refine lv_icmp_ge (tgt := 34) hx hb d_Rm_floatingRows_9 (by decide) (fun c_9 => ?_) (fun c_9 => ?_)
    · have h9 : zrn u ≤ i := (nI_leI (by omega) (by omega)).mp c_9
      refine lv_iload_n hx hb d_Rm_floatingRows_34 rfl (lv_at hl 1 rfl) ?_
      exact x_ri hE rfl hM hS ⟨by rw [show i = zrn u by omega], rfl⟩ (by omega) (by omega) d_Rm_floatingRows_35
    · have hir : i < zrn u := Nat.not_le.mp (fun h9 => c_9 ((nI_leI (by omega) (by omega)).mpr h9))
      refine lv_aload_n hx hb d_Rm_floatingRows_12 rfl (lv_at hl 0 rfl) ?_
      refine x_get (C := R_Rm) (T := F_Rm) (N := 12) hx hb hw i_Rm hown hK.1 hM hC.1 rfl 2 (by decide) (hw _ kw_67) rfl rfl d_Rm_floatingRows_13 ?_
      refine lv_iload_n hx hb d_Rm_floatingRows_16 rfl (lv_at hl 2 rfl) ?_
      have hRi := hC.2.2.2.2.2.2.1 i hir
      refine x_aldq (v := .ref (ad (20 + i))) hx hb hK.1 hM hC.2.2.1 2 rfl rfl (by omega) (by omega) (zrw_lt hir) d_Rm_floatingRows_17 ?_
      refine x_getN (C := R_Row) (T := F_Row) (N := 2) (host := R_Rm) hx hb hw i_Row hown hK.1 hM hRi.1 rfl 1 (by decide) (va_Nw.use rfl (hK.2.1.1 (97, R_Row, "start", "I") (by decide))) rfl rfl d_Rm_floatingRows_18 ?_
      refine lv_iconst (v := (-1)) hx hb d_Rm_floatingRows_21 (by decide) ?_
      refine lv_icmp_ne (tgt := 28) hx hb d_Rm_floatingRows_22 (by decide) (fun c_22 => ?_) (fun c_22 => ?_)
      · refine lv_iinc (v := (nI (i + 1))) (lv' := [(2, .int (nI (i + 1))), (0, .ref (ad 0)), (1, .int (nI (zFlo (zst u) i)))]) hx hb d_Rm_floatingRows_28 hl (k := 2) rfl (nI_1 i) (by decide) rfl (fun ls hl => ?_)
        refine lv_goto (tgt := 4) hx hb d_Rm_floatingRows_31 (by decide) ?_
        have hz : zFlo (zst u) (i + 1) = zFlo (zst u) i := by show (if zst u i = -1 then _ else _) = _; rw [if_neg c_22]
        exact ih (i + 1) hir (by omega) _ _ _ hM hS (by rw [hz]; exact lv_sub hl [1, 2, 0] rfl)
      · refine lv_iinc (v := (nI ((zFlo (zst u) i) + 1))) (lv' := [(1, .int (nI ((zFlo (zst u) i) + 1))), (0, .ref (ad 0)), (2, .int (nI i))]) hx hb d_Rm_floatingRows_25 hl (k := 1) rfl (nI_1 (zFlo (zst u) i)) (by decide) rfl (fun ls hl => ?_)
        refine lv_iinc (v := (nI (i + 1))) (lv' := [(2, .int (nI (i + 1))), (1, .int (nI ((zFlo (zst u) i) + 1))), (0, .ref (ad 0))]) hx hb d_Rm_floatingRows_28 hl (k := 2) rfl (nI_1 i) (by decide) rfl (fun ls hl => ?_)
        refine lv_goto (tgt := 4) hx hb d_Rm_floatingRows_31 (by decide) ?_
        have hz : zFlo (zst u) (i + 1) = zFlo (zst u) i + 1 := by show (if zst u i = -1 then _ else _) = _; rw [if_pos c_22]
        exact ih (i + 1) hir (by omega) _ _ _ hM hS (by rw [hz]; exact lv_sub hl [2, 1, 0] rfl)

set_option maxHeartbeats 4000000 in
set_option maxRecDepth 100000 in
theorem c_Rm_floatingRows (l : Launch) (G : xG) (M : xM) (ad : Nat → Nat) (u : zS) (hC : Core G M ad u) (hO : zOk u) : Met l y_Rm_floatingRows w_Rm_floatingRows ({ frames := 0, cells := 0, slots := 0, locals := 0 }) (xP G [.ref (ad 0)] M) (xQi G (fun v M' => v = nI (zFlo (zst u) (zrn u)) ∧ M' = M)) 0 0 (xF G) := by
  refine x_met (by decide) (Nat.le_of_ble_eq_true rfl) ?_
  intro p e s m below meth c ls hE hin hl hM hK hS
  obtain ⟨hx, hb, hr, hml, hown, hw, hlocks⟩ := id hE
  have hl : lv_has ls 3 [(0, .ref (ad 0))] := hl
  refine lv_iconst (v := 0) hx hb d_Rm_floatingRows_0 (by decide) ?_
  refine lv_istore_n (lv' := [(1, .int 0), (0, .ref (ad 0))]) hx hb d_Rm_floatingRows_1 rfl hl (by decide) rfl (fun ls hl => ?_)
  refine lv_iconst (v := 0) hx hb d_Rm_floatingRows_2 (by decide) ?_
  refine lv_istore_n (lv' := [(2, .int 0), (1, .int 0), (0, .ref (ad 0))]) hx hb d_Rm_floatingRows_3 rfl hl (by decide) rfl (fun ls hl => ?_)
  exact lp_Rm_floatingRows ad u hC hO hE hK (zrn u + 1) 0 (by omega) (by omega) _ _ _ hM hS (lv_sub hl [2, 1, 0] rfl)

set_option maxHeartbeats 4000000 in
set_option maxRecDepth 100000 in
theorem c_Rm_count (l : Launch) (G : xG) (M : xM) (hst : l.stackTraces = false) (ad : Nat → Nat) (u : zS) (hC : Core G M ad u) (hO : zOk u) (k : Int32) : vx_Met l y_Rm_count w_Rm_count ({ frames := 6, cells := 1, slots := 6, locals := 90 }) (xP G [.ref (ad 0), .int k] M) (xQi G (fun v M' => fCount u k = (0, v) ∧ M' = M)) (xX G (fun E M' => fCount u k = (1, 0) ∧ E = nIOE ∧ M' = M)) 1 6 (xF G) := by
  refine x_metX (by decide) (Nat.le_of_ble_eq_true rfl) ?_
  intro p e s m below meth c ls hE hnx hl hM hK hS
  obtain ⟨hx, hb, hr, hml, hown, hw, hlocks⟩ := id hE
  have h0 := hM
  have hl : lv_has ls 2 [(0, .ref (ad 0)), (1, .int k)] := hl
  refine lv_iload_n hx hb d_Rm_count_0 rfl (lv_at hl 1 rfl) ?_
  by_cases t0 : k = 0
  · subst t0
    refine lv_tableIn (off := 31) (tgt := 32) hx hb d_Rm_count_1 (by decide) (by decide) (by decide) (by decide) ?_
    refine lv_aload_n hx hb d_Rm_count_32 rfl (lv_at hl 0 rfl) ?_
    refine x_get (C := R_Rm) (T := F_Rm) (N := 12) hx hb hw i_Rm hown hK.1 hM hC.1 rfl 1 (by decide) (hw _ kw_66) rfl rfl d_Rm_count_33 ?_
    refine vx_ret ?_
    exact x_ri hE rfl hM hS ⟨by unfold fCount; rw [if_pos rfl], rfl⟩ (by omega) (by omega) d_Rm_count_36
  by_cases t1 : k = 1
  · subst t1
    refine lv_tableIn (off := 36) (tgt := 37) hx hb d_Rm_count_1 (by decide) (by decide) (by decide) (by decide) ?_
    refine lv_aload_n hx hb d_Rm_count_37 rfl (lv_at hl 0 rfl) ?_
    refine x_get (C := R_Rm) (T := F_Rm) (N := 12) hx hb hw i_Rm hown hK.1 hM hC.1 rfl 3 (by decide) (hw _ kw_68) rfl rfl d_Rm_count_38 ?_
    refine vx_ret ?_
    exact x_ri hE rfl hM hS ⟨by unfold fCount; rw [if_neg (by decide), if_pos rfl], rfl⟩ (by omega) (by omega) d_Rm_count_41
  by_cases t2 : k = 2
  · subst t2
    refine lv_tableIn (off := 41) (tgt := 42) hx hb d_Rm_count_1 (by decide) (by decide) (by decide) (by decide) ?_
    refine lv_aload_n hx hb d_Rm_count_42 rfl (lv_at hl 0 rfl) ?_
    refine x_get (C := R_Rm) (T := F_Rm) (N := 12) hx hb hw i_Rm hown hK.1 hM hC.1 rfl 5 (by decide) (hw _ kw_70) rfl rfl d_Rm_count_43 ?_
    refine vx_ret ?_
    exact x_ri hE rfl hM hS ⟨by unfold fCount; rw [if_neg (by decide), if_neg (by decide), if_pos rfl], rfl⟩ (by omega) (by omega) d_Rm_count_46
  by_cases t3 : k = 3
  · subst t3
    refine lv_tableIn (off := 46) (tgt := 47) hx hb d_Rm_count_1 (by decide) (by decide) (by decide) (by decide) ?_
    refine lv_aload_n hx hb d_Rm_count_47 rfl (lv_at hl 0 rfl) ?_
    refine x_ci (x_runV (As := []) (rest := []) hE hK hM hl.1 (c_Rm_floatingRows l G M ad u hC hO) hC.1 rfl kw_513 kw_515 ks_16 kw_1 kw_516 0 rfl rfl rfl (by decide +kernel) ⟨by decide, by decide⟩ rfl (Nat.le_of_ble_eq_true rfl) d_Rm_count_48 ⟨by decide, by decide⟩) hS (fun r1 M1 H locs hp hM hS => ?_)
    obtain ⟨e_v, e_M⟩ := hp
    have hM : xh G M H := e_M ▸ hM
    refine vx_ret ?_
    exact x_ri hE rfl hM hS ⟨by unfold fCount; rw [if_neg (by decide), if_neg (by decide), if_neg (by decide), if_pos rfl, e_v], rfl⟩ (by omega) (by omega) d_Rm_count_51
  · refine lv_tableOut (tgt := 52) hx hb d_Rm_count_1 (z_tab4 t0 t1 t2 t3) (by decide) ?_
    exact x_ioe (is := 143) (text := "no such what") hst hE hnx hK h0 hM hS hl.1 (by decide) d_Rm_count_52 d_Rm_count_55 d_Rm_count_56 d_Rm_count_58 d_Rm_count_61 (by decide) (Nat.le_of_ble_eq_true rfl) ⟨by decide, by decide⟩ ⟨by decide, by decide⟩ (⟨by unfold fCount; rw [if_neg t0, if_neg t1, if_neg t2, if_neg t3], rfl, rfl⟩)

set_option maxHeartbeats 4000000 in
set_option maxRecDepth 100000 in
theorem c_Rm_ring (l : Launch) (G : xG) (M : xM) (hst : l.stackTraces = false) (ad : Nat → Nat) (u : zS) (hC : Core G M ad u) (hO : zOk u) (hs : Scr G M ad) (w : Int32) : vx_Met l y_Rm_ring w_Rm_ring ({ frames := 6, cells := 1, slots := 6, locals := 90 }) (xP G [.ref (ad 0), .int w] M) (xQi G (fun v M' => fRing u w = (0, v) ∧ Core G M' ad (uRing u w) ∧ Scr G M' ad ∧ xK100 M M')) (xX G (fun E M' => ((fRing u w = (1, 0) ∧ E = nISE) ∨ (fRing u w = (2, 0) ∧ E = nIAE)) ∧ M' = M)) 1 6 (xF G) := by
  refine x_metX (by decide) (Nat.le_of_ble_eq_true rfl) ?_
  intro p e s m below meth c ls hE hnx hl hM hK hS
  obtain ⟨hx, hb, hr, hml, hown, hw, hlocks⟩ := id hE
  have h0 := hM
  have hl : lv_has ls 2 [(0, .ref (ad 0)), (1, .int w)] := hl
  refine lv_aload_n hx hb d_Rm_ring_0 rfl (lv_at hl 0 rfl) ?_
  refine x_get (C := R_Rm) (T := F_Rm) (N := 12) hx hb hw i_Rm hown hK.1 hM hC.1 rfl 1 (by decide) (hw _ kw_66) rfl rfl d_Rm_ring_1 ?_
  refine lv_bipush (v := 30) hx hb d_Rm_ring_4 (by decide) ?_
  refine lv_icmp_lt (tgt := 19) hx hb d_Rm_ring_6 (by decide) (fun c_6 => ?_) (fun c_6 => ?_)
  · have h6 : zpn u < 30 := (nI_ltI (b := 30) (by have := hO.1; omega) (by decide)).mp c_6
    refine lv_iload_n hx hb d_Rm_ring_19 rfl (lv_at hl 1 rfl) ?_
    refine lv_iconst (v := 1) hx hb d_Rm_ring_20 (by decide) ?_
    refine lv_icmp_lt (tgt := 31) hx hb d_Rm_ring_21 (by decide) (fun c_21 => ?_) (fun c_21 => ?_)
    · exact x_iae (is := 71) (text := "no such width") hst hE hnx hK h0 hM hS hl.1 (by decide) d_Rm_ring_31 d_Rm_ring_34 d_Rm_ring_35 d_Rm_ring_37 d_Rm_ring_40 (by decide) (Nat.le_of_ble_eq_true rfl) ⟨by decide, by decide⟩ ⟨by decide, by decide⟩ (⟨Or.inr ⟨by unfold fRing; rw [if_neg (Nat.not_le.mpr h6), if_pos (Or.inl c_21)], rfl⟩, rfl⟩)
    · refine lv_iload_n hx hb d_Rm_ring_24 rfl (lv_at hl 1 rfl) ?_
      refine lv_sipush (v := 900) hx hb d_Rm_ring_25 (by decide) ?_
      refine lv_icmp_le (tgt := 41) hx hb d_Rm_ring_28 (by decide) (fun c_28 => ?_) (fun c_28 => ?_)
      · refine lv_aload_n hx hb d_Rm_ring_41 rfl (lv_at hl 0 rfl) ?_
        refine x_get (C := R_Rm) (T := F_Rm) (N := 12) hx hb hw i_Rm hown hK.1 hM hC.1 rfl 0 (by decide) (hw _ kw_65) rfl rfl d_Rm_ring_42 ?_
        refine lv_aload_n hx hb d_Rm_ring_45 rfl (lv_at hl 0 rfl) ?_
        refine x_get (C := R_Rm) (T := F_Rm) (N := 12) hx hb hw i_Rm hown hK.1 hM hC.1 rfl 1 (by decide) (hw _ kw_66) rfl rfl d_Rm_ring_46 ?_
        refine lv_iload_n hx hb d_Rm_ring_49 rfl (lv_at hl 1 rfl) ?_
        refine x_iast hx hb hK.1 hM hS hC.2.1 0 rfl rfl h6 (by decide) d_Rm_ring_50 (fun H locs hM hS hz => ?_)
        have hM : xh G (va_up M (ad 1) (some (1, .inl (gI G, 30, .inl (upd (zpd u) (zpn u) w))))) H := hM
        obtain ⟨M_1, eM_1⟩ : ∃ z : xM, z = va_up M (ad 1) (some (1, .inl (gI G, 30, .inl (upd (zpd u) (zpn u) w)))) := ⟨_, rfl⟩
        rw [← eM_1] at hM
        have k_ad0 := xw_upE eM_1 hC.1 hC.2.1 (by decide)
        have k_ad1 := xw_atE eM_1
        refine lv_aload_n hx hb d_Rm_ring_51 rfl (lv_at hl 0 rfl) ?_
        refine lv_dup hx hb d_Rm_ring_52 rfl ?_
        refine x_get (C := R_Rm) (T := F_Rm) (N := 12) hx hb hw i_Rm hown hK.1 hM k_ad0 rfl 1 (by decide) (hw _ kw_66) rfl rfl d_Rm_ring_53 ?_
        refine lv_iconst (v := 1) hx hb d_Rm_ring_56 (by decide) ?_
        refine lv_iadd hx hb d_Rm_ring_57 ?_
        refine lv_topi (fun tv etv => ?_)
        have etv : tv = nI (zpn u + 1) := by rw [etv]; exact nI_1 _
        subst etv
        refine x_put (C := R_Rm) (T := F_Rm) (N := 12) (ty := .int) (v := .int (nI (zpn u + 1))) hx hb hw i_Rm t_Rm t_Rm_ok n_Rm hown hK.1 hM hS k_ad0 rfl 1 (by decide) (hw _ kw_66) rfl rfl (by decide +kernel) rfl rfl (Nat.le_of_ble_eq_true rfl) d_Rm_ring_58 (fun H locs hM hS hz => ?_)
        have hM : xh G (va_up M_1 (ad 0) (some (0, .inr (4, [.ref (ad 1), .int (nI (zpn u + 1)), .ref (ad 2), .int (nI (zrn u)), .ref (ad 3), .int (nI (zmn u)), .ref (ad 4), .ref (ad 5), .ref (ad 6), .ref (ad 7), .ref (ad 8), .ref (ad 9)])))) H := hM
        obtain ⟨M_2, eM_2⟩ : ∃ z : xM, z = va_up M_1 (ad 0) (some (0, .inr (4, [.ref (ad 1), .int (nI (zpn u + 1)), .ref (ad 2), .int (nI (zrn u)), .ref (ad 3), .int (nI (zmn u)), .ref (ad 4), .ref (ad 5), .ref (ad 6), .ref (ad 7), .ref (ad 8), .ref (ad 9)]))) := ⟨_, rfl⟩
        rw [← eM_2] at hM
        have k_ad1 := xw_upE eM_2 k_ad1 k_ad0 (by decide)
        have k_ad0 := xw_atE eM_2
        refine lv_aload_n hx hb d_Rm_ring_61 rfl (lv_at hl 0 rfl) ?_
        refine x_get (C := R_Rm) (T := F_Rm) (N := 12) hx hb hw i_Rm hown hK.1 hM k_ad0 rfl 1 (by decide) (hw _ kw_66) rfl rfl d_Rm_ring_62 ?_
        refine vx_ret ?_
        exact x_ri hE rfl hM hS ⟨by unfold fRing; rw [if_neg (Nat.not_le.mpr h6), if_neg (fun h9 => h9.elim c_21 (z_nlt c_28))], Core.ring hC hs eM_1 eM_2⟩ (by omega) (by omega) d_Rm_ring_65
      · exact x_iae (is := 71) (text := "no such width") hst hE hnx hK h0 hM hS hl.1 (by decide) d_Rm_ring_31 d_Rm_ring_34 d_Rm_ring_35 d_Rm_ring_37 d_Rm_ring_40 (by decide) (Nat.le_of_ble_eq_true rfl) ⟨by decide, by decide⟩ ⟨by decide, by decide⟩ (⟨Or.inr ⟨by unfold fRing; rw [if_neg (Nat.not_le.mpr h6), if_pos (Or.inr (Int32.not_le.mp c_28))], rfl⟩, rfl⟩)
  · have h6 : 30 ≤ zpn u := Nat.not_lt.mp (fun h9 => c_6 ((nI_ltI (b := 30) (by omega) (by decide)).mpr h9))
    exact x_ise (is := 64) (text := "the pad is full") hst hE hnx hK h0 hM hS hl.1 (by decide) d_Rm_ring_9 d_Rm_ring_12 d_Rm_ring_13 d_Rm_ring_15 d_Rm_ring_18 (by decide) (Nat.le_of_ble_eq_true rfl) ⟨by decide, by decide⟩ ⟨by decide, by decide⟩ (⟨Or.inl ⟨by unfold fRing; rw [if_pos h6], rfl⟩, rfl⟩)

set_option maxHeartbeats 4000000 in
set_option maxRecDepth 100000 in
theorem c_Rm_sapwood (l : Launch) (G : xG) (M : xM) (hst : l.stackTraces = false) (ad : Nat → Nat) (u : zS) (hC : Core G M ad u) (hO : zOk u) (hs : Scr G M ad) (x w : Int32) : vx_Met l y_Rm_sapwood w_Rm_sapwood ({ frames := 6, cells := 1, slots := 6, locals := 90 }) (xP G [.ref (ad 0), .int x, .int w] M) (xQi G (fun v M' => fSap u x w = (0, v) ∧ Core G M' ad (uSap u x w) ∧ Scr G M' ad ∧ xK100 M M')) (xX G (fun E M' => fSap u x w = (1, 0) ∧ E = nIAE ∧ M' = M)) 1 6 (xF G) := by
  refine x_metX (by decide) (Nat.le_of_ble_eq_true rfl) ?_
  intro p e s m below meth c ls hE hnx hl hM hK hS
  obtain ⟨hx, hb, hr, hml, hown, hw, hlocks⟩ := id hE
  have h0 := hM
  have hl : lv_has ls 4 [(0, .ref (ad 0)), (1, .int x), (2, .int w)] := hl
  refine lv_iload_n hx hb d_Rm_sapwood_0 rfl (lv_at hl 1 rfl) ?_
  refine lv_if_lt (tgt := 10) hx hb d_Rm_sapwood_1 (by decide) (fun c_1 => ?_) (fun c_1 => ?_)
  · exact x_iae (is := 193) (text := "no such number of rings") hst hE hnx hK h0 hM hS hl.1 (by decide) d_Rm_sapwood_10 d_Rm_sapwood_13 d_Rm_sapwood_14 d_Rm_sapwood_16 d_Rm_sapwood_19 (by decide) (Nat.le_of_ble_eq_true rfl) ⟨by decide, by decide⟩ ⟨by decide, by decide⟩ (⟨by unfold fSap; rw [if_pos (Or.inl c_1)], rfl, rfl⟩)
  · refine lv_iload_n hx hb d_Rm_sapwood_4 rfl (lv_at hl 1 rfl) ?_
    refine lv_bipush (v := 60) hx hb d_Rm_sapwood_5 (by decide) ?_
    refine lv_icmp_le (tgt := 20) hx hb d_Rm_sapwood_7 (by decide) (fun c_7 => ?_) (fun c_7 => ?_)
    · have hxi := z_ix (n := 61) c_1 (fun h9 => absurd (Int32.le_trans h9 c_7) (by decide)) (by decide)
      refine lv_iload_n hx hb d_Rm_sapwood_20 rfl (lv_at hl 2 rfl) ?_
      refine lv_if_lt (tgt := 31) hx hb d_Rm_sapwood_21 (by decide) (fun c_21 => ?_) (fun c_21 => ?_)
      · exact x_iae (is := 195) (text := "no such weight") hst hE hnx hK h0 hM hS hl.1 (by decide) d_Rm_sapwood_31 d_Rm_sapwood_34 d_Rm_sapwood_35 d_Rm_sapwood_37 d_Rm_sapwood_40 (by decide) (Nat.le_of_ble_eq_true rfl) ⟨by decide, by decide⟩ ⟨by decide, by decide⟩ (⟨by unfold fSap; rw [if_neg (fun h9 => h9.elim c_1 (z_nlt c_7)), if_pos (Or.inl c_21)], rfl, rfl⟩)
      · refine lv_iload_n hx hb d_Rm_sapwood_24 rfl (lv_at hl 2 rfl) ?_
        refine lv_sipush (v := 10000) hx hb d_Rm_sapwood_25 (by decide) ?_
        refine lv_icmp_le (tgt := 41) hx hb d_Rm_sapwood_28 (by decide) (fun c_28 => ?_) (fun c_28 => ?_)
        · refine lv_aload_n hx hb d_Rm_sapwood_41 rfl (lv_at hl 0 rfl) ?_
          refine x_get (C := R_Rm) (T := F_Rm) (N := 12) hx hb hw i_Rm hown hK.1 hM hC.1 rfl 6 (by decide) (hw _ kw_71) rfl rfl d_Rm_sapwood_42 ?_
          refine lv_iload_n hx hb d_Rm_sapwood_45 rfl (lv_at hl 1 rfl) ?_
          refine x_iald hx hb hK.1 hM hC.2.2.2.2.1 0 rfl hxi.2 hxi.1 (by decide) d_Rm_sapwood_46 ?_
          refine lv_istore_n (lv' := [(3, .int ((zwt u) x.toNatClampNeg)), (0, .ref (ad 0)), (1, .int x), (2, .int w)]) hx hb d_Rm_sapwood_47 rfl hl (by decide) rfl (fun ls hl => ?_)
          refine lv_aload_n hx hb d_Rm_sapwood_48 rfl (lv_at hl 1 rfl) ?_
          refine x_get (C := R_Rm) (T := F_Rm) (N := 12) hx hb hw i_Rm hown hK.1 hM hC.1 rfl 6 (by decide) (hw _ kw_71) rfl rfl d_Rm_sapwood_49 ?_
          refine lv_iload_n hx hb d_Rm_sapwood_52 rfl (lv_at hl 2 rfl) ?_
          refine lv_iload_n hx hb d_Rm_sapwood_53 rfl (lv_at hl 3 rfl) ?_
          refine x_iast hx hb hK.1 hM hS hC.2.2.2.2.1 0 rfl hxi.2 hxi.1 (by decide) d_Rm_sapwood_54 (fun H locs hM hS hz => ?_)
          have hM : xh G (va_up M (ad 4) (some (4, .inl (gI G, 61, .inl (upd (zwt u) x.toNatClampNeg w))))) H := hM
          obtain ⟨M_1, eM_1⟩ : ∃ z : xM, z = va_up M (ad 4) (some (4, .inl (gI G, 61, .inl (upd (zwt u) x.toNatClampNeg w)))) := ⟨_, rfl⟩
          rw [← eM_1] at hM
          have k_ad0 := xw_upE eM_1 hC.1 hC.2.2.2.2.1 (by decide)
          have k_ad4 := xw_atE eM_1
          refine lv_iload_n hx hb d_Rm_sapwood_55 rfl (lv_at hl 0 rfl) ?_
          refine vx_ret ?_
          exact x_ri hE rfl hM hS ⟨by unfold fSap; rw [if_neg (fun h9 => h9.elim c_1 (z_nlt c_7)), if_neg (fun h9 => h9.elim c_21 (z_nlt c_28))], Core.sap hC hs eM_1⟩ (by omega) (by omega) d_Rm_sapwood_56
        · exact x_iae (is := 195) (text := "no such weight") hst hE hnx hK h0 hM hS hl.1 (by decide) d_Rm_sapwood_31 d_Rm_sapwood_34 d_Rm_sapwood_35 d_Rm_sapwood_37 d_Rm_sapwood_40 (by decide) (Nat.le_of_ble_eq_true rfl) ⟨by decide, by decide⟩ ⟨by decide, by decide⟩ (⟨by unfold fSap; rw [if_neg (fun h9 => h9.elim c_1 (z_nlt c_7)), if_pos (Or.inr (Int32.not_le.mp c_28))], rfl, rfl⟩)
    · exact x_iae (is := 193) (text := "no such number of rings") hst hE hnx hK h0 hM hS hl.1 (by decide) d_Rm_sapwood_10 d_Rm_sapwood_13 d_Rm_sapwood_14 d_Rm_sapwood_16 d_Rm_sapwood_19 (by decide) (Nat.le_of_ble_eq_true rfl) ⟨by decide, by decide⟩ ⟨by decide, by decide⟩ (⟨by unfold fSap; rw [if_pos (Or.inr (Int32.not_le.mp c_7))], rfl, rfl⟩)

set_option maxHeartbeats 4000000 in
set_option maxRecDepth 100000 in
theorem c_Rm_place (l : Launch) (G : xG) (M : xM) (hst : l.stackTraces = false) (ad : Nat → Nat) (u : zS) (hC : Core G M ad u) (hO : zOk u) (hs : Scr G M ad) (x y : Int32) : vx_Met l y_Rm_place w_Rm_place ({ frames := 7, cells := 2, slots := 12, locals := 120 }) (xP G [.ref (ad 0), .int x, .int y] M) (xQi G (fun v M' => fPlace u x y = (0, v) ∧ Core G M' ad (uPlace u x y) ∧ Scr G M' ad ∧ xK100 M M')) (xX G (fun E M' => ((fPlace u x y = (1, 0) ∧ E = nIOE) ∨ (fPlace u x y = (2, 0) ∧ E = nIAE)) ∧ M' = M)) 2 12 (xF G) := by
  refine x_metX (by decide) (Nat.le_of_ble_eq_true rfl) ?_
  intro p e s m below meth c ls hE hnx hl hM hK hS
  obtain ⟨hx, hb, hr, hml, hown, hw, hlocks⟩ := id hE
  have h0 := hM
  have hl : lv_has ls 5 [(0, .ref (ad 0)), (1, .int x), (2, .int y)] := hl
  refine lv_aload_n hx hb d_Rm_place_0 rfl (lv_at hl 0 rfl) ?_
  refine lv_iload_n hx hb d_Rm_place_1 rfl (lv_at hl 1 rfl) ?_
  refine x_cxr (x_runVX (As := [.int x]) (rest := []) hE hK hM hl.1 (c_Rm_rowOf l G M hst ad u hC hO x) hC.1 rfl kw_232 kw_234 ks_2 kw_1 kw_235 1 rfl rfl rfl (by decide +kernel) ⟨by decide, by decide⟩ rfl (Nat.le_of_ble_eq_true rfl) d_Rm_place_2 ⟨by decide, by decide⟩) hS (fun E ce q9 M1 H locs hp hM hS hq1 hq2 hq3 => ?_) (fun r1 M1 H locs hp hM hS => ?_)
  · obtain ⟨h_x, rfl, e_M⟩ := hp
    have hM : xh G M H := e_M ▸ hM
    exact x_out hE hnx hM hS hq1 hq2 hq3 ⟨Or.inl ⟨by unfold fPlace; rw [if_neg h_x], rfl⟩, rfl⟩ (by decide) (by decide)
  obtain ⟨h_in, e_a, e_M⟩ := hp
  have hM : xh G M H := e_M ▸ hM
  obtain ⟨i, e_i, h_i, ex_i⟩ := z_in h_in (by have := hO.2.2.1; omega)
  rw [← e_i] at e_a
  subst e_a
  have hR_i := hC.2.2.2.2.2.2.1 i h_i
  have hZ_i := hO.2.2.2.1 i h_i
  refine lv_astore_n (lv' := [(3, .ref (ad (20 + i))), (0, .ref (ad 0)), (1, .int x), (2, .int y)]) hx hb d_Rm_place_5 rfl hl (by decide) rfl (fun ls hl => ?_)
  refine lv_iload_n hx hb d_Rm_place_6 rfl (lv_at hl 3 rfl) ?_
  refine lv_iconst (v := (-1)) hx hb d_Rm_place_7 (by decide) ?_
  refine lv_icmp_lt (tgt := 18) hx hb d_Rm_place_8 (by decide) (fun c_8 => ?_) (fun c_8 => ?_)
  · exact x_iae (is := 95) (text := "no such year") hst hE hnx hK h0 hM hS hl.1 (by decide) d_Rm_place_18 d_Rm_place_21 d_Rm_place_22 d_Rm_place_24 d_Rm_place_27 (by decide) (Nat.le_of_ble_eq_true rfl) ⟨by decide, by decide⟩ ⟨by decide, by decide⟩ (⟨Or.inr ⟨by unfold fPlace; rw [if_pos h_in, if_pos (Or.inl c_8)], rfl⟩, rfl⟩)
  · refine lv_iload_n hx hb d_Rm_place_11 rfl (lv_at hl 3 rfl) ?_
    refine lv_sipush (v := 500) hx hb d_Rm_place_12 (by decide) ?_
    refine lv_icmp_le (tgt := 28) hx hb d_Rm_place_15 (by decide) (fun c_15 => ?_) (fun c_15 => ?_)
    · refine lv_aload_n hx hb d_Rm_place_28 rfl (lv_at hl 0 rfl) ?_
      refine x_getN (C := R_Row) (T := F_Row) (N := 2) (host := R_Rm) hx hb hw i_Row hown hK.1 hM hR_i.1 rfl 1 (by decide) (va_Nw.use rfl (hK.2.1.1 (97, R_Row, "start", "I") (by decide))) rfl rfl d_Rm_place_29 ?_
      refine lv_istore (lv' := [(4, .int (zst u i)), (3, .ref (ad (20 + i))), (0, .ref (ad 0)), (1, .int x), (2, .int y)]) hx hb d_Rm_place_32 hl (by decide) rfl (fun ls hl => ?_)
      refine lv_aload_n hx hb d_Rm_place_34 rfl (lv_at hl 1 rfl) ?_
      refine lv_iload_n hx hb d_Rm_place_35 rfl (lv_at hl 4 rfl) ?_
      refine x_putN (C := R_Row) (T := F_Row) (N := 2) (host := R_Rm) (ty := .int) (v := .int y) hx hb hw i_Row t_Row t_Row_ok n_Row hown hK.1 hM hS hR_i.1 rfl 1 (by decide) (va_Nw.use rfl (hK.2.1.1 (97, R_Row, "start", "I") (by decide))) rfl rfl (by decide +kernel) rfl rfl (Nat.le_of_ble_eq_true rfl) d_Rm_place_36 (fun H locs hM hS hz => ?_)
      have hM : xh G (va_up M (ad (20 + i)) (some (20 + i, .inr (2, [.ref (ad (30 + i)), .int y])))) H := hM
      obtain ⟨M_1, eM_1⟩ : ∃ z : xM, z = va_up M (ad (20 + i)) (some (20 + i, .inr (2, [.ref (ad (30 + i)), .int y]))) := ⟨_, rfl⟩
      rw [← eM_1] at hM
      have k_ad0 := xw_upE eM_1 hC.1 hR_i.1 (by omega)
      have k_ad30i := xw_upE eM_1 hR_i.2 hR_i.1 (by omega)
      have k_ad20i := xw_atE eM_1
      refine lv_iload hx hb d_Rm_place_39 (lv_at hl 0 rfl) ?_
      refine vx_ret ?_
      exact x_ri hE rfl hM hS ⟨by unfold fPlace; rw [if_pos h_in, if_neg (fun h9 => h9.elim c_8 (z_nlt c_15)), ← e_i], Core.place hC hs h_i e_i hO.2.2.1 eM_1⟩ (by omega) (by omega) d_Rm_place_41
    · exact x_iae (is := 95) (text := "no such year") hst hE hnx hK h0 hM hS hl.1 (by decide) d_Rm_place_18 d_Rm_place_21 d_Rm_place_22 d_Rm_place_24 d_Rm_place_27 (by decide) (Nat.le_of_ble_eq_true rfl) ⟨by decide, by decide⟩ ⟨by decide, by decide⟩ (⟨Or.inr ⟨by unfold fPlace; rw [if_pos h_in, if_pos (Or.inr (Int32.not_le.mp c_15))], rfl⟩, rfl⟩)
