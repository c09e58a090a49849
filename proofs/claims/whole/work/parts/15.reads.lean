set_option maxHeartbeats 4000000 in
set_option maxRecDepth 100000 in
theorem c_Rm_rowOf (l : Launch) (G : xG) (M : xM) (hst : l.stackTraces = false) (ad : Nat → Nat) (u : zS) (hC : Core G M ad u) (hO : zOk u) (x : Int32) : vx_Met l y_Rm_rowOf w_Rm_rowOf ({ frames := 6, cells := 1, slots := 6, locals := 90 }) (xP G [.ref (ad 0), .int x] M) (xQr G (fun a M' => zIn x (zrn u) ∧ a = ad (20 + x.toNatClampNeg) ∧ M' = M)) (xX G (fun E M' => ¬ zIn x (zrn u) ∧ E = nIOE ∧ M' = M)) 1 6 (xF G) := by
  refine x_metX (by decide) (Nat.le_of_ble_eq_true rfl) ?_
  intro p e s m below meth c ls hE hnx hl hM hK hS
  obtain ⟨hx, hb, hr, hml, hown, hw, hlocks⟩ := id hE
  have h0 := hM
  have hl : lv_has ls 2 [(0, .ref (ad 0)), (1, .int x)] := hl
  refine lv_iload_n hx hb d_Rm_rowOf_0 rfl (lv_at hl 1 rfl) ?_
  refine lv_if_lt (tgt := 12) hx hb d_Rm_rowOf_1 (by decide) (fun c_1 => ?_) (fun c_1 => ?_)
  · exact x_ioe (is := 231) (text := "no such series") hst hE hnx hK h0 hM hS hl.1 (by decide) d_Rm_rowOf_12 d_Rm_rowOf_15 d_Rm_rowOf_16 d_Rm_rowOf_18 d_Rm_rowOf_21 (by decide) (Nat.le_of_ble_eq_true rfl) ⟨by decide, by decide⟩ ⟨by decide, by decide⟩ (⟨fun h9 => h9.1 c_1, rfl, rfl⟩)
  · refine lv_iload_n hx hb d_Rm_rowOf_4 rfl (lv_at hl 1 rfl) ?_
    refine lv_aload_n hx hb d_Rm_rowOf_5 rfl (lv_at hl 0 rfl) ?_
    refine x_get (C := R_Rm) (T := F_Rm) (N := 12) hx hb hw i_Rm hown hK.1 hM hC.1 rfl 3 (by decide) (hw _ kw_68) rfl rfl d_Rm_rowOf_6 ?_
    refine lv_icmp_lt (tgt := 22) hx hb d_Rm_rowOf_9 (by decide) (fun c_9 => ?_) (fun c_9 => ?_)
    · refine lv_aload_n hx hb d_Rm_rowOf_22 rfl (lv_at hl 0 rfl) ?_
      refine x_get (C := R_Rm) (T := F_Rm) (N := 12) hx hb hw i_Rm hown hK.1 hM hC.1 rfl 2 (by decide) (hw _ kw_67) rfl rfl d_Rm_rowOf_23 ?_
      refine lv_iload_n hx hb d_Rm_rowOf_26 rfl (lv_at hl 1 rfl) ?_
      refine x_aldq (v := .ref (ad (20 + x.toNatClampNeg))) hx hb hK.1 hM hC.2.2.1 2 rfl (z_ix c_1 (z_nle c_9) (by have := hO.2.2.1; omega)).2 (by have h8 := (z_ix c_1 (z_nle c_9) (by have := hO.2.2.1; omega)).1; have := hO.2.2.1; omega) (by decide) (zrw_lt (z_ix c_1 (z_nle c_9) (by have := hO.2.2.1; omega)).1) d_Rm_rowOf_27 ?_
      refine vx_ret ?_
      exact x_rr hE rfl (Or.inl ⟨_, rfl⟩) hM hS ⟨⟨c_1, z_nle c_9⟩, rfl, rfl⟩ (by decide) (by decide) d_Rm_rowOf_28
    · exact x_ioe (is := 231) (text := "no such series") hst hE hnx hK h0 hM hS hl.1 (by decide) d_Rm_rowOf_12 d_Rm_rowOf_15 d_Rm_rowOf_16 d_Rm_rowOf_18 d_Rm_rowOf_21 (by decide) (Nat.le_of_ble_eq_true rfl) ⟨by decide, by decide⟩ ⟨by decide, by decide⟩ (⟨fun h9 => h9.2 (Int32.not_lt.mp c_9), rfl, rfl⟩)

set_option maxHeartbeats 4000000 in
set_option maxRecDepth 100000 in
theorem c_Rm_meanOf (l : Launch) (G : xG) (M : xM) (hst : l.stackTraces = false) (ad : Nat → Nat) (u : zS) (hC : Core G M ad u) (hO : zOk u) (x : Int32) : vx_Met l y_Rm_meanOf w_Rm_meanOf ({ frames := 6, cells := 1, slots := 6, locals := 90 }) (xP G [.ref (ad 0), .int x] M) (xQr G (fun a M' => zIn x (zmn u) ∧ a = ad (40 + x.toNatClampNeg) ∧ M' = M)) (xX G (fun E M' => ¬ zIn x (zmn u) ∧ E = nIOE ∧ M' = M)) 1 6 (xF G) := by
  refine x_metX (by decide) (Nat.le_of_ble_eq_true rfl) ?_
  intro p e s m below meth c ls hE hnx hl hM hK hS
  obtain ⟨hx, hb, hr, hml, hown, hw, hlocks⟩ := id hE
  have h0 := hM
  have hl : lv_has ls 2 [(0, .ref (ad 0)), (1, .int x)] := hl
  refine lv_iload_n hx hb d_Rm_meanOf_0 rfl (lv_at hl 1 rfl) ?_
  refine lv_if_lt (tgt := 12) hx hb d_Rm_meanOf_1 (by decide) (fun c_1 => ?_) (fun c_1 => ?_)
  · exact x_ioe (is := 182) (text := "no such master") hst hE hnx hK h0 hM hS hl.1 (by decide) d_Rm_meanOf_12 d_Rm_meanOf_15 d_Rm_meanOf_16 d_Rm_meanOf_18 d_Rm_meanOf_21 (by decide) (Nat.le_of_ble_eq_true rfl) ⟨by decide, by decide⟩ ⟨by decide, by decide⟩ (⟨fun h9 => h9.1 c_1, rfl, rfl⟩)
  · refine lv_iload_n hx hb d_Rm_meanOf_4 rfl (lv_at hl 1 rfl) ?_
    refine lv_aload_n hx hb d_Rm_meanOf_5 rfl (lv_at hl 0 rfl) ?_
    refine x_get (C := R_Rm) (T := F_Rm) (N := 12) hx hb hw i_Rm hown hK.1 hM hC.1 rfl 5 (by decide) (hw _ kw_70) rfl rfl d_Rm_meanOf_6 ?_
    refine lv_icmp_lt (tgt := 22) hx hb d_Rm_meanOf_9 (by decide) (fun c_9 => ?_) (fun c_9 => ?_)
    · refine lv_aload_n hx hb d_Rm_meanOf_22 rfl (lv_at hl 0 rfl) ?_
      refine x_get (C := R_Rm) (T := F_Rm) (N := 12) hx hb hw i_Rm hown hK.1 hM hC.1 rfl 4 (by decide) (hw _ kw_69) rfl rfl d_Rm_meanOf_23 ?_
      refine lv_iload_n hx hb d_Rm_meanOf_26 rfl (lv_at hl 1 rfl) ?_
      refine x_aldq (v := .ref (ad (40 + x.toNatClampNeg))) hx hb hK.1 hM hC.2.2.2.1 3 rfl (z_ix c_1 (z_nle c_9) (by have := hO.2.2.2.2.1; omega)).2 (by have h8 := (z_ix c_1 (z_nle c_9) (by have := hO.2.2.2.2.1; omega)).1; have := hO.2.2.2.2.1; omega) (by decide) (zrw_lt (z_ix c_1 (z_nle c_9) (by have := hO.2.2.2.2.1; omega)).1) d_Rm_meanOf_27 ?_
      refine vx_ret ?_
      exact x_rr hE rfl (Or.inl ⟨_, rfl⟩) hM hS ⟨⟨c_1, z_nle c_9⟩, rfl, rfl⟩ (by decide) (by decide) d_Rm_meanOf_28
    · exact x_ioe (is := 182) (text := "no such master") hst hE hnx hK h0 hM hS hl.1 (by decide) d_Rm_meanOf_12 d_Rm_meanOf_15 d_Rm_meanOf_16 d_Rm_meanOf_18 d_Rm_meanOf_21 (by decide) (Nat.le_of_ble_eq_true rfl) ⟨by decide, by decide⟩ ⟨by decide, by decide⟩ (⟨fun h9 => h9.2 (Int32.not_lt.mp c_9), rfl, rfl⟩)

set_option maxHeartbeats 4000000 in
set_option maxRecDepth 100000 in
theorem c_Rm_placeInMaster (l : Launch) (G : xG) (M : xM) (hst : l.stackTraces = false) (g r ra rb rc : Nat) (f l0 n : Int32) (y : Int32) (hg : M g = some (r, .inr (3, [.ref ra, .int f, .int l0, .int n, .ref rb, .ref rc]))) : vx_Met l y_Rm_placeInMaster w_Rm_placeInMaster ({ frames := 6, cells := 1, slots := 6, locals := 90 }) (xP G [.ref g, .int y] M) (xQi G (fun v M' => (¬ y < f ∧ ¬ l0 < y) ∧ v = y - f ∧ M' = M)) (xX G (fun E M' => ¬ (¬ y < f ∧ ¬ l0 < y) ∧ E = nIOE ∧ M' = M)) 1 6 (xF G) := by
  refine x_metX (by decide) (Nat.le_of_ble_eq_true rfl) ?_
  intro p e s m below meth c ls hE hnx hl hM hK hS
  obtain ⟨hx, hb, hr, hml, hown, hw, hlocks⟩ := id hE
  have h0 := hM
  have hl : lv_has ls 2 [(0, .ref g), (1, .int y)] := hl
  refine lv_iload_n hx hb d_Rm_placeInMaster_0 rfl (lv_at hl 1 rfl) ?_
  refine lv_aload_n hx hb d_Rm_placeInMaster_1 rfl (lv_at hl 0 rfl) ?_
  refine x_getN (C := R_Men) (T := F_Men) (N := 6) (host := R_Rm) hx hb hw i_Men hown hK.1 hM hg rfl 1 (by decide) (va_Nw.use rfl (hK.2.1.1 (134, R_Men, "first", "I") (by decide))) rfl rfl d_Rm_placeInMaster_2 ?_
  refine lv_icmp_lt (tgt := 16) hx hb d_Rm_placeInMaster_5 (by decide) (fun c_5 => ?_) (fun c_5 => ?_)
  · exact x_ioe (is := 95) (text := "no such year") hst hE hnx hK h0 hM hS hl.1 (by decide) d_Rm_placeInMaster_16 d_Rm_placeInMaster_19 d_Rm_placeInMaster_20 d_Rm_placeInMaster_22 d_Rm_placeInMaster_25 (by decide) (Nat.le_of_ble_eq_true rfl) ⟨by decide, by decide⟩ ⟨by decide, by decide⟩ (⟨fun h9 => h9.1 c_5, rfl, rfl⟩)
  · refine lv_iload_n hx hb d_Rm_placeInMaster_8 rfl (lv_at hl 1 rfl) ?_
    refine lv_aload_n hx hb d_Rm_placeInMaster_9 rfl (lv_at hl 0 rfl) ?_
    refine x_getN (C := R_Men) (T := F_Men) (N := 6) (host := R_Rm) hx hb hw i_Men hown hK.1 hM hg rfl 2 (by decide) (va_Nw.use rfl (hK.2.1.1 (137, R_Men, "last", "I") (by decide))) rfl rfl d_Rm_placeInMaster_10 ?_
    refine lv_icmp_le (tgt := 26) hx hb d_Rm_placeInMaster_13 (by decide) (fun c_13 => ?_) (fun c_13 => ?_)
    · refine lv_iload_n hx hb d_Rm_placeInMaster_26 rfl (lv_at hl 1 rfl) ?_
      refine lv_aload_n hx hb d_Rm_placeInMaster_27 rfl (lv_at hl 0 rfl) ?_
      refine x_getN (C := R_Men) (T := F_Men) (N := 6) (host := R_Rm) hx hb hw i_Men hown hK.1 hM hg rfl 1 (by decide) (va_Nw.use rfl (hK.2.1.1 (134, R_Men, "first", "I") (by decide))) rfl rfl d_Rm_placeInMaster_28 ?_
      refine lv_isub hx hb d_Rm_placeInMaster_31 ?_
      refine vx_ret ?_
      exact x_ri hE rfl hM hS ⟨⟨c_5, z_nlt c_13⟩, rfl, rfl⟩ (by omega) (by omega) d_Rm_placeInMaster_32
    · exact x_ioe (is := 95) (text := "no such year") hst hE hnx hK h0 hM hS hl.1 (by decide) d_Rm_placeInMaster_16 d_Rm_placeInMaster_19 d_Rm_placeInMaster_20 d_Rm_placeInMaster_22 d_Rm_placeInMaster_25 (by decide) (Nat.le_of_ble_eq_true rfl) ⟨by decide, by decide⟩ ⟨by decide, by decide⟩ (⟨fun h9 => h9.2 (Int32.not_le.mp c_13), rfl, rfl⟩)

set_option maxHeartbeats 4000000 in
set_option maxRecDepth 100000 in
theorem c_Rm_checkSumOrYears (l : Launch) (G : xG) (M : xM) (hst : l.stackTraces = false) (x : Int32) : vx_Met l y_Rm_checkSumOrYears w_Rm_checkSumOrYears ({ frames := 6, cells := 1, slots := 6, locals := 90 }) (xP G [.int x] M) (xQv G (fun M' => (¬ x < 0 ∧ ¬ 1 < x) ∧ M' = M)) (xX G (fun E M' => ¬ (¬ x < 0 ∧ ¬ 1 < x) ∧ E = nIOE ∧ M' = M)) 1 6 (xF G) := by
  refine x_metX (by decide) (Nat.le_of_ble_eq_true rfl) ?_
  intro p e s m below meth c ls hE hnx hl hM hK hS
  obtain ⟨hx, hb, hr, hml, hown, hw, hlocks⟩ := id hE
  have h0 := hM
  have hl : lv_has ls 1 [(0, .int x)] := hl
  refine lv_iload_n hx hb d_Rm_checkSumOrYears_0 rfl (lv_at hl 0 rfl) ?_
  refine lv_if_lt (tgt := 9) hx hb d_Rm_checkSumOrYears_1 (by decide) (fun c_1 => ?_) (fun c_1 => ?_)
  · exact x_ioe (is := 143) (text := "no such what") hst hE hnx hK h0 hM hS hl.1 (by decide) d_Rm_checkSumOrYears_9 d_Rm_checkSumOrYears_12 d_Rm_checkSumOrYears_13 d_Rm_checkSumOrYears_15 d_Rm_checkSumOrYears_18 (by decide) (Nat.le_of_ble_eq_true rfl) ⟨by decide, by decide⟩ ⟨by decide, by decide⟩ (⟨fun h9 => h9.1 c_1, rfl, rfl⟩)
  · refine lv_iload_n hx hb d_Rm_checkSumOrYears_4 rfl (lv_at hl 0 rfl) ?_
    refine lv_iconst (v := 1) hx hb d_Rm_checkSumOrYears_5 (by decide) ?_
    refine lv_icmp_le (tgt := 19) hx hb d_Rm_checkSumOrYears_6 (by decide) (fun c_6 => ?_) (fun c_6 => ?_)
    · refine vx_ret ?_
      exact x_rv hE rfl hM hS ⟨⟨c_1, z_nlt c_6⟩, rfl⟩ (by omega) (by omega) d_Rm_checkSumOrYears_19
    · exact x_ioe (is := 143) (text := "no such what") hst hE hnx hK h0 hM hS hl.1 (by decide) d_Rm_checkSumOrYears_9 d_Rm_checkSumOrYears_12 d_Rm_checkSumOrYears_13 d_Rm_checkSumOrYears_15 d_Rm_checkSumOrYears_18 (by decide) (Nat.le_of_ble_eq_true rfl) ⟨by decide, by decide⟩ ⟨by decide, by decide⟩ (⟨fun h9 => h9.2 (Int32.not_le.mp c_6), rfl, rfl⟩)

set_option maxHeartbeats 4000000 in
set_option maxRecDepth 100000 in
theorem c_Rm_checkLeast (l : Launch) (G : xG) (M : xM) (hst : l.stackTraces = false) (x : Int32) : vx_Met l y_Rm_checkLeast w_Rm_checkLeast ({ frames := 6, cells := 1, slots := 6, locals := 90 }) (xP G [.int x] M) (xQv G (fun M' => (¬ x < 2 ∧ ¬ 30 < x) ∧ M' = M)) (xX G (fun E M' => ¬ (¬ x < 2 ∧ ¬ 30 < x) ∧ E = nIAE ∧ M' = M)) 1 6 (xF G) := by
  refine x_metX (by decide) (Nat.le_of_ble_eq_true rfl) ?_
  intro p e s m below meth c ls hE hnx hl hM hK hS
  obtain ⟨hx, hb, hr, hml, hown, hw, hlocks⟩ := id hE
  have h0 := hM
  have hl : lv_has ls 1 [(0, .int x)] := hl
  refine lv_iload_n hx hb d_Rm_checkLeast_0 rfl (lv_at hl 0 rfl) ?_
  refine lv_iconst (v := 2) hx hb d_Rm_checkLeast_1 (by decide) ?_
  refine lv_icmp_lt (tgt := 11) hx hb d_Rm_checkLeast_2 (by decide) (fun c_2 => ?_) (fun c_2 => ?_)
  · exact x_iae (is := 233) (text := "no such least number of years") hst hE hnx hK h0 hM hS hl.1 (by decide) d_Rm_checkLeast_11 d_Rm_checkLeast_14 d_Rm_checkLeast_15 d_Rm_checkLeast_17 d_Rm_checkLeast_20 (by decide) (Nat.le_of_ble_eq_true rfl) ⟨by decide, by decide⟩ ⟨by decide, by decide⟩ (⟨fun h9 => h9.1 c_2, rfl, rfl⟩)
  · refine lv_iload_n hx hb d_Rm_checkLeast_5 rfl (lv_at hl 0 rfl) ?_
    refine lv_bipush (v := 30) hx hb d_Rm_checkLeast_6 (by decide) ?_
    refine lv_icmp_le (tgt := 21) hx hb d_Rm_checkLeast_8 (by decide) (fun c_8 => ?_) (fun c_8 => ?_)
    · refine vx_ret ?_
      exact x_rv hE rfl hM hS ⟨⟨c_2, z_nlt c_8⟩, rfl⟩ (by omega) (by omega) d_Rm_checkLeast_21
    · exact x_iae (is := 233) (text := "no such least number of years") hst hE hnx hK h0 hM hS hl.1 (by decide) d_Rm_checkLeast_11 d_Rm_checkLeast_14 d_Rm_checkLeast_15 d_Rm_checkLeast_17 d_Rm_checkLeast_20 (by decide) (Nat.le_of_ble_eq_true rfl) ⟨by decide, by decide⟩ ⟨by decide, by decide⟩ (⟨fun h9 => h9.2 (Int32.not_le.mp c_8), rfl, rfl⟩)

set_option maxHeartbeats 4000000 in
set_option maxRecDepth 100000 in
theorem c_Rm_evened (l : Launch) (G : xG) (M : xM) (hst : l.stackTraces = false) (ad : Nat → Nat) (u : zS) (hC : Core G M ad u) (hO : zOk u) (x k : Int32) : vx_Met l y_Rm_evened w_Rm_evened ({ frames := 7, cells := 2, slots := 12, locals := 120 }) (xP G [.ref (ad 0), .int x, .int k] M) (xQi G (fun v M' => fEvened u x k = (0, v) ∧ M' = M)) (xX G (fun E M' => fEvened u x k = (1, 0) ∧ E = nIOE ∧ M' = M)) 2 12 (xF G) := by
  refine x_metX (by decide) (Nat.le_of_ble_eq_true rfl) ?_
  intro p e s m below meth c ls hE hnx hl hM hK hS
  obtain ⟨hx, hb, hr, hml, hown, hw, hlocks⟩ := id hE
  have h0 := hM
  have hl : lv_has ls 4 [(0, .ref (ad 0)), (1, .int x), (2, .int k)] := hl
  refine lv_aload_n hx hb d_Rm_evened_0 rfl (lv_at hl 0 rfl) ?_
  refine lv_iload_n hx hb d_Rm_evened_1 rfl (lv_at hl 1 rfl) ?_
  refine x_cxr (x_runVX (As := [.int x]) (rest := []) hE hK hM hl.1 (c_Rm_rowOf l G M hst ad u hC hO x) hC.1 rfl kw_232 kw_234 ks_2 kw_1 kw_235 1 rfl rfl rfl (by decide +kernel) ⟨by decide, by decide⟩ rfl (Nat.le_of_ble_eq_true rfl) d_Rm_evened_2 ⟨by decide, by decide⟩) hS (fun E ce q9 M1 H locs hp hM hS hq1 hq2 hq3 => ?_) (fun r1 M1 H locs hp hM hS => ?_)
  · obtain ⟨h_x, rfl, e_M⟩ := hp
    have hM : xh G M H := e_M ▸ hM
    exact x_out hE hnx hM hS hq1 hq2 hq3 ⟨by unfold fEvened; rw [if_neg h_x], rfl, rfl⟩ (by decide) (by decide)
  obtain ⟨h_in, e_a, e_M⟩ := hp
  have hM : xh G M H := e_M ▸ hM
  obtain ⟨i, e_i, h_i, ex_i⟩ := z_in h_in (by have := hO.2.2.1; omega)
  rw [← e_i] at e_a
  subst e_a
  have hR_i := hC.2.2.2.2.2.2.1 i h_i
  have hZ_i := hO.2.2.2.1 i h_i
  refine lv_astore_n (lv' := [(3, .ref (ad (20 + i))), (0, .ref (ad 0)), (1, .int x), (2, .int k)]) hx hb d_Rm_evened_5 rfl hl (by decide) rfl (fun ls hl => ?_)
  refine lv_iload_n hx hb d_Rm_evened_6 rfl (lv_at hl 3 rfl) ?_
  refine lv_iconst (v := (-1)) hx hb d_Rm_evened_7 (by decide) ?_
  refine lv_icmp_ne (tgt := 17) hx hb d_Rm_evened_8 (by decide) (fun c_8 => ?_) (fun c_8 => ?_)
  · refine lv_iload_n hx hb d_Rm_evened_17 rfl (lv_at hl 3 rfl) ?_
    refine lv_if_lt (tgt := 30) hx hb d_Rm_evened_18 (by decide) (fun c_18 => ?_) (fun c_18 => ?_)
    · exact x_ioe (is := 92) (text := "no such ring") hst hE hnx hK h0 hM hS hl.1 (by decide) d_Rm_evened_30 d_Rm_evened_33 d_Rm_evened_34 d_Rm_evened_36 d_Rm_evened_39 (by decide) (Nat.le_of_ble_eq_true rfl) ⟨by decide, by decide⟩ ⟨by decide, by decide⟩ (⟨by unfold fEvened; rw [if_pos h_in, if_neg c_8, ← e_i, if_neg (fun h9 => h9.1 c_18)], rfl, rfl⟩)
    · refine lv_iload_n hx hb d_Rm_evened_21 rfl (lv_at hl 3 rfl) ?_
      refine lv_aload_n hx hb d_Rm_evened_22 rfl (lv_at hl 0 rfl) ?_
      refine x_getN (C := R_Row) (T := F_Row) (N := 2) (host := R_Rm) hx hb hw i_Row hown hK.1 hM hR_i.1 rfl 0 (by decide) (va_Nw.use rfl (hK.2.1.1 (87, R_Row, "even", "[I") (by decide))) rfl rfl d_Rm_evened_23 ?_
      refine x_alen (v := nI (zln u i)) hx hb hK.1 hM hR_i.2 0 rfl rfl d_Rm_evened_26 ?_
      refine lv_icmp_lt (tgt := 40) hx hb d_Rm_evened_27 (by decide) (fun c_27 => ?_) (fun c_27 => ?_)
      · refine lv_aload_n hx hb d_Rm_evened_40 rfl (lv_at hl 0 rfl) ?_
        refine x_getN (C := R_Row) (T := F_Row) (N := 2) (host := R_Rm) hx hb hw i_Row hown hK.1 hM hR_i.1 rfl 0 (by decide) (va_Nw.use rfl (hK.2.1.1 (87, R_Row, "even", "[I") (by decide))) rfl rfl d_Rm_evened_41 ?_
        refine lv_iload_n hx hb d_Rm_evened_44 rfl (lv_at hl 3 rfl) ?_
        refine x_iald hx hb hK.1 hM hR_i.2 0 rfl (z_ix c_18 (z_nle c_27) (by omega)).2 (z_ix c_18 (z_nle c_27) (by omega)).1 (by omega) d_Rm_evened_45 ?_
        refine vx_ret ?_
        exact x_ri hE rfl hM hS ⟨by unfold fEvened; rw [if_pos h_in, if_neg c_8, ← e_i, if_pos ⟨c_18, z_nle c_27⟩], rfl⟩ (by omega) (by omega) d_Rm_evened_46
      · exact x_ioe (is := 92) (text := "no such ring") hst hE hnx hK h0 hM hS hl.1 (by decide) d_Rm_evened_30 d_Rm_evened_33 d_Rm_evened_34 d_Rm_evened_36 d_Rm_evened_39 (by decide) (Nat.le_of_ble_eq_true rfl) ⟨by decide, by decide⟩ ⟨by decide, by decide⟩ (⟨by unfold fEvened; rw [if_pos h_in, if_neg c_8, ← e_i, if_neg (fun h9 => h9.2 (Int32.not_lt.mp c_27))], rfl, rfl⟩)
  · refine lv_aload_n hx hb d_Rm_evened_11 rfl (lv_at hl 0 rfl) ?_
    refine x_getN (C := R_Row) (T := F_Row) (N := 2) (host := R_Rm) hx hb hw i_Row hown hK.1 hM hR_i.1 rfl 0 (by decide) (va_Nw.use rfl (hK.2.1.1 (87, R_Row, "even", "[I") (by decide))) rfl rfl d_Rm_evened_12 ?_
    refine x_alen (v := nI (zln u i)) hx hb hK.1 hM hR_i.2 0 rfl rfl d_Rm_evened_15 ?_
    refine vx_ret ?_
    exact x_ri hE rfl hM hS ⟨by unfold fEvened; rw [if_pos h_in, if_pos c_8, ← e_i], rfl⟩ (by omega) (by omega) d_Rm_evened_16

set_option maxHeartbeats 4000000 in
set_option maxRecDepth 100000 in
theorem c_Rm_at (l : Launch) (G : xG) (M : xM) (hst : l.stackTraces = false) (ad : Nat → Nat) (u : zS) (hC : Core G M ad u) (hO : zOk u) (x y : Int32) : vx_Met l y_Rm_at w_Rm_at ({ frames := 7, cells := 2, slots := 12, locals := 125 }) (xP G [.ref (ad 0), .int x, .int y] M) (xQi G (fun v M' => fAt u x y = (0, v) ∧ M' = M)) (xX G (fun E M' => fAt u x y = (1, 0) ∧ E = nIOE ∧ M' = M)) 2 12 (xF G) := by
  refine x_metX (by decide) (Nat.le_of_ble_eq_true rfl) ?_
  intro p e s m below meth c ls hE hnx hl hM hK hS
  obtain ⟨hx, hb, hr, hml, hown, hw, hlocks⟩ := id hE
  have h0 := hM
  have hl : lv_has ls 4 [(0, .ref (ad 0)), (1, .int x), (2, .int y)] := hl
  refine lv_aload_n hx hb d_Rm_at_0 rfl (lv_at hl 0 rfl) ?_
  refine lv_iload_n hx hb d_Rm_at_1 rfl (lv_at hl 1 rfl) ?_
  refine x_cxr (x_runVX (As := [.int x]) (rest := []) hE hK hM hl.1 (c_Rm_meanOf l G M hst ad u hC hO x) hC.1 rfl kw_366 kw_368 ks_9 kw_1 kw_369 1 rfl rfl rfl (by decide +kernel) ⟨by decide, by decide⟩ rfl (Nat.le_of_ble_eq_true rfl) d_Rm_at_2 ⟨by decide, by decide⟩) hS (fun E ce q9 M1 H locs hp hM hS hq1 hq2 hq3 => ?_) (fun r1 M1 H locs hp hM hS => ?_)
  · obtain ⟨h_x, rfl, e_M⟩ := hp
    have hM : xh G M H := e_M ▸ hM
    exact x_out hE hnx hM hS hq1 hq2 hq3 ⟨by unfold fAt; rw [if_neg h_x], rfl, rfl⟩ (by decide) (by decide)
  obtain ⟨h_inj, e_a, e_M⟩ := hp
  have hM : xh G M H := e_M ▸ hM
  obtain ⟨j, e_j, h_j, ex_j⟩ := z_in h_inj (by have := hO.2.2.2.2.1; omega)
  rw [← e_j] at e_a
  subst e_a
  obtain ⟨hJ1, hJ2, V, D, hJ3, hJ4, hJ5⟩ := hC.2.2.2.2.2.2.2 j h_j
  have hB := hO.mas h_j
  refine lv_astore_n (lv' := [(3, .ref (ad (40 + j))), (0, .ref (ad 0)), (1, .int x), (2, .int y)]) hx hb d_Rm_at_5 rfl hl (by decide) rfl (fun ls hl => ?_)
  refine lv_aload_n hx hb d_Rm_at_6 rfl (lv_at hl 0 rfl) ?_
  refine x_getN (C := R_Men) (T := F_Men) (N := 6) (host := R_Rm) hx hb hw i_Men hown hK.1 hM hJ1 rfl 4 (by decide) (va_Nw.use rfl (hK.2.1.1 (145, R_Men, "values", "[I") (by decide))) rfl rfl d_Rm_at_7 ?_
  refine lv_aload_n hx hb d_Rm_at_10 rfl (lv_at hl 0 rfl) ?_
  refine lv_iload_n hx hb d_Rm_at_11 rfl (lv_at hl 3 rfl) ?_
  refine x_cxi (x_runSX (As := [.ref (ad (40 + j)), .int y]) (rest := [.ref (ad (60 + j))]) hE hK hM hl.1 (c_Rm_placeInMaster l G M hst (ad (40 + j)) (40 + j) (ad (50 + j)) (ad (60 + j)) (ad (70 + j)) (zFst (zms u j) 10) (zLst (zln u) (zms u j) 10) (nI (zCnt (zms u j) 10)) y hJ1) kw_379 kw_380 kw_1 kw_381 2 rfl rfl rfl (by decide +kernel) ⟨by decide, by decide⟩ rfl (Nat.le_of_ble_eq_true rfl) d_Rm_at_12 ⟨by decide, by decide⟩) hS (fun E ce q9 M1 H locs hp hM hS hq1 hq2 hq3 => ?_) (fun r2 M1 H locs hp hM hS => ?_)
  · obtain ⟨h_x, rfl, e_M⟩ := hp
    have hM : xh G M H := e_M ▸ hM
    exact x_out hE hnx hM hS hq1 hq2 hq3 ⟨by unfold fAt; rw [if_pos h_inj, ← e_j, if_pos (by by_cases h7 : y < zFst (zms u j) 10; exact Or.inl h7; exact Or.inr (Classical.byContradiction fun h8 => h_x ⟨h7, h8⟩))], rfl, rfl⟩ (by decide) (by decide)
  obtain ⟨h_y, e_v, e_M⟩ := hp
  have hM : xh G M H := e_M ▸ hM
  obtain ⟨k, hk1, hk2, hk3, hk4⟩ := z_yr hB.1 hB.2 h_y.1 h_y.2
  refine x_iald hx hb hK.1 hM hJ3 0 rfl (e_v.trans hk2) hk1 (by have := hk4; show (zLst _ _ _ - zFst _ _ + 1).toNatClampNeg < _; omega) d_Rm_at_15 ?_
  refine vx_ret ?_
  exact x_ri hE rfl hM hS ⟨by unfold fAt; rw [if_pos h_inj, ← e_j, if_neg (fun h9 => h9.elim h_y.1 h_y.2), (hJ5 k hk1).1, hk3]; rfl, rfl⟩ (by omega) (by omega) d_Rm_at_16

set_option maxHeartbeats 4000000 in
set_option maxRecDepth 100000 in
theorem c_Rm_depth (l : Launch) (G : xG) (M : xM) (hst : l.stackTraces = false) (ad : Nat → Nat) (u : zS) (hC : Core G M ad u) (hO : zOk u) (x y : Int32) : vx_Met l y_Rm_depth w_Rm_depth ({ frames := 7, cells := 2, slots := 12, locals := 125 }) (xP G [.ref (ad 0), .int x, .int y] M) (xQi G (fun v M' => fDepth u x y = (0, v) ∧ M' = M)) (xX G (fun E M' => fDepth u x y = (1, 0) ∧ E = nIOE ∧ M' = M)) 2 12 (xF G) := by
  refine x_metX (by decide) (Nat.le_of_ble_eq_true rfl) ?_
  intro p e s m below meth c ls hE hnx hl hM hK hS
  obtain ⟨hx, hb, hr, hml, hown, hw, hlocks⟩ := id hE
  have h0 := hM
  have hl : lv_has ls 4 [(0, .ref (ad 0)), (1, .int x), (2, .int y)] := hl
  refine lv_aload_n hx hb d_Rm_depth_0 rfl (lv_at hl 0 rfl) ?_
  refine lv_iload_n hx hb d_Rm_depth_1 rfl (lv_at hl 1 rfl) ?_
  refine x_cxr (x_runVX (As := [.int x]) (rest := []) hE hK hM hl.1 (c_Rm_meanOf l G M hst ad u hC hO x) hC.1 rfl kw_366 kw_368 ks_9 kw_1 kw_369 1 rfl rfl rfl (by decide +kernel) ⟨by decide, by decide⟩ rfl (Nat.le_of_ble_eq_true rfl) d_Rm_depth_2 ⟨by decide, by decide⟩) hS (fun E ce q9 M1 H locs hp hM hS hq1 hq2 hq3 => ?_) (fun r1 M1 H locs hp hM hS => ?_)
  · obtain ⟨h_x, rfl, e_M⟩ := hp
    have hM : xh G M H := e_M ▸ hM
    exact x_out hE hnx hM hS hq1 hq2 hq3 ⟨by unfold fDepth; rw [if_neg h_x], rfl, rfl⟩ (by decide) (by decide)
  obtain ⟨h_inj, e_a, e_M⟩ := hp
  have hM : xh G M H := e_M ▸ hM
  obtain ⟨j, e_j, h_j, ex_j⟩ := z_in h_inj (by have := hO.2.2.2.2.1; omega)
  rw [← e_j] at e_a
  subst e_a
  obtain ⟨hJ1, hJ2, V, D, hJ3, hJ4, hJ5⟩ := hC.2.2.2.2.2.2.2 j h_j
  have hB := hO.mas h_j
  refine lv_astore_n (lv' := [(3, .ref (ad (40 + j))), (0, .ref (ad 0)), (1, .int x), (2, .int y)]) hx hb d_Rm_depth_5 rfl hl (by decide) rfl (fun ls hl => ?_)
  refine lv_aload_n hx hb d_Rm_depth_6 rfl (lv_at hl 0 rfl) ?_
  refine x_getN (C := R_Men) (T := F_Men) (N := 6) (host := R_Rm) hx hb hw i_Men hown hK.1 hM hJ1 rfl 5 (by decide) (va_Nw.use rfl (hK.2.1.1 (152, R_Men, "depths", "[I") (by decide))) rfl rfl d_Rm_depth_7 ?_
  refine lv_aload_n hx hb d_Rm_depth_10 rfl (lv_at hl 0 rfl) ?_
  refine lv_iload_n hx hb d_Rm_depth_11 rfl (lv_at hl 3 rfl) ?_
  refine x_cxi (x_runSX (As := [.ref (ad (40 + j)), .int y]) (rest := [.ref (ad (70 + j))]) hE hK hM hl.1 (c_Rm_placeInMaster l G M hst (ad (40 + j)) (40 + j) (ad (50 + j)) (ad (60 + j)) (ad (70 + j)) (zFst (zms u j) 10) (zLst (zln u) (zms u j) 10) (nI (zCnt (zms u j) 10)) y hJ1) kw_379 kw_380 kw_1 kw_381 2 rfl rfl rfl (by decide +kernel) ⟨by decide, by decide⟩ rfl (Nat.le_of_ble_eq_true rfl) d_Rm_depth_12 ⟨by decide, by decide⟩) hS (fun E ce q9 M1 H locs hp hM hS hq1 hq2 hq3 => ?_) (fun r2 M1 H locs hp hM hS => ?_)
  · obtain ⟨h_x, rfl, e_M⟩ := hp
    have hM : xh G M H := e_M ▸ hM
    exact x_out hE hnx hM hS hq1 hq2 hq3 ⟨by unfold fDepth; rw [if_pos h_inj, ← e_j, if_pos (by by_cases h7 : y < zFst (zms u j) 10; exact Or.inl h7; exact Or.inr (Classical.byContradiction fun h8 => h_x ⟨h7, h8⟩))], rfl, rfl⟩ (by decide) (by decide)
  obtain ⟨h_y, e_v, e_M⟩ := hp
  have hM : xh G M H := e_M ▸ hM
  obtain ⟨k, hk1, hk2, hk3, hk4⟩ := z_yr hB.1 hB.2 h_y.1 h_y.2
  refine x_iald hx hb hK.1 hM hJ4 0 rfl (e_v.trans hk2) hk1 (by have := hk4; show (zLst _ _ _ - zFst _ _ + 1).toNatClampNeg < _; omega) d_Rm_depth_15 ?_
  refine vx_ret ?_
  exact x_ri hE rfl hM hS ⟨by unfold fDepth; rw [if_pos h_inj, ← e_j, if_neg (fun h9 => h9.elim h_y.1 h_y.2), (hJ5 k hk1).2, hk3]; rfl, rfl⟩ (by omega) (by omega) d_Rm_depth_16
