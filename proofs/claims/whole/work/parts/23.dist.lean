set_option maxHeartbeats 4000000 in
set_option maxRecDepth 100000 in
theorem c_Rm_distance (l : Launch) (G : xG) (M : xM) (hst : l.stackTraces = false) (ad : Nat → Nat) (u : zS) (hC : Core G M ad u) (hO : zOk u) (hs : Scr G M ad) (x mm y w : Int32) : vx_Met l y_Rm_distance w_Rm_distance ({ frames := 7, cells := 3, slots := 18, locals := 125 }) (xP G [.ref (ad 0), .int x, .int mm, .int y, .int w] M) (xQi G (fun v M' => fDist u x mm y w = (0, v) ∧ xKeep M M' ∧ Scr G M' ad)) (xX G (fun E M' => fDist u x mm y w = (1, 0) ∧ E = nIOE ∧ M' = M)) 3 18 (xF G) := by
  refine x_metX (by decide) (Nat.le_of_ble_eq_true rfl) ?_
  intro p e s m below meth c ls hE hnx hl hM hK hS
  obtain ⟨hx, hb, hr, hml, hown, hw, hlocks⟩ := id hE
  have h0 := hM
  have hl : lv_has ls 7 [(0, .ref (ad 0)), (1, .int x), (2, .int mm), (3, .int y), (4, .int w)] := hl
  refine lv_aload_n hx hb d_Rm_distance_0 rfl (lv_at hl 0 rfl) ?_
  refine lv_iload_n hx hb d_Rm_distance_1 rfl (lv_at hl 1 rfl) ?_
  refine x_cxr (x_runVX (As := [.int x]) (rest := []) hE hK hM hl.1 (c_Rm_rowOf l G M hst ad u hC hO x) hC.1 rfl kw_232 kw_234 ks_2 kw_1 kw_235 1 rfl rfl rfl (by decide +kernel) ⟨by decide, by decide⟩ rfl (Nat.le_of_ble_eq_true rfl) d_Rm_distance_2 ⟨by decide, by decide⟩) hS (fun E ce q9 M1 H locs hp hM hS hq1 hq2 hq3 => ?_) (fun r1 M1 H locs hp hM hS => ?_)
  · obtain ⟨h_x, rfl, e_M⟩ := hp
    have hM : xh G M H := e_M ▸ hM
    exact x_out hE hnx hM hS hq1 hq2 hq3 ⟨by unfold fDist; rw [if_neg h_x], rfl, rfl⟩ (by decide) (by decide)
  obtain ⟨h_in, e_a, e_M⟩ := hp
  have hM : xh G M H := e_M ▸ hM
  obtain ⟨i, e_i, h_i, ex_i⟩ := z_in h_in (by have := hO.2.2.1; omega)
  rw [← e_i] at e_a
  subst e_a
  have hR_i := hC.2.2.2.2.2.2.1 i h_i
  have hZ_i := hO.2.2.2.1 i h_i
  refine lv_astore (lv' := [(5, .ref (ad (20 + i))), (0, .ref (ad 0)), (1, .int x), (2, .int mm), (3, .int y), (4, .int w)]) hx hb d_Rm_distance_5 hl (by decide) rfl (fun ls hl => ?_)
  refine lv_aload_n hx hb d_Rm_distance_7 rfl (lv_at hl 1 rfl) ?_
  refine lv_iload_n hx hb d_Rm_distance_8 rfl (lv_at hl 3 rfl) ?_
  refine x_cxr (x_runVX (As := [.int mm]) (rest := []) hE hK hM hl.1 (c_Rm_meanOf l G M hst ad u hC hO mm) hC.1 rfl kw_366 kw_368 ks_9 kw_1 kw_369 1 rfl rfl rfl (by decide +kernel) ⟨by decide, by decide⟩ rfl (Nat.le_of_ble_eq_true rfl) d_Rm_distance_9 ⟨by decide, by decide⟩) hS (fun E ce q9 M1 H locs hp hM hS hq1 hq2 hq3 => ?_) (fun r2 M1 H locs hp hM hS => ?_)
  · obtain ⟨h_x, rfl, e_M⟩ := hp
    have hM : xh G M H := e_M ▸ hM
    exact x_out hE hnx hM hS hq1 hq2 hq3 ⟨by unfold fDist; rw [if_pos h_in, if_neg h_x], rfl, rfl⟩ (by decide) (by decide)
  obtain ⟨h_inj, e_a, e_M⟩ := hp
  have hM : xh G M H := e_M ▸ hM
  obtain ⟨j, e_j, h_j, ex_j⟩ := z_in h_inj (by have := hO.2.2.2.2.1; omega)
  rw [← e_j] at e_a
  subst e_a
  obtain ⟨hJ1, hJ2, V, D, hJ3, hJ4, hJ5⟩ := hC.2.2.2.2.2.2.2 j h_j
  have hB := hO.mas h_j
  refine lv_astore (lv' := [(6, .ref (ad (40 + j))), (5, .ref (ad (20 + i))), (0, .ref (ad 0)), (1, .int x), (2, .int mm), (3, .int y), (4, .int w)]) hx hb d_Rm_distance_12 hl (by decide) rfl (fun ls hl => ?_)
  refine lv_iload hx hb d_Rm_distance_14 (lv_at hl 6 rfl) ?_
  refine x_cxv (x_runSX (As := [.int w]) (rest := []) hE hK hM hl.1 (c_Rm_checkSumOrYears l G M hst w) kw_396 kw_397 kw_1 kw_398 1 rfl rfl rfl (by decide +kernel) ⟨by decide, by decide⟩ rfl (Nat.le_of_ble_eq_true rfl) d_Rm_distance_16 ⟨by decide, by decide⟩) hS (fun E ce q9 M1 H locs hp hM hS hq1 hq2 hq3 => ?_) (fun M1 H locs hp hM hS => ?_)
  · obtain ⟨h_x, rfl, e_M⟩ := hp
    have hM : xh G M H := e_M ▸ hM
    exact x_out hE hnx hM hS hq1 hq2 hq3 ⟨by unfold fDist; rw [if_pos h_in, if_pos h_inj, if_neg h_x], rfl, rfl⟩ (by decide) (by decide)
  obtain ⟨h_w, e_M⟩ := hp
  have hM : xh G M H := e_M ▸ hM
  refine lv_aload_n hx hb d_Rm_distance_19 rfl (lv_at hl 2 rfl) ?_
  refine lv_aload hx hb d_Rm_distance_20 (lv_at hl 1 rfl) ?_
  refine lv_aload hx hb d_Rm_distance_22 (lv_at hl 0 rfl) ?_
  refine lv_iload_n hx hb d_Rm_distance_24 rfl (lv_at hl 5 rfl) ?_
  obtain ⟨q6, hq6⟩ := hs.2.1
  refine x_cv (x_runV (As := [.ref (ad (20 + i)), .ref (ad (40 + j)), .int y]) (rest := []) hE hK hM hl.1 (c_Rm_measure l G M ad u hC hO i h_i j h_j y q6 hq6) hC.1 rfl kw_426 kw_428 ks_11 kw_1 kw_429 3 rfl rfl rfl (by decide +kernel) ⟨by decide, by decide⟩ rfl (Nat.le_of_ble_eq_true rfl) d_Rm_distance_25 ⟨by decide, by decide⟩) hS (fun M1 H locs hp hM hS => ?_)
  obtain ⟨d, ed⟩ : ∃ z : Int32 × Int32, z = zMea u i j y.toInt := ⟨_, rfl⟩
  rw [← ed] at hp
  have hsk := hs.up6 hp
  have k_ad0 := xw_upE hp hC.1 hq6 (by decide)
  have hq6 := xw_atE hp
  refine lv_aload_n hx hb d_Rm_distance_28 rfl (lv_at hl 2 rfl) ?_
  refine x_get (C := R_Rm) (T := F_Rm) (N := 12) hx hb hw i_Rm hown hK.1 hM k_ad0 rfl 8 (by decide) (hw _ kw_73) rfl rfl d_Rm_distance_29 ?_
  refine lv_iload hx hb d_Rm_distance_32 (lv_at hl 6 rfl) ?_
  obtain ⟨Mb, eMb⟩ : ∃ z : xM, z = M1 := ⟨_, rfl⟩
  subst eMb
  refine x_ci (x_runV (As := [.int w]) (rest := []) hE hK hM hl.1 (c_Gap_sumOrYears l G Mb (ad 6) 6 d.1 d.2 hq6 w) hq6 rfl kw_415 kw_416 kw_417 kw_3 kw_418 1 rfl rfl rfl (by decide +kernel) ⟨by decide, by decide⟩ rfl (Nat.le_of_ble_eq_true rfl) d_Rm_distance_34 ⟨by decide, by decide⟩) hS (fun r5 M1 H locs hp hM hS => ?_)
  obtain ⟨e_r, e_M⟩ := hp
  have hM : xh G Mb H := e_M ▸ hM
  refine vx_ret ?_
  exact x_ri hE rfl hM hS ⟨by unfold fDist; rw [if_pos h_in, if_pos h_inj, if_pos h_w, e_r, ← e_i, ← e_j, ← ed], hsk.2, hsk.1⟩ (by omega) (by omega) d_Rm_distance_37

set_option maxHeartbeats 4000000 in
set_option maxRecDepth 100000 in
theorem c_Rm_date (l : Launch) (G : xG) (M : xM) (hst : l.stackTraces = false) (ad : Nat → Nat) (u : zS) (hC : Core G M ad u) (hO : zOk u) (hs : Scr G M ad) (x mm w : Int32) : vx_Met l y_Rm_date w_Rm_date ({ frames := 7, cells := 3, slots := 18, locals := 125 }) (xP G [.ref (ad 0), .int x, .int mm, .int w] M) (xQi G (fun v M' => fDate u x mm w = (0, v) ∧ xKeep M M' ∧ Scr G M' ad)) (xX G (fun E M' => ((fDate u x mm w = (1, 0) ∧ E = nIOE) ∨ (fDate u x mm w = (2, 0) ∧ E = nIAE)) ∧ M' = M)) 3 18 (xF G) := by
  refine x_metX (by decide) (Nat.le_of_ble_eq_true rfl) ?_
  intro p e s m below meth c ls hE hnx hl hM hK hS
  obtain ⟨hx, hb, hr, hml, hown, hw, hlocks⟩ := id hE
  have h0 := hM
  have hl : lv_has ls 6 [(0, .ref (ad 0)), (1, .int x), (2, .int mm), (3, .int w)] := hl
  refine lv_aload_n hx hb d_Rm_date_0 rfl (lv_at hl 0 rfl) ?_
  refine lv_iload_n hx hb d_Rm_date_1 rfl (lv_at hl 1 rfl) ?_
  refine x_cxr (x_runVX (As := [.int x]) (rest := []) hE hK hM hl.1 (c_Rm_rowOf l G M hst ad u hC hO x) hC.1 rfl kw_232 kw_234 ks_2 kw_1 kw_235 1 rfl rfl rfl (by decide +kernel) ⟨by decide, by decide⟩ rfl (Nat.le_of_ble_eq_true rfl) d_Rm_date_2 ⟨by decide, by decide⟩) hS (fun E ce q9 M1 H locs hp hM hS hq1 hq2 hq3 => ?_) (fun r1 M1 H locs hp hM hS => ?_)
  · obtain ⟨h_x, rfl, e_M⟩ := hp
    have hM : xh G M H := e_M ▸ hM
    exact x_out hE hnx hM hS hq1 hq2 hq3 ⟨Or.inl ⟨by unfold fDate; rw [if_neg h_x], rfl⟩, rfl⟩ (by decide) (by decide)
  obtain ⟨h_in, e_a, e_M⟩ := hp
  have hM : xh G M H := e_M ▸ hM
  obtain ⟨i, e_i, h_i, ex_i⟩ := z_in h_in (by have := hO.2.2.1; omega)
  rw [← e_i] at e_a
  subst e_a
  have hR_i := hC.2.2.2.2.2.2.1 i h_i
  have hZ_i := hO.2.2.2.1 i h_i
  refine lv_astore (lv' := [(4, .ref (ad (20 + i))), (0, .ref (ad 0)), (1, .int x), (2, .int mm), (3, .int w)]) hx hb d_Rm_date_5 hl (by decide) rfl (fun ls hl => ?_)
  refine lv_aload_n hx hb d_Rm_date_7 rfl (lv_at hl 1 rfl) ?_
  refine lv_iload_n hx hb d_Rm_date_8 rfl (lv_at hl 3 rfl) ?_
  refine x_cxr (x_runVX (As := [.int mm]) (rest := []) hE hK hM hl.1 (c_Rm_meanOf l G M hst ad u hC hO mm) hC.1 rfl kw_366 kw_368 ks_9 kw_1 kw_369 1 rfl rfl rfl (by decide +kernel) ⟨by decide, by decide⟩ rfl (Nat.le_of_ble_eq_true rfl) d_Rm_date_9 ⟨by decide, by decide⟩) hS (fun E ce q9 M1 H locs hp hM hS hq1 hq2 hq3 => ?_) (fun r2 M1 H locs hp hM hS => ?_)
  · obtain ⟨h_x, rfl, e_M⟩ := hp
    have hM : xh G M H := e_M ▸ hM
    exact x_out hE hnx hM hS hq1 hq2 hq3 ⟨Or.inl ⟨by unfold fDate; rw [if_pos h_in, if_neg h_x], rfl⟩, rfl⟩ (by decide) (by decide)
  obtain ⟨h_inj, e_a, e_M⟩ := hp
  have hM : xh G M H := e_M ▸ hM
  obtain ⟨j, e_j, h_j, ex_j⟩ := z_in h_inj (by have := hO.2.2.2.2.1; omega)
  rw [← e_j] at e_a
  subst e_a
  obtain ⟨hJ1, hJ2, V, D, hJ3, hJ4, hJ5⟩ := hC.2.2.2.2.2.2.2 j h_j
  have hB := hO.mas h_j
  refine lv_astore (lv' := [(5, .ref (ad (40 + j))), (4, .ref (ad (20 + i))), (0, .ref (ad 0)), (1, .int x), (2, .int mm), (3, .int w)]) hx hb d_Rm_date_12 hl (by decide) rfl (fun ls hl => ?_)
  refine lv_iload_n hx hb d_Rm_date_14 rfl (lv_at hl 5 rfl) ?_
  refine x_cxv (x_runSX (As := [.int w]) (rest := []) hE hK hM hl.1 (c_Rm_checkLeast l G M hst w) kw_437 kw_438 kw_1 kw_439 1 rfl rfl rfl (by decide +kernel) ⟨by decide, by decide⟩ rfl (Nat.le_of_ble_eq_true rfl) d_Rm_date_15 ⟨by decide, by decide⟩) hS (fun E ce q9 M1 H locs hp hM hS hq1 hq2 hq3 => ?_) (fun M1 H locs hp hM hS => ?_)
  · obtain ⟨h_x, rfl, e_M⟩ := hp
    have hM : xh G M H := e_M ▸ hM
    exact x_out hE hnx hM hS hq1 hq2 hq3 ⟨Or.inr ⟨by unfold fDate; rw [if_pos h_in, if_pos h_inj, if_neg h_x], rfl⟩, rfl⟩ (by decide) (by decide)
  obtain ⟨h_w, e_M⟩ := hp
  have hM : xh G M H := e_M ▸ hM
  refine lv_aload_n hx hb d_Rm_date_18 rfl (lv_at hl 2 rfl) ?_
  refine lv_aload hx hb d_Rm_date_19 (lv_at hl 1 rfl) ?_
  refine lv_aload hx hb d_Rm_date_21 (lv_at hl 0 rfl) ?_
  refine lv_iload_n hx hb d_Rm_date_23 rfl (lv_at hl 5 rfl) ?_
  obtain ⟨q6, hq6⟩ := hs.2.1
  obtain ⟨q7, hq7⟩ := hs.2.2.1
  refine x_ci (x_runV (As := [.ref (ad (20 + i)), .ref (ad (40 + j)), .int w]) (rest := []) hE hK hM hl.1 (c_Rm_nearestYear l G M ad u hC hO i h_i j h_j w q6 hq6 q7 hq7) hC.1 rfl kw_441 kw_443 ks_12 kw_1 kw_444 3 rfl rfl rfl (by decide +kernel) ⟨by decide, by decide⟩ rfl (Nat.le_of_ble_eq_true rfl) d_Rm_date_24 ⟨by decide, by decide⟩) hS (fun r4 M1 H locs hp hM hS => ?_)
  obtain ⟨e_r, hof, h6, h7⟩ := hp
  refine vx_ret ?_
  exact x_ri hE rfl hM hS ⟨by unfold fDate; rw [if_pos h_in, if_pos h_inj, if_pos h_w, e_r, ← e_i, ← e_j], hof.keep rfl rfl, hs.off2 hof h6 ⟨_, h7⟩⟩ (by omega) (by omega) d_Rm_date_27
