set_option maxHeartbeats 4000000 in
set_option maxRecDepth 100000 in
theorem lp_Rm_measureFromOthers {p : Program} {l : Launch} {e : Env} {s : State} {m : MethodId} {below : List Frame} {meth : Method} {c : Code} {args : Array Value} {G : xG} {M : xM} (ad : Nat → Nat) (u : zS) (hC : Core G M ad u) (hO : zOk u) (i : Nat) (hi : i < zrn u) (j : Nat) (hj : j < zmn u) (hE : xE p s m args meth c b_Rm_measureFromOthers none 6 R_Rm) (hK : KX G s) : ∀ (n k : Nat), k ≤ zln u i → zln u i + 1 ≤ k + n → ∀ (Mk : xM) (q5 : zQ), xOff2 5 6 M Mk → Mk (ad 5) = some (5, eRob q5) → Mk (ad 6) = some (6, eGap (zDist (zev u i) (fun k => zAq (zGat (zln u) (zev u) (zms u j) (zms u j i + nI k) (nI i) (zrn u))) k)) → ∀ (H : Heap) (locs : List Loc) (ls : Array Slot), xh G Mk H → va_S (xF G) s.heap H locs → lv_has ls 6 [(0, .ref (ad 0)), (1, .ref (ad (40 + j))), (2, .int (nI i)), (3, .ref (ad (30 + i))), (4, .int (nI k))] → W p l e ({ frames := 3, cells := 0, slots := 0, locals := 70 }) s m args below meth c H locs 0 0 (MQ below (xQv G (fun M' => xOff2 5 6 M M' ∧ (∃ q, M' (ad 5) = some (5, eRob q)) ∧ M' (ad 6) = some (6, eGap (zMo u i j)))) args s 0 0 (xF G)) (F0 m 20 ls []) := by
  obtain ⟨hx, hb, hr, hml, hown, hw, hlocks⟩ := id hE
  have hZ := hO.2.2.2.1 i hi
  have hrn := hO.2.2.1
  intro n
  induction n with
  | zero =>
    intro k h1 h2
    exact absurd h2 (by omega)
  | succ n ih =>
    intro k hk hin Mk q5 hof c_rob c_tri H locs ls hM hS hl
    have hCk : Core G Mk ad u := hC.keep (hof.keep rfl rfl)
    obtain ⟨q, eq⟩ : ∃ z : Int32 × Int32, z = zDist (zev u i) (fun k => zAq (zGat (zln u) (zev u) (zms u j) (zms u j i + nI k) (nI i) (zrn u))) k := ⟨_, rfl⟩
    rw [← eq] at c_tri
    have c_o : Mk (ad 0) = some (0, .inr (4, [.ref (ad 1), .int (nI (zpn u)), .ref (ad 2), .int (nI (zrn u)), .ref (ad 3), .int (nI (zmn u)), .ref (ad 4), .ref (ad 5), .ref (ad 6), .ref (ad 7), .ref (ad 8), .ref (ad 9)])) := hCk.1
    have c_ev := (hCk.2.2.2.2.2.2.1 i hi).2
    have c_J1 := (hCk.2.2.2.2.2.2.2 j hj).1
    have c_J2 := (hCk.2.2.2.2.2.2.2 j hj).2.1
    refine lv_iload hx hb d_Rm_measureFromOthers_20 (lv_at hl 4 rfl) ?_
    refine lv_aload_n hx hb d_Rm_measureFromOthers_22 rfl (lv_at hl 3 rfl) ?_
    refine x_alen (v := nI (zln u i)) hx hb hK.1 hM c_ev 0 rfl rfl d_Rm_measureFromOthers_23 ?_
    refine lv_icmp_ge (tgt := 79) hx hb d_Rm_measureFromOthers_24 (by decide) (fun c_24 => ?_) (fun c_24 => ?_)
    · have h24 : zln u i ≤ k := (nI_leI (by omega) (by omega)).mp c_24
      exact x_rv hE rfl hM hS ⟨hof, ⟨q5, c_rob⟩, by rw [c_tri, eq, show k = zln u i by omega]; rfl⟩ (by omega) (by omega) d_Rm_measureFromOthers_79
    · have hkl : k < zln u i := Nat.not_le.mp (fun h9 => c_24 ((nI_leI (by omega) (by omega)).mpr h9))
      refine lv_aload_n hx hb d_Rm_measureFromOthers_27 rfl (lv_at hl 0 rfl) ?_
      refine lv_aload_n hx hb d_Rm_measureFromOthers_28 rfl (lv_at hl 1 rfl) ?_
      refine x_getN (C := R_Men) (T := F_Men) (N := 6) (host := R_Rm) hx hb hw i_Men hown hK.1 hM c_J1 rfl 0 (by decide) (va_Nw.use rfl (hK.2.1.1 (159, R_Men, "starts", "[I") (by decide))) rfl rfl d_Rm_measureFromOthers_29 ?_
      refine lv_aload_n hx hb d_Rm_measureFromOthers_32 rfl (lv_at hl 1 rfl) ?_
      refine x_getN (C := R_Men) (T := F_Men) (N := 6) (host := R_Rm) hx hb hw i_Men hown hK.1 hM c_J1 rfl 0 (by decide) (va_Nw.use rfl (hK.2.1.1 (159, R_Men, "starts", "[I") (by decide))) rfl rfl d_Rm_measureFromOthers_33 ?_
      refine lv_iload_n hx hb d_Rm_measureFromOthers_36 rfl (lv_at hl 2 rfl) ?_
      refine x_iald hx hb hK.1 hM c_J2 0 rfl rfl (by omega) (by omega) d_Rm_measureFromOthers_37 ?_
      refine lv_iload hx hb d_Rm_measureFromOthers_38 (lv_at hl 4 rfl) ?_
      refine lv_iadd hx hb d_Rm_measureFromOthers_40 ?_
      refine lv_iload_n hx hb d_Rm_measureFromOthers_41 rfl (lv_at hl 2 rfl) ?_
      refine x_cv (x_runV (As := [.ref (ad (50 + j)), .int (((zms u j) i) + (nI k)), .int (nI i)]) (rest := []) hE hK hM hl.1 (c_Rm_gather l G Mk ad u hCk hO (ad (50 + j)) (50 + j) (zms u j) (zms u j i + nI k) (nI i) c_J2 (by omega) q5 c_rob) c_o rfl kw_337 kw_339 ks_8 kw_1 kw_340 3 rfl rfl rfl (by decide +kernel) ⟨by decide, by decide⟩ rfl (Nat.le_of_ble_eq_true rfl) d_Rm_measureFromOthers_42 ⟨by decide, by decide⟩) hS (fun M1 H locs hp hM hS => ?_)
      obtain ⟨g, eg⟩ : ∃ z : zQ, z = zGat (zln u) (zev u) (zms u j) (zms u j i + nI k) (nI i) (zrn u) := ⟨_, rfl⟩
      rw [← eg] at hp
      have hof := hof.up1 c_rob hp
      have c_o := xw_upE hp c_o c_rob (by decide)
      have c_ev := xw_upE hp c_ev c_rob (by omega)
      have c_tri := xw_upE hp c_tri c_rob (by decide)
      have c_J1 := xw_upE hp c_J1 c_rob (by omega)
      have c_J2 := xw_upE hp c_J2 c_rob (by omega)
      have c_rob := xw_atE hp
      obtain ⟨Ma, eMa⟩ : ∃ z : xM, z = M1 := ⟨_, rfl⟩
      subst eMa
      refine lv_aload_n hx hb d_Rm_measureFromOthers_45 rfl (lv_at hl 0 rfl) ?_
      refine x_get (C := R_Rm) (T := F_Rm) (N := 12) hx hb hw i_Rm hown hK.1 hM c_o rfl 7 (by decide) (hw _ kw_72) rfl rfl d_Rm_measureFromOthers_46 ?_
      refine x_ci (x_runV (As := []) (rest := []) hE hK hM hl.1 (c_Rob_answer l G Ma (ad 5) 5 g.1 g.2.1 g.2.2.1 g.2.2.2 c_rob) c_rob rfl kw_355 kw_356 kw_357 kw_2 kw_358 0 rfl rfl rfl (by decide +kernel) ⟨by decide, by decide⟩ rfl (Nat.le_of_ble_eq_true rfl) d_Rm_measureFromOthers_49 ⟨by decide, by decide⟩) hS (fun r2 M1 H locs hp hM hS => ?_)
      obtain ⟨e_r, e_M⟩ := hp
      have hM : xh G Ma H := e_M ▸ hM
      refine lv_istore (lv' := [(5, .int r2), (0, .ref (ad 0)), (1, .ref (ad (40 + j))), (2, .int (nI i)), (3, .ref (ad (30 + i))), (4, .int (nI k))]) hx hb d_Rm_measureFromOthers_52 hl (by decide) rfl (fun ls hl => ?_)
      refine lv_iload hx hb d_Rm_measureFromOthers_54 (lv_at hl 0 rfl) ?_
      refine lv_iconst (v := (-1)) hx hb d_Rm_measureFromOthers_56 (by decide) ?_
      refine lv_icmp_eq (tgt := 73) hx hb d_Rm_measureFromOthers_57 (by decide) (fun c_57 => ?_) (fun c_57 => ?_)
      · refine lv_iinc (v := (nI (k + 1))) (lv' := [(4, .int (nI (k + 1))), (5, .int r2), (0, .ref (ad 0)), (1, .ref (ad (40 + j))), (2, .int (nI i)), (3, .ref (ad (30 + i)))]) hx hb d_Rm_measureFromOthers_73 hl (k := 5) rfl (nI_1 k) (by decide) rfl (fun ls hl => ?_)
        refine lv_goto (tgt := 20) hx hb d_Rm_measureFromOthers_76 (by decide) ?_
        have e_v : r2 = zAq (zGat (zln u) (zev u) (zms u j) (zms u j i + nI k) (nI i) (zrn u)) := by rw [e_r, eg]; rfl
        have hz : zDist (zev u i) (fun k => zAq (zGat (zln u) (zev u) (zms u j) (zms u j i + nI k) (nI i) (zrn u))) (k + 1) = q := by
          show (if zAq (zGat (zln u) (zev u) (zms u j) (zms u j i + nI k) (nI i) (zrn u)) = -1 then _ else _) = _
          rw [if_pos (e_v ▸ c_57), ← eq]
        exact ih (k + 1) (by omega) (by omega) _ _ hof c_rob (by rw [hz]; exact c_tri) _ _ _ hM hS (lv_sub hl [2, 3, 4, 5, 0] rfl)
      · refine lv_aload_n hx hb d_Rm_measureFromOthers_60 rfl (lv_at hl 1 rfl) ?_
        refine x_get (C := R_Rm) (T := F_Rm) (N := 12) hx hb hw i_Rm hown hK.1 hM c_o rfl 8 (by decide) (hw _ kw_73) rfl rfl d_Rm_measureFromOthers_61 ?_
        refine lv_aload_n hx hb d_Rm_measureFromOthers_64 rfl (lv_at hl 4 rfl) ?_
        refine lv_iload hx hb d_Rm_measureFromOthers_65 (lv_at hl 5 rfl) ?_
        refine x_iald hx hb hK.1 hM c_ev 0 rfl rfl hkl (by omega) d_Rm_measureFromOthers_67 ?_
        refine lv_iload hx hb d_Rm_measureFromOthers_68 (lv_at hl 0 rfl) ?_
        refine x_cv (x_runV (As := [.int ((zev u i) k), .int r2]) (rest := []) hE hK hM hl.1 (c_Gap_add l G Ma (ad 6) 6 q.1 q.2 c_tri (zev u i k) r2) c_tri rfl kw_408 kw_409 kw_410 kw_3 kw_411 2 rfl rfl rfl (by decide +kernel) ⟨by decide, by decide⟩ rfl (Nat.le_of_ble_eq_true rfl) d_Rm_measureFromOthers_70 ⟨by decide, by decide⟩) hS (fun M1 H locs hp hM hS => ?_)
        have hof := hof.up2 c_tri hp
        have c_o := xw_upE hp c_o c_tri (by decide)
        have c_ev := xw_upE hp c_ev c_tri (by omega)
        have c_rob := xw_upE hp c_rob c_tri (by decide)
        have c_J1 := xw_upE hp c_J1 c_tri (by omega)
        have c_J2 := xw_upE hp c_J2 c_tri (by omega)
        have c_tri := xw_atE hp
        refine lv_iinc (v := (nI (k + 1))) (lv' := [(4, .int (nI (k + 1))), (5, .int r2), (0, .ref (ad 0)), (1, .ref (ad (40 + j))), (2, .int (nI i)), (3, .ref (ad (30 + i)))]) hx hb d_Rm_measureFromOthers_73 hl (k := 5) rfl (nI_1 k) (by decide) rfl (fun ls hl => ?_)
        refine lv_goto (tgt := 20) hx hb d_Rm_measureFromOthers_76 (by decide) ?_
        have e_v : r2 = zAq (zGat (zln u) (zev u) (zms u j) (zms u j i + nI k) (nI i) (zrn u)) := by rw [e_r, eg]; rfl
        have hz : zDist (zev u i) (fun k => zAq (zGat (zln u) (zev u) (zms u j) (zms u j i + nI k) (nI i) (zrn u))) (k + 1) = (q.1 + zAbs (zev u i k - r2), q.2 + 1) := by
          show (if zAq (zGat (zln u) (zev u) (zms u j) (zms u j i + nI k) (nI i) (zrn u)) = -1 then _ else _) = _
          rw [if_neg (fun h9 => c_57 (e_v.trans h9)), ← eq]
          rw [e_v]
        exact ih (k + 1) (by omega) (by omega) _ _ hof c_rob (by rw [hz]; exact c_tri) _ _ _ hM hS (lv_sub hl [2, 3, 4, 5, 0] rfl)

set_option maxHeartbeats 4000000 in
set_option maxRecDepth 100000 in
theorem c_Rm_measureFromOthers (l : Launch) (G : xG) (M : xM) (ad : Nat → Nat) (u : zS) (hC : Core G M ad u) (hO : zOk u) (i : Nat) (hi : i < zrn u) (j : Nat) (hj : j < zmn u) (q5 : zQ) (hq5 : M (ad 5) = some (5, eRob q5)) (q6 : Int32 × Int32) (hq6 : M (ad 6) = some (6, eGap q6)) : Met l y_Rm_measureFromOthers w_Rm_measureFromOthers ({ frames := 3, cells := 0, slots := 0, locals := 70 }) (xP G [.ref (ad 0), .ref (ad (40 + j)), .int (nI i)] M) (xQv G (fun M' => xOff2 5 6 M M' ∧ (∃ q, M' (ad 5) = some (5, eRob q)) ∧ M' (ad 6) = some (6, eGap (zMo u i j)))) 0 0 (xF G) := by
  refine x_met (by decide) (Nat.le_of_ble_eq_true rfl) ?_
  intro p e s m below meth c ls hE hin hl hM hK hS
  obtain ⟨hx, hb, hr, hml, hown, hw, hlocks⟩ := id hE
  have hl : lv_has ls 6 [(0, .ref (ad 0)), (1, .ref (ad (40 + j))), (2, .int (nI i))] := hl
  refine lv_aload_n hx hb d_Rm_measureFromOthers_0 rfl (lv_at hl 0 rfl) ?_
  refine x_get (C := R_Rm) (T := F_Rm) (N := 12) hx hb hw i_Rm hown hK.1 hM hC.1 rfl 8 (by decide) (hw _ kw_73) rfl rfl d_Rm_measureFromOthers_1 ?_
  refine x_cv (x_runV (As := []) (rest := []) hE hK hM hl.1 (c_Gap_clear l G M (ad 6) 6 q6.1 q6.2 hq6) (id hq6) rfl kw_404 kw_405 kw_406 kw_3 kw_407 0 rfl rfl rfl (by decide +kernel) ⟨by decide, by decide⟩ rfl (Nat.le_of_ble_eq_true rfl) d_Rm_measureFromOthers_4 ⟨by decide, by decide⟩) hS (fun M1 H locs hp hM hS => ?_)
  have hof := (xOff2.refl (r1 := 5) (r2 := 6) (M := M)).up2 hq6 hp
  have k_ad0 := xw_upE hp hC.1 (id hq6) (by decide)
  have k_ad2 := xw_upE hp hC.2.2.1 (id hq6) (by decide)
  have k_ad20i := xw_upE hp (hC.2.2.2.2.2.2.1 i hi).1 (id hq6) (by omega)
  have k_ad30i := xw_upE hp (hC.2.2.2.2.2.2.1 i hi).2 (id hq6) (by omega)
  have k_ad5 := xw_upE hp (id hq5) (id hq6) (by decide)
  have k_ad6 := xw_atE hp
  refine lv_aload_n hx hb d_Rm_measureFromOthers_7 rfl (lv_at hl 0 rfl) ?_
  refine x_get (C := R_Rm) (T := F_Rm) (N := 12) hx hb hw i_Rm hown hK.1 hM k_ad0 rfl 2 (by decide) (hw _ kw_67) rfl rfl d_Rm_measureFromOthers_8 ?_
  refine lv_iload_n hx hb d_Rm_measureFromOthers_11 rfl (lv_at hl 2 rfl) ?_
  refine x_aldq (v := .ref (ad (20 + i))) hx hb hK.1 hM k_ad2 2 rfl rfl (by have := hO.2.2.1; omega) (by omega) (zrw_lt hi) d_Rm_measureFromOthers_12 ?_
  refine x_getN (C := R_Row) (T := F_Row) (N := 2) (host := R_Rm) hx hb hw i_Row hown hK.1 hM k_ad20i rfl 0 (by decide) (va_Nw.use rfl (hK.2.1.1 (87, R_Row, "even", "[I") (by decide))) rfl rfl d_Rm_measureFromOthers_13 ?_
  refine lv_astore_n (lv' := [(3, .ref (ad (30 + i))), (0, .ref (ad 0)), (1, .ref (ad (40 + j))), (2, .int (nI i))]) hx hb d_Rm_measureFromOthers_16 rfl hl (by decide) rfl (fun ls hl => ?_)
  refine lv_iconst (v := 0) hx hb d_Rm_measureFromOthers_17 (by decide) ?_
  refine lv_istore (lv' := [(4, .int 0), (3, .ref (ad (30 + i))), (0, .ref (ad 0)), (1, .ref (ad (40 + j))), (2, .int (nI i))]) hx hb d_Rm_measureFromOthers_18 hl (by decide) rfl (fun ls hl => ?_)
  exact lp_Rm_measureFromOthers ad u hC hO i hi j hj hE hK (zln u i + 1) 0 (by omega) (by omega) M1 q5 hof k_ad5 k_ad6 _ _ _ hM hS (lv_sub hl [2, 3, 4, 1, 0] rfl)

set_option maxHeartbeats 4000000 in
set_option maxRecDepth 100000 in
theorem c_Rm_leftOut (l : Launch) (G : xG) (M : xM) (hst : l.stackTraces = false) (ad : Nat → Nat) (u : zS) (hC : Core G M ad u) (hO : zOk u) (hs : Scr G M ad) (mm x w : Int32) : vx_Met l y_Rm_leftOut w_Rm_leftOut ({ frames := 7, cells := 3, slots := 18, locals := 125 }) (xP G [.ref (ad 0), .int mm, .int x, .int w] M) (xQi G (fun v M' => fLeft u mm x w = (0, v) ∧ xKeep M M' ∧ Scr G M' ad)) (xX G (fun E M' => fLeft u mm x w = (1, 0) ∧ E = nIOE ∧ M' = M)) 3 18 (xF G) := by
  refine x_metX (by decide) (Nat.le_of_ble_eq_true rfl) ?_
  intro p e s m below meth c ls hE hnx hl hM hK hS
  obtain ⟨hx, hb, hr, hml, hown, hw, hlocks⟩ := id hE
  have h0 := hM
  have hl : lv_has ls 5 [(0, .ref (ad 0)), (1, .int mm), (2, .int x), (3, .int w)] := hl
  refine lv_aload_n hx hb d_Rm_leftOut_0 rfl (lv_at hl 0 rfl) ?_
  refine lv_iload_n hx hb d_Rm_leftOut_1 rfl (lv_at hl 1 rfl) ?_
  refine x_cxr (x_runVX (As := [.int mm]) (rest := []) hE hK hM hl.1 (c_Rm_meanOf l G M hst ad u hC hO mm) hC.1 rfl kw_366 kw_368 ks_9 kw_1 kw_369 1 rfl rfl rfl (by decide +kernel) ⟨by decide, by decide⟩ rfl (Nat.le_of_ble_eq_true rfl) d_Rm_leftOut_2 ⟨by decide, by decide⟩) hS (fun E ce q9 M1 H locs hp hM hS hq1 hq2 hq3 => ?_) (fun r1 M1 H locs hp hM hS => ?_)
  · obtain ⟨h_x, rfl, e_M⟩ := hp
    have hM : xh G M H := e_M ▸ hM
    exact x_out hE hnx hM hS hq1 hq2 hq3 ⟨by unfold fLeft; rw [if_neg h_x], rfl, rfl⟩ (by decide) (by decide)
  obtain ⟨h_inj, e_a, e_M⟩ := hp
  have hM : xh G M H := e_M ▸ hM
  obtain ⟨j, e_j, h_j, ex_j⟩ := z_in h_inj (by have := hO.2.2.2.2.1; omega)
  rw [← e_j] at e_a
  subst e_a
  obtain ⟨hJ1, hJ2, V, D, hJ3, hJ4, hJ5⟩ := hC.2.2.2.2.2.2.2 j h_j
  have hB := hO.mas h_j
  refine lv_astore (lv' := [(4, .ref (ad (40 + j))), (0, .ref (ad 0)), (1, .int mm), (2, .int x), (3, .int w)]) hx hb d_Rm_leftOut_5 hl (by decide) rfl (fun ls hl => ?_)
  refine lv_iload_n hx hb d_Rm_leftOut_7 rfl (lv_at hl 4 rfl) ?_
  refine x_cxv (x_runSX (As := [.int w]) (rest := []) hE hK hM hl.1 (c_Rm_checkSumOrYears l G M hst w) kw_396 kw_397 kw_1 kw_398 1 rfl rfl rfl (by decide +kernel) ⟨by decide, by decide⟩ rfl (Nat.le_of_ble_eq_true rfl) d_Rm_leftOut_8 ⟨by decide, by decide⟩) hS (fun E ce q9 M1 H locs hp hM hS hq1 hq2 hq3 => ?_) (fun M1 H locs hp hM hS => ?_)
  · obtain ⟨h_x, rfl, e_M⟩ := hp
    have hM : xh G M H := e_M ▸ hM
    exact x_out hE hnx hM hS hq1 hq2 hq3 ⟨by unfold fLeft; rw [if_pos h_inj, if_neg h_x], rfl, rfl⟩ (by decide) (by decide)
  obtain ⟨h_w, e_M⟩ := hp
  have hM : xh G M H := e_M ▸ hM
  refine lv_iload_n hx hb d_Rm_leftOut_11 rfl (lv_at hl 3 rfl) ?_
  refine lv_if_lt (tgt := 36) hx hb d_Rm_leftOut_12 (by decide) (fun c_12 => ?_) (fun c_12 => ?_)
  · exact x_ioe (is := 162) (text := "no such member") hst hE hnx hK h0 hM hS hl.1 (by decide) d_Rm_leftOut_36 d_Rm_leftOut_39 d_Rm_leftOut_40 d_Rm_leftOut_42 d_Rm_leftOut_45 (by decide) (Nat.le_of_ble_eq_true rfl) ⟨by decide, by decide⟩ ⟨by decide, by decide⟩ (⟨by unfold fLeft; rw [if_pos h_inj, if_pos h_w, if_neg (fun h9 => h9.1.1 c_12)], rfl, rfl⟩)
  · refine lv_iload_n hx hb d_Rm_leftOut_15 rfl (lv_at hl 3 rfl) ?_
    refine lv_aload hx hb d_Rm_leftOut_16 (lv_at hl 0 rfl) ?_
    refine x_getN (C := R_Men) (T := F_Men) (N := 6) (host := R_Rm) hx hb hw i_Men hown hK.1 hM hJ1 rfl 0 (by decide) (va_Nw.use rfl (hK.2.1.1 (159, R_Men, "starts", "[I") (by decide))) rfl rfl d_Rm_leftOut_18 ?_
    refine x_alen (v := nI 10) hx hb hK.1 hM hJ2 0 rfl rfl d_Rm_leftOut_21 ?_
    refine lv_icmp_ge (tgt := 36) hx hb d_Rm_leftOut_22 (by decide) (fun c_22 => ?_) (fun c_22 => ?_)
    · exact x_ioe (is := 162) (text := "no such member") hst hE hnx hK h0 hM hS hl.1 (by decide) d_Rm_leftOut_36 d_Rm_leftOut_39 d_Rm_leftOut_40 d_Rm_leftOut_42 d_Rm_leftOut_45 (by decide) (Nat.le_of_ble_eq_true rfl) ⟨by decide, by decide⟩ ⟨by decide, by decide⟩ (⟨by unfold fLeft; rw [if_pos h_inj, if_pos h_w, if_neg (fun h9 => h9.1.2 c_22)], rfl, rfl⟩)
    · obtain ⟨i, e_i, h_i10, ex_i⟩ := z_in (n := 10) ⟨c_12, c_22⟩ (by decide)
      refine lv_aload hx hb d_Rm_leftOut_25 (lv_at hl 0 rfl) ?_
      refine x_getN (C := R_Men) (T := F_Men) (N := 6) (host := R_Rm) hx hb hw i_Men hown hK.1 hM hJ1 rfl 0 (by decide) (va_Nw.use rfl (hK.2.1.1 (159, R_Men, "starts", "[I") (by decide))) rfl rfl d_Rm_leftOut_27 ?_
      refine lv_iload_n hx hb d_Rm_leftOut_30 rfl (lv_at hl 3 rfl) ?_
      refine x_iald hx hb hK.1 hM hJ2 0 rfl ex_i h_i10 (by omega) d_Rm_leftOut_31 ?_
      refine lv_iconst (v := (-1)) hx hb d_Rm_leftOut_32 (by decide) ?_
      refine lv_icmp_ne (tgt := 46) hx hb d_Rm_leftOut_33 (by decide) (fun c_33 => ?_) (fun c_33 => ?_)
      · have h_ir : i < zrn u := ((hO.2.2.2.2.2.1 j h_j).1 i h_i10).2 c_33
        have h_m : zIn x 10 ∧ zms u mm.toNatClampNeg x.toNatClampNeg ≠ -1 := ⟨⟨c_12, c_22⟩, by rw [← e_i, ← e_j]; exact c_33⟩
        subst ex_i
        refine lv_aload_n hx hb d_Rm_leftOut_46 rfl (lv_at hl 1 rfl) ?_
        refine lv_aload hx hb d_Rm_leftOut_47 (lv_at hl 0 rfl) ?_
        refine lv_iload_n hx hb d_Rm_leftOut_49 rfl (lv_at hl 3 rfl) ?_
        obtain ⟨q5, hq5⟩ := hs.1
        obtain ⟨q6, hq6⟩ := hs.2.1
        refine x_cv (x_runV (As := [.ref (ad (40 + j)), .int (nI i)]) (rest := []) hE hK hM hl.1 (c_Rm_measureFromOthers l G M ad u hC hO i h_ir j h_j q5 hq5 q6 hq6) hC.1 rfl kw_400 kw_402 ks_10 kw_1 kw_403 2 rfl rfl rfl (by decide +kernel) ⟨by decide, by decide⟩ rfl (Nat.le_of_ble_eq_true rfl) d_Rm_leftOut_50 ⟨by decide, by decide⟩) hS (fun M1 H locs hp hM hS => ?_)
        obtain ⟨hof, h5, h6⟩ := hp
        have hC1 := hC.keep (hof.keep rfl rfl)
        obtain ⟨Mb, eMb⟩ : ∃ z : xM, z = M1 := ⟨_, rfl⟩
        subst eMb
        refine lv_aload_n hx hb d_Rm_leftOut_53 rfl (lv_at hl 1 rfl) ?_
        refine x_get (C := R_Rm) (T := F_Rm) (N := 12) hx hb hw i_Rm hown hK.1 hM hC1.1 rfl 8 (by decide) (hw _ kw_73) rfl rfl d_Rm_leftOut_54 ?_
        refine lv_iload_n hx hb d_Rm_leftOut_57 rfl (lv_at hl 4 rfl) ?_
        refine x_ci (x_runV (As := [.int w]) (rest := []) hE hK hM hl.1 (c_Gap_sumOrYears l G Mb (ad 6) 6 (zMo u i j).1 (zMo u i j).2 h6 w) h6 rfl kw_415 kw_416 kw_417 kw_3 kw_418 1 rfl rfl rfl (by decide +kernel) ⟨by decide, by decide⟩ rfl (Nat.le_of_ble_eq_true rfl) d_Rm_leftOut_58 ⟨by decide, by decide⟩) hS (fun r4 M1 H locs hp hM hS => ?_)
        obtain ⟨e_r, e_M⟩ := hp
        have hM : xh G Mb H := e_M ▸ hM
        refine vx_ret ?_
        exact x_ri hE rfl hM hS ⟨by unfold fLeft; rw [if_pos h_inj, if_pos h_w, if_pos h_m, e_r, ← e_i, ← e_j], hof.keep rfl rfl, hs.off56 hof h5 ⟨_, h6⟩⟩ (by omega) (by omega) d_Rm_leftOut_61
      · exact x_ioe (is := 162) (text := "no such member") hst hE hnx hK h0 hM hS hl.1 (by decide) d_Rm_leftOut_36 d_Rm_leftOut_39 d_Rm_leftOut_40 d_Rm_leftOut_42 d_Rm_leftOut_45 (by decide) (Nat.le_of_ble_eq_true rfl) ⟨by decide, by decide⟩ ⟨by decide, by decide⟩ (⟨by unfold fLeft; rw [if_pos h_inj, if_pos h_w, if_neg (fun h9 => h9.2 (by rw [← e_i, ← e_j]; exact c_33))], rfl, rfl⟩)
