set_option maxHeartbeats 4000000 in
set_option maxRecDepth 100000 in
theorem lp_Rm_sameTree {p : Program} {l : Launch} {e : Env} {s : State} {m : MethodId} {below : List Frame} {meth : Method} {c : Code} {args : Array Value} {G : xG} {M : xM} (ad : Nat → Nat) (u : zS) (hC : Core G M ad u) (hO : zOk u) (i : Nat) (hi : i < zrn u) (j : Nat) (hj : j < zrn u) (x y : Int32) (h_x : zIn x (zrn u)) (h_y : zIn y (zrn u)) (e_i : i = x.toNatClampNeg) (e_j : j = y.toNatClampNeg) (hfl : ¬ (zst u i = -1 ∨ zst u j = -1)) (hs : Scr G M ad) (q0 : Int32 × Int32) (hq : M (ad 6) = some (6, eGap q0)) (hE : xE p s m args meth c b_Rm_sameTree (some .boolean) 7 R_Rm) (hK : KX G s) : ∀ (n k : Nat), k ≤ zln u i → zln u i + 1 ≤ k + n → ∀ (H : Heap) (locs : List Loc) (ls : Array Slot), xh G (va_up M (ad 6) (some (6, eGap (zDist (zev u i) (fun k => zRing (zln u j) (zev u j) (zst u i + nI k - zst u j)) k)))) H → va_S (xF G) s.heap H locs → lv_has ls 7 [(0, .ref (ad 0)), (3, .ref (ad (20 + i))), (4, .ref (ad (20 + j))), (5, .int (nI k))] → W p l e ({ frames := 7, cells := 2, slots := 12, locals := 125 }) s m args below meth c H locs 2 12 (vx_MQ below (xQi G (fun v M' => fSame u x y = (0, v) ∧ xKeep M M' ∧ Scr G M' ad)) (xX G (fun E M' => fSame u x y = (1, 0) ∧ E = nIOE ∧ M' = M)) args s 2 12 (xF G)) (F0 m 42 ls []) := by
  obtain ⟨hx, hb, hr, hml, hown, hw, hlocks⟩ := id hE
  have hZ := hO.2.2.2.1 i hi
  have hZj := hO.2.2.2.1 j hj
  have hRi := hC.2.2.2.2.2.2.1 i hi
  have hRj := hC.2.2.2.2.2.2.1 j hj
  intro n
  induction n with
  | zero =>
    intro k h1 h2
    exact absurd h2 (by omega)
  | succ n ih =>
    intro k hk hin H locs ls hM hS hl
    obtain ⟨Mi, eMi⟩ : ∃ z : xM, z = va_up M (ad 6) (some (6, eGap (zDist (zev u i) (fun k => zRing (zln u j) (zev u j) (zst u i + nI k - zst u j)) k))) := ⟨_, rfl⟩
    rw [← eMi] at hM
    obtain ⟨q, eq⟩ : ∃ z : Int32 × Int32, z = zDist (zev u i) (fun k => zRing (zln u j) (zev u j) (zst u i + nI k - zst u j)) k := ⟨_, rfl⟩
    rw [← eq] at eMi
    have c_o : Mi (ad 0) = some (0, .inr (4, [.ref (ad 1), .int (nI (zpn u)), .ref (ad 2), .int (nI (zrn u)), .ref (ad 3), .int (nI (zmn u)), .ref (ad 4), .ref (ad 5), .ref (ad 6), .ref (ad 7), .ref (ad 8), .ref (ad 9)])) := xw_upE eMi hC.1 hq (by decide)
    have c_row := xw_upE eMi hRi.1 hq (by omega)
    have c_ev := xw_upE eMi hRi.2 hq (by omega)
    have c_rowj := xw_upE eMi hRj.1 hq (by omega)
    have c_evj := xw_upE eMi hRj.2 hq (by omega)
    have c_tri := xw_atE eMi
    have hsk := hs.up6 eMi
    refine lv_iload hx hb d_Rm_sameTree_42 (lv_at hl 3 rfl) ?_
    refine lv_aload_n hx hb d_Rm_sameTree_44 rfl (lv_at hl 1 rfl) ?_
    refine x_getN (C := R_Row) (T := F_Row) (N := 2) (host := R_Rm) hx hb hw i_Row hown hK.1 hM c_row rfl 0 (by decide) (va_Nw.use rfl (hK.2.1.1 (87, R_Row, "even", "[I") (by decide))) rfl rfl d_Rm_sameTree_45 ?_
    refine x_alen (v := nI (zln u i)) hx hb hK.1 hM c_ev 0 rfl rfl d_Rm_sameTree_48 ?_
    refine lv_icmp_ge (tgt := 99) hx hb d_Rm_sameTree_49 (by decide) (fun c_49 => ?_) (fun c_49 => ?_)
    · have h49 : zln u i ≤ k := (nI_leI (by omega) (by omega)).mp c_49
      refine lv_aload_n hx hb d_Rm_sameTree_99 rfl (lv_at hl 0 rfl) ?_
      refine x_get (C := R_Rm) (T := F_Rm) (N := 12) hx hb hw i_Rm hown hK.1 hM c_o rfl 8 (by decide) (hw _ kw_73) rfl rfl d_Rm_sameTree_100 ?_
      refine x_getN (C := R_Gap) (T := F_Gap) (N := 2) (host := R_Rm) hx hb hw i_Gap hown hK.1 hM c_tri rfl 1 (by decide) (va_Nw.use rfl (hK.2.1.1 (222, R_Gap, "years", "I") (by decide))) rfl rfl d_Rm_sameTree_103 ?_
      refine lv_iconst (v := 5) hx hb d_Rm_sameTree_106 (by decide) ?_
      refine lv_icmp_lt (tgt := 134) hx hb d_Rm_sameTree_107 (by decide) (fun c_107 => ?_) (fun c_107 => ?_)
      · refine lv_iconst (v := 0) hx hb d_Rm_sameTree_134 (by decide) ?_
        have hq9 : zSam u i j = q := by rw [eq, show k = zln u i by omega]; rfl
        refine vx_ret ?_
        exact x_rz hE rfl (Or.inl rfl) hM hS ⟨by unfold fSame; rw [if_pos h_x, if_pos h_y, ← e_i, ← e_j, if_neg hfl, hq9, if_pos (Or.inl c_107)], hsk.2, hsk.1⟩ (by decide) (by decide) d_Rm_sameTree_135
      · refine lv_aload_n hx hb d_Rm_sameTree_110 rfl (lv_at hl 0 rfl) ?_
        refine x_get (C := R_Rm) (T := F_Rm) (N := 12) hx hb hw i_Rm hown hK.1 hM c_o rfl 8 (by decide) (hw _ kw_73) rfl rfl d_Rm_sameTree_111 ?_
        refine x_getN (C := R_Gap) (T := F_Gap) (N := 2) (host := R_Rm) hx hb hw i_Gap hown hK.1 hM c_tri rfl 0 (by decide) (va_Nw.use rfl (hK.2.1.1 (225, R_Gap, "sum", "I") (by decide))) rfl rfl d_Rm_sameTree_114 ?_
        refine lv_bipush (v := 15) hx hb d_Rm_sameTree_117 (by decide) ?_
        refine lv_aload_n hx hb d_Rm_sameTree_119 rfl (lv_at hl 0 rfl) ?_
        refine x_get (C := R_Rm) (T := F_Rm) (N := 12) hx hb hw i_Rm hown hK.1 hM c_o rfl 8 (by decide) (hw _ kw_73) rfl rfl d_Rm_sameTree_120 ?_
        refine x_getN (C := R_Gap) (T := F_Gap) (N := 2) (host := R_Rm) hx hb hw i_Gap hown hK.1 hM c_tri rfl 1 (by decide) (va_Nw.use rfl (hK.2.1.1 (222, R_Gap, "years", "I") (by decide))) rfl rfl d_Rm_sameTree_123 ?_
        refine lv_imul hx hb d_Rm_sameTree_126 ?_
        refine lv_icmp_gt (tgt := 134) hx hb d_Rm_sameTree_127 (by decide) (fun c_127 => ?_) (fun c_127 => ?_)
        · refine lv_iconst (v := 0) hx hb d_Rm_sameTree_134 (by decide) ?_
          have hq9 : zSam u i j = q := by rw [eq, show k = zln u i by omega]; rfl
          refine vx_ret ?_
          exact x_rz hE rfl (Or.inl rfl) hM hS ⟨by unfold fSame; rw [if_pos h_x, if_pos h_y, ← e_i, ← e_j, if_neg hfl, hq9, if_pos (Or.inr c_127)], hsk.2, hsk.1⟩ (by decide) (by decide) d_Rm_sameTree_135
        · refine lv_iconst (v := 1) hx hb d_Rm_sameTree_130 (by decide) ?_
          refine lv_goto (tgt := 135) hx hb d_Rm_sameTree_131 (by decide) ?_
          have hq9 : zSam u i j = q := by rw [eq, show k = zln u i by omega]; rfl
          refine vx_ret ?_
          exact x_rz hE rfl (Or.inr rfl) hM hS ⟨by unfold fSame; rw [if_pos h_x, if_pos h_y, ← e_i, ← e_j, if_neg hfl, hq9, if_neg (fun h9 => h9.elim c_107 (fun h8 => c_127 h8))], hsk.2, hsk.1⟩ (by decide) (by decide) d_Rm_sameTree_135
    · have hkl : k < zln u i := Nat.not_le.mp (fun h9 => c_49 ((nI_leI (by omega) (by omega)).mpr h9))
      refine lv_aload hx hb d_Rm_sameTree_52 (lv_at hl 2 rfl) ?_
      refine lv_aload_n hx hb d_Rm_sameTree_54 rfl (lv_at hl 1 rfl) ?_
      refine x_getN (C := R_Row) (T := F_Row) (N := 2) (host := R_Rm) hx hb hw i_Row hown hK.1 hM c_row rfl 1 (by decide) (va_Nw.use rfl (hK.2.1.1 (97, R_Row, "start", "I") (by decide))) rfl rfl d_Rm_sameTree_55 ?_
      refine lv_iload hx hb d_Rm_sameTree_58 (lv_at hl 3 rfl) ?_
      refine lv_iadd hx hb d_Rm_sameTree_60 ?_
      refine lv_aload hx hb d_Rm_sameTree_61 (lv_at hl 2 rfl) ?_
      refine x_getN (C := R_Row) (T := F_Row) (N := 2) (host := R_Rm) hx hb hw i_Row hown hK.1 hM c_rowj rfl 1 (by decide) (va_Nw.use rfl (hK.2.1.1 (97, R_Row, "start", "I") (by decide))) rfl rfl d_Rm_sameTree_63 ?_
      refine x_ci (x_runV (As := [.int ((zst u i) + (nI k)), .int (zst u j)]) (rest := []) hE hK hM hl.1 (c_Row_ringIn l G Mi (ad (20 + j)) (20 + j) (ad (30 + j)) (30 + j) (zln u j) (zev u j) (zst u j) c_rowj c_evj (by omega) (zst u i + nI k) (zst u j)) c_rowj rfl kw_345 kw_346 kw_347 kw_10 kw_348 2 rfl rfl rfl (by decide +kernel) ⟨by decide, by decide⟩ rfl (Nat.le_of_ble_eq_true rfl) d_Rm_sameTree_66 ⟨by decide, by decide⟩) hS (fun r1 M1 H locs hp hM hS => ?_)
      obtain ⟨e_r, e_M⟩ := hp
      have hM : xh G Mi H := e_M ▸ hM
      refine lv_istore (lv' := [(6, .int r1), (0, .ref (ad 0)), (3, .ref (ad (20 + i))), (4, .ref (ad (20 + j))), (5, .int (nI k))]) hx hb d_Rm_sameTree_69 hl (by decide) rfl (fun ls hl => ?_)
      refine lv_iload hx hb d_Rm_sameTree_71 (lv_at hl 0 rfl) ?_
      refine lv_iconst (v := (-1)) hx hb d_Rm_sameTree_73 (by decide) ?_
      refine lv_icmp_eq (tgt := 93) hx hb d_Rm_sameTree_74 (by decide) (fun c_74 => ?_) (fun c_74 => ?_)
      · refine lv_iinc (v := (nI (k + 1))) (lv' := [(5, .int (nI (k + 1))), (6, .int r1), (0, .ref (ad 0)), (3, .ref (ad (20 + i))), (4, .ref (ad (20 + j)))]) hx hb d_Rm_sameTree_93 hl (k := 4) rfl (nI_1 k) (by decide) rfl (fun ls hl => ?_)
        refine lv_goto (tgt := 42) hx hb d_Rm_sameTree_96 (by decide) ?_
        have hz : zDist (zev u i) (fun k => zRing (zln u j) (zev u j) (zst u i + nI k - zst u j)) (k + 1) = q := by
          show (if zRing (zln u j) (zev u j) (zst u i + nI k - zst u j) = -1 then _ else _) = _
          rw [if_pos (e_r ▸ c_74), ← eq]
        exact ih (k + 1) (by omega) (by omega) _ _ _ (by rw [hz, ← eMi]; exact hM) hS (lv_sub hl [2, 3, 4, 0] rfl)
      · refine lv_aload_n hx hb d_Rm_sameTree_77 rfl (lv_at hl 1 rfl) ?_
        refine x_get (C := R_Rm) (T := F_Rm) (N := 12) hx hb hw i_Rm hown hK.1 hM c_o rfl 8 (by decide) (hw _ kw_73) rfl rfl d_Rm_sameTree_78 ?_
        refine lv_aload_n hx hb d_Rm_sameTree_81 rfl (lv_at hl 2 rfl) ?_
        refine x_getN (C := R_Row) (T := F_Row) (N := 2) (host := R_Rm) hx hb hw i_Row hown hK.1 hM c_row rfl 0 (by decide) (va_Nw.use rfl (hK.2.1.1 (87, R_Row, "even", "[I") (by decide))) rfl rfl d_Rm_sameTree_82 ?_
        refine lv_iload hx hb d_Rm_sameTree_85 (lv_at hl 4 rfl) ?_
        refine x_iald hx hb hK.1 hM c_ev 0 rfl rfl hkl (by omega) d_Rm_sameTree_87 ?_
        refine lv_iload hx hb d_Rm_sameTree_88 (lv_at hl 0 rfl) ?_
        refine x_cv (x_runV (As := [.int ((zev u i) k), .int r1]) (rest := []) hE hK hM hl.1 (c_Gap_add l G Mi (ad 6) 6 q.1 q.2 c_tri (zev u i k) r1) c_tri rfl kw_408 kw_409 kw_410 kw_3 kw_411 2 rfl rfl rfl (by decide +kernel) ⟨by decide, by decide⟩ rfl (Nat.le_of_ble_eq_true rfl) d_Rm_sameTree_90 ⟨by decide, by decide⟩) hS (fun M1 H locs hp hM hS => ?_)
        refine lv_iinc (v := (nI (k + 1))) (lv' := [(5, .int (nI (k + 1))), (6, .int r1), (0, .ref (ad 0)), (3, .ref (ad (20 + i))), (4, .ref (ad (20 + j)))]) hx hb d_Rm_sameTree_93 hl (k := 4) rfl (nI_1 k) (by decide) rfl (fun ls hl => ?_)
        refine lv_goto (tgt := 42) hx hb d_Rm_sameTree_96 (by decide) ?_
        have hz : zDist (zev u i) (fun k => zRing (zln u j) (zev u j) (zst u i + nI k - zst u j)) (k + 1) = (q.1 + zAbs (zev u i k - r1), q.2 + 1) := by
          show (if zRing (zln u j) (zev u j) (zst u i + nI k - zst u j) = -1 then _ else _) = _
          rw [if_neg (fun h9 => c_74 (e_r.trans h9)), ← eq]
          rw [e_r]
        exact ih (k + 1) (by omega) (by omega) _ _ _ (by rw [hz]; rw [hp, eMi, bx_uu] at hM; exact hM) hS (lv_sub hl [2, 3, 4, 0] rfl)

set_option maxHeartbeats 4000000 in
set_option maxRecDepth 100000 in
theorem c_Rm_sameTree (l : Launch) (G : xG) (M : xM) (hst : l.stackTraces = false) (ad : Nat → Nat) (u : zS) (hC : Core G M ad u) (hO : zOk u) (hs : Scr G M ad) (x y : Int32) : vx_Met l y_Rm_sameTree w_Rm_sameTree ({ frames := 7, cells := 2, slots := 12, locals := 125 }) (xP G [.ref (ad 0), .int x, .int y] M) (xQi G (fun v M' => fSame u x y = (0, v) ∧ xKeep M M' ∧ Scr G M' ad)) (xX G (fun E M' => fSame u x y = (1, 0) ∧ E = nIOE ∧ M' = M)) 2 12 (xF G) := by
  refine x_metX (by decide) (Nat.le_of_ble_eq_true rfl) ?_
  intro p e s m below meth c ls hE hnx hl hM hK hS
  obtain ⟨hx, hb, hr, hml, hown, hw, hlocks⟩ := id hE
  have h0 := hM
  have hl : lv_has ls 7 [(0, .ref (ad 0)), (1, .int x), (2, .int y)] := hl
  refine lv_aload_n hx hb d_Rm_sameTree_0 rfl (lv_at hl 0 rfl) ?_
  refine lv_iload_n hx hb d_Rm_sameTree_1 rfl (lv_at hl 1 rfl) ?_
  refine x_cxr (x_runVX (As := [.int x]) (rest := []) hE hK hM hl.1 (c_Rm_rowOf l G M hst ad u hC hO x) hC.1 rfl kw_232 kw_234 ks_2 kw_1 kw_235 1 rfl rfl rfl (by decide +kernel) ⟨by decide, by decide⟩ rfl (Nat.le_of_ble_eq_true rfl) d_Rm_sameTree_2 ⟨by decide, by decide⟩) hS (fun E ce q9 M1 H locs hp hM hS hq1 hq2 hq3 => ?_) (fun r1 M1 H locs hp hM hS => ?_)
  · obtain ⟨h_x, rfl, e_M⟩ := hp
    have hM : xh G M H := e_M ▸ hM
    exact x_out hE hnx hM hS hq1 hq2 hq3 ⟨by unfold fSame; rw [if_neg h_x], rfl, rfl⟩ (by decide) (by decide)
  obtain ⟨h_in, e_a, e_M⟩ := hp
  have hM : xh G M H := e_M ▸ hM
  obtain ⟨i, e_i, h_i, ex_i⟩ := z_in h_in (by have := hO.2.2.1; omega)
  rw [← e_i] at e_a
  subst e_a
  have hR_i := hC.2.2.2.2.2.2.1 i h_i
  have hZ_i := hO.2.2.2.1 i h_i
  have h_in0 := h_in
  refine lv_astore_n (lv' := [(3, .ref (ad (20 + i))), (0, .ref (ad 0)), (1, .int x), (2, .int y)]) hx hb d_Rm_sameTree_5 rfl hl (by decide) rfl (fun ls hl => ?_)
  refine lv_aload_n hx hb d_Rm_sameTree_6 rfl (lv_at hl 1 rfl) ?_
  refine lv_iload_n hx hb d_Rm_sameTree_7 rfl (lv_at hl 3 rfl) ?_
  refine x_cxr (x_runVX (As := [.int y]) (rest := []) hE hK hM hl.1 (c_Rm_rowOf l G M hst ad u hC hO y) hC.1 rfl kw_232 kw_234 ks_2 kw_1 kw_235 1 rfl rfl rfl (by decide +kernel) ⟨by decide, by decide⟩ rfl (Nat.le_of_ble_eq_true rfl) d_Rm_sameTree_8 ⟨by decide, by decide⟩) hS (fun E ce q9 M1 H locs hp hM hS hq1 hq2 hq3 => ?_) (fun r2 M1 H locs hp hM hS => ?_)
  · obtain ⟨h_x, rfl, e_M⟩ := hp
    have hM : xh G M H := e_M ▸ hM
    exact x_out hE hnx hM hS hq1 hq2 hq3 ⟨by unfold fSame; rw [if_pos h_in0, if_neg h_x], rfl, rfl⟩ (by decide) (by decide)
  obtain ⟨h_in, e_a, e_M⟩ := hp
  have hM : xh G M H := e_M ▸ hM
  obtain ⟨j, e_j, h_j, ex_j⟩ := z_in h_in (by have := hO.2.2.1; omega)
  rw [← e_j] at e_a
  subst e_a
  have hR_j := hC.2.2.2.2.2.2.1 j h_j
  have hZ_j := hO.2.2.2.1 j h_j
  refine lv_astore (lv' := [(4, .ref (ad (20 + j))), (3, .ref (ad (20 + i))), (0, .ref (ad 0)), (1, .int x), (2, .int y)]) hx hb d_Rm_sameTree_11 hl (by decide) rfl (fun ls hl => ?_)
  refine lv_aload_n hx hb d_Rm_sameTree_13 rfl (lv_at hl 1 rfl) ?_
  refine x_getN (C := R_Row) (T := F_Row) (N := 2) (host := R_Rm) hx hb hw i_Row hown hK.1 hM hR_i.1 rfl 1 (by decide) (va_Nw.use rfl (hK.2.1.1 (97, R_Row, "start", "I") (by decide))) rfl rfl d_Rm_sameTree_14 ?_
  refine lv_iconst (v := (-1)) hx hb d_Rm_sameTree_17 (by decide) ?_
  refine lv_icmp_eq (tgt := 30) hx hb d_Rm_sameTree_18 (by decide) (fun c_18 => ?_) (fun c_18 => ?_)
  · refine lv_iconst (v := 0) hx hb d_Rm_sameTree_30 (by decide) ?_
    refine vx_ret ?_
    exact x_rz hE rfl (Or.inl rfl) hM hS ⟨by unfold fSame; rw [if_pos h_in0, if_pos h_in, ← e_i, ← e_j, if_pos (Or.inl c_18)], xKeep.refl, hs⟩ (by decide) (by decide) d_Rm_sameTree_31
  · refine lv_aload hx hb d_Rm_sameTree_21 (lv_at hl 0 rfl) ?_
    refine x_getN (C := R_Row) (T := F_Row) (N := 2) (host := R_Rm) hx hb hw i_Row hown hK.1 hM hR_j.1 rfl 1 (by decide) (va_Nw.use rfl (hK.2.1.1 (97, R_Row, "start", "I") (by decide))) rfl rfl d_Rm_sameTree_23 ?_
    refine lv_iconst (v := (-1)) hx hb d_Rm_sameTree_26 (by decide) ?_
    refine lv_icmp_ne (tgt := 32) hx hb d_Rm_sameTree_27 (by decide) (fun c_27 => ?_) (fun c_27 => ?_)
    · refine lv_aload_n hx hb d_Rm_sameTree_32 rfl (lv_at hl 2 rfl) ?_
      refine x_get (C := R_Rm) (T := F_Rm) (N := 12) hx hb hw i_Rm hown hK.1 hM hC.1 rfl 8 (by decide) (hw _ kw_73) rfl rfl d_Rm_sameTree_33 ?_
      obtain ⟨q0, hq⟩ := hs.2.1
      refine x_cv (x_runV (As := []) (rest := []) hE hK hM hl.1 (c_Gap_clear l G M (ad 6) 6 q0.1 q0.2 hq) hq rfl kw_404 kw_405 kw_406 kw_3 kw_407 0 rfl rfl rfl (by decide +kernel) ⟨by decide, by decide⟩ rfl (Nat.le_of_ble_eq_true rfl) d_Rm_sameTree_36 ⟨by decide, by decide⟩) hS (fun M1 H locs hp hM hS => ?_)
      have hM : xh G (va_up M (ad 6) (some (6, eGap (zDist (zev u i) (fun k => zRing (zln u j) (zev u j) (zst u i + nI k - zst u j)) 0)))) H := hp ▸ hM
      refine lv_iconst (v := 0) hx hb d_Rm_sameTree_39 (by decide) ?_
      refine lv_istore (lv' := [(5, .int 0), (4, .ref (ad (20 + j))), (3, .ref (ad (20 + i))), (0, .ref (ad 0)), (1, .int x), (2, .int y)]) hx hb d_Rm_sameTree_40 hl (by decide) rfl (fun ls hl => ?_)
      exact lp_Rm_sameTree ad u hC hO i h_i j h_j x y h_in0 h_in e_i e_j (fun h9 => h9.elim c_18 c_27) hs q0 hq hE hK (zln u i + 1) 0 (by omega) (by omega) _ _ _ hM hS (lv_sub hl [3, 2, 1, 0] rfl)
    · refine lv_iconst (v := 0) hx hb d_Rm_sameTree_30 (by decide) ?_
      refine vx_ret ?_
      exact x_rz hE rfl (Or.inl rfl) hM hS ⟨by unfold fSame; rw [if_pos h_in0, if_pos h_in, ← e_i, ← e_j, if_pos (Or.inr c_27)], xKeep.refl, hs⟩ (by decide) (by decide) d_Rm_sameTree_31
