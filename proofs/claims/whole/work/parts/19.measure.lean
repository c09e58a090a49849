set_option maxHeartbeats 4000000 in
set_option maxRecDepth 100000 in
theorem lp_Rm_measure {p : Program} {l : Launch} {e : Env} {s : State} {m : MethodId} {below : List Frame} {meth : Method} {c : Code} {args : Array Value} {G : xG} {M : xM} (ad : Nat → Nat) (u : zS) (hC : Core G M ad u) (hO : zOk u) (i : Nat) (hi : i < zrn u) (j : Nat) (hj : j < zmn u) (y : Int32) (q0 : Int32 × Int32) (hq : M (ad 6) = some (6, eGap q0)) (hE : xE p s m args meth c b_Rm_measure none 8 R_Rm) (hK : KX G s) : ∀ (n k : Nat), k ≤ zln u i → zln u i + 1 ≤ k + n → ∀ (H : Heap) (locs : List Loc) (ls : Array Slot), xh G (va_up M (ad 6) (some (6, eGap (zDist (zev u i) (fun k => zVz u j (y.toInt + k)) k)))) H → va_S (xF G) s.heap H locs → lv_has ls 8 [(0, .ref (ad 0)), (1, .ref (ad (20 + i))), (2, .ref (ad (40 + j))), (3, .int y), (4, .int (nI k))] → W p l e ({ frames := 2, cells := 0, slots := 0, locals := 45 }) s m args below meth c H locs 0 0 (MQ below (xQv G (fun M' => M' = va_up M (ad 6) (some (6, eGap (zMea u i j y.toInt))))) args s 0 0 (xF G)) (F0 m 10 ls []) := by
  obtain ⟨hx, hb, hr, hml, hown, hw, hlocks⟩ := id hE
  have hZ := hO.2.2.2.1 i hi
  have hRi := hC.2.2.2.2.2.2.1 i hi
  obtain ⟨hJ1, hJ2, V, D, hJ3, hJ4, hJ5⟩ := hC.2.2.2.2.2.2.2 j hj
  have hB := hO.mas hj
  have hyn : zYn (zln u) (zms u j) ≤ 530 := by
    show (zLst (zln u) (zms u j) 10 - zFst (zms u j) 10 + 1).toNatClampNeg ≤ 530
    rw [z_yn hB.1 hB.2]
    have := hB.1.1
    have := hB.2.2
    omega
  intro n
  induction n with
  | zero =>
    intro k h1 h2
    exact absurd h2 (by omega)
  | succ n ih =>
    intro k hk hin H locs ls hM hS hl
    obtain ⟨Mi, eMi⟩ : ∃ z : xM, z = va_up M (ad 6) (some (6, eGap (zDist (zev u i) (fun k => zVz u j (y.toInt + k)) k))) := ⟨_, rfl⟩
    rw [← eMi] at hM
    obtain ⟨q, eq⟩ : ∃ z : Int32 × Int32, z = zDist (zev u i) (fun k => zVz u j (y.toInt + k)) k := ⟨_, rfl⟩
    rw [← eq] at eMi
    have c_o : Mi (ad 0) = some (0, .inr (4, [.ref (ad 1), .int (nI (zpn u)), .ref (ad 2), .int (nI (zrn u)), .ref (ad 3), .int (nI (zmn u)), .ref (ad 4), .ref (ad 5), .ref (ad 6), .ref (ad 7), .ref (ad 8), .ref (ad 9)])) := xw_upE eMi hC.1 hq (by decide)
    have c_row := xw_upE eMi hRi.1 hq (by omega)
    have c_ev := xw_upE eMi hRi.2 hq (by omega)
    have c_J1 := xw_upE eMi hJ1 hq (by omega)
    have c_J3 := xw_upE eMi hJ3 hq (by omega)
    have c_tri := xw_atE eMi
    have hv := z_val hO hj (fun k hk => (hJ5 k hk).1) (y.toInt + k)
    refine lv_iload hx hb d_Rm_measure_10 (lv_at hl 4 rfl) ?_
    refine lv_aload_n hx hb d_Rm_measure_12 rfl (lv_at hl 1 rfl) ?_
    refine x_getN (C := R_Row) (T := F_Row) (N := 2) (host := R_Rm) hx hb hw i_Row hown hK.1 hM c_row rfl 0 (by decide) (va_Nw.use rfl (hK.2.1.1 (87, R_Row, "even", "[I") (by decide))) rfl rfl d_Rm_measure_13 ?_
    refine x_alen (v := nI (zln u i)) hx hb hK.1 hM c_ev 0 rfl rfl d_Rm_measure_16 ?_
    refine lv_icmp_ge (tgt := 94) hx hb d_Rm_measure_17 (by decide) (fun c_17 => ?_) (fun c_17 => ?_)
    · have h17 : zln u i ≤ k := (nI_leI (by omega) (by omega)).mp c_17
      exact x_rv hE rfl hM hS (by rw [eMi, eq, show k = zln u i by omega]; rfl) (by decide) (by decide) d_Rm_measure_94
    · have hkl : k < zln u i := Nat.not_le.mp (fun h9 => c_17 ((nI_leI (by omega) (by omega)).mpr h9))
      refine lv_iload_n hx hb d_Rm_measure_20 rfl (lv_at hl 3 rfl) ?_
      refine lv_i2l (v := y.toInt64) hx hb d_Rm_measure_21 rfl ?_
      refine lv_iload hx hb d_Rm_measure_22 (lv_at hl 4 rfl) ?_
      refine lv_i2l (v := (nI k).toInt64) hx hb d_Rm_measure_24 rfl ?_
      refine lv_ladd hx hb d_Rm_measure_25 ?_
      refine lv_aload_n hx hb d_Rm_measure_26 rfl (lv_at hl 2 rfl) ?_
      refine x_getN (C := R_Men) (T := F_Men) (N := 6) (host := R_Rm) hx hb hw i_Men hown hK.1 hM c_J1 rfl 1 (by decide) (va_Nw.use rfl (hK.2.1.1 (134, R_Men, "first", "I") (by decide))) rfl rfl d_Rm_measure_27 ?_
      refine lv_i2l (v := (zFst (zms u j) 10).toInt64) hx hb d_Rm_measure_30 rfl ?_
      refine lv_lsub hx hb d_Rm_measure_31 ?_
      refine lv_topl (fun z ez => ?_)
      have hz3 : z.toInt = y.toInt + k - (zFst (zms u j) 10).toInt := by rw [ez]; exact z_l3 _ _ (by omega)
      refine lv_lstore (lv' := [(5, .long z), (0, .ref (ad 0)), (1, .ref (ad (20 + i))), (2, .ref (ad (40 + j))), (3, .int y), (4, .int (nI k))]) hx hb d_Rm_measure_32 hl (by decide) rfl (fun ls hl => ?_)
      refine lv_lload hx hb d_Rm_measure_34 (lv_at hl 0 rfl) ?_
      refine lv_lconst (v := 0) hx hb d_Rm_measure_36 (by decide) ?_
      refine W.lcmp hx hb d_Rm_measure_37 ?_
      refine lv_if_lt (tgt := 88) hx hb d_Rm_measure_38 (by decide) (fun c_38 => ?_) (fun c_38 => ?_)
      · have e_v : zVz u j (y.toInt + k) = -1 := hv.1 (by have h8 := Int64.lt_iff_toInt_lt.mp ((lg_cmp_lt _ _).mp c_38); rw [hz3] at h8; exact h8)
        refine lv_iinc (v := (nI (k + 1))) (lv' := [(4, .int (nI (k + 1))), (5, .long z), (0, .ref (ad 0)), (1, .ref (ad (20 + i))), (2, .ref (ad (40 + j))), (3, .int y)]) hx hb d_Rm_measure_88 hl (k := 5) rfl (nI_1 k) (by decide) rfl (fun ls hl => ?_)
        refine lv_goto (tgt := 10) hx hb d_Rm_measure_91 (by decide) ?_
        have hz : zDist (zev u i) (fun k => zVz u j (y.toInt + k)) (k + 1) = q := by
          show (if zVz u j (y.toInt + k) = -1 then _ else _) = _
          rw [if_pos e_v, ← eq]
        exact ih (k + 1) (by omega) (by omega) _ _ _ (by rw [hz, ← eMi]; exact hM) hS (lv_sub hl [2, 3, 4, 5, 0] rfl)
      · have h38 : ¬ z < 0 := fun h9 => c_38 ((lg_cmp_lt _ _).mpr h9)
        refine lv_lload hx hb d_Rm_measure_41 (lv_at hl 0 rfl) ?_
        refine lv_aload_n hx hb d_Rm_measure_43 rfl (lv_at hl 3 rfl) ?_
        refine x_getN (C := R_Men) (T := F_Men) (N := 6) (host := R_Rm) hx hb hw i_Men hown hK.1 hM c_J1 rfl 4 (by decide) (va_Nw.use rfl (hK.2.1.1 (145, R_Men, "values", "[I") (by decide))) rfl rfl d_Rm_measure_44 ?_
        refine x_alen (v := nI (zYn (zln u) (zms u j))) hx hb hK.1 hM c_J3 0 rfl rfl d_Rm_measure_47 ?_
        refine lv_i2l (v := (nI (zYn (zln u) (zms u j))).toInt64) hx hb d_Rm_measure_48 rfl ?_
        refine W.lcmp hx hb d_Rm_measure_49 ?_
        refine lv_if_lt (tgt := 56) hx hb d_Rm_measure_50 (by decide) (fun c_50 => ?_) (fun c_50 => ?_)
        · obtain ⟨kk, hk1, hk2, hk3⟩ := z_i64 h38 ((lg_cmp_lt _ _).mp c_50) (by omega)
          have e_v := hv.2.2 kk hk1 (by omega)
          refine lv_aload_n hx hb d_Rm_measure_56 rfl (lv_at hl 3 rfl) ?_
          refine x_getN (C := R_Men) (T := F_Men) (N := 6) (host := R_Rm) hx hb hw i_Men hown hK.1 hM c_J1 rfl 4 (by decide) (va_Nw.use rfl (hK.2.1.1 (145, R_Men, "values", "[I") (by decide))) rfl rfl d_Rm_measure_57 ?_
          refine lv_lload hx hb d_Rm_measure_60 (lv_at hl 0 rfl) ?_
          refine lv_l2i (v := z.toInt32) hx hb d_Rm_measure_62 rfl ?_
          refine x_iald hx hb hK.1 hM c_J3 0 rfl hk3 hk1 (by omega) d_Rm_measure_63 ?_
          refine lv_istore (lv' := [(7, .int (V kk)), (5, .long z), (0, .ref (ad 0)), (1, .ref (ad (20 + i))), (2, .ref (ad (40 + j))), (3, .int y), (4, .int (nI k))]) hx hb d_Rm_measure_64 hl (by decide) rfl (fun ls hl => ?_)
          refine lv_iload hx hb d_Rm_measure_66 (lv_at hl 0 rfl) ?_
          refine lv_iconst (v := (-1)) hx hb d_Rm_measure_68 (by decide) ?_
          refine lv_icmp_eq (tgt := 88) hx hb d_Rm_measure_69 (by decide) (fun c_69 => ?_) (fun c_69 => ?_)
          · refine lv_iinc (v := (nI (k + 1))) (lv' := [(4, .int (nI (k + 1))), (7, .int (V kk)), (5, .long z), (0, .ref (ad 0)), (1, .ref (ad (20 + i))), (2, .ref (ad (40 + j))), (3, .int y)]) hx hb d_Rm_measure_88 hl (k := 6) rfl (nI_1 k) (by decide) rfl (fun ls hl => ?_)
            refine lv_goto (tgt := 10) hx hb d_Rm_measure_91 (by decide) ?_
            have hz : zDist (zev u i) (fun k => zVz u j (y.toInt + k)) (k + 1) = q := by
              show (if zVz u j (y.toInt + k) = -1 then _ else _) = _
              rw [if_pos (e_v ▸ c_69), ← eq]
            exact ih (k + 1) (by omega) (by omega) _ _ _ (by rw [hz, ← eMi]; exact hM) hS (lv_sub hl [3, 4, 5, 6, 0] rfl)
          · refine lv_aload_n hx hb d_Rm_measure_72 rfl (lv_at hl 2 rfl) ?_
            refine x_get (C := R_Rm) (T := F_Rm) (N := 12) hx hb hw i_Rm hown hK.1 hM c_o rfl 8 (by decide) (hw _ kw_73) rfl rfl d_Rm_measure_73 ?_
            refine lv_aload_n hx hb d_Rm_measure_76 rfl (lv_at hl 3 rfl) ?_
            refine x_getN (C := R_Row) (T := F_Row) (N := 2) (host := R_Rm) hx hb hw i_Row hown hK.1 hM c_row rfl 0 (by decide) (va_Nw.use rfl (hK.2.1.1 (87, R_Row, "even", "[I") (by decide))) rfl rfl d_Rm_measure_77 ?_
            refine lv_iload hx hb d_Rm_measure_80 (lv_at hl 6 rfl) ?_
            refine x_iald hx hb hK.1 hM c_ev 0 rfl rfl hkl (by omega) d_Rm_measure_82 ?_
            refine lv_iload hx hb d_Rm_measure_83 (lv_at hl 0 rfl) ?_
            refine x_cv (x_runV (As := [.int ((zev u i) k), .int (V kk)]) (rest := []) hE hK hM hl.1 (c_Gap_add l G Mi (ad 6) 6 q.1 q.2 c_tri (zev u i k) (V kk)) c_tri rfl kw_408 kw_409 kw_410 kw_3 kw_411 2 rfl rfl rfl (by decide +kernel) ⟨by decide, by decide⟩ rfl (Nat.le_of_ble_eq_true rfl) d_Rm_measure_85 ⟨by decide, by decide⟩) hS (fun M1 H locs hp hM hS => ?_)
            refine lv_iinc (v := (nI (k + 1))) (lv' := [(4, .int (nI (k + 1))), (7, .int (V kk)), (5, .long z), (0, .ref (ad 0)), (1, .ref (ad (20 + i))), (2, .ref (ad (40 + j))), (3, .int y)]) hx hb d_Rm_measure_88 hl (k := 6) rfl (nI_1 k) (by decide) rfl (fun ls hl => ?_)
            refine lv_goto (tgt := 10) hx hb d_Rm_measure_91 (by decide) ?_
            have hz : zDist (zev u i) (fun k => zVz u j (y.toInt + k)) (k + 1) = (q.1 + zAbs (zev u i k - zVz u j (y.toInt + k)), q.2 + 1) := by
              show (if zVz u j (y.toInt + k) = -1 then _ else _) = _
              rw [if_neg (fun h9 => c_69 (e_v.trans h9)), ← eq]
            exact ih (k + 1) (by omega) (by omega) _ _ _ (by rw [hz, ← e_v]; rw [hp, eMi, bx_uu] at hM; exact hM) hS (lv_sub hl [3, 4, 5, 6, 0] rfl)
        · have e_v : zVz u j (y.toInt + k) = -1 := hv.2.1 (by have h8 := Int64.le_iff_toInt_le.mp (Int64.not_lt.mp (fun h9 => c_50 ((lg_cmp_lt _ _).mpr h9))); rw [hz3, Int32.toInt_toInt64, nI_toInt (by omega)] at h8; exact h8)
          refine lv_goto (tgt := 88) hx hb d_Rm_measure_53 (by decide) ?_
          refine lv_iinc (v := (nI (k + 1))) (lv' := [(4, .int (nI (k + 1))), (5, .long z), (0, .ref (ad 0)), (1, .ref (ad (20 + i))), (2, .ref (ad (40 + j))), (3, .int y)]) hx hb d_Rm_measure_88 hl (k := 5) rfl (nI_1 k) (by decide) rfl (fun ls hl => ?_)
          refine lv_goto (tgt := 10) hx hb d_Rm_measure_91 (by decide) ?_
          have hz : zDist (zev u i) (fun k => zVz u j (y.toInt + k)) (k + 1) = q := by
            show (if zVz u j (y.toInt + k) = -1 then _ else _) = _
            rw [if_pos e_v, ← eq]
          exact ih (k + 1) (by omega) (by omega) _ _ _ (by rw [hz, ← eMi]; exact hM) hS (lv_sub hl [2, 3, 4, 5, 0] rfl)

set_option maxHeartbeats 4000000 in
set_option maxRecDepth 100000 in
theorem c_Rm_measure (l : Launch) (G : xG) (M : xM) (ad : Nat → Nat) (u : zS) (hC : Core G M ad u) (hO : zOk u) (i : Nat) (hi : i < zrn u) (j : Nat) (hj : j < zmn u) (y : Int32) (q0 : Int32 × Int32) (hq : M (ad 6) = some (6, eGap q0)) : Met l y_Rm_measure w_Rm_measure ({ frames := 2, cells := 0, slots := 0, locals := 45 }) (xP G [.ref (ad 0), .ref (ad (20 + i)), .ref (ad (40 + j)), .int y] M) (xQv G (fun M' => M' = va_up M (ad 6) (some (6, eGap (zMea u i j y.toInt))))) 0 0 (xF G) := by
  refine x_met (by decide) (Nat.le_of_ble_eq_true rfl) ?_
  intro p e s m below meth c ls hE hin hl hM hK hS
  obtain ⟨hx, hb, hr, hml, hown, hw, hlocks⟩ := id hE
  have hl : lv_has ls 8 [(0, .ref (ad 0)), (1, .ref (ad (20 + i))), (2, .ref (ad (40 + j))), (3, .int y)] := hl
  refine lv_aload_n hx hb d_Rm_measure_0 rfl (lv_at hl 0 rfl) ?_
  refine x_get (C := R_Rm) (T := F_Rm) (N := 12) hx hb hw i_Rm hown hK.1 hM hC.1 rfl 8 (by decide) (hw _ kw_73) rfl rfl d_Rm_measure_1 ?_
  refine x_cv (x_runV (As := []) (rest := []) hE hK hM hl.1 (c_Gap_clear l G M (ad 6) 6 q0.1 q0.2 hq) hq rfl kw_404 kw_405 kw_406 kw_3 kw_407 0 rfl rfl rfl (by decide +kernel) ⟨by decide, by decide⟩ rfl (Nat.le_of_ble_eq_true rfl) d_Rm_measure_4 ⟨by decide, by decide⟩) hS (fun M1 H locs hp hM hS => ?_)
  have hM : xh G (va_up M (ad 6) (some (6, eGap (zDist (zev u i) (fun k => zVz u j (y.toInt + k)) 0)))) H := hp ▸ hM
  refine lv_iconst (v := 0) hx hb d_Rm_measure_7 (by decide) ?_
  refine lv_istore (lv' := [(4, .int 0), (0, .ref (ad 0)), (1, .ref (ad (20 + i))), (2, .ref (ad (40 + j))), (3, .int y)]) hx hb d_Rm_measure_8 hl (by decide) rfl (fun ls hl => ?_)
  exact lp_Rm_measure ad u hC hO i hi j hj y q0 hq hE hK (zln u i + 1) 0 (by omega) (by omega) _ _ _ hM hS (lv_sub hl [1, 2, 3, 4, 0] rfl)
