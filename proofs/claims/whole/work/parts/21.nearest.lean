set_option maxHeartbeats 4000000 in
set_option maxRecDepth 100000 in
theorem lp_Rm_nearestYear {p : Program} {l : Launch} {e : Env} {s : State} {m : MethodId} {below : List Frame} {meth : Method} {c : Code} {args : Array Value} {G : xG} {M : xM} (ad : Nat → Nat) (u : zS) (hC : Core G M ad u) (hO : zOk u) (i : Nat) (hi : i < zrn u) (j : Nat) (hj : j < zmn u) (least : Int32) (hE : xE p s m args meth c b_Rm_nearestYear (some .int) 6 R_Rm) (hK : KX G s) : ∀ (n k : Nat) (yv : Int32), k ≤ zYN u i j → zYN u i j + 1 ≤ k + n → yv.toInt = zY0 u i j + k → ∀ (Mk : xM) (q6 : Int32 × Int32), xOff2 6 7 M Mk → Mk (ad 6) = some (6, eGap q6) → Mk (ad 7) = some (7, eGap (zNea u i j least (zY0 u i j) k).2) → ∀ (H : Heap) (locs : List Loc) (ls : Array Slot), xh G Mk H → va_S (xF G) s.heap H locs → lv_has ls 6 [(0, .ref (ad 0)), (1, .ref (ad (20 + i))), (2, .ref (ad (40 + j))), (3, .int least), (4, .int (zNea u i j least (zY0 u i j) k).1), (5, .int yv)] → W p l e ({ frames := 3, cells := 0, slots := 0, locals := 72 }) s m args below meth c H locs 0 0 (MQ below (xQi G (fun v M' => v = (zDat u i j least).1 ∧ xOff2 6 7 M M' ∧ (∃ q, M' (ad 6) = some (6, eGap q)) ∧ M' (ad 7) = some (7, eGap (zDat u i j least).2))) args s 0 0 (xF G)) (F0 m 26 ls []) := by
  obtain ⟨hx, hb, hr, hml, hown, hw, hlocks⟩ := id hE
  have hZ := hO.2.2.2.1 i hi
  have hB := hO.mas hj
  have hb1 := hB.1.1
  have hb2 := hB.1.2
  have hb3 := hB.2.1
  have hb4 := hB.2.2
  have hy0 : zY0 u i j = (zFst (zms u j) 10).toInt - zln u i + 1 := rfl
  have hyN : zYN u i j = ((zLst (zln u) (zms u j) 10).toInt - zY0 u i j + 1).toNat := rfl
  intro n
  induction n with
  | zero =>
    intro k yv h1 h2
    exact absurd h2 (by omega)
  | succ n ih =>
    intro k yv hk hin hy Mk q6 hof c_tri c_nea H locs ls hM hS hl
    have hCk : Core G Mk ad u := hC.keep (hof.keep rfl rfl)
    obtain ⟨bq, ebq⟩ : ∃ z : zN3, z = zNea u i j least (zY0 u i j) k := ⟨_, rfl⟩
    rw [← ebq] at hl c_nea
    have c_o : Mk (ad 0) = some (0, .inr (4, [.ref (ad 1), .int (nI (zpn u)), .ref (ad 2), .int (nI (zrn u)), .ref (ad 3), .int (nI (zmn u)), .ref (ad 4), .ref (ad 5), .ref (ad 6), .ref (ad 7), .ref (ad 8), .ref (ad 9)])) := hCk.1
    have c_row := (hCk.2.2.2.2.2.2.1 i hi).1
    have c_ev := (hCk.2.2.2.2.2.2.1 i hi).2
    have c_J1 := (hCk.2.2.2.2.2.2.2 j hj).1
    refine lv_iload hx hb d_Rm_nearestYear_26 (lv_at hl 5 rfl) ?_
    refine lv_aload_n hx hb d_Rm_nearestYear_28 rfl (lv_at hl 2 rfl) ?_
    refine x_getN (C := R_Men) (T := F_Men) (N := 6) (host := R_Rm) hx hb hw i_Men hown hK.1 hM c_J1 rfl 2 (by decide) (va_Nw.use rfl (hK.2.1.1 (137, R_Men, "last", "I") (by decide))) rfl rfl d_Rm_nearestYear_29 ?_
    refine lv_icmp_gt (tgt := 97) hx hb d_Rm_nearestYear_32 (by decide) (fun c_32 => ?_) (fun c_32 => ?_)
    · refine lv_iload hx hb d_Rm_nearestYear_97 (lv_at hl 4 rfl) ?_
      have hkN : k = zYN u i j := by have h7 := Int32.lt_iff_toInt_lt.mp c_32; omega
      exact x_ri hE rfl hM hS ⟨by rw [ebq, hkN]; rfl, hof, ⟨q6, c_tri⟩, by rw [c_nea, ebq, hkN]; rfl⟩ (by decide) (by decide) d_Rm_nearestYear_99
    · refine lv_aload_n hx hb d_Rm_nearestYear_35 rfl (lv_at hl 0 rfl) ?_
      refine lv_aload_n hx hb d_Rm_nearestYear_36 rfl (lv_at hl 1 rfl) ?_
      refine lv_aload_n hx hb d_Rm_nearestYear_37 rfl (lv_at hl 2 rfl) ?_
      refine lv_iload hx hb d_Rm_nearestYear_38 (lv_at hl 5 rfl) ?_
      refine x_cv (x_runV (As := [.ref (ad (20 + i)), .ref (ad (40 + j)), .int yv]) (rest := []) hE hK hM hl.1 (c_Rm_measure l G Mk ad u hCk hO i hi j hj yv q6 c_tri) c_o rfl kw_426 kw_428 ks_11 kw_1 kw_429 3 rfl rfl rfl (by decide +kernel) ⟨by decide, by decide⟩ rfl (Nat.le_of_ble_eq_true rfl) d_Rm_nearestYear_40 ⟨by decide, by decide⟩) hS (fun M1 H locs hp hM hS => ?_)
      obtain ⟨d, ed⟩ : ∃ z : Int32 × Int32, z = zMea u i j yv.toInt := ⟨_, rfl⟩
      rw [← ed] at hp
      have hof := hof.up1 c_tri hp
      have c_o := xw_upE hp c_o c_tri (by decide)
      have c_row := xw_upE hp c_row c_tri (by omega)
      have c_ev := xw_upE hp c_ev c_tri (by omega)
      have c_nea := xw_upE hp c_nea c_tri (by decide)
      have c_J1 := xw_upE hp c_J1 c_tri (by omega)
      have c_tri := xw_atE hp
      obtain ⟨Ma, eMa⟩ : ∃ z : xM, z = M1 := ⟨_, rfl⟩
      subst eMa
      refine lv_aload_n hx hb d_Rm_nearestYear_43 rfl (lv_at hl 0 rfl) ?_
      refine x_get (C := R_Rm) (T := F_Rm) (N := 12) hx hb hw i_Rm hown hK.1 hM c_o rfl 8 (by decide) (hw _ kw_73) rfl rfl d_Rm_nearestYear_44 ?_
      refine x_getN (C := R_Gap) (T := F_Gap) (N := 2) (host := R_Rm) hx hb hw i_Gap hown hK.1 hM c_tri rfl 1 (by decide) (va_Nw.use rfl (hK.2.1.1 (222, R_Gap, "years", "I") (by decide))) rfl rfl d_Rm_nearestYear_47 ?_
      refine lv_iload_n hx hb d_Rm_nearestYear_50 rfl (lv_at hl 3 rfl) ?_
      refine lv_icmp_lt (tgt := 91) hx hb d_Rm_nearestYear_51 (by decide) (fun c_51 => ?_) (fun c_51 => ?_)
      · refine lv_iinc (v := (yv + 1)) (lv' := [(5, .int (yv + 1)), (0, .ref (ad 0)), (1, .ref (ad (20 + i))), (2, .ref (ad (40 + j))), (3, .int least), (4, .int bq.1)]) hx hb d_Rm_nearestYear_91 hl (k := 5) rfl rfl (by decide) rfl (fun ls hl => ?_)
        refine lv_goto (tgt := 26) hx hb d_Rm_nearestYear_94 (by decide) ?_
        have hz : zNea u i j least (zY0 u i j) (k + 1) = bq := by
          show zNst _ _ _ _ = _
          rw [← ebq, ← hy, Int32.ofInt_toInt, ← ed]
          unfold zNst
          rw [if_pos c_51]
        exact ih (k + 1) (yv + 1) (by have h7 := Int32.le_iff_toInt_le.mp (Int32.not_lt.mp c_32); omega) (by omega) (by rw [z_inc (by omega) (by omega), hy]; omega) _ _ hof c_tri (by rw [hz]; exact c_nea) _ _ _ hM hS (by rw [hz]; exact lv_sub hl [1, 2, 3, 4, 5, 0] rfl)
      · refine lv_iload hx hb d_Rm_nearestYear_54 (lv_at hl 4 rfl) ?_
        refine lv_sipush (v := (-1000)) hx hb d_Rm_nearestYear_56 (by decide) ?_
        refine lv_icmp_eq (tgt := 76) hx hb d_Rm_nearestYear_59 (by decide) (fun c_59 => ?_) (fun c_59 => ?_)
        · refine lv_iload hx hb d_Rm_nearestYear_76 (lv_at hl 5 rfl) ?_
          refine lv_istore (lv' := [(4, .int yv), (0, .ref (ad 0)), (1, .ref (ad (20 + i))), (2, .ref (ad (40 + j))), (3, .int least), (5, .int yv)]) hx hb d_Rm_nearestYear_78 hl (by decide) rfl (fun ls hl => ?_)
          refine lv_aload_n hx hb d_Rm_nearestYear_80 rfl (lv_at hl 1 rfl) ?_
          refine x_get (C := R_Rm) (T := F_Rm) (N := 12) hx hb hw i_Rm hown hK.1 hM c_o rfl 9 (by decide) (hw _ kw_74) rfl rfl d_Rm_nearestYear_81 ?_
          refine lv_aload_n hx hb d_Rm_nearestYear_84 rfl (lv_at hl 1 rfl) ?_
          refine x_get (C := R_Rm) (T := F_Rm) (N := 12) hx hb hw i_Rm hown hK.1 hM c_o rfl 8 (by decide) (hw _ kw_73) rfl rfl d_Rm_nearestYear_85 ?_
          refine x_cv (x_runV (As := [.ref (ad 6)]) (rest := []) hE hK hM hl.1 (c_Gap_become l G Ma (ad 7) 7 bq.2.1 bq.2.2 c_nea (ad 6) 6 d.1 d.2 c_tri (by decide)) c_nea rfl kw_449 kw_450 kw_451 kw_3 kw_452 1 rfl rfl rfl (by decide +kernel) ⟨by decide, by decide⟩ rfl (Nat.le_of_ble_eq_true rfl) d_Rm_nearestYear_88 ⟨by decide, by decide⟩) hS (fun M1 H locs hp hM hS => ?_)
          have hof := hof.up2 c_nea hp
          have c_o := xw_upE hp c_o c_nea (by decide)
          have c_row := xw_upE hp c_row c_nea (by omega)
          have c_ev := xw_upE hp c_ev c_nea (by omega)
          have c_tri := xw_upE hp c_tri c_nea (by decide)
          have c_J1 := xw_upE hp c_J1 c_nea (by omega)
          have c_nea := xw_atE hp
          refine lv_iinc (v := (yv + 1)) (lv' := [(5, .int (yv + 1)), (4, .int yv), (0, .ref (ad 0)), (1, .ref (ad (20 + i))), (2, .ref (ad (40 + j))), (3, .int least)]) hx hb d_Rm_nearestYear_91 hl (k := 5) rfl rfl (by decide) rfl (fun ls hl => ?_)
          refine lv_goto (tgt := 26) hx hb d_Rm_nearestYear_94 (by decide) ?_
          have hz : zNea u i j least (zY0 u i j) (k + 1) = (yv, d.1, d.2) := by
            show zNst _ _ _ _ = _
            rw [← ebq, ← hy, Int32.ofInt_toInt, ← ed]
            unfold zNst
            rw [if_neg c_51, if_pos (Or.inl c_59)]
          exact ih (k + 1) (yv + 1) (by have h7 := Int32.le_iff_toInt_le.mp (Int32.not_lt.mp c_32); omega) (by omega) (by rw [z_inc (by omega) (by omega), hy]; omega) _ _ hof c_tri (by rw [hz]; exact c_nea) _ _ _ hM hS (by rw [hz]; exact lv_sub hl [2, 3, 4, 5, 1, 0] rfl)
        · refine lv_aload_n hx hb d_Rm_nearestYear_62 rfl (lv_at hl 0 rfl) ?_
          refine x_get (C := R_Rm) (T := F_Rm) (N := 12) hx hb hw i_Rm hown hK.1 hM c_o rfl 8 (by decide) (hw _ kw_73) rfl rfl d_Rm_nearestYear_63 ?_
          refine lv_aload_n hx hb d_Rm_nearestYear_66 rfl (lv_at hl 0 rfl) ?_
          refine x_get (C := R_Rm) (T := F_Rm) (N := 12) hx hb hw i_Rm hown hK.1 hM c_o rfl 9 (by decide) (hw _ kw_74) rfl rfl d_Rm_nearestYear_67 ?_
          refine x_ci (x_runV (As := [.ref (ad 7)]) (rest := []) hE hK hM hl.1 (c_Gap_lessThan l G Ma (ad 6) 6 d.1 d.2 c_tri (ad 7) 7 bq.2.1 bq.2.2 c_nea) c_tri rfl kw_445 kw_446 kw_447 kw_3 kw_448 1 rfl rfl rfl (by decide +kernel) ⟨by decide, by decide⟩ rfl (Nat.le_of_ble_eq_true rfl) d_Rm_nearestYear_70 ⟨by decide, by decide⟩) hS (fun r2 M1 H locs hp hM hS => ?_)
          obtain ⟨e_r, e_M⟩ := hp
          have hM : xh G Ma H := e_M ▸ hM
          refine lv_if_eq (tgt := 91) hx hb d_Rm_nearestYear_73 (by decide) (fun c_73 => ?_) (fun c_73 => ?_)
          · refine lv_iinc (v := (yv + 1)) (lv' := [(5, .int (yv + 1)), (0, .ref (ad 0)), (1, .ref (ad (20 + i))), (2, .ref (ad (40 + j))), (3, .int least), (4, .int bq.1)]) hx hb d_Rm_nearestYear_91 hl (k := 5) rfl rfl (by decide) rfl (fun ls hl => ?_)
            refine lv_goto (tgt := 26) hx hb d_Rm_nearestYear_94 (by decide) ?_
            have hz : zNea u i j least (zY0 u i j) (k + 1) = bq := by
              show zNst _ _ _ _ = _
              rw [← ebq, ← hy, Int32.ofInt_toInt, ← ed]
              unfold zNst
              rw [if_neg c_51, if_neg (fun h9 => h9.elim c_59 (fun h8 => by rw [if_pos h8] at e_r; rw [e_r] at c_73; exact absurd c_73 (by decide)))]
            exact ih (k + 1) (yv + 1) (by have h7 := Int32.le_iff_toInt_le.mp (Int32.not_lt.mp c_32); omega) (by omega) (by rw [z_inc (by omega) (by omega), hy]; omega) _ _ hof c_tri (by rw [hz]; exact c_nea) _ _ _ hM hS (by rw [hz]; exact lv_sub hl [1, 2, 3, 4, 5, 0] rfl)
          · refine lv_iload hx hb d_Rm_nearestYear_76 (lv_at hl 5 rfl) ?_
            refine lv_istore (lv' := [(4, .int yv), (0, .ref (ad 0)), (1, .ref (ad (20 + i))), (2, .ref (ad (40 + j))), (3, .int least), (5, .int yv)]) hx hb d_Rm_nearestYear_78 hl (by decide) rfl (fun ls hl => ?_)
            refine lv_aload_n hx hb d_Rm_nearestYear_80 rfl (lv_at hl 1 rfl) ?_
            refine x_get (C := R_Rm) (T := F_Rm) (N := 12) hx hb hw i_Rm hown hK.1 hM c_o rfl 9 (by decide) (hw _ kw_74) rfl rfl d_Rm_nearestYear_81 ?_
            refine lv_aload_n hx hb d_Rm_nearestYear_84 rfl (lv_at hl 1 rfl) ?_
            refine x_get (C := R_Rm) (T := F_Rm) (N := 12) hx hb hw i_Rm hown hK.1 hM c_o rfl 8 (by decide) (hw _ kw_73) rfl rfl d_Rm_nearestYear_85 ?_
            refine x_cv (x_runV (As := [.ref (ad 6)]) (rest := []) hE hK hM hl.1 (c_Gap_become l G Ma (ad 7) 7 bq.2.1 bq.2.2 c_nea (ad 6) 6 d.1 d.2 c_tri (by decide)) c_nea rfl kw_449 kw_450 kw_451 kw_3 kw_452 1 rfl rfl rfl (by decide +kernel) ⟨by decide, by decide⟩ rfl (Nat.le_of_ble_eq_true rfl) d_Rm_nearestYear_88 ⟨by decide, by decide⟩) hS (fun M1 H locs hp hM hS => ?_)
            have hof := hof.up2 c_nea hp
            have c_o := xw_upE hp c_o c_nea (by decide)
            have c_row := xw_upE hp c_row c_nea (by omega)
            have c_ev := xw_upE hp c_ev c_nea (by omega)
            have c_tri := xw_upE hp c_tri c_nea (by decide)
            have c_J1 := xw_upE hp c_J1 c_nea (by omega)
            have c_nea := xw_atE hp
            refine lv_iinc (v := (yv + 1)) (lv' := [(5, .int (yv + 1)), (4, .int yv), (0, .ref (ad 0)), (1, .ref (ad (20 + i))), (2, .ref (ad (40 + j))), (3, .int least)]) hx hb d_Rm_nearestYear_91 hl (k := 5) rfl rfl (by decide) rfl (fun ls hl => ?_)
            refine lv_goto (tgt := 26) hx hb d_Rm_nearestYear_94 (by decide) ?_
            have hz : zNea u i j least (zY0 u i j) (k + 1) = (yv, d.1, d.2) := by
              show zNst _ _ _ _ = _
              rw [← ebq, ← hy, Int32.ofInt_toInt, ← ed]
              unfold zNst
              rw [if_neg c_51, if_pos (Or.inr (Classical.byContradiction fun h8 => c_73 (by rw [e_r, if_neg h8])))]
            exact ih (k + 1) (yv + 1) (by have h7 := Int32.le_iff_toInt_le.mp (Int32.not_lt.mp c_32); omega) (by omega) (by rw [z_inc (by omega) (by omega), hy]; omega) _ _ hof c_tri (by rw [hz]; exact c_nea) _ _ _ hM hS (by rw [hz]; exact lv_sub hl [2, 3, 4, 5, 1, 0] rfl)

set_option maxHeartbeats 4000000 in
set_option maxRecDepth 100000 in
theorem c_Rm_nearestYear (l : Launch) (G : xG) (M : xM) (ad : Nat → Nat) (u : zS) (hC : Core G M ad u) (hO : zOk u) (i : Nat) (hi : i < zrn u) (j : Nat) (hj : j < zmn u) (least : Int32) (q6 : Int32 × Int32) (hq6 : M (ad 6) = some (6, eGap q6)) (q7 : Int32 × Int32) (hq7 : M (ad 7) = some (7, eGap q7)) : Met l y_Rm_nearestYear w_Rm_nearestYear ({ frames := 3, cells := 0, slots := 0, locals := 72 }) (xP G [.ref (ad 0), .ref (ad (20 + i)), .ref (ad (40 + j)), .int least] M) (xQi G (fun v M' => v = (zDat u i j least).1 ∧ xOff2 6 7 M M' ∧ (∃ q, M' (ad 6) = some (6, eGap q)) ∧ M' (ad 7) = some (7, eGap (zDat u i j least).2))) 0 0 (xF G) := by
  refine x_met (by decide) (Nat.le_of_ble_eq_true rfl) ?_
  intro p e s m below meth c ls hE hin hl hM hK hS
  obtain ⟨hx, hb, hr, hml, hown, hw, hlocks⟩ := id hE
  have hl : lv_has ls 6 [(0, .ref (ad 0)), (1, .ref (ad (20 + i))), (2, .ref (ad (40 + j))), (3, .int least)] := hl
  refine lv_sipush (v := (-1000)) hx hb d_Rm_nearestYear_0 (by decide) ?_
  refine lv_istore (lv' := [(4, .int (-1000)), (0, .ref (ad 0)), (1, .ref (ad (20 + i))), (2, .ref (ad (40 + j))), (3, .int least)]) hx hb d_Rm_nearestYear_3 hl (by decide) rfl (fun ls hl => ?_)
  refine lv_aload_n hx hb d_Rm_nearestYear_5 rfl (lv_at hl 1 rfl) ?_
  refine x_get (C := R_Rm) (T := F_Rm) (N := 12) hx hb hw i_Rm hown hK.1 hM hC.1 rfl 9 (by decide) (hw _ kw_74) rfl rfl d_Rm_nearestYear_6 ?_
  refine x_cv (x_runV (As := []) (rest := []) hE hK hM hl.1 (c_Gap_clear l G M (ad 7) 7 q7.1 q7.2 hq7) (id hq7) rfl kw_404 kw_405 kw_406 kw_3 kw_407 0 rfl rfl rfl (by decide +kernel) ⟨by decide, by decide⟩ rfl (Nat.le_of_ble_eq_true rfl) d_Rm_nearestYear_9 ⟨by decide, by decide⟩) hS (fun M1 H locs hp hM hS => ?_)
  have hof := (xOff2.refl (r1 := 6) (r2 := 7) (M := M)).up2 hq7 hp
  have k_ad0 := xw_upE hp hC.1 (id hq7) (by decide)
  have k_ad20i := xw_upE hp (hC.2.2.2.2.2.2.1 i hi).1 (id hq7) (by omega)
  have k_ad30i := xw_upE hp (hC.2.2.2.2.2.2.1 i hi).2 (id hq7) (by omega)
  have k_ad40j := xw_upE hp (hC.2.2.2.2.2.2.2 j hj).1 (id hq7) (by omega)
  have k_ad6 := xw_upE hp (id hq6) (id hq7) (by decide)
  have k_ad7 := xw_atE hp
  refine lv_aload_n hx hb d_Rm_nearestYear_12 rfl (lv_at hl 3 rfl) ?_
  refine x_getN (C := R_Men) (T := F_Men) (N := 6) (host := R_Rm) hx hb hw i_Men hown hK.1 hM k_ad40j rfl 1 (by decide) (va_Nw.use rfl (hK.2.1.1 (134, R_Men, "first", "I") (by decide))) rfl rfl d_Rm_nearestYear_13 ?_
  refine lv_aload_n hx hb d_Rm_nearestYear_16 rfl (lv_at hl 2 rfl) ?_
  refine x_getN (C := R_Row) (T := F_Row) (N := 2) (host := R_Rm) hx hb hw i_Row hown hK.1 hM k_ad20i rfl 0 (by decide) (va_Nw.use rfl (hK.2.1.1 (87, R_Row, "even", "[I") (by decide))) rfl rfl d_Rm_nearestYear_17 ?_
  refine x_alen (v := nI (zln u i)) hx hb hK.1 hM k_ad30i 0 rfl rfl d_Rm_nearestYear_20 ?_
  refine lv_isub hx hb d_Rm_nearestYear_21 ?_
  refine lv_iconst (v := 1) hx hb d_Rm_nearestYear_22 (by decide) ?_
  refine lv_iadd hx hb d_Rm_nearestYear_23 ?_
  refine lv_istore (lv' := [(5, .int (((zFst (zms u j) 10) - (nI (zln u i))) + 1)), (4, .int (-1000)), (0, .ref (ad 0)), (1, .ref (ad (20 + i))), (2, .ref (ad (40 + j))), (3, .int least)]) hx hb d_Rm_nearestYear_24 hl (by decide) rfl (fun ls hl => ?_)
  have hl : lv_has ls 6 [(0, .ref (ad 0)), (1, .ref (ad (20 + i))), (2, .ref (ad (40 + j))), (3, .int least), (4, .int (-1000)), (5, .int (((zFst (zms u j) 10) - (nI (zln u i))) + 1))] := lv_sub hl [2, 3, 4, 5, 1, 0] rfl
  exact lp_Rm_nearestYear ad u hC hO i hi j hj least hE hK (zYN u i j + 1) 0 _ (by omega) (by omega) (by rw [z_y0 (hO.mas hj).1 (hO.2.2.2.1 i hi).2.1]; unfold zY0; omega) M1 q6 hof k_ad6 k_ad7 _ _ _ hM hS hl
