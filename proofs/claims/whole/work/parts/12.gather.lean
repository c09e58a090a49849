set_option maxHeartbeats 4000000 in
set_option maxRecDepth 100000 in
theorem lp_Rm_gather {p : Program} {l : Launch} {e : Env} {s : State} {m : MethodId} {below : List Frame} {meth : Method} {c : Code} {args : Array Value} {G : xG} {M : xM} (ad : Nat → Nat) (u : zS) (hC : Core G M ad u) (hO : zOk u) (sa rs : Nat) (B : Nat → Int32) (y wo : Int32) (hsa : M sa = some (rs, eI G 10 B)) (hrs : rs ≠ 5) (q0 : zQ) (hq : M (ad 5) = some (5, eRob q0)) (hE : xE p s m args meth c b_Rm_gather none 6 R_Rm) (hK : KX G s) : ∀ (n i : Nat), i ≤ zrn u → zrn u + 1 ≤ i + n → ∀ (H : Heap) (locs : List Loc) (ls : Array Slot), xh G (va_up M (ad 5) (some (5, eRob (zGat (zln u) (zev u) B y wo i)))) H → va_S (xF G) s.heap H locs → lv_has ls 6 [(0, .ref (ad 0)), (1, .ref sa), (2, .int y), (3, .int wo), (4, .int (nI i))] → W p l e ({ frames := 2, cells := 0, slots := 0, locals := 41 }) s m args below meth c H locs 0 0 (MQ below (xQv G (fun M' => M' = va_up M (ad 5) (some (5, eRob (zGat (zln u) (zev u) B y wo (zrn u)))))) args s 0 0 (xF G)) (F0 m 10 ls []) := by
  obtain ⟨hx, hb, hr, hml, hown, hw, hlocks⟩ := id hE
  have hrn : zrn u ≤ 10 := hO.2.2.1
  intro n
  induction n with
  | zero =>
    intro i h1 h2
    exact absurd h2 (by omega)
  | succ n ih =>
    intro i hi hin H locs ls hM hS hl
    obtain ⟨Mi, eMi⟩ : ∃ z : xM, z = va_up M (ad 5) (some (5, eRob (zGat (zln u) (zev u) B y wo i))) := ⟨_, rfl⟩
    rw [← eMi] at hM
    obtain ⟨q, eq⟩ : ∃ z : zQ, z = zGat (zln u) (zev u) B y wo i := ⟨_, rfl⟩
    rw [← eq] at eMi
    have c_o : Mi (ad 0) = some (0, .inr (4, [.ref (ad 1), .int (nI (zpn u)), .ref (ad 2), .int (nI (zrn u)), .ref (ad 3), .int (nI (zmn u)), .ref (ad 4), .ref (ad 5), .ref (ad 6), .ref (ad 7), .ref (ad 8), .ref (ad 9)])) := xw_upE eMi hC.1 hq (by decide)
    have c_rows := xw_upE eMi hC.2.2.1 hq (by decide)
    have c_sa := xw_upE eMi hsa hq hrs
    have c_rob := xw_atE eMi
    refine lv_iload hx hb d_Rm_gather_10 (lv_at hl 4 rfl) ?_
    refine lv_aload_n hx hb d_Rm_gather_12 rfl (lv_at hl 1 rfl) ?_
    refine x_alen (v := nI 10) hx hb hK.1 hM c_sa 0 rfl rfl d_Rm_gather_13 ?_
    refine lv_icmp_ge (tgt := 81) hx hb d_Rm_gather_14 (by decide) (fun c_14 => ?_) (fun c_14 => ?_)
    · have h14 : 10 ≤ i := (nI_leI (by omega) (by omega)).mp c_14
      exact x_rv hE rfl hM hS (by rw [eMi, eq, show i = zrn u by omega]) (by decide) (by decide) d_Rm_gather_81
    · refine lv_iload hx hb d_Rm_gather_17 (lv_at hl 4 rfl) ?_
      refine lv_aload_n hx hb d_Rm_gather_19 rfl (lv_at hl 0 rfl) ?_
      refine x_get (C := R_Rm) (T := F_Rm) (N := 12) hx hb hw i_Rm hown hK.1 hM c_o rfl 3 (by decide) (hw _ kw_68) rfl rfl d_Rm_gather_20 ?_
      refine lv_icmp_ge (tgt := 81) hx hb d_Rm_gather_23 (by decide) (fun c_23 => ?_) (fun c_23 => ?_)
      · have h23 : zrn u ≤ i := (nI_leI (by omega) (by omega)).mp c_23
        exact x_rv hE rfl hM hS (by rw [eMi, eq, show i = zrn u by omega]) (by decide) (by decide) d_Rm_gather_81
      · have hir : i < zrn u := Nat.not_le.mp (fun h9 => c_23 ((nI_leI (by omega) (by omega)).mpr h9))
        refine lv_iload hx hb d_Rm_gather_26 (lv_at hl 4 rfl) ?_
        refine lv_iload_n hx hb d_Rm_gather_28 rfl (lv_at hl 3 rfl) ?_
        refine lv_icmp_eq (tgt := 75) hx hb d_Rm_gather_29 (by decide) (fun c_29 => ?_) (fun c_29 => ?_)
        · refine lv_iinc (v := (nI (i + 1))) (lv' := [(4, .int (nI (i + 1))), (0, .ref (ad 0)), (1, .ref sa), (2, .int y), (3, .int wo)]) hx hb d_Rm_gather_75 hl (k := 4) rfl (nI_1 i) (by decide) rfl (fun ls hl => ?_)
          refine lv_goto (tgt := 10) hx hb d_Rm_gather_78 (by decide) ?_
          have hz : zGat (zln u) (zev u) B y wo (i + 1) = q := by
            show zGs _ _ _ _ _ _ _ = _
            unfold zGs
            rw [if_pos c_29]
            rw [← eq]
          refine ih (i + 1) hir (by omega) _ _ _ (by rw [hz, ← eMi]; exact hM) hS (lv_sub hl [1, 2, 3, 4, 0] rfl)
        · refine lv_aload_n hx hb d_Rm_gather_32 rfl (lv_at hl 1 rfl) ?_
          refine lv_iload hx hb d_Rm_gather_33 (lv_at hl 4 rfl) ?_
          refine x_iald hx hb hK.1 hM c_sa 0 rfl rfl (by omega) (by omega) d_Rm_gather_35 ?_
          refine lv_iconst (v := (-1)) hx hb d_Rm_gather_36 (by decide) ?_
          refine lv_icmp_ne (tgt := 43) hx hb d_Rm_gather_37 (by decide) (fun c_37 => ?_) (fun c_37 => ?_)
          · refine lv_aload_n hx hb d_Rm_gather_43 rfl (lv_at hl 0 rfl) ?_
            refine x_get (C := R_Rm) (T := F_Rm) (N := 12) hx hb hw i_Rm hown hK.1 hM c_o rfl 2 (by decide) (hw _ kw_67) rfl rfl d_Rm_gather_44 ?_
            refine lv_iload hx hb d_Rm_gather_47 (lv_at hl 4 rfl) ?_
            have hRi := hC.2.2.2.2.2.2.1 i hir
            have hli := (hO.2.2.2.1 i hir).2.1
            have c_row := xw_upE eMi hRi.1 hq (by omega)
            have c_ev := xw_upE eMi hRi.2 hq (by omega)
            refine x_aldq (v := .ref (ad (20 + i))) hx hb hK.1 hM c_rows 2 rfl rfl (by omega) (by omega) (zrw_lt hir) d_Rm_gather_49 ?_
            refine lv_iload_n hx hb d_Rm_gather_50 rfl (lv_at hl 2 rfl) ?_
            refine lv_aload_n hx hb d_Rm_gather_51 rfl (lv_at hl 1 rfl) ?_
            refine lv_iload hx hb d_Rm_gather_52 (lv_at hl 4 rfl) ?_
            refine x_iald hx hb hK.1 hM c_sa 0 rfl rfl (by omega) (by omega) d_Rm_gather_54 ?_
            refine x_ci (x_runV (As := [.int y, .int (B i)]) (rest := []) hE hK hM hl.1 (c_Row_ringIn l G Mi (ad (20 + i)) (20 + i) (ad (30 + i)) (30 + i) (zln u i) (zev u i) (zst u i) c_row c_ev (by omega) y (B i)) c_row rfl kw_345 kw_346 kw_347 kw_10 kw_348 2 rfl rfl rfl (by decide +kernel) ⟨by decide, by decide⟩ rfl (Nat.le_of_ble_eq_true rfl) d_Rm_gather_55 ⟨by decide, by decide⟩) hS (fun r1 M1 H locs hp hM hS => ?_)
            obtain ⟨e_r, e_M⟩ := hp
            have hM : xh G Mi H := e_M ▸ hM
            refine lv_istore (lv' := [(5, .int r1), (0, .ref (ad 0)), (1, .ref sa), (2, .int y), (3, .int wo), (4, .int (nI i))]) hx hb d_Rm_gather_58 hl (by decide) rfl (fun ls hl => ?_)
            refine lv_iload hx hb d_Rm_gather_60 (lv_at hl 0 rfl) ?_
            refine lv_iconst (v := (-1)) hx hb d_Rm_gather_62 (by decide) ?_
            refine lv_icmp_eq (tgt := 75) hx hb d_Rm_gather_63 (by decide) (fun c_63 => ?_) (fun c_63 => ?_)
            · refine lv_iinc (v := (nI (i + 1))) (lv' := [(4, .int (nI (i + 1))), (5, .int r1), (0, .ref (ad 0)), (1, .ref sa), (2, .int y), (3, .int wo)]) hx hb d_Rm_gather_75 hl (k := 5) rfl (nI_1 i) (by decide) rfl (fun ls hl => ?_)
              refine lv_goto (tgt := 10) hx hb d_Rm_gather_78 (by decide) ?_
              have hz : zGat (zln u) (zev u) B y wo (i + 1) = q := by
                show zGs _ _ _ _ _ _ _ = _
                unfold zGs
                rw [if_neg c_29, if_neg c_37, if_pos (e_r ▸ c_63)]
                rw [← eq]
              refine ih (i + 1) hir (by omega) _ _ _ (by rw [hz, ← eMi]; exact hM) hS (lv_sub hl [2, 3, 4, 5, 0] rfl)
            · refine lv_aload_n hx hb d_Rm_gather_66 rfl (lv_at hl 1 rfl) ?_
              refine x_get (C := R_Rm) (T := F_Rm) (N := 12) hx hb hw i_Rm hown hK.1 hM c_o rfl 7 (by decide) (hw _ kw_72) rfl rfl d_Rm_gather_67 ?_
              refine lv_iload hx hb d_Rm_gather_70 (lv_at hl 0 rfl) ?_
              refine x_cv (x_runV (As := [.int r1]) (rest := []) hE hK hM hl.1 (c_Rob_take l G Mi (ad 5) 5 q.1 q.2.1 q.2.2.1 q.2.2.2 c_rob r1) c_rob rfl kw_349 kw_350 kw_351 kw_2 kw_352 1 rfl rfl rfl (by decide +kernel) ⟨by decide, by decide⟩ rfl (Nat.le_of_ble_eq_true rfl) d_Rm_gather_72 ⟨by decide, by decide⟩) hS (fun M1 H locs hp hM hS => ?_)
              refine lv_iinc (v := (nI (i + 1))) (lv' := [(4, .int (nI (i + 1))), (5, .int r1), (0, .ref (ad 0)), (1, .ref sa), (2, .int y), (3, .int wo)]) hx hb d_Rm_gather_75 hl (k := 5) rfl (nI_1 i) (by decide) rfl (fun ls hl => ?_)
              refine lv_goto (tgt := 10) hx hb d_Rm_gather_78 (by decide) ?_
              have hz : zGat (zln u) (zev u) B y wo (i + 1) = zTk q (zRing (zln u i) (zev u i) (y - B i)) := by
                show zGs _ _ _ _ _ _ _ = _
                unfold zGs
                rw [if_neg c_29, if_neg c_37, if_neg (fun h9 => c_63 (e_r.trans h9))]
                rw [← eq]
              refine ih (i + 1) hir (by omega) _ _ _ (by rw [hz, ← e_r]; rw [hp, eMi, bx_uu] at hM; exact hM) hS (lv_sub hl [2, 3, 4, 5, 0] rfl)
          · refine lv_goto (tgt := 75) hx hb d_Rm_gather_40 (by decide) ?_
            refine lv_iinc (v := (nI (i + 1))) (lv' := [(4, .int (nI (i + 1))), (0, .ref (ad 0)), (1, .ref sa), (2, .int y), (3, .int wo)]) hx hb d_Rm_gather_75 hl (k := 4) rfl (nI_1 i) (by decide) rfl (fun ls hl => ?_)
            refine lv_goto (tgt := 10) hx hb d_Rm_gather_78 (by decide) ?_
            have hz : zGat (zln u) (zev u) B y wo (i + 1) = q := by
              show zGs _ _ _ _ _ _ _ = _
              unfold zGs
              rw [if_neg c_29, if_pos c_37]
              rw [← eq]
            refine ih (i + 1) hir (by omega) _ _ _ (by rw [hz, ← eMi]; exact hM) hS (lv_sub hl [1, 2, 3, 4, 0] rfl)

set_option maxHeartbeats 4000000 in
set_option maxRecDepth 100000 in
theorem c_Rm_gather (l : Launch) (G : xG) (M : xM) (ad : Nat → Nat) (u : zS) (hC : Core G M ad u) (hO : zOk u) (sa rs : Nat) (B : Nat → Int32) (y wo : Int32) (hsa : M sa = some (rs, eI G 10 B)) (hrs : rs ≠ 5) (q0 : zQ) (hq : M (ad 5) = some (5, eRob q0)) : Met l y_Rm_gather w_Rm_gather ({ frames := 2, cells := 0, slots := 0, locals := 41 }) (xP G [.ref (ad 0), .ref sa, .int y, .int wo] M) (xQv G (fun M' => M' = va_up M (ad 5) (some (5, eRob (zGat (zln u) (zev u) B y wo (zrn u)))))) 0 0 (xF G) := by
  refine x_met (by decide) (Nat.le_of_ble_eq_true rfl) ?_
  intro p e s m below meth c ls hE hin hl hM hK hS
  obtain ⟨hx, hb, hr, hml, hown, hw, hlocks⟩ := id hE
  have hl : lv_has ls 6 [(0, .ref (ad 0)), (1, .ref sa), (2, .int y), (3, .int wo)] := hl
  refine lv_aload_n hx hb d_Rm_gather_0 rfl (lv_at hl 0 rfl) ?_
  refine x_get (C := R_Rm) (T := F_Rm) (N := 12) hx hb hw i_Rm hown hK.1 hM hC.1 rfl 7 (by decide) (hw _ kw_72) rfl rfl d_Rm_gather_1 ?_
  refine x_cv (x_runV (As := []) (rest := []) hE hK hM hl.1 (c_Rob_clear l G M (ad 5) 5 q0.1 q0.2.1 q0.2.2.1 q0.2.2.2 hq) hq rfl kw_341 kw_342 kw_343 kw_2 kw_344 0 rfl rfl rfl (by decide +kernel) ⟨by decide, by decide⟩ rfl (Nat.le_of_ble_eq_true rfl) d_Rm_gather_4 ⟨by decide, by decide⟩) hS (fun M1 H locs hp hM hS => ?_)
  have hM : xh G (va_up M (ad 5) (some (5, eRob (zGat (zln u) (zev u) B y wo 0)))) H := hp ▸ hM
  refine lv_iconst (v := 0) hx hb d_Rm_gather_7 (by decide) ?_
  refine lv_istore (lv' := [(4, .int 0), (0, .ref (ad 0)), (1, .ref sa), (2, .int y), (3, .int wo)]) hx hb d_Rm_gather_8 hl (by decide) rfl (fun ls hl => ?_)
  exact lp_Rm_gather ad u hC hO sa rs B y wo hsa hrs q0 hq hE hK (zrn u + 1) 0 (by omega) (by omega) _ _ _ hM hS (lv_sub hl [1, 2, 3, 4, 0] rfl)
