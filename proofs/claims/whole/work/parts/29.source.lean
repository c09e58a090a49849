set_option maxHeartbeats 4000000 in
set_option maxRecDepth 100000 in
theorem lp_Rm_source2 {p : Program} {l : Launch} {e : Env} {s : State} {m : MethodId} {below : List Frame} {meth : Method} {c : Code} {args : Array Value} {G : xG} {M : xM} (ad : Nat → Nat) (u : zS) (hC : Core G M ad u) (hO : zOk u) (i : Nat) (hi : i < zrn u) (x w kk : Int32) (h_x : zIn x (zrn u)) (e_i : i = x.toNatClampNeg) (h_k : ¬ kk < 0) (h_w : zLe w) (hs : Scr G M ad) (hE : xE p s m args meth c b_Rm_source (some .int) 6 R_Rm) (hK : KX G s) (Mk : xM) (hkp : xKeep M Mk) (hsk : Scr G Mk ad) (f : Nat → Int32) (c_dat : Mk (ad 9) = some (9, eI G 8 f)) (hT : ∀ k, k < zmn u → f k = (zDat u i k w).1 ∧ Mk (ad (10 + k)) = some (10 + k, eGap (zDat u i k w).2)) : ∀ (n k : Nat), k ≤ zmn u → zmn u + 1 ≤ k + n → zSrc (fun j => zDat u i j w) (zmn u) kk k = none → ∀ (H : Heap) (locs : List Loc) (ls : Array Slot), xh G Mk H → va_S (xF G) s.heap H locs → lv_has ls 6 [(0, .ref (ad 0)), (3, .int kk), (5, .int (nI k))] → W p l e ({ frames := 7, cells := 2, slots := 12, locals := 125 }) s m args below meth c H locs 2 12 (vx_MQ below (xQi G (fun v M' => fSrc u x w kk = (0, v) ∧ xKeep M M' ∧ Scr G M' ad)) (xX G (fun E M' => ((fSrc u x w kk = (1, 0) ∧ E = nIOE) ∨ (fSrc u x w kk = (2, 0) ∧ E = nIAE)) ∧ M' = M)) args s 2 12 (xF G)) (F0 m 81 ls []) := by
  obtain ⟨hx, hb, hr, hml, hown, hw, hlocks⟩ := id hE
  have hmn := hO.2.2.2.2.1
  have hCk : Core G Mk ad u := hC.keep hkp
  intro n
  induction n with
  | zero =>
    intro k h1 h2
    exact absurd h2 (by omega)
  | succ n ih =>
    intro k hk hin hno H locs ls hM hS hl
    have h_un : zSrc (fun j => zDat u i j w) (zmn u) kk (k + 1) = (if (zDat u i k w).1 ≠ -1000 ∧ nI (zNr (fun j => zDat u i j w) k (zmn u)) = kk then some k else none) := by
      show (match zSrc (fun j => zDat u i j w) (zmn u) kk k with | some r => some r | none => _) = _
      rw [hno]
    refine lv_iload hx hb d_Rm_source_81 (lv_at hl 2 rfl) ?_
    refine lv_aload_n hx hb d_Rm_source_83 rfl (lv_at hl 0 rfl) ?_
    refine x_get (C := R_Rm) (T := F_Rm) (N := 12) hx hb hw i_Rm hown hK.1 hM hCk.1 rfl 5 (by decide) (hw _ kw_70) rfl rfl d_Rm_source_84 ?_
    refine lv_icmp_ge (tgt := 122) hx hb d_Rm_source_87 (by decide) (fun c_87 => ?_) (fun c_87 => ?_)
    · have h87 : zmn u ≤ k := (nI_leI (by omega) (by omega)).mp c_87
      refine lv_iconst (v := (-1)) hx hb d_Rm_source_122 (by decide) ?_
      refine vx_ret ?_
      exact x_ri hE rfl hM hS ⟨by unfold fSrc; rw [if_pos h_x, if_neg h_k, if_pos h_w, ← e_i]; rw [show zmn u = k by omega] at hno ⊢; rw [hno]; rfl, hkp, hsk⟩ (by decide) (by decide) d_Rm_source_123
    · have hkm : k < zmn u := Nat.not_le.mp (fun h9 => c_87 ((nI_leI (by omega) (by omega)).mpr h9))
      refine lv_aload_n hx hb d_Rm_source_90 rfl (lv_at hl 0 rfl) ?_
      refine x_get (C := R_Rm) (T := F_Rm) (N := 12) hx hb hw i_Rm hown hK.1 hM hCk.1 rfl 11 (by decide) (hw _ kw_76) rfl rfl d_Rm_source_91 ?_
      refine lv_iload hx hb d_Rm_source_94 (lv_at hl 2 rfl) ?_
      refine x_iald hx hb hK.1 hM c_dat 0 rfl rfl (by omega) (by decide) d_Rm_source_96 ?_
      refine lv_sipush (v := (-1000)) hx hb d_Rm_source_97 (by decide) ?_
      refine lv_icmp_eq (tgt := 116) hx hb d_Rm_source_100 (by decide) (fun c_100 => ?_) (fun c_100 => ?_)
      · refine lv_iinc (v := (nI (k + 1))) (lv' := [(5, .int (nI (k + 1))), (0, .ref (ad 0)), (3, .int kk)]) hx hb d_Rm_source_116 hl (k := 2) rfl (nI_1 k) (by decide) rfl (fun ls hl => ?_)
        refine lv_goto (tgt := 81) hx hb d_Rm_source_119 (by decide) ?_
        exact ih (k + 1) hkm (by omega) (by rw [h_un, if_neg (fun h9 => h9.1 ((hT k hkm).1 ▸ c_100))]) _ _ _ hM hS (lv_sub hl [1, 2, 0] rfl)
      · refine lv_aload_n hx hb d_Rm_source_103 rfl (lv_at hl 0 rfl) ?_
        refine lv_iload hx hb d_Rm_source_104 (lv_at hl 2 rfl) ?_
        refine x_ci (x_runV (As := [.int (nI k)]) (rest := []) hE hK hM hl.1 (c_Rm_nearerThan l G Mk ad u hCk hO (fun j => zDat u i j w) f c_dat hT k hkm) hCk.1 rfl kw_468 kw_470 ks_13 kw_1 kw_471 1 rfl rfl rfl (by decide +kernel) ⟨by decide, by decide⟩ rfl (Nat.le_of_ble_eq_true rfl) d_Rm_source_106 ⟨by decide, by decide⟩) hS (fun r1 M1 H locs hp hM hS => ?_)
        obtain ⟨e_r, e_M⟩ := hp
        have hM : xh G Mk H := e_M ▸ hM
        refine lv_iload_n hx hb d_Rm_source_109 rfl (lv_at hl 1 rfl) ?_
        refine lv_icmp_ne (tgt := 116) hx hb d_Rm_source_110 (by decide) (fun c_110 => ?_) (fun c_110 => ?_)
        · refine lv_iinc (v := (nI (k + 1))) (lv' := [(5, .int (nI (k + 1))), (0, .ref (ad 0)), (3, .int kk)]) hx hb d_Rm_source_116 hl (k := 2) rfl (nI_1 k) (by decide) rfl (fun ls hl => ?_)
          refine lv_goto (tgt := 81) hx hb d_Rm_source_119 (by decide) ?_
          exact ih (k + 1) hkm (by omega) (by rw [h_un, if_neg (fun h9 => c_110 (e_r.trans h9.2))]) _ _ _ hM hS (lv_sub hl [1, 2, 0] rfl)
        · refine lv_iload hx hb d_Rm_source_113 (lv_at hl 2 rfl) ?_
          have hso : zSrc (fun j => zDat u i j w) (zmn u) kk (zmn u) = some k := by
            have h9 := zSrc_some (show zSrc (fun j => zDat u i j w) (zmn u) kk (k + 1) = some k by rw [h_un, if_pos ⟨fun h8 => c_100 ((hT k hkm).1.trans h8), e_r ▸ c_110⟩]) (zmn u - (k + 1))
            rw [show k + 1 + (zmn u - (k + 1)) = zmn u by omega] at h9
            exact h9
          refine vx_ret ?_
          exact x_ri hE rfl hM hS ⟨by unfold fSrc; rw [if_pos h_x, if_neg h_k, if_pos h_w, ← e_i, hso]; rfl, hkp, hsk⟩ (by decide) (by decide) d_Rm_source_115

set_option maxHeartbeats 4000000 in
set_option maxRecDepth 100000 in
theorem lp_Rm_source1 {p : Program} {l : Launch} {e : Env} {s : State} {m : MethodId} {below : List Frame} {meth : Method} {c : Code} {args : Array Value} {G : xG} {M : xM} (ad : Nat → Nat) (u : zS) (hC : Core G M ad u) (hO : zOk u) (i : Nat) (hi : i < zrn u) (x w kk : Int32) (h_x : zIn x (zrn u)) (e_i : i = x.toNatClampNeg) (h_k : ¬ kk < 0) (h_w : zLe w) (hs : Scr G M ad) (hE : xE p s m args meth c b_Rm_source (some .int) 6 R_Rm) (hK : KX G s) : ∀ (n k : Nat), k ≤ zmn u → zmn u + 1 ≤ k + n → ∀ (Mk : xM), xKeep M Mk → Scr G Mk ad → ∀ (f : Nat → Int32), Mk (ad 9) = some (9, eI G 8 f) → (∀ k', k' < k → f k' = (zDat u i k' w).1 ∧ Mk (ad (10 + k')) = some (10 + k', eGap (zDat u i k' w).2)) → ∀ (H : Heap) (locs : List Loc) (ls : Array Slot), xh G Mk H → va_S (xF G) s.heap H locs → lv_has ls 6 [(0, .ref (ad 0)), (2, .int w), (3, .int kk), (4, .ref (ad (20 + i))), (5, .int (nI k))] → W p l e ({ frames := 7, cells := 2, slots := 12, locals := 125 }) s m args below meth c H locs 2 12 (vx_MQ below (xQi G (fun v M' => fSrc u x w kk = (0, v) ∧ xKeep M M' ∧ Scr G M' ad)) (xX G (fun E M' => ((fSrc u x w kk = (1, 0) ∧ E = nIOE) ∨ (fSrc u x w kk = (2, 0) ∧ E = nIAE)) ∧ M' = M)) args s 2 12 (xF G)) (F0 m 28 ls []) := by
  obtain ⟨hx, hb, hr, hml, hown, hw, hlocks⟩ := id hE
  have hmn := hO.2.2.2.2.1
  intro n
  induction n with
  | zero =>
    intro k h1 h2
    exact absurd h2 (by omega)
  | succ n ih =>
    intro k hk hin Mk hkp hsk f c_dat hT H locs ls hM hS hl
    have hCk : Core G Mk ad u := hC.keep hkp
    obtain ⟨q6, c_tri⟩ := hsk.2.1
    obtain ⟨q7, c_nea⟩ := hsk.2.2.1
    have c_o : Mk (ad 0) = some (0, .inr (4, [.ref (ad 1), .int (nI (zpn u)), .ref (ad 2), .int (nI (zrn u)), .ref (ad 3), .int (nI (zmn u)), .ref (ad 4), .ref (ad 5), .ref (ad 6), .ref (ad 7), .ref (ad 8), .ref (ad 9)])) := hCk.1
    have c_means := hCk.2.2.2.1
    have c_gaps := hCk.2.2.2.2.2.1
    refine lv_iload hx hb d_Rm_source_28 (lv_at hl 4 rfl) ?_
    refine lv_aload_n hx hb d_Rm_source_30 rfl (lv_at hl 0 rfl) ?_
    refine x_get (C := R_Rm) (T := F_Rm) (N := 12) hx hb hw i_Rm hown hK.1 hM c_o rfl 5 (by decide) (hw _ kw_70) rfl rfl d_Rm_source_31 ?_
    refine lv_icmp_ge (tgt := 78) hx hb d_Rm_source_34 (by decide) (fun c_34 => ?_) (fun c_34 => ?_)
    · have h34 : zmn u ≤ k := (nI_leI (by omega) (by omega)).mp c_34
      refine lv_iconst (v := 0) hx hb d_Rm_source_78 (by decide) ?_
      refine lv_istore (lv' := [(5, .int 0), (0, .ref (ad 0)), (2, .int w), (3, .int kk), (4, .ref (ad (20 + i)))]) hx hb d_Rm_source_79 hl (by decide) rfl (fun ls hl => ?_)
      exact lp_Rm_source2 ad u hC hO i hi x w kk h_x e_i h_k h_w hs hE hK Mk hkp hsk f c_dat (fun k2 h2 => hT k2 (by omega)) (zmn u + 1) 0 (by omega) (by omega) rfl _ _ _ hM hS (lv_sub hl [1, 3, 0] rfl)
    · have hkm : k < zmn u := Nat.not_le.mp (fun h9 => c_34 ((nI_leI (by omega) (by omega)).mpr h9))
      refine lv_aload_n hx hb d_Rm_source_37 rfl (lv_at hl 0 rfl) ?_
      refine x_get (C := R_Rm) (T := F_Rm) (N := 12) hx hb hw i_Rm hown hK.1 hM c_o rfl 11 (by decide) (hw _ kw_76) rfl rfl d_Rm_source_38 ?_
      refine lv_iload hx hb d_Rm_source_41 (lv_at hl 4 rfl) ?_
      refine lv_aload_n hx hb d_Rm_source_43 rfl (lv_at hl 0 rfl) ?_
      refine lv_aload hx hb d_Rm_source_44 (lv_at hl 3 rfl) ?_
      refine lv_aload_n hx hb d_Rm_source_46 rfl (lv_at hl 0 rfl) ?_
      refine x_get (C := R_Rm) (T := F_Rm) (N := 12) hx hb hw i_Rm hown hK.1 hM c_o rfl 4 (by decide) (hw _ kw_69) rfl rfl d_Rm_source_47 ?_
      refine lv_iload hx hb d_Rm_source_50 (lv_at hl 4 rfl) ?_
      refine x_aldq (v := .ref (ad (40 + k))) hx hb hK.1 hM c_means 3 rfl rfl (by omega) (by omega) (zrw_lt hkm) d_Rm_source_52 ?_
      refine lv_iload_n hx hb d_Rm_source_53 rfl (lv_at hl 1 rfl) ?_
      obtain ⟨qk, c_gk⟩ := hsk.2.2.2.2 k (by omega)
      refine x_ci (x_runV (As := [.ref (ad (20 + i)), .ref (ad (40 + k)), .int w]) (rest := [.int (nI k), .ref (ad 9)]) hE hK hM hl.1 (c_Rm_nearestYear l G Mk ad u hCk hO i hi k hkm w q6 c_tri q7 c_nea) c_o rfl kw_441 kw_443 ks_12 kw_1 kw_444 3 rfl rfl rfl (by decide +kernel) ⟨by decide, by decide⟩ rfl (Nat.le_of_ble_eq_true rfl) d_Rm_source_54 ⟨by decide, by decide⟩) hS (fun r1 M1 H locs hp hM hS => ?_)
      obtain ⟨e_r, hof1, h6, h7⟩ := hp
      have hsk := hsk.off2 hof1 h6 ⟨_, h7⟩
      have hkp := hkp.trans (hof1.keep rfl rfl)
      have c_o := hof1 _ _ _ c_o (by decide) (by decide)
      have c_gaps := hof1 _ _ _ c_gaps (by decide) (by decide)
      have c_dat := hof1 _ _ _ c_dat (by decide) (by decide)
      have c_gk := hof1 _ _ _ c_gk (by omega) (by omega)
      have hT : ∀ k', k' < k → f k' = (zDat u i k' w).1 ∧ M1 (ad (10 + k')) = some (10 + k', eGap (zDat u i k' w).2) := fun k' hk' => ⟨(hT k' hk').1, hof1 _ _ _ (hT k' hk').2 (by omega) (by omega)⟩
      obtain ⟨Ma, eMa⟩ : ∃ z : xM, z = M1 := ⟨_, rfl⟩
      subst eMa
      have c_dat0 := c_dat
      refine x_iast hx hb hK.1 hM hS c_dat 0 rfl rfl (by omega) (by decide) d_Rm_source_57 (fun H locs hM hS hz => ?_)
      have hM : xh G (va_up Ma (ad 9) (some (9, .inl (gI G, 8, .inl (upd f k r1))))) H := hM
      obtain ⟨Ma_1, eMa_1⟩ : ∃ z : xM, z = va_up Ma (ad 9) (some (9, .inl (gI G, 8, .inl (upd f k r1)))) := ⟨_, rfl⟩
      rw [← eMa_1] at hM
      have c_o := xw_upE eMa_1 c_o c_dat (by decide)
      have c_gaps := xw_upE eMa_1 c_gaps c_dat (by decide)
      have h7 := xw_upE eMa_1 h7 c_dat (by decide)
      have c_gk := xw_upE eMa_1 c_gk c_dat (by omega)
      have c_dat := xw_atE eMa_1
      have hT : ∀ k', k' < k → upd f k r1 k' = (zDat u i k' w).1 ∧ Ma_1 (ad (10 + k')) = some (10 + k', eGap (zDat u i k' w).2) := fun k' hk' => ⟨(pk_un (by omega)).trans (hT k' hk').1, xw_upE eMa_1 (hT k' hk').2 c_dat0 (by omega)⟩
      have hkp := hkp.trans (show xKeep Ma Ma_1 by rw [eMa_1]; exact xKeep.up c_dat0 rfl)
      have hsk : Scr G Ma_1 ad := by
        obtain ⟨⟨a5, b5⟩, ⟨a6, b6⟩, ⟨a7, b7⟩, -, bg⟩ := hsk
        refine ⟨⟨a5, xw_upE eMa_1 b5 c_dat0 (by decide)⟩, ⟨a6, xw_upE eMa_1 b6 c_dat0 (by decide)⟩, ⟨a7, xw_upE eMa_1 b7 c_dat0 (by decide)⟩, ⟨_, c_dat⟩, fun i9 h9 => ?_⟩
        obtain ⟨a9, b9⟩ := bg i9 h9
        exact ⟨a9, xw_upE eMa_1 b9 c_dat0 (by omega)⟩
      refine lv_aload_n hx hb d_Rm_source_58 rfl (lv_at hl 0 rfl) ?_
      refine x_get (C := R_Rm) (T := F_Rm) (N := 12) hx hb hw i_Rm hown hK.1 hM c_o rfl 10 (by decide) (hw _ kw_75) rfl rfl d_Rm_source_59 ?_
      refine lv_iload hx hb d_Rm_source_62 (lv_at hl 4 rfl) ?_
      refine x_aldq (v := .ref (ad (10 + k))) hx hb hK.1 hM c_gaps 4 rfl rfl (by omega) (by omega) (zrw_lt (by omega)) d_Rm_source_64 ?_
      refine lv_aload_n hx hb d_Rm_source_65 rfl (lv_at hl 0 rfl) ?_
      refine x_get (C := R_Rm) (T := F_Rm) (N := 12) hx hb hw i_Rm hown hK.1 hM c_o rfl 9 (by decide) (hw _ kw_74) rfl rfl d_Rm_source_66 ?_
      refine x_cv (x_runV (As := [.ref (ad 7)]) (rest := []) hE hK hM hl.1 (c_Gap_become l G Ma_1 (ad (10 + k)) (10 + k) qk.1 qk.2 c_gk (ad 7) 7 (zDat u i k w).2.1 (zDat u i k w).2.2 h7 (by omega)) c_gk rfl kw_449 kw_450 kw_451 kw_3 kw_452 1 rfl rfl rfl (by decide +kernel) ⟨by decide, by decide⟩ rfl (Nat.le_of_ble_eq_true rfl) d_Rm_source_69 ⟨by decide, by decide⟩) hS (fun M1 H locs hp hM hS => ?_)
      have hT : ∀ k', k' < k + 1 → upd f k r1 k' = (zDat u i k' w).1 ∧ M1 (ad (10 + k')) = some (10 + k', eGap (zDat u i k' w).2) := fun k' hk' => by
        by_cases h9 : k' = k
        · subst h9
          exact ⟨pk_us.trans e_r, xw_atE hp⟩
        · exact ⟨(hT k' (by omega)).1, xw_upE hp (hT k' (by omega)).2 c_gk (by omega)⟩
      have hkp := hkp.trans (show xKeep Ma_1 M1 by rw [hp]; exact xKeep.up c_gk (by simp [zScr]; omega))
      have hsk : Scr G M1 ad := by
        obtain ⟨⟨a5, b5⟩, ⟨a6, b6⟩, ⟨a7, b7⟩, -, bg⟩ := hsk
        refine ⟨⟨a5, xw_upE hp b5 c_gk (by omega)⟩, ⟨a6, xw_upE hp b6 c_gk (by omega)⟩, ⟨a7, xw_upE hp b7 c_gk (by omega)⟩, ⟨_, xw_upE hp c_dat c_gk (by omega)⟩, fun i9 h9 => ?_⟩
        by_cases h8 : i9 = k
        · subst h8
          exact ⟨_, xw_atE hp⟩
        · obtain ⟨a9, b9⟩ := bg i9 h9
          exact ⟨a9, xw_upE hp b9 c_gk (by omega)⟩
      have c_dat := xw_upE hp c_dat c_gk (by omega)
      refine lv_iinc (v := (nI (k + 1))) (lv' := [(5, .int (nI (k + 1))), (0, .ref (ad 0)), (2, .int w), (3, .int kk), (4, .ref (ad (20 + i)))]) hx hb d_Rm_source_72 hl (k := 4) rfl (nI_1 k) (by decide) rfl (fun ls hl => ?_)
      refine lv_goto (tgt := 28) hx hb d_Rm_source_75 (by decide) ?_
      exact ih (k + 1) hkm (by omega) _ hkp hsk _ c_dat hT _ _ _ hM hS (lv_sub hl [1, 2, 3, 4, 0] rfl)

set_option maxHeartbeats 4000000 in
set_option maxRecDepth 100000 in
theorem c_Rm_source (l : Launch) (G : xG) (M : xM) (hst : l.stackTraces = false) (ad : Nat → Nat) (u : zS) (hC : Core G M ad u) (hO : zOk u) (hs : Scr G M ad) (x w kk : Int32) : vx_Met l y_Rm_source w_Rm_source ({ frames := 7, cells := 2, slots := 12, locals := 125 }) (xP G [.ref (ad 0), .int x, .int w, .int kk] M) (xQi G (fun v M' => fSrc u x w kk = (0, v) ∧ xKeep M M' ∧ Scr G M' ad)) (xX G (fun E M' => ((fSrc u x w kk = (1, 0) ∧ E = nIOE) ∨ (fSrc u x w kk = (2, 0) ∧ E = nIAE)) ∧ M' = M)) 2 12 (xF G) := by
  refine x_metX (by decide) (Nat.le_of_ble_eq_true rfl) ?_
  intro p e s m below meth c ls hE hnx hl hM hK hS
  obtain ⟨hx, hb, hr, hml, hown, hw, hlocks⟩ := id hE
  have h0 := hM
  have hl : lv_has ls 6 [(0, .ref (ad 0)), (1, .int x), (2, .int w), (3, .int kk)] := hl
  refine lv_aload_n hx hb d_Rm_source_0 rfl (lv_at hl 0 rfl) ?_
  refine lv_iload_n hx hb d_Rm_source_1 rfl (lv_at hl 1 rfl) ?_
  refine x_cxr (x_runVX (As := [.int x]) (rest := []) hE hK hM hl.1 (c_Rm_rowOf l G M hst ad u hC hO x) hC.1 rfl kw_232 kw_234 ks_2 kw_1 kw_235 1 rfl rfl rfl (by decide +kernel) ⟨by decide, by decide⟩ rfl (Nat.le_of_ble_eq_true rfl) d_Rm_source_2 ⟨by decide, by decide⟩) hS (fun E ce q9 M1 H locs hp hM hS hq1 hq2 hq3 => ?_) (fun r1 M1 H locs hp hM hS => ?_)
  · obtain ⟨h_x, rfl, e_M⟩ := hp
    have hM : xh G M H := e_M ▸ hM
    exact x_out hE hnx hM hS hq1 hq2 hq3 ⟨Or.inl ⟨by unfold fSrc; rw [if_neg h_x], rfl⟩, rfl⟩ (by decide) (by decide)
  obtain ⟨h_in, e_a, e_M⟩ := hp
  have hM : xh G M H := e_M ▸ hM
  obtain ⟨i, e_i, h_i, ex_i⟩ := z_in h_in (by have := hO.2.2.1; omega)
  rw [← e_i] at e_a
  subst e_a
  have hR_i := hC.2.2.2.2.2.2.1 i h_i
  have hZ_i := hO.2.2.2.1 i h_i
  refine lv_astore (lv' := [(4, .ref (ad (20 + i))), (0, .ref (ad 0)), (1, .int x), (2, .int w), (3, .int kk)]) hx hb d_Rm_source_5 hl (by decide) rfl (fun ls hl => ?_)
  refine lv_iload_n hx hb d_Rm_source_7 rfl (lv_at hl 4 rfl) ?_
  refine lv_if_ge (tgt := 21) hx hb d_Rm_source_8 (by decide) (fun c_8 => ?_) (fun c_8 => ?_)
  · have h_k : ¬ kk < 0 := z_nlt c_8
    refine lv_iload_n hx hb d_Rm_source_21 rfl (lv_at hl 3 rfl) ?_
    refine x_cxv (x_runSX (As := [.int w]) (rest := []) hE hK hM hl.1 (c_Rm_checkLeast l G M hst w) kw_437 kw_438 kw_1 kw_439 1 rfl rfl rfl (by decide +kernel) ⟨by decide, by decide⟩ rfl (Nat.le_of_ble_eq_true rfl) d_Rm_source_22 ⟨by decide, by decide⟩) hS (fun E ce q9 M1 H locs hp hM hS hq1 hq2 hq3 => ?_) (fun M1 H locs hp hM hS => ?_)
    · obtain ⟨h_x, rfl, e_M⟩ := hp
      have hM : xh G M H := e_M ▸ hM
      exact x_out hE hnx hM hS hq1 hq2 hq3 ⟨Or.inr ⟨by unfold fSrc; rw [if_pos h_in, if_neg h_k, if_neg h_x], rfl⟩, rfl⟩ (by decide) (by decide)
    obtain ⟨h_w, e_M⟩ := hp
    have hM : xh G M H := e_M ▸ hM
    refine lv_iconst (v := 0) hx hb d_Rm_source_25 (by decide) ?_
    refine lv_istore (lv' := [(5, .int 0), (4, .ref (ad (20 + i))), (0, .ref (ad 0)), (1, .int x), (2, .int w), (3, .int kk)]) hx hb d_Rm_source_26 hl (by decide) rfl (fun ls hl => ?_)
    obtain ⟨f, c_dat⟩ := hs.2.2.2.1
    exact lp_Rm_source1 ad u hC hO i h_i x w kk h_in e_i h_k h_w hs hE hK (zmn u + 1) 0 (by omega) (by omega) M xKeep.refl hs f c_dat (fun k' hk' => absurd hk' (by omega)) _ _ _ hM hS (lv_sub hl [2, 4, 5, 1, 0] rfl)
  · exact x_ioe (is := 184) (text := "no such place among the sources") hst hE hnx hK h0 hM hS hl.1 (by decide) d_Rm_source_11 d_Rm_source_14 d_Rm_source_15 d_Rm_source_17 d_Rm_source_20 (by decide) (Nat.le_of_ble_eq_true rfl) ⟨by decide, by decide⟩ ⟨by decide, by decide⟩ (⟨Or.inl ⟨by unfold fSrc; rw [if_pos h_in, if_pos (Int32.not_le.mp c_8)], rfl⟩, rfl⟩)
