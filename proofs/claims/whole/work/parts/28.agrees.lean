set_option maxHeartbeats 4000000 in
set_option maxRecDepth 100000 in
theorem lp_Rm_agrees {p : Program} {l : Launch} {e : Env} {s : State} {m : MethodId} {below : List Frame} {meth : Method} {c : Code} {args : Array Value} {G : xG} {M : xM} (ad : Nat → Nat) (u : zS) (hC : Core G M ad u) (hO : zOk u) (i : Nat) (hi : i < zrn u) (x st w : Int32) (h_x : zIn x (zrn u)) (e_i : i = x.toNatClampNeg) (h_s : ¬ (st < 0 ∨ ¬ (st >>> (nI (zmn u) &&& 31)) = 0)) (h_w : zLe w) (hs : Scr G M ad) (hE : xE p s m args meth c b_Rm_agrees (some .boolean) 8 R_Rm) (hK : KX G s) : ∀ (n k : Nat) (cc : Int32), k ≤ zmn u → zmn u + 1 ≤ k + n → zAgr u i st w k = some cc → ∀ (Mk : xM), xOff2 6 7 M Mk → Scr G Mk ad → ∀ (H : Heap) (locs : List Loc) (ls : Array Slot), xh G Mk H → va_S (xF G) s.heap H locs → lv_has ls 8 [(0, .ref (ad 0)), (2, .int st), (3, .int w), (4, .ref (ad (20 + i))), (5, .int cc), (6, .int (nI k))] → W p l e ({ frames := 7, cells := 2, slots := 12, locals := 125 }) s m args below meth c H locs 2 12 (vx_MQ below (xQi G (fun v M' => fAgr u x st w = (0, v) ∧ xKeep M M' ∧ Scr G M' ad)) (xX G (fun E M' => ((fAgr u x st w = (1, 0) ∧ E = nIOE) ∨ (fAgr u x st w = (2, 0) ∧ E = nIAE)) ∧ M' = M)) args s 2 12 (xF G)) (F0 m 42 ls []) := by
  obtain ⟨hx, hb, hr, hml, hown, hw, hlocks⟩ := id hE
  have hmn := hO.2.2.2.2.1
  intro n
  induction n with
  | zero =>
    intro k cc h1 h2
    exact absurd h2 (by omega)
  | succ n ih =>
    intro k cc hk hin hag Mk hof hsk H locs ls hM hS hl
    have hCk : Core G Mk ad u := hC.keep (hof.keep rfl rfl)
    obtain ⟨q6, c_tri⟩ := hsk.2.1
    obtain ⟨q7, c_nea⟩ := hsk.2.2.1
    have c_o : Mk (ad 0) = some (0, .inr (4, [.ref (ad 1), .int (nI (zpn u)), .ref (ad 2), .int (nI (zrn u)), .ref (ad 3), .int (nI (zmn u)), .ref (ad 4), .ref (ad 5), .ref (ad 6), .ref (ad 7), .ref (ad 8), .ref (ad 9)])) := hCk.1
    have c_means := hCk.2.2.2.1
    have c_row := (hCk.2.2.2.2.2.2.1 i hi).1
    have hst9 : zAgr u i st w (k + 1) = zAst (zDat u i k w).1 st k cc := by
      show (match zAgr u i st w k with | none => none | some c => zAst (zDat u i k w).1 st k c) = _
      rw [hag]
    refine lv_iload hx hb d_Rm_agrees_42 (lv_at hl 5 rfl) ?_
    refine lv_aload_n hx hb d_Rm_agrees_44 rfl (lv_at hl 0 rfl) ?_
    refine x_get (C := R_Rm) (T := F_Rm) (N := 12) hx hb hw i_Rm hown hK.1 hM c_o rfl 5 (by decide) (hw _ kw_70) rfl rfl d_Rm_agrees_45 ?_
    refine lv_icmp_ge (tgt := 114) hx hb d_Rm_agrees_48 (by decide) (fun c_48 => ?_) (fun c_48 => ?_)
    · have h48 : zmn u ≤ k := (nI_leI (by omega) (by omega)).mp c_48
      refine lv_iload hx hb d_Rm_agrees_114 (lv_at hl 4 rfl) ?_
      refine lv_sipush (v := (-1000)) hx hb d_Rm_agrees_116 (by decide) ?_
      refine lv_icmp_eq (tgt := 126) hx hb d_Rm_agrees_119 (by decide) (fun c_119 => ?_) (fun c_119 => ?_)
      · refine lv_iconst (v := 0) hx hb d_Rm_agrees_126 (by decide) ?_
        refine vx_ret ?_
        exact x_rz hE rfl (Or.inl rfl) hM hS ⟨by unfold fAgr; rw [if_pos h_x, if_neg h_s, if_pos h_w, ← e_i, show zmn u = k by omega, hag]; unfold zAnsA; simp only []; rw [if_pos c_119], hof.keep rfl rfl, hsk⟩ (by decide) (by decide) d_Rm_agrees_127
      · refine lv_iconst (v := 1) hx hb d_Rm_agrees_122 (by decide) ?_
        refine lv_goto (tgt := 127) hx hb d_Rm_agrees_123 (by decide) ?_
        refine vx_ret ?_
        exact x_rz hE rfl (Or.inr rfl) hM hS ⟨by unfold fAgr; rw [if_pos h_x, if_neg h_s, if_pos h_w, ← e_i, show zmn u = k by omega, hag]; unfold zAnsA; simp only []; rw [if_neg c_119], hof.keep rfl rfl, hsk⟩ (by decide) (by decide) d_Rm_agrees_127
    · have hkm : k < zmn u := Nat.not_le.mp (fun h9 => c_48 ((nI_leI (by omega) (by omega)).mpr h9))
      refine lv_iload_n hx hb d_Rm_agrees_51 rfl (lv_at hl 1 rfl) ?_
      refine lv_iload hx hb d_Rm_agrees_52 (lv_at hl 5 rfl) ?_
      refine lv_ishr hx hb d_Rm_agrees_54 ?_
      refine lv_iconst (v := 1) hx hb d_Rm_agrees_55 (by decide) ?_
      refine lv_iand hx hb d_Rm_agrees_56 ?_
      refine lv_if_ne (tgt := 63) hx hb d_Rm_agrees_57 (by decide) (fun c_57 => ?_) (fun c_57 => ?_)
      · refine lv_aload_n hx hb d_Rm_agrees_63 rfl (lv_at hl 0 rfl) ?_
        refine lv_aload hx hb d_Rm_agrees_64 (lv_at hl 3 rfl) ?_
        refine lv_aload_n hx hb d_Rm_agrees_66 rfl (lv_at hl 0 rfl) ?_
        refine x_get (C := R_Rm) (T := F_Rm) (N := 12) hx hb hw i_Rm hown hK.1 hM c_o rfl 4 (by decide) (hw _ kw_69) rfl rfl d_Rm_agrees_67 ?_
        refine lv_iload hx hb d_Rm_agrees_70 (lv_at hl 5 rfl) ?_
        refine x_aldq (v := .ref (ad (40 + k))) hx hb hK.1 hM c_means 3 rfl rfl (by omega) (by omega) (zrw_lt hkm) d_Rm_agrees_72 ?_
        refine lv_iload_n hx hb d_Rm_agrees_73 rfl (lv_at hl 2 rfl) ?_
        refine x_ci (x_runV (As := [.ref (ad (20 + i)), .ref (ad (40 + k)), .int w]) (rest := []) hE hK hM hl.1 (c_Rm_nearestYear l G Mk ad u hCk hO i hi k hkm w q6 c_tri q7 c_nea) c_o rfl kw_441 kw_443 ks_12 kw_1 kw_444 3 rfl rfl rfl (by decide +kernel) ⟨by decide, by decide⟩ rfl (Nat.le_of_ble_eq_true rfl) d_Rm_agrees_74 ⟨by decide, by decide⟩) hS (fun r1 M1 H locs hp hM hS => ?_)
        obtain ⟨e_r, hof1, h6, h7⟩ := hp
        have hsk := hsk.off2 hof1 h6 ⟨_, h7⟩
        have hof := hof.trans hof1
        refine lv_istore (lv' := [(7, .int r1), (0, .ref (ad 0)), (2, .int st), (3, .int w), (4, .ref (ad (20 + i))), (5, .int cc), (6, .int (nI k))]) hx hb d_Rm_agrees_77 hl (by decide) rfl (fun ls hl => ?_)
        refine lv_iload hx hb d_Rm_agrees_79 (lv_at hl 0 rfl) ?_
        refine lv_sipush (v := (-1000)) hx hb d_Rm_agrees_81 (by decide) ?_
        refine lv_icmp_eq (tgt := 102) hx hb d_Rm_agrees_84 (by decide) (fun c_84 => ?_) (fun c_84 => ?_)
        · refine lv_iconst (v := 0) hx hb d_Rm_agrees_102 (by decide) ?_
          have hno : zAgr u i st w (zmn u) = none := by
            have h9 := zAgr_none (show zAgr u i st w (k + 1) = none by rw [hst9]; unfold zAst; rw [if_neg c_57, ← e_r, if_pos c_84]) (zmn u - (k + 1))
            rw [show k + 1 + (zmn u - (k + 1)) = zmn u by omega] at h9
            exact h9
          refine vx_ret ?_
          exact x_rz hE rfl (Or.inl rfl) hM hS ⟨by unfold fAgr; rw [if_pos h_x, if_neg h_s, if_pos h_w, ← e_i, hno]; rfl, hof.keep rfl rfl, hsk⟩ (by decide) (by decide) d_Rm_agrees_103
        · refine lv_iload hx hb d_Rm_agrees_87 (lv_at hl 5 rfl) ?_
          refine lv_sipush (v := (-1000)) hx hb d_Rm_agrees_89 (by decide) ?_
          refine lv_icmp_eq (tgt := 104) hx hb d_Rm_agrees_92 (by decide) (fun c_92 => ?_) (fun c_92 => ?_)
          · refine lv_iload hx hb d_Rm_agrees_104 (lv_at hl 0 rfl) ?_
            refine lv_istore (lv' := [(5, .int r1), (7, .int r1), (0, .ref (ad 0)), (2, .int st), (3, .int w), (4, .ref (ad (20 + i))), (6, .int (nI k))]) hx hb d_Rm_agrees_106 hl (by decide) rfl (fun ls hl => ?_)
            refine lv_iinc (v := (nI (k + 1))) (lv' := [(6, .int (nI (k + 1))), (5, .int r1), (7, .int r1), (0, .ref (ad 0)), (2, .int st), (3, .int w), (4, .ref (ad (20 + i)))]) hx hb d_Rm_agrees_108 hl (k := 6) rfl (nI_1 k) (by decide) rfl (fun ls hl => ?_)
            refine lv_goto (tgt := 42) hx hb d_Rm_agrees_111 (by decide) ?_
            exact ih (k + 1) _ hkm (by omega) (by rw [hst9]; unfold zAst; rw [if_neg c_57, ← e_r, if_neg c_84, if_pos (Or.inl c_92)]) _ hof hsk _ _ _ hM hS (lv_sub hl [3, 4, 5, 6, 1, 0] rfl)
          · refine lv_iload hx hb d_Rm_agrees_95 (lv_at hl 0 rfl) ?_
            refine lv_iload hx hb d_Rm_agrees_97 (lv_at hl 5 rfl) ?_
            refine lv_icmp_eq (tgt := 104) hx hb d_Rm_agrees_99 (by decide) (fun c_99 => ?_) (fun c_99 => ?_)
            · refine lv_iload hx hb d_Rm_agrees_104 (lv_at hl 0 rfl) ?_
              refine lv_istore (lv' := [(5, .int r1), (7, .int r1), (0, .ref (ad 0)), (2, .int st), (3, .int w), (4, .ref (ad (20 + i))), (6, .int (nI k))]) hx hb d_Rm_agrees_106 hl (by decide) rfl (fun ls hl => ?_)
              refine lv_iinc (v := (nI (k + 1))) (lv' := [(6, .int (nI (k + 1))), (5, .int r1), (7, .int r1), (0, .ref (ad 0)), (2, .int st), (3, .int w), (4, .ref (ad (20 + i)))]) hx hb d_Rm_agrees_108 hl (k := 6) rfl (nI_1 k) (by decide) rfl (fun ls hl => ?_)
              refine lv_goto (tgt := 42) hx hb d_Rm_agrees_111 (by decide) ?_
              exact ih (k + 1) _ hkm (by omega) (by rw [hst9]; unfold zAst; rw [if_neg c_57, ← e_r, if_neg c_84, if_pos (Or.inr c_99)]) _ hof hsk _ _ _ hM hS (lv_sub hl [3, 4, 5, 6, 1, 0] rfl)
            · refine lv_iconst (v := 0) hx hb d_Rm_agrees_102 (by decide) ?_
              have hno : zAgr u i st w (zmn u) = none := by
                have h9 := zAgr_none (show zAgr u i st w (k + 1) = none by rw [hst9]; unfold zAst; rw [if_neg c_57, ← e_r, if_neg c_84, if_neg (fun h9 => h9.elim c_92 c_99)]) (zmn u - (k + 1))
                rw [show k + 1 + (zmn u - (k + 1)) = zmn u by omega] at h9
                exact h9
              refine vx_ret ?_
              exact x_rz hE rfl (Or.inl rfl) hM hS ⟨by unfold fAgr; rw [if_pos h_x, if_neg h_s, if_pos h_w, ← e_i, hno]; rfl, hof.keep rfl rfl, hsk⟩ (by decide) (by decide) d_Rm_agrees_103
      · refine lv_goto (tgt := 108) hx hb d_Rm_agrees_60 (by decide) ?_
        refine lv_iinc (v := (nI (k + 1))) (lv' := [(6, .int (nI (k + 1))), (0, .ref (ad 0)), (2, .int st), (3, .int w), (4, .ref (ad (20 + i))), (5, .int cc)]) hx hb d_Rm_agrees_108 hl (k := 5) rfl (nI_1 k) (by decide) rfl (fun ls hl => ?_)
        refine lv_goto (tgt := 42) hx hb d_Rm_agrees_111 (by decide) ?_
        exact ih (k + 1) _ hkm (by omega) (by rw [hst9]; unfold zAst; rw [if_pos c_57]) _ hof hsk _ _ _ hM hS (lv_sub hl [1, 2, 3, 4, 5, 0] rfl)

set_option maxHeartbeats 4000000 in
set_option maxRecDepth 100000 in
theorem c_Rm_agrees (l : Launch) (G : xG) (M : xM) (hst : l.stackTraces = false) (ad : Nat → Nat) (u : zS) (hC : Core G M ad u) (hO : zOk u) (hs : Scr G M ad) (x st w : Int32) : vx_Met l y_Rm_agrees w_Rm_agrees ({ frames := 7, cells := 2, slots := 12, locals := 125 }) (xP G [.ref (ad 0), .int x, .int st, .int w] M) (xQi G (fun v M' => fAgr u x st w = (0, v) ∧ xKeep M M' ∧ Scr G M' ad)) (xX G (fun E M' => ((fAgr u x st w = (1, 0) ∧ E = nIOE) ∨ (fAgr u x st w = (2, 0) ∧ E = nIAE)) ∧ M' = M)) 2 12 (xF G) := by
  refine x_metX (by decide) (Nat.le_of_ble_eq_true rfl) ?_
  intro p e s m below meth c ls hE hnx hl hM hK hS
  obtain ⟨hx, hb, hr, hml, hown, hw, hlocks⟩ := id hE
  have h0 := hM
  have hl : lv_has ls 8 [(0, .ref (ad 0)), (1, .int x), (2, .int st), (3, .int w)] := hl
  refine lv_aload_n hx hb d_Rm_agrees_0 rfl (lv_at hl 0 rfl) ?_
  refine lv_iload_n hx hb d_Rm_agrees_1 rfl (lv_at hl 1 rfl) ?_
  refine x_cxr (x_runVX (As := [.int x]) (rest := []) hE hK hM hl.1 (c_Rm_rowOf l G M hst ad u hC hO x) hC.1 rfl kw_232 kw_234 ks_2 kw_1 kw_235 1 rfl rfl rfl (by decide +kernel) ⟨by decide, by decide⟩ rfl (Nat.le_of_ble_eq_true rfl) d_Rm_agrees_2 ⟨by decide, by decide⟩) hS (fun E ce q9 M1 H locs hp hM hS hq1 hq2 hq3 => ?_) (fun r1 M1 H locs hp hM hS => ?_)
  · obtain ⟨h_x, rfl, e_M⟩ := hp
    have hM : xh G M H := e_M ▸ hM
    exact x_out hE hnx hM hS hq1 hq2 hq3 ⟨Or.inl ⟨by unfold fAgr; rw [if_neg h_x], rfl⟩, rfl⟩ (by decide) (by decide)
  obtain ⟨h_in, e_a, e_M⟩ := hp
  have hM : xh G M H := e_M ▸ hM
  obtain ⟨i, e_i, h_i, ex_i⟩ := z_in h_in (by have := hO.2.2.1; omega)
  rw [← e_i] at e_a
  subst e_a
  have hR_i := hC.2.2.2.2.2.2.1 i h_i
  have hZ_i := hO.2.2.2.1 i h_i
  refine lv_astore (lv' := [(4, .ref (ad (20 + i))), (0, .ref (ad 0)), (1, .int x), (2, .int st), (3, .int w)]) hx hb d_Rm_agrees_5 hl (by decide) rfl (fun ls hl => ?_)
  refine lv_iload_n hx hb d_Rm_agrees_7 rfl (lv_at hl 3 rfl) ?_
  refine lv_if_lt (tgt := 20) hx hb d_Rm_agrees_8 (by decide) (fun c_8 => ?_) (fun c_8 => ?_)
  · exact x_ioe (is := 182) (text := "no such master") hst hE hnx hK h0 hM hS hl.1 (by decide) d_Rm_agrees_20 d_Rm_agrees_23 d_Rm_agrees_24 d_Rm_agrees_26 d_Rm_agrees_29 (by decide) (Nat.le_of_ble_eq_true rfl) ⟨by decide, by decide⟩ ⟨by decide, by decide⟩ (⟨Or.inl ⟨by unfold fAgr; rw [if_pos h_in, if_pos (Or.inl c_8)], rfl⟩, rfl⟩)
  · refine lv_iload_n hx hb d_Rm_agrees_11 rfl (lv_at hl 3 rfl) ?_
    refine lv_aload_n hx hb d_Rm_agrees_12 rfl (lv_at hl 1 rfl) ?_
    refine x_get (C := R_Rm) (T := F_Rm) (N := 12) hx hb hw i_Rm hown hK.1 hM hC.1 rfl 5 (by decide) (hw _ kw_70) rfl rfl d_Rm_agrees_13 ?_
    refine lv_ishr hx hb d_Rm_agrees_16 ?_
    refine lv_if_eq (tgt := 30) hx hb d_Rm_agrees_17 (by decide) (fun c_17 => ?_) (fun c_17 => ?_)
    · have h_s : ¬ (st < 0 ∨ ¬ (st >>> (nI (zmn u) &&& 31)) = 0) := fun h9 => h9.elim c_8 (fun h8 => h8 c_17)
      refine lv_iload_n hx hb d_Rm_agrees_30 rfl (lv_at hl 4 rfl) ?_
      refine x_cxv (x_runSX (As := [.int w]) (rest := []) hE hK hM hl.1 (c_Rm_checkLeast l G M hst w) kw_437 kw_438 kw_1 kw_439 1 rfl rfl rfl (by decide +kernel) ⟨by decide, by decide⟩ rfl (Nat.le_of_ble_eq_true rfl) d_Rm_agrees_31 ⟨by decide, by decide⟩) hS (fun E ce q9 M1 H locs hp hM hS hq1 hq2 hq3 => ?_) (fun M1 H locs hp hM hS => ?_)
      · obtain ⟨h_x, rfl, e_M⟩ := hp
        have hM : xh G M H := e_M ▸ hM
        exact x_out hE hnx hM hS hq1 hq2 hq3 ⟨Or.inr ⟨by unfold fAgr; rw [if_pos h_in, if_neg h_s, if_neg h_x], rfl⟩, rfl⟩ (by decide) (by decide)
      obtain ⟨h_w, e_M⟩ := hp
      have hM : xh G M H := e_M ▸ hM
      refine lv_sipush (v := (-1000)) hx hb d_Rm_agrees_34 (by decide) ?_
      refine lv_istore (lv' := [(5, .int (-1000)), (4, .ref (ad (20 + i))), (0, .ref (ad 0)), (1, .int x), (2, .int st), (3, .int w)]) hx hb d_Rm_agrees_37 hl (by decide) rfl (fun ls hl => ?_)
      refine lv_iconst (v := 0) hx hb d_Rm_agrees_39 (by decide) ?_
      refine lv_istore (lv' := [(6, .int 0), (5, .int (-1000)), (4, .ref (ad (20 + i))), (0, .ref (ad 0)), (1, .int x), (2, .int st), (3, .int w)]) hx hb d_Rm_agrees_40 hl (by decide) rfl (fun ls hl => ?_)
      exact lp_Rm_agrees ad u hC hO i h_i x st w h_in e_i h_s h_w hs hE hK (zmn u + 1) 0 (-1000) (by omega) (by omega) rfl M xOff2.refl hs _ _ _ hM hS (lv_sub hl [3, 5, 6, 2, 1, 0] rfl)
    · exact x_ioe (is := 182) (text := "no such master") hst hE hnx hK h0 hM hS hl.1 (by decide) d_Rm_agrees_20 d_Rm_agrees_23 d_Rm_agrees_24 d_Rm_agrees_26 d_Rm_agrees_29 (by decide) (Nat.le_of_ble_eq_true rfl) ⟨by decide, by decide⟩ ⟨by decide, by decide⟩ (⟨Or.inl ⟨by unfold fAgr; rw [if_pos h_in, if_pos (Or.inr c_17)], rfl⟩, rfl⟩)

set_option maxHeartbeats 4000000 in
set_option maxRecDepth 100000 in
theorem lp_Rm_nearerThan {p : Program} {l : Launch} {e : Env} {s : State} {m : MethodId} {below : List Frame} {meth : Method} {c : Code} {args : Array Value} {G : xG} {M : xM} (ad : Nat → Nat) (u : zS) (hC : Core G M ad u) (hO : zOk u) (T : Nat → zN3) (f : Nat → Int32) (hf : M (ad 9) = some (9, eI G 8 f)) (hT : ∀ k, k < zmn u → f k = (T k).1 ∧ M (ad (10 + k)) = some (10 + k, eGap (T k).2)) (n0 : Nat) (hn0 : n0 < zmn u) (hE : xE p s m args meth c b_Rm_nearerThan (some .int) 5 R_Rm) (hK : KX G s) : ∀ (n k : Nat), k ≤ zmn u → zmn u + 1 ≤ k + n → ∀ (H : Heap) (locs : List Loc) (ls : Array Slot), xh G M H → va_S (xF G) s.heap H locs → lv_has ls 5 [(0, .ref (ad 0)), (1, .int (nI n0)), (2, .int (nI (zNr T n0 k))), (3, .int (nI k))] → W p l e ({ frames := 1, cells := 0, slots := 0, locals := 30 }) s m args below meth c H locs 0 0 (MQ below (xQi G (fun v M' => v = nI (zNr T n0 (zmn u)) ∧ M' = M)) args s 0 0 (xF G)) (F0 m 4 ls []) := by
  obtain ⟨hx, hb, hr, hml, hown, hw, hlocks⟩ := id hE
  have hmn := hO.2.2.2.2.1
  intro n
  induction n with
  | zero =>
    intro k h1 h2
    exact absurd h2 (by omega)
  | succ n ih =>
    intro k hk hin H locs ls hM hS hl
    have h_N := hT n0 hn0
    have h_un : zNr T n0 (k + 1) = (if k = n0 ∨ (T k).1 = -1000 then zNr T n0 k else if zLess (T k).2.1 (T k).2.2 (T n0).2.1 (T n0).2.2 ∨ (¬ zLess (T n0).2.1 (T n0).2.2 (T k).2.1 (T k).2.2 ∧ k < n0) then zNr T n0 k + 1 else zNr T n0 k) := rfl
    refine lv_iload_n hx hb d_Rm_nearerThan_4 rfl (lv_at hl 3 rfl) ?_
    refine lv_aload_n hx hb d_Rm_nearerThan_5 rfl (lv_at hl 0 rfl) ?_
    refine x_get (C := R_Rm) (T := F_Rm) (N := 12) hx hb hw i_Rm hown hK.1 hM hC.1 rfl 5 (by decide) (hw _ kw_70) rfl rfl d_Rm_nearerThan_6 ?_
    refine lv_icmp_ge (tgt := 94) hx hb d_Rm_nearerThan_9 (by decide) (fun c_9 => ?_) (fun c_9 => ?_)
    · have h9 : zmn u ≤ k := (nI_leI (by omega) (by omega)).mp c_9
      refine lv_iload_n hx hb d_Rm_nearerThan_94 rfl (lv_at hl 2 rfl) ?_
      exact x_ri hE rfl hM hS ⟨by rw [show k = zmn u by omega], rfl⟩ (by omega) (by omega) d_Rm_nearerThan_95
    · have hkm : k < zmn u := Nat.not_le.mp (fun h9 => c_9 ((nI_leI (by omega) (by omega)).mpr h9))
      have h_K := hT k hkm
      refine lv_iload_n hx hb d_Rm_nearerThan_12 rfl (lv_at hl 3 rfl) ?_
      refine lv_iload_n hx hb d_Rm_nearerThan_13 rfl (lv_at hl 1 rfl) ?_
      refine lv_icmp_eq (tgt := 88) hx hb d_Rm_nearerThan_14 (by decide) (fun c_14 => ?_) (fun c_14 => ?_)
      · refine lv_iinc (v := (nI (k + 1))) (lv' := [(3, .int (nI (k + 1))), (0, .ref (ad 0)), (1, .int (nI n0)), (2, .int (nI (zNr T n0 k)))]) hx hb d_Rm_nearerThan_88 hl (k := 3) rfl (nI_1 k) (by decide) rfl (fun ls hl => ?_)
        refine lv_goto (tgt := 4) hx hb d_Rm_nearerThan_91 (by decide) ?_
        have hz : zNr T n0 (k + 1) = zNr T n0 k := by rw [h_un, if_pos (Or.inl ((nI_eq (by omega) (by omega)).mp c_14))]
        exact ih (k + 1) hkm (by omega) _ _ _ hM hS (by rw [hz]; exact lv_sub hl [1, 2, 3, 0] rfl)
      · refine lv_aload_n hx hb d_Rm_nearerThan_17 rfl (lv_at hl 0 rfl) ?_
        refine x_get (C := R_Rm) (T := F_Rm) (N := 12) hx hb hw i_Rm hown hK.1 hM hC.1 rfl 11 (by decide) (hw _ kw_76) rfl rfl d_Rm_nearerThan_18 ?_
        refine lv_iload_n hx hb d_Rm_nearerThan_21 rfl (lv_at hl 3 rfl) ?_
        refine x_iald hx hb hK.1 hM hf 0 rfl rfl (by omega) (by decide) d_Rm_nearerThan_22 ?_
        refine lv_sipush (v := (-1000)) hx hb d_Rm_nearerThan_23 (by decide) ?_
        refine lv_icmp_ne (tgt := 32) hx hb d_Rm_nearerThan_26 (by decide) (fun c_26 => ?_) (fun c_26 => ?_)
        · refine lv_aload_n hx hb d_Rm_nearerThan_32 rfl (lv_at hl 0 rfl) ?_
          refine x_get (C := R_Rm) (T := F_Rm) (N := 12) hx hb hw i_Rm hown hK.1 hM hC.1 rfl 10 (by decide) (hw _ kw_75) rfl rfl d_Rm_nearerThan_33 ?_
          refine lv_iload_n hx hb d_Rm_nearerThan_36 rfl (lv_at hl 1 rfl) ?_
          refine x_aldq (v := .ref (ad (10 + n0))) hx hb hK.1 hM hC.2.2.2.2.2.1 4 rfl rfl (by omega) (by omega) (zrw_lt (by omega)) d_Rm_nearerThan_37 ?_
          refine lv_aload_n hx hb d_Rm_nearerThan_38 rfl (lv_at hl 0 rfl) ?_
          refine x_get (C := R_Rm) (T := F_Rm) (N := 12) hx hb hw i_Rm hown hK.1 hM hC.1 rfl 10 (by decide) (hw _ kw_75) rfl rfl d_Rm_nearerThan_39 ?_
          refine lv_iload_n hx hb d_Rm_nearerThan_42 rfl (lv_at hl 3 rfl) ?_
          refine x_aldq (v := .ref (ad (10 + k))) hx hb hK.1 hM hC.2.2.2.2.2.1 4 rfl rfl (by omega) (by omega) (zrw_lt (by omega)) d_Rm_nearerThan_43 ?_
          refine x_ci (x_runV (As := [.ref (ad (10 + k))]) (rest := []) hE hK hM hl.1 (c_Gap_lessThan l G M (ad (10 + n0)) (10 + n0) (T n0).2.1 (T n0).2.2 h_N.2 (ad (10 + k)) (10 + k) (T k).2.1 (T k).2.2 h_K.2) h_N.2 rfl kw_445 kw_446 kw_447 kw_3 kw_448 1 rfl rfl rfl (by decide +kernel) ⟨by decide, by decide⟩ rfl (Nat.le_of_ble_eq_true rfl) d_Rm_nearerThan_44 ⟨by decide, by decide⟩) hS (fun r1 M1 H locs hp hM hS => ?_)
          obtain ⟨e_a, e_M⟩ := hp
          have hM : xh G M H := e_M ▸ hM
          refine lv_if_ne (tgt := 54) hx hb d_Rm_nearerThan_47 (by decide) (fun c_47 => ?_) (fun c_47 => ?_)
          · refine lv_iconst (v := 0) hx hb d_Rm_nearerThan_54 (by decide) ?_
            refine lv_istore (lv' := [(4, .int 0), (0, .ref (ad 0)), (1, .int (nI n0)), (2, .int (nI (zNr T n0 k))), (3, .int (nI k))]) hx hb d_Rm_nearerThan_55 hl (by decide) rfl (fun ls hl => ?_)
            refine lv_aload_n hx hb d_Rm_nearerThan_57 rfl (lv_at hl 1 rfl) ?_
            refine x_get (C := R_Rm) (T := F_Rm) (N := 12) hx hb hw i_Rm hown hK.1 hM hC.1 rfl 10 (by decide) (hw _ kw_75) rfl rfl d_Rm_nearerThan_58 ?_
            refine lv_iload_n hx hb d_Rm_nearerThan_61 rfl (lv_at hl 4 rfl) ?_
            refine x_aldq (v := .ref (ad (10 + k))) hx hb hK.1 hM hC.2.2.2.2.2.1 4 rfl rfl (by omega) (by omega) (zrw_lt (by omega)) d_Rm_nearerThan_62 ?_
            refine lv_aload_n hx hb d_Rm_nearerThan_63 rfl (lv_at hl 1 rfl) ?_
            refine x_get (C := R_Rm) (T := F_Rm) (N := 12) hx hb hw i_Rm hown hK.1 hM hC.1 rfl 10 (by decide) (hw _ kw_75) rfl rfl d_Rm_nearerThan_64 ?_
            refine lv_iload_n hx hb d_Rm_nearerThan_67 rfl (lv_at hl 2 rfl) ?_
            refine x_aldq (v := .ref (ad (10 + n0))) hx hb hK.1 hM hC.2.2.2.2.2.1 4 rfl rfl (by omega) (by omega) (zrw_lt (by omega)) d_Rm_nearerThan_68 ?_
            refine x_ci (x_runV (As := [.ref (ad (10 + n0))]) (rest := []) hE hK hM hl.1 (c_Gap_lessThan l G M (ad (10 + k)) (10 + k) (T k).2.1 (T k).2.2 h_K.2 (ad (10 + n0)) (10 + n0) (T n0).2.1 (T n0).2.2 h_N.2) h_K.2 rfl kw_445 kw_446 kw_447 kw_3 kw_448 1 rfl rfl rfl (by decide +kernel) ⟨by decide, by decide⟩ rfl (Nat.le_of_ble_eq_true rfl) d_Rm_nearerThan_69 ⟨by decide, by decide⟩) hS (fun r2 M1 H locs hp hM hS => ?_)
            obtain ⟨e_b, e_M⟩ := hp
            have hM : xh G M H := e_M ▸ hM
            refine lv_if_ne (tgt := 85) hx hb d_Rm_nearerThan_72 (by decide) (fun c_72 => ?_) (fun c_72 => ?_)
            · refine lv_iinc (v := (nI ((zNr T n0 k) + 1))) (lv' := [(2, .int (nI ((zNr T n0 k) + 1))), (4, .int 0), (0, .ref (ad 0)), (1, .int (nI n0)), (3, .int (nI k))]) hx hb d_Rm_nearerThan_85 hl (k := 3) rfl (nI_1 (zNr T n0 k)) (by decide) rfl (fun ls hl => ?_)
              refine lv_iinc (v := (nI (k + 1))) (lv' := [(3, .int (nI (k + 1))), (2, .int (nI ((zNr T n0 k) + 1))), (4, .int 0), (0, .ref (ad 0)), (1, .int (nI n0))]) hx hb d_Rm_nearerThan_88 hl (k := 4) rfl (nI_1 k) (by decide) rfl (fun ls hl => ?_)
              refine lv_goto (tgt := 4) hx hb d_Rm_nearerThan_91 (by decide) ?_
              have h_no : ¬ (k = n0 ∨ (T k).1 = -1000) := fun h9 => h9.elim (fun h8 => c_14 (by rw [h8])) (fun h8 => c_26 (h_K.1.trans h8))
              have hz : zNr T n0 (k + 1) = zNr T n0 k + 1 := by rw [h_un, if_neg h_no, if_pos (Or.inl (Classical.byContradiction fun h9 => c_72 (by rw [e_b, if_neg h9])))]
              exact ih (k + 1) hkm (by omega) _ _ _ hM hS (by rw [hz]; exact lv_sub hl [3, 4, 1, 0] rfl)
            · refine lv_iload hx hb d_Rm_nearerThan_75 (lv_at hl 0 rfl) ?_
              refine lv_if_eq (tgt := 88) hx hb d_Rm_nearerThan_77 (by decide) (fun c_77 => ?_) (fun c_77 => ?_)
              · refine lv_iinc (v := (nI (k + 1))) (lv' := [(3, .int (nI (k + 1))), (4, .int 0), (0, .ref (ad 0)), (1, .int (nI n0)), (2, .int (nI (zNr T n0 k)))]) hx hb d_Rm_nearerThan_88 hl (k := 4) rfl (nI_1 k) (by decide) rfl (fun ls hl => ?_)
                refine lv_goto (tgt := 4) hx hb d_Rm_nearerThan_91 (by decide) ?_
                have h_no : ¬ (k = n0 ∨ (T k).1 = -1000) := fun h9 => h9.elim (fun h8 => c_14 (by rw [h8])) (fun h8 => c_26 (h_K.1.trans h8))
                have h_b : ¬ zLess (T k).2.1 (T k).2.2 (T n0).2.1 (T n0).2.2 := fun h9 => by rw [e_b, if_pos h9] at c_72; exact absurd c_72 (by decide)
                have h_a : zLess (T n0).2.1 (T n0).2.2 (T k).2.1 (T k).2.2 := Classical.byContradiction fun h9 => c_47 (by rw [e_a, if_neg h9])
                have hz : zNr T n0 (k + 1) = zNr T n0 k := by rw [h_un, if_neg h_no, if_neg (fun h9 => h9.elim h_b (fun h8 => h8.1 h_a))]
                exact ih (k + 1) hkm (by omega) _ _ _ hM hS (by rw [hz]; exact lv_sub hl [2, 3, 4, 0] rfl)
              · exact absurd rfl c_77
          · refine lv_iconst (v := 1) hx hb d_Rm_nearerThan_50 (by decide) ?_
            refine lv_goto (tgt := 55) hx hb d_Rm_nearerThan_51 (by decide) ?_
            refine lv_istore (lv' := [(4, .int 1), (0, .ref (ad 0)), (1, .int (nI n0)), (2, .int (nI (zNr T n0 k))), (3, .int (nI k))]) hx hb d_Rm_nearerThan_55 hl (by decide) rfl (fun ls hl => ?_)
            refine lv_aload_n hx hb d_Rm_nearerThan_57 rfl (lv_at hl 1 rfl) ?_
            refine x_get (C := R_Rm) (T := F_Rm) (N := 12) hx hb hw i_Rm hown hK.1 hM hC.1 rfl 10 (by decide) (hw _ kw_75) rfl rfl d_Rm_nearerThan_58 ?_
            refine lv_iload_n hx hb d_Rm_nearerThan_61 rfl (lv_at hl 4 rfl) ?_
            refine x_aldq (v := .ref (ad (10 + k))) hx hb hK.1 hM hC.2.2.2.2.2.1 4 rfl rfl (by omega) (by omega) (zrw_lt (by omega)) d_Rm_nearerThan_62 ?_
            refine lv_aload_n hx hb d_Rm_nearerThan_63 rfl (lv_at hl 1 rfl) ?_
            refine x_get (C := R_Rm) (T := F_Rm) (N := 12) hx hb hw i_Rm hown hK.1 hM hC.1 rfl 10 (by decide) (hw _ kw_75) rfl rfl d_Rm_nearerThan_64 ?_
            refine lv_iload_n hx hb d_Rm_nearerThan_67 rfl (lv_at hl 2 rfl) ?_
            refine x_aldq (v := .ref (ad (10 + n0))) hx hb hK.1 hM hC.2.2.2.2.2.1 4 rfl rfl (by omega) (by omega) (zrw_lt (by omega)) d_Rm_nearerThan_68 ?_
            refine x_ci (x_runV (As := [.ref (ad (10 + n0))]) (rest := []) hE hK hM hl.1 (c_Gap_lessThan l G M (ad (10 + k)) (10 + k) (T k).2.1 (T k).2.2 h_K.2 (ad (10 + n0)) (10 + n0) (T n0).2.1 (T n0).2.2 h_N.2) h_K.2 rfl kw_445 kw_446 kw_447 kw_3 kw_448 1 rfl rfl rfl (by decide +kernel) ⟨by decide, by decide⟩ rfl (Nat.le_of_ble_eq_true rfl) d_Rm_nearerThan_69 ⟨by decide, by decide⟩) hS (fun r2 M1 H locs hp hM hS => ?_)
            obtain ⟨e_b, e_M⟩ := hp
            have hM : xh G M H := e_M ▸ hM
            refine lv_if_ne (tgt := 85) hx hb d_Rm_nearerThan_72 (by decide) (fun c_72 => ?_) (fun c_72 => ?_)
            · refine lv_iinc (v := (nI ((zNr T n0 k) + 1))) (lv' := [(2, .int (nI ((zNr T n0 k) + 1))), (4, .int 1), (0, .ref (ad 0)), (1, .int (nI n0)), (3, .int (nI k))]) hx hb d_Rm_nearerThan_85 hl (k := 3) rfl (nI_1 (zNr T n0 k)) (by decide) rfl (fun ls hl => ?_)
              refine lv_iinc (v := (nI (k + 1))) (lv' := [(3, .int (nI (k + 1))), (2, .int (nI ((zNr T n0 k) + 1))), (4, .int 1), (0, .ref (ad 0)), (1, .int (nI n0))]) hx hb d_Rm_nearerThan_88 hl (k := 4) rfl (nI_1 k) (by decide) rfl (fun ls hl => ?_)
              refine lv_goto (tgt := 4) hx hb d_Rm_nearerThan_91 (by decide) ?_
              have h_no : ¬ (k = n0 ∨ (T k).1 = -1000) := fun h9 => h9.elim (fun h8 => c_14 (by rw [h8])) (fun h8 => c_26 (h_K.1.trans h8))
              have hz : zNr T n0 (k + 1) = zNr T n0 k + 1 := by rw [h_un, if_neg h_no, if_pos (Or.inl (Classical.byContradiction fun h9 => c_72 (by rw [e_b, if_neg h9])))]
              exact ih (k + 1) hkm (by omega) _ _ _ hM hS (by rw [hz]; exact lv_sub hl [3, 4, 1, 0] rfl)
            · refine lv_iload hx hb d_Rm_nearerThan_75 (lv_at hl 0 rfl) ?_
              refine lv_if_eq (tgt := 88) hx hb d_Rm_nearerThan_77 (by decide) (fun c_77 => ?_) (fun c_77 => ?_)
              · exact absurd c_77 (by decide)
              · refine lv_iload_n hx hb d_Rm_nearerThan_80 rfl (lv_at hl 4 rfl) ?_
                refine lv_iload_n hx hb d_Rm_nearerThan_81 rfl (lv_at hl 2 rfl) ?_
                refine lv_icmp_ge (tgt := 88) hx hb d_Rm_nearerThan_82 (by decide) (fun c_82 => ?_) (fun c_82 => ?_)
                · refine lv_iinc (v := (nI (k + 1))) (lv' := [(3, .int (nI (k + 1))), (4, .int 1), (0, .ref (ad 0)), (1, .int (nI n0)), (2, .int (nI (zNr T n0 k)))]) hx hb d_Rm_nearerThan_88 hl (k := 4) rfl (nI_1 k) (by decide) rfl (fun ls hl => ?_)
                  refine lv_goto (tgt := 4) hx hb d_Rm_nearerThan_91 (by decide) ?_
                  have h_no : ¬ (k = n0 ∨ (T k).1 = -1000) := fun h9 => h9.elim (fun h8 => c_14 (by rw [h8])) (fun h8 => c_26 (h_K.1.trans h8))
                  have h_b : ¬ zLess (T k).2.1 (T k).2.2 (T n0).2.1 (T n0).2.2 := fun h9 => by rw [e_b, if_pos h9] at c_72; exact absurd c_72 (by decide)
                  have h_a : ¬ zLess (T n0).2.1 (T n0).2.2 (T k).2.1 (T k).2.2 := fun h9 => by rw [e_a, if_pos h9] at c_47; exact absurd c_47 (by decide)
                  have hz : zNr T n0 (k + 1) = zNr T n0 k := by rw [h_un, if_neg h_no, if_neg (fun h9 => h9.elim h_b (fun h8 => absurd h8.2 (Nat.not_lt.mpr ((nI_leI (by omega) (by omega)).mp c_82))))]
                  exact ih (k + 1) hkm (by omega) _ _ _ hM hS (by rw [hz]; exact lv_sub hl [2, 3, 4, 0] rfl)
                · refine lv_iinc (v := (nI ((zNr T n0 k) + 1))) (lv' := [(2, .int (nI ((zNr T n0 k) + 1))), (4, .int 1), (0, .ref (ad 0)), (1, .int (nI n0)), (3, .int (nI k))]) hx hb d_Rm_nearerThan_85 hl (k := 3) rfl (nI_1 (zNr T n0 k)) (by decide) rfl (fun ls hl => ?_)
                  refine lv_iinc (v := (nI (k + 1))) (lv' := [(3, .int (nI (k + 1))), (2, .int (nI ((zNr T n0 k) + 1))), (4, .int 1), (0, .ref (ad 0)), (1, .int (nI n0))]) hx hb d_Rm_nearerThan_88 hl (k := 4) rfl (nI_1 k) (by decide) rfl (fun ls hl => ?_)
                  refine lv_goto (tgt := 4) hx hb d_Rm_nearerThan_91 (by decide) ?_
                  have h_no : ¬ (k = n0 ∨ (T k).1 = -1000) := fun h9 => h9.elim (fun h8 => c_14 (by rw [h8])) (fun h8 => c_26 (h_K.1.trans h8))
                  have h_b : ¬ zLess (T k).2.1 (T k).2.2 (T n0).2.1 (T n0).2.2 := fun h9 => by rw [e_b, if_pos h9] at c_72; exact absurd c_72 (by decide)
                  have h_a : ¬ zLess (T n0).2.1 (T n0).2.2 (T k).2.1 (T k).2.2 := fun h9 => by rw [e_a, if_pos h9] at c_47; exact absurd c_47 (by decide)
                  have hz : zNr T n0 (k + 1) = zNr T n0 k + 1 := by rw [h_un, if_neg h_no, if_pos (Or.inr ⟨h_a, Nat.not_le.mp (fun h8 => c_82 ((nI_leI (by omega) (by omega)).mpr h8))⟩)]
                  exact ih (k + 1) hkm (by omega) _ _ _ hM hS (by rw [hz]; exact lv_sub hl [3, 4, 1, 0] rfl)
        · refine lv_goto (tgt := 88) hx hb d_Rm_nearerThan_29 (by decide) ?_
          refine lv_iinc (v := (nI (k + 1))) (lv' := [(3, .int (nI (k + 1))), (0, .ref (ad 0)), (1, .int (nI n0)), (2, .int (nI (zNr T n0 k)))]) hx hb d_Rm_nearerThan_88 hl (k := 3) rfl (nI_1 k) (by decide) rfl (fun ls hl => ?_)
          refine lv_goto (tgt := 4) hx hb d_Rm_nearerThan_91 (by decide) ?_
          have hz : zNr T n0 (k + 1) = zNr T n0 k := by rw [h_un, if_pos (Or.inr (h_K.1 ▸ c_26))]
          exact ih (k + 1) hkm (by omega) _ _ _ hM hS (by rw [hz]; exact lv_sub hl [1, 2, 3, 0] rfl)

set_option maxHeartbeats 4000000 in
set_option maxRecDepth 100000 in
theorem c_Rm_nearerThan (l : Launch) (G : xG) (M : xM) (ad : Nat → Nat) (u : zS) (hC : Core G M ad u) (hO : zOk u) (T : Nat → zN3) (f : Nat → Int32) (hf : M (ad 9) = some (9, eI G 8 f)) (hT : ∀ k, k < zmn u → f k = (T k).1 ∧ M (ad (10 + k)) = some (10 + k, eGap (T k).2)) (n0 : Nat) (hn0 : n0 < zmn u) : Met l y_Rm_nearerThan w_Rm_nearerThan ({ frames := 1, cells := 0, slots := 0, locals := 30 }) (xP G [.ref (ad 0), .int (nI n0)] M) (xQi G (fun v M' => v = nI (zNr T n0 (zmn u)) ∧ M' = M)) 0 0 (xF G) := by
  refine x_met (by decide) (Nat.le_of_ble_eq_true rfl) ?_
  intro p e s m below meth c ls hE hin hl hM hK hS
  obtain ⟨hx, hb, hr, hml, hown, hw, hlocks⟩ := id hE
  have hl : lv_has ls 5 [(0, .ref (ad 0)), (1, .int (nI n0))] := hl
  refine lv_iconst (v := 0) hx hb d_Rm_nearerThan_0 (by decide) ?_
  refine lv_istore_n (lv' := [(2, .int 0), (0, .ref (ad 0)), (1, .int (nI n0))]) hx hb d_Rm_nearerThan_1 rfl hl (by decide) rfl (fun ls hl => ?_)
  refine lv_iconst (v := 0) hx hb d_Rm_nearerThan_2 (by decide) ?_
  refine lv_istore_n (lv' := [(3, .int 0), (2, .int 0), (0, .ref (ad 0)), (1, .int (nI n0))]) hx hb d_Rm_nearerThan_3 rfl hl (by decide) rfl (fun ls hl => ?_)
  exact lp_Rm_nearerThan ad u hC hO T f hf hT n0 hn0 hE hK (zmn u + 1) 0 (by omega) (by omega) _ _ _ hM hS (lv_sub hl [2, 3, 1, 0] rfl)
