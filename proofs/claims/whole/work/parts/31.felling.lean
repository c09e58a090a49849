set_option maxHeartbeats 4000000 in
set_option maxRecDepth 100000 in
theorem lp_Rm_endOfShare {p : Program} {l : Launch} {e : Env} {s : State} {m : MethodId} {below : List Frame} {meth : Method} {c : Code} {args : Array Value} {G : xG} {M : xM} (ad : Nat → Nat) (u : zS) (hC : Core G M ad u) (hO : zOk u) (a : Nat) (due : Int64) (be : Int32) (hE : xE p s m args meth c b_Rm_endOfShare (some .int) 8 R_Rm) (hK : KX G s) : ∀ (r n : Nat) (sm : Int64), n + r = 61 → zEnd (zwt u) due be.toInt64 r n sm = zEnd (zwt u) due be.toInt64 (61 - a) a 0 → ∀ (H : Heap) (locs : List Loc) (ls : Array Slot), xh G M H → va_S (xF G) s.heap H locs → lv_has ls 8 [(0, .ref (ad 0)), (2, .long due), (4, .int be), (5, .long sm), (7, .int (nI n))] → W p l e ({ frames := 0, cells := 0, slots := 0, locals := 0 }) s m args below meth c H locs 0 0 (MQ below (xQi G (fun v M' => v = zEnd (zwt u) due be.toInt64 (61 - a) a 0 ∧ M' = M)) args s 0 0 (xF G)) (F0 m 6 ls []) := by
  obtain ⟨hx, hb, hr, hml, hown, hw, hlocks⟩ := id hE
  intro r
  induction r with
  | zero =>
    intro n sm hn hz H locs ls hM hS hl
    refine lv_iload hx hb d_Rm_endOfShare_6 (lv_at hl 4 rfl) ?_
    refine lv_aload_n hx hb d_Rm_endOfShare_8 rfl (lv_at hl 0 rfl) ?_
    refine x_get (C := R_Rm) (T := F_Rm) (N := 12) hx hb hw i_Rm hown hK.1 hM hC.1 rfl 6 (by decide) (hw _ kw_71) rfl rfl d_Rm_endOfShare_9 ?_
    refine x_alen (v := nI 61) hx hb hK.1 hM hC.2.2.2.2.1 0 rfl rfl d_Rm_endOfShare_12 ?_
    refine lv_icmp_ge (tgt := 49) hx hb d_Rm_endOfShare_13 (by decide) (fun c_13 => ?_) (fun c_13 => ?_)
    · refine lv_iconst (v := (-1)) hx hb d_Rm_endOfShare_49 (by decide) ?_
      exact x_ri hE rfl hM hS ⟨by rw [← hz]; rfl, rfl⟩ (by omega) (by omega) d_Rm_endOfShare_50
    · exact absurd ((nI_leI (by omega) (by omega)).mpr (show 61 ≤ n by omega)) c_13
  | succ r ih =>
    intro n sm hn hz H locs ls hM hS hl
    refine lv_iload hx hb d_Rm_endOfShare_6 (lv_at hl 4 rfl) ?_
    refine lv_aload_n hx hb d_Rm_endOfShare_8 rfl (lv_at hl 0 rfl) ?_
    refine x_get (C := R_Rm) (T := F_Rm) (N := 12) hx hb hw i_Rm hown hK.1 hM hC.1 rfl 6 (by decide) (hw _ kw_71) rfl rfl d_Rm_endOfShare_9 ?_
    refine x_alen (v := nI 61) hx hb hK.1 hM hC.2.2.2.2.1 0 rfl rfl d_Rm_endOfShare_12 ?_
    refine lv_icmp_ge (tgt := 49) hx hb d_Rm_endOfShare_13 (by decide) (fun c_13 => ?_) (fun c_13 => ?_)
    · exact absurd ((nI_leI (by omega) (by omega)).mp c_13) (by omega)
    · refine lv_lload hx hb d_Rm_endOfShare_16 (lv_at hl 3 rfl) ?_
      refine lv_aload_n hx hb d_Rm_endOfShare_18 rfl (lv_at hl 0 rfl) ?_
      refine x_get (C := R_Rm) (T := F_Rm) (N := 12) hx hb hw i_Rm hown hK.1 hM hC.1 rfl 6 (by decide) (hw _ kw_71) rfl rfl d_Rm_endOfShare_19 ?_
      refine lv_iload hx hb d_Rm_endOfShare_22 (lv_at hl 4 rfl) ?_
      refine x_iald hx hb hK.1 hM hC.2.2.2.2.1 0 rfl rfl (by omega) (by decide) d_Rm_endOfShare_24 ?_
      refine lv_i2l (v := ((zwt u) n).toInt64) hx hb d_Rm_endOfShare_25 rfl ?_
      refine lv_ladd hx hb d_Rm_endOfShare_26 ?_
      refine lv_lstore (lv' := [(5, .long (sm + (((zwt u) n).toInt64))), (0, .ref (ad 0)), (2, .long due), (4, .int be), (7, .int (nI n))]) hx hb d_Rm_endOfShare_27 hl (by decide) rfl (fun ls hl => ?_)
      refine lv_lload hx hb d_Rm_endOfShare_29 (lv_at hl 0 rfl) ?_
      refine lv_iload hx hb d_Rm_endOfShare_31 (lv_at hl 3 rfl) ?_
      refine lv_i2l (v := be.toInt64) hx hb d_Rm_endOfShare_33 rfl ?_
      refine lv_lmul hx hb d_Rm_endOfShare_34 ?_
      refine lv_lload_n hx hb d_Rm_endOfShare_35 rfl (lv_at hl 2 rfl) ?_
      refine W.lcmp hx hb d_Rm_endOfShare_36 ?_
      refine lv_if_lt (tgt := 43) hx hb d_Rm_endOfShare_37 (by decide) (fun c_37 => ?_) (fun c_37 => ?_)
      · refine lv_iinc (v := (nI (n + 1))) (lv' := [(7, .int (nI (n + 1))), (5, .long (sm + (((zwt u) n).toInt64))), (0, .ref (ad 0)), (2, .long due), (4, .int be)]) hx hb d_Rm_endOfShare_43 hl (k := 4) rfl (nI_1 n) (by decide) rfl (fun ls hl => ?_)
        refine lv_goto (tgt := 6) hx hb d_Rm_endOfShare_46 (by decide) ?_
        exact ih (n + 1) _ (by omega) (by rw [← hz]; show _ = (if _ then _ else _); rw [if_pos ((lg_cmp_lt _ _).mp c_37)]) _ _ _ hM hS (lv_sub hl [2, 3, 4, 1, 0] rfl)
      · refine lv_iload hx hb d_Rm_endOfShare_40 (lv_at hl 4 rfl) ?_
        exact x_ri hE rfl hM hS ⟨by rw [← hz]; show _ = (if _ then _ else _); rw [if_neg (fun h9 => c_37 ((lg_cmp_lt _ _).mpr h9))], rfl⟩ (by omega) (by omega) d_Rm_endOfShare_42

set_option maxHeartbeats 4000000 in
set_option maxRecDepth 100000 in
theorem c_Rm_endOfShare (l : Launch) (G : xG) (M : xM) (ad : Nat → Nat) (u : zS) (hC : Core G M ad u) (hO : zOk u) (a : Nat) (ha : a ≤ 61) (due : Int64) (be : Int32) : Met l y_Rm_endOfShare w_Rm_endOfShare ({ frames := 0, cells := 0, slots := 0, locals := 0 }) (xP G [.ref (ad 0), .int (nI a), .long due, .int be] M) (xQi G (fun v M' => v = zEnd (zwt u) due be.toInt64 (61 - a) a 0 ∧ M' = M)) 0 0 (xF G) := by
  refine x_met (by decide) (Nat.le_of_ble_eq_true rfl) ?_
  intro p e s m below meth c ls hE hin hl hM hK hS
  obtain ⟨hx, hb, hr, hml, hown, hw, hlocks⟩ := id hE
  have hl : lv_has ls 8 [(0, .ref (ad 0)), (1, .int (nI a)), (2, .long due), (4, .int be)] := hl
  refine lv_lconst (v := 0) hx hb d_Rm_endOfShare_0 (by decide) ?_
  refine lv_lstore (lv' := [(5, .long 0), (0, .ref (ad 0)), (1, .int (nI a)), (2, .long due), (4, .int be)]) hx hb d_Rm_endOfShare_1 hl (by decide) rfl (fun ls hl => ?_)
  refine lv_iload_n hx hb d_Rm_endOfShare_3 rfl (lv_at hl 2 rfl) ?_
  refine lv_istore (lv' := [(7, .int (nI a)), (5, .long 0), (0, .ref (ad 0)), (1, .int (nI a)), (2, .long due), (4, .int be)]) hx hb d_Rm_endOfShare_4 hl (by decide) rfl (fun ls hl => ?_)
  exact lp_Rm_endOfShare ad u hC hO a due be hE hK (61 - a) a 0 (by omega) rfl _ _ _ hM hS (lv_sub hl [2, 4, 5, 1, 0] rfl)

set_option maxHeartbeats 4000000 in
set_option maxRecDepth 100000 in
theorem lp_Rm_shortB {p : Program} {l : Launch} {e : Env} {s : State} {m : MethodId} {below : List Frame} {meth : Method} {c : Code} {args : Array Value} {G : xG} {M : xM} (ad : Nat → Nat) (u : zS) (hC : Core G M ad u) (hO : zOk u) (a : Nat) (la ab be : Int32) (al : Int64) (hal : al = zAll (zwt u) (61 - a) a 0) (hnz : ¬ lg_cmp al 0 = 0) (hE : xE p s m args meth c b_Rm_shortestYears (some .int) 11 R_Rm) (hK : KX G s) : ∀ (r n : Nat) (q : Int32 × Int32), n + r = 61 → zShB (zwt u) (ab.toInt64 * al) be.toInt64 r n q = zShB (zwt u) (ab.toInt64 * al) be.toInt64 (61 - a) a (nI a, 60) → ∀ (H : Heap) (locs : List Loc) (ls : Array Slot), xh G M H → va_S (xF G) s.heap H locs → lv_has ls 11 [(0, .ref (ad 0)), (1, .int la), (3, .int ab), (4, .int be), (5, .long al), (7, .int q.1), (8, .int q.2), (9, .int (nI n))] → W p l e ({ frames := 1, cells := 0, slots := 0, locals := 40 }) s m args below meth c H locs 0 0 (MQ below (xQi G (fun v M' => v = zSh (zwt u) la a ab be ∧ M' = M)) args s 0 0 (xF G)) (F0 m 54 ls []) := by
  obtain ⟨hx, hb, hr, hml, hown, hw, hlocks⟩ := id hE
  intro r
  induction r with
  | zero =>
    intro n q hn hz H locs ls hM hS hl
    refine lv_iload hx hb d_Rm_shortestYears_54 (lv_at hl 7 rfl) ?_
    refine lv_aload_n hx hb d_Rm_shortestYears_56 rfl (lv_at hl 0 rfl) ?_
    refine x_get (C := R_Rm) (T := F_Rm) (N := 12) hx hb hw i_Rm hown hK.1 hM hC.1 rfl 6 (by decide) (hw _ kw_71) rfl rfl d_Rm_shortestYears_57 ?_
    refine x_alen (v := nI 61) hx hb hK.1 hM hC.2.2.2.2.1 0 rfl rfl d_Rm_shortestYears_60 ?_
    refine lv_icmp_ge (tgt := 112) hx hb d_Rm_shortestYears_61 (by decide) (fun c_61 => ?_) (fun c_61 => ?_)
    · refine lv_sipush (v := 1000) hx hb d_Rm_shortestYears_112 (by decide) ?_
      refine lv_iload_n hx hb d_Rm_shortestYears_115 rfl (lv_at hl 1 rfl) ?_
      refine lv_iload hx hb d_Rm_shortestYears_116 (lv_at hl 5 rfl) ?_
      refine lv_iadd hx hb d_Rm_shortestYears_118 ?_
      refine lv_imul hx hb d_Rm_shortestYears_119 ?_
      refine lv_iload_n hx hb d_Rm_shortestYears_120 rfl (lv_at hl 1 rfl) ?_
      refine lv_iadd hx hb d_Rm_shortestYears_121 ?_
      refine lv_iload hx hb d_Rm_shortestYears_122 (lv_at hl 6 rfl) ?_
      refine lv_iadd hx hb d_Rm_shortestYears_124 ?_
      have hz9 : q = zShB (zwt u) (ab.toInt64 * al) be.toInt64 (61 - a) a (nI a, 60) := hz
      exact x_ri hE rfl hM hS ⟨by unfold zSh; rw [← hal, if_neg hnz, ← hz9], rfl⟩ (by decide) (by decide) d_Rm_shortestYears_125
    · exact absurd ((nI_leI (by omega) (by omega)).mpr (show 61 ≤ n by omega)) c_61
  | succ r ih =>
    intro n q hn hz H locs ls hM hS hl
    refine lv_iload hx hb d_Rm_shortestYears_54 (lv_at hl 7 rfl) ?_
    refine lv_aload_n hx hb d_Rm_shortestYears_56 rfl (lv_at hl 0 rfl) ?_
    refine x_get (C := R_Rm) (T := F_Rm) (N := 12) hx hb hw i_Rm hown hK.1 hM hC.1 rfl 6 (by decide) (hw _ kw_71) rfl rfl d_Rm_shortestYears_57 ?_
    refine x_alen (v := nI 61) hx hb hK.1 hM hC.2.2.2.2.1 0 rfl rfl d_Rm_shortestYears_60 ?_
    refine lv_icmp_ge (tgt := 112) hx hb d_Rm_shortestYears_61 (by decide) (fun c_61 => ?_) (fun c_61 => ?_)
    · exact absurd ((nI_leI (by omega) (by omega)).mp c_61) (by omega)
    · refine lv_aload_n hx hb d_Rm_shortestYears_64 rfl (lv_at hl 0 rfl) ?_
      refine lv_iload hx hb d_Rm_shortestYears_65 (lv_at hl 7 rfl) ?_
      refine lv_iload_n hx hb d_Rm_shortestYears_67 rfl (lv_at hl 2 rfl) ?_
      refine lv_i2l (v := ab.toInt64) hx hb d_Rm_shortestYears_68 rfl ?_
      refine lv_lload hx hb d_Rm_shortestYears_69 (lv_at hl 4 rfl) ?_
      refine lv_lmul hx hb d_Rm_shortestYears_71 ?_
      refine lv_iload hx hb d_Rm_shortestYears_72 (lv_at hl 3 rfl) ?_
      refine x_ci (x_runV (As := [.int (nI n), .long ((ab.toInt64) * al), .int be]) (rest := []) hE hK hM hl.1 (c_Rm_endOfShare l G M ad u hC hO n (by omega) (ab.toInt64 * al) be) hC.1 rfl kw_495 kw_497 ks_15 kw_1 kw_498 3 rfl rfl rfl (by decide +kernel) ⟨by decide, by decide⟩ rfl (Nat.le_of_ble_eq_true rfl) d_Rm_shortestYears_74 ⟨by decide, by decide⟩) hS (fun r1 M1 H locs hp hM hS => ?_)
      obtain ⟨e_r, e_M⟩ := hp
      have hM : xh G M H := e_M ▸ hM
      refine lv_istore (lv' := [(10, .int r1), (0, .ref (ad 0)), (1, .int la), (3, .int ab), (4, .int be), (5, .long al), (7, .int q.1), (8, .int q.2), (9, .int (nI n))]) hx hb d_Rm_shortestYears_77 hl (by decide) rfl (fun ls hl => ?_)
      refine lv_iload hx hb d_Rm_shortestYears_79 (lv_at hl 0 rfl) ?_
      refine lv_iconst (v := (-1)) hx hb d_Rm_shortestYears_81 (by decide) ?_
      refine lv_icmp_eq (tgt := 106) hx hb d_Rm_shortestYears_82 (by decide) (fun c_82 => ?_) (fun c_82 => ?_)
      · refine lv_iinc (v := (nI (n + 1))) (lv' := [(9, .int (nI (n + 1))), (10, .int r1), (0, .ref (ad 0)), (1, .int la), (3, .int ab), (4, .int be), (5, .long al), (7, .int q.1), (8, .int q.2)]) hx hb d_Rm_shortestYears_106 hl (k := 8) rfl (nI_1 n) (by decide) rfl (fun ls hl => ?_)
        refine lv_goto (tgt := 54) hx hb d_Rm_shortestYears_109 (by decide) ?_
        refine ih (n + 1) q (by omega) (by rw [← hz]; show _ = zShB _ _ _ r (n + 1) (if _ then _ else _); rw [if_pos (e_r ▸ c_82)]) _ _ _ hM hS (lv_sub hl [2, 3, 4, 5, 6, 7, 8, 0] rfl)
      · refine lv_iload hx hb d_Rm_shortestYears_85 (lv_at hl 0 rfl) ?_
        refine lv_iload hx hb d_Rm_shortestYears_87 (lv_at hl 8 rfl) ?_
        refine lv_isub hx hb d_Rm_shortestYears_89 ?_
        refine lv_iload hx hb d_Rm_shortestYears_90 (lv_at hl 7 rfl) ?_
        refine lv_iload hx hb d_Rm_shortestYears_92 (lv_at hl 6 rfl) ?_
        refine lv_isub hx hb d_Rm_shortestYears_94 ?_
        refine lv_icmp_ge (tgt := 106) hx hb d_Rm_shortestYears_95 (by decide) (fun c_95 => ?_) (fun c_95 => ?_)
        · refine lv_iinc (v := (nI (n + 1))) (lv' := [(9, .int (nI (n + 1))), (10, .int r1), (0, .ref (ad 0)), (1, .int la), (3, .int ab), (4, .int be), (5, .long al), (7, .int q.1), (8, .int q.2)]) hx hb d_Rm_shortestYears_106 hl (k := 8) rfl (nI_1 n) (by decide) rfl (fun ls hl => ?_)
          refine lv_goto (tgt := 54) hx hb d_Rm_shortestYears_109 (by decide) ?_
          refine ih (n + 1) q (by omega) (by rw [← hz]; show _ = zShB _ _ _ r (n + 1) (if _ then _ else _); rw [if_neg (fun h9 => c_82 (e_r.trans h9)), if_pos (e_r ▸ c_95)]) _ _ _ hM hS (lv_sub hl [2, 3, 4, 5, 6, 7, 8, 0] rfl)
        · refine lv_iload hx hb d_Rm_shortestYears_98 (lv_at hl 8 rfl) ?_
          refine lv_istore (lv' := [(7, .int (nI n)), (10, .int r1), (0, .ref (ad 0)), (1, .int la), (3, .int ab), (4, .int be), (5, .long al), (8, .int q.2), (9, .int (nI n))]) hx hb d_Rm_shortestYears_100 hl (by decide) rfl (fun ls hl => ?_)
          refine lv_iload hx hb d_Rm_shortestYears_102 (lv_at hl 1 rfl) ?_
          refine lv_istore (lv' := [(8, .int r1), (7, .int (nI n)), (10, .int r1), (0, .ref (ad 0)), (1, .int la), (3, .int ab), (4, .int be), (5, .long al), (9, .int (nI n))]) hx hb d_Rm_shortestYears_104 hl (by decide) rfl (fun ls hl => ?_)
          refine lv_iinc (v := (nI (n + 1))) (lv' := [(9, .int (nI (n + 1))), (8, .int r1), (7, .int (nI n)), (10, .int r1), (0, .ref (ad 0)), (1, .int la), (3, .int ab), (4, .int be), (5, .long al)]) hx hb d_Rm_shortestYears_106 hl (k := 8) rfl (nI_1 n) (by decide) rfl (fun ls hl => ?_)
          refine lv_goto (tgt := 54) hx hb d_Rm_shortestYears_109 (by decide) ?_
          refine ih (n + 1) ((nI n), r1) (by omega) (by rw [← hz]; show _ = zShB _ _ _ r (n + 1) (if _ then _ else _); rw [if_neg (fun h9 => c_82 (e_r.trans h9)), if_neg (fun h9 => c_95 (by rw [e_r]; exact h9)), ← e_r]) _ _ _ hM hS (lv_sub hl [4, 5, 6, 7, 8, 2, 1, 0] rfl)

set_option maxHeartbeats 4000000 in
set_option maxRecDepth 100000 in
theorem lp_Rm_shortA {p : Program} {l : Launch} {e : Env} {s : State} {m : MethodId} {below : List Frame} {meth : Method} {c : Code} {args : Array Value} {G : xG} {M : xM} (ad : Nat → Nat) (u : zS) (hC : Core G M ad u) (hO : zOk u) (a : Nat) (ha : a ≤ 61) (la ab be : Int32) (hE : xE p s m args meth c b_Rm_shortestYears (some .int) 11 R_Rm) (hK : KX G s) : ∀ (r n : Nat) (sm : Int64), n + r = 61 → zAll (zwt u) r n sm = zAll (zwt u) (61 - a) a 0 → ∀ (H : Heap) (locs : List Loc) (ls : Array Slot), xh G M H → va_S (xF G) s.heap H locs → lv_has ls 11 [(0, .ref (ad 0)), (1, .int la), (2, .int (nI a)), (3, .int ab), (4, .int be), (5, .long sm), (7, .int (nI n))] → W p l e ({ frames := 1, cells := 0, slots := 0, locals := 40 }) s m args below meth c H locs 0 0 (MQ below (xQi G (fun v M' => v = zSh (zwt u) la a ab be ∧ M' = M)) args s 0 0 (xF G)) (F0 m 6 ls []) := by
  obtain ⟨hx, hb, hr, hml, hown, hw, hlocks⟩ := id hE
  intro r
  induction r with
  | zero =>
    intro n sm hn hz H locs ls hM hS hl
    refine lv_iload hx hb d_Rm_shortestYears_6 (lv_at hl 6 rfl) ?_
    refine lv_aload_n hx hb d_Rm_shortestYears_8 rfl (lv_at hl 0 rfl) ?_
    refine x_get (C := R_Rm) (T := F_Rm) (N := 12) hx hb hw i_Rm hown hK.1 hM hC.1 rfl 6 (by decide) (hw _ kw_71) rfl rfl d_Rm_shortestYears_9 ?_
    refine x_alen (v := nI 61) hx hb hK.1 hM hC.2.2.2.2.1 0 rfl rfl d_Rm_shortestYears_12 ?_
    refine lv_icmp_ge (tgt := 35) hx hb d_Rm_shortestYears_13 (by decide) (fun c_13 => ?_) (fun c_13 => ?_)
    · have hal : sm = zAll (zwt u) (61 - a) a 0 := hz
      refine lv_lload hx hb d_Rm_shortestYears_35 (lv_at hl 5 rfl) ?_
      refine lv_lconst (v := 0) hx hb d_Rm_shortestYears_37 (by decide) ?_
      refine W.lcmp hx hb d_Rm_shortestYears_38 ?_
      refine lv_if_ne (tgt := 44) hx hb d_Rm_shortestYears_39 (by decide) (fun c_39 => ?_) (fun c_39 => ?_)
      · refine lv_iload_n hx hb d_Rm_shortestYears_44 rfl (lv_at hl 2 rfl) ?_
        refine lv_istore (lv' := [(7, .int (nI a)), (0, .ref (ad 0)), (1, .int la), (2, .int (nI a)), (3, .int ab), (4, .int be), (5, .long sm)]) hx hb d_Rm_shortestYears_45 hl (by decide) rfl (fun ls hl => ?_)
        refine lv_bipush (v := 60) hx hb d_Rm_shortestYears_47 (by decide) ?_
        refine lv_istore (lv' := [(8, .int 60), (7, .int (nI a)), (0, .ref (ad 0)), (1, .int la), (2, .int (nI a)), (3, .int ab), (4, .int be), (5, .long sm)]) hx hb d_Rm_shortestYears_49 hl (by decide) rfl (fun ls hl => ?_)
        refine lv_iload_n hx hb d_Rm_shortestYears_51 rfl (lv_at hl 4 rfl) ?_
        refine lv_istore (lv' := [(9, .int (nI a)), (8, .int 60), (7, .int (nI a)), (0, .ref (ad 0)), (1, .int la), (2, .int (nI a)), (3, .int ab), (4, .int be), (5, .long sm)]) hx hb d_Rm_shortestYears_52 hl (by decide) rfl (fun ls hl => ?_)
        exact lp_Rm_shortB ad u hC hO a la ab be sm hal c_39 hE hK (61 - a) a (nI a, 60) (by omega) rfl _ _ _ hM hS (lv_sub hl [3, 4, 6, 7, 8, 2, 1, 0] rfl)
      · refine lv_iconst (v := (-1)) hx hb d_Rm_shortestYears_42 (by decide) ?_
        exact x_ri hE rfl hM hS ⟨by unfold zSh; rw [← hal, if_pos c_39], rfl⟩ (by omega) (by omega) d_Rm_shortestYears_43
    · exact absurd ((nI_leI (by omega) (by omega)).mpr (show 61 ≤ n by omega)) c_13
  | succ r ih =>
    intro n sm hn hz H locs ls hM hS hl
    refine lv_iload hx hb d_Rm_shortestYears_6 (lv_at hl 6 rfl) ?_
    refine lv_aload_n hx hb d_Rm_shortestYears_8 rfl (lv_at hl 0 rfl) ?_
    refine x_get (C := R_Rm) (T := F_Rm) (N := 12) hx hb hw i_Rm hown hK.1 hM hC.1 rfl 6 (by decide) (hw _ kw_71) rfl rfl d_Rm_shortestYears_9 ?_
    refine x_alen (v := nI 61) hx hb hK.1 hM hC.2.2.2.2.1 0 rfl rfl d_Rm_shortestYears_12 ?_
    refine lv_icmp_ge (tgt := 35) hx hb d_Rm_shortestYears_13 (by decide) (fun c_13 => ?_) (fun c_13 => ?_)
    · exact absurd ((nI_leI (by omega) (by omega)).mp c_13) (by omega)
    · refine lv_lload hx hb d_Rm_shortestYears_16 (lv_at hl 5 rfl) ?_
      refine lv_aload_n hx hb d_Rm_shortestYears_18 rfl (lv_at hl 0 rfl) ?_
      refine x_get (C := R_Rm) (T := F_Rm) (N := 12) hx hb hw i_Rm hown hK.1 hM hC.1 rfl 6 (by decide) (hw _ kw_71) rfl rfl d_Rm_shortestYears_19 ?_
      refine lv_iload hx hb d_Rm_shortestYears_22 (lv_at hl 6 rfl) ?_
      refine x_iald hx hb hK.1 hM hC.2.2.2.2.1 0 rfl rfl (by omega) (by decide) d_Rm_shortestYears_24 ?_
      refine lv_i2l (v := ((zwt u) n).toInt64) hx hb d_Rm_shortestYears_25 rfl ?_
      refine lv_ladd hx hb d_Rm_shortestYears_26 ?_
      refine lv_lstore (lv' := [(5, .long (sm + (((zwt u) n).toInt64))), (0, .ref (ad 0)), (1, .int la), (2, .int (nI a)), (3, .int ab), (4, .int be), (7, .int (nI n))]) hx hb d_Rm_shortestYears_27 hl (by decide) rfl (fun ls hl => ?_)
      refine lv_iinc (v := (nI (n + 1))) (lv' := [(7, .int (nI (n + 1))), (5, .long (sm + (((zwt u) n).toInt64))), (0, .ref (ad 0)), (1, .int la), (2, .int (nI a)), (3, .int ab), (4, .int be)]) hx hb d_Rm_shortestYears_29 hl (k := 6) rfl (nI_1 n) (by decide) rfl (fun ls hl => ?_)
      refine lv_goto (tgt := 6) hx hb d_Rm_shortestYears_32 (by decide) ?_
      exact ih (n + 1) _ (by omega) (by rw [← hz]; rfl) _ _ _ hM hS (lv_sub hl [2, 3, 4, 5, 6, 1, 0] rfl)

set_option maxHeartbeats 4000000 in
set_option maxRecDepth 100000 in
theorem c_Rm_shortestYears (l : Launch) (G : xG) (M : xM) (ad : Nat → Nat) (u : zS) (hC : Core G M ad u) (hO : zOk u) (a : Nat) (ha : a ≤ 61) (la ab be : Int32) : Met l y_Rm_shortestYears w_Rm_shortestYears ({ frames := 1, cells := 0, slots := 0, locals := 40 }) (xP G [.ref (ad 0), .int la, .int (nI a), .int ab, .int be] M) (xQi G (fun v M' => v = zSh (zwt u) la a ab be ∧ M' = M)) 0 0 (xF G) := by
  refine x_met (by decide) (Nat.le_of_ble_eq_true rfl) ?_
  intro p e s m below meth c ls hE hin hl hM hK hS
  obtain ⟨hx, hb, hr, hml, hown, hw, hlocks⟩ := id hE
  have hl : lv_has ls 11 [(0, .ref (ad 0)), (1, .int la), (2, .int (nI a)), (3, .int ab), (4, .int be)] := hl
  refine lv_lconst (v := 0) hx hb d_Rm_shortestYears_0 (by decide) ?_
  refine lv_lstore (lv' := [(5, .long 0), (0, .ref (ad 0)), (1, .int la), (2, .int (nI a)), (3, .int ab), (4, .int be)]) hx hb d_Rm_shortestYears_1 hl (by decide) rfl (fun ls hl => ?_)
  refine lv_iload_n hx hb d_Rm_shortestYears_3 rfl (lv_at hl 3 rfl) ?_
  refine lv_istore (lv' := [(7, .int (nI a)), (5, .long 0), (0, .ref (ad 0)), (1, .int la), (2, .int (nI a)), (3, .int ab), (4, .int be)]) hx hb d_Rm_shortestYears_4 hl (by decide) rfl (fun ls hl => ?_)
  exact lp_Rm_shortA ad u hC hO a ha la ab be hE hK (61 - a) a 0 (by omega) rfl _ _ _ hM hS (lv_sub hl [2, 3, 4, 5, 6, 1, 0] rfl)

set_option maxHeartbeats 4000000 in
set_option maxRecDepth 100000 in
theorem c_Rm_felling (l : Launch) (G : xG) (M : xM) (hst : l.stackTraces = false) (ad : Nat → Nat) (u : zS) (hC : Core G M ad u) (hO : zOk u) (x sap ab be : Int32) : vx_Met l y_Rm_felling w_Rm_felling ({ frames := 7, cells := 2, slots := 12, locals := 125 }) (xP G [.ref (ad 0), .int x, .int sap, .int ab, .int be] M) (xQi G (fun v M' => fFell u x sap ab be = (0, v) ∧ M' = M)) (xX G (fun E M' => ((fFell u x sap ab be = (1, 0) ∧ E = nIOE) ∨ (fFell u x sap ab be = (2, 0) ∧ E = nISE) ∨ (fFell u x sap ab be = (3, 0) ∧ E = nIAE)) ∧ M' = M)) 2 12 (xF G) := by
  refine x_metX (by decide) (Nat.le_of_ble_eq_true rfl) ?_
  intro p e s m below meth c ls hE hnx hl hM hK hS
  obtain ⟨hx, hb, hr, hml, hown, hw, hlocks⟩ := id hE
  have h0 := hM
  have hl : lv_has ls 7 [(0, .ref (ad 0)), (1, .int x), (2, .int sap), (3, .int ab), (4, .int be)] := hl
  refine lv_aload_n hx hb d_Rm_felling_0 rfl (lv_at hl 0 rfl) ?_
  refine lv_iload_n hx hb d_Rm_felling_1 rfl (lv_at hl 1 rfl) ?_
  refine x_cxr (x_runVX (As := [.int x]) (rest := []) hE hK hM hl.1 (c_Rm_rowOf l G M hst ad u hC hO x) hC.1 rfl kw_232 kw_234 ks_2 kw_1 kw_235 1 rfl rfl rfl (by decide +kernel) ⟨by decide, by decide⟩ rfl (Nat.le_of_ble_eq_true rfl) d_Rm_felling_2 ⟨by decide, by decide⟩) hS (fun E ce q9 M1 H locs hp hM hS hq1 hq2 hq3 => ?_) (fun r1 M1 H locs hp hM hS => ?_)
  · obtain ⟨h_x, rfl, e_M⟩ := hp
    have hM : xh G M H := e_M ▸ hM
    exact x_out hE hnx hM hS hq1 hq2 hq3 ⟨Or.inl ⟨by unfold fFell; rw [if_neg h_x], rfl⟩, rfl⟩ (by decide) (by decide)
  obtain ⟨h_in, e_a, e_M⟩ := hp
  have hM : xh G M H := e_M ▸ hM
  obtain ⟨i, e_i, h_i, ex_i⟩ := z_in h_in (by have := hO.2.2.1; omega)
  rw [← e_i] at e_a
  subst e_a
  have hR_i := hC.2.2.2.2.2.2.1 i h_i
  have hZ_i := hO.2.2.2.1 i h_i
  refine lv_astore (lv' := [(5, .ref (ad (20 + i))), (0, .ref (ad 0)), (1, .int x), (2, .int sap), (3, .int ab), (4, .int be)]) hx hb d_Rm_felling_5 hl (by decide) rfl (fun ls hl => ?_)
  refine lv_aload hx hb d_Rm_felling_7 (lv_at hl 0 rfl) ?_
  refine x_getN (C := R_Row) (T := F_Row) (N := 2) (host := R_Rm) hx hb hw i_Row hown hK.1 hM hR_i.1 rfl 1 (by decide) (va_Nw.use rfl (hK.2.1.1 (97, R_Row, "start", "I") (by decide))) rfl rfl d_Rm_felling_9 ?_
  refine lv_iconst (v := (-1)) hx hb d_Rm_felling_12 (by decide) ?_
  refine lv_icmp_ne (tgt := 26) hx hb d_Rm_felling_13 (by decide) (fun c_13 => ?_) (fun c_13 => ?_)
  · refine lv_iload_n hx hb d_Rm_felling_26 rfl (lv_at hl 3 rfl) ?_
    refine lv_if_lt (tgt := 40) hx hb d_Rm_felling_27 (by decide) (fun c_27 => ?_) (fun c_27 => ?_)
    · exact x_iae (is := 199) (text := "no such number of rings of sapwood") hst hE hnx hK h0 hM hS hl.1 (by decide) d_Rm_felling_40 d_Rm_felling_43 d_Rm_felling_44 d_Rm_felling_46 d_Rm_felling_49 (by decide) (Nat.le_of_ble_eq_true rfl) ⟨by decide, by decide⟩ ⟨by decide, by decide⟩ (⟨Or.inr (Or.inr ⟨by unfold fFell; rw [if_pos h_in, ← e_i, if_neg c_13, if_pos (Or.inl c_27)], rfl⟩), rfl⟩)
    · refine lv_iload_n hx hb d_Rm_felling_30 rfl (lv_at hl 3 rfl) ?_
      refine lv_aload hx hb d_Rm_felling_31 (lv_at hl 0 rfl) ?_
      refine x_getN (C := R_Row) (T := F_Row) (N := 2) (host := R_Rm) hx hb hw i_Row hown hK.1 hM hR_i.1 rfl 0 (by decide) (va_Nw.use rfl (hK.2.1.1 (87, R_Row, "even", "[I") (by decide))) rfl rfl d_Rm_felling_33 ?_
      refine x_alen (v := nI (zln u i)) hx hb hK.1 hM hR_i.2 0 rfl rfl d_Rm_felling_36 ?_
      refine lv_icmp_le (tgt := 50) hx hb d_Rm_felling_37 (by decide) (fun c_37 => ?_) (fun c_37 => ?_)
      · refine lv_iload_n hx hb d_Rm_felling_50 rfl (lv_at hl 4 rfl) ?_
        refine lv_iconst (v := 1) hx hb d_Rm_felling_51 (by decide) ?_
        refine lv_icmp_lt (tgt := 69) hx hb d_Rm_felling_52 (by decide) (fun c_52 => ?_) (fun c_52 => ?_)
        · exact x_iae (is := 201) (text := "no such share") hst hE hnx hK h0 hM hS hl.1 (by decide) d_Rm_felling_69 d_Rm_felling_72 d_Rm_felling_73 d_Rm_felling_75 d_Rm_felling_78 (by decide) (Nat.le_of_ble_eq_true rfl) ⟨by decide, by decide⟩ ⟨by decide, by decide⟩ (⟨Or.inr (Or.inr ⟨by unfold fFell; rw [if_pos h_in, ← e_i, if_neg c_13, if_neg (fun h9 => h9.elim c_27 (z_nlt c_37)), if_pos (Or.inl c_52)], rfl⟩), rfl⟩)
        · refine lv_iload_n hx hb d_Rm_felling_55 rfl (lv_at hl 4 rfl) ?_
          refine lv_iload hx hb d_Rm_felling_56 (lv_at hl 5 rfl) ?_
          refine lv_icmp_gt (tgt := 69) hx hb d_Rm_felling_58 (by decide) (fun c_58 => ?_) (fun c_58 => ?_)
          · exact x_iae (is := 201) (text := "no such share") hst hE hnx hK h0 hM hS hl.1 (by decide) d_Rm_felling_69 d_Rm_felling_72 d_Rm_felling_73 d_Rm_felling_75 d_Rm_felling_78 (by decide) (Nat.le_of_ble_eq_true rfl) ⟨by decide, by decide⟩ ⟨by decide, by decide⟩ (⟨Or.inr (Or.inr ⟨by unfold fFell; rw [if_pos h_in, ← e_i, if_neg c_13, if_neg (fun h9 => h9.elim c_27 (z_nlt c_37)), if_pos (Or.inr (Or.inl c_58))], rfl⟩), rfl⟩)
          · refine lv_iload hx hb d_Rm_felling_61 (lv_at hl 5 rfl) ?_
            refine lv_sipush (v := 1000) hx hb d_Rm_felling_63 (by decide) ?_
            refine lv_icmp_le (tgt := 79) hx hb d_Rm_felling_66 (by decide) (fun c_66 => ?_) (fun c_66 => ?_)
            · refine lv_aload hx hb d_Rm_felling_79 (lv_at hl 0 rfl) ?_
              refine x_ci (x_runV (As := []) (rest := []) hE hK hM hl.1 (c_Row_lastYear l G M (ad (20 + i)) (20 + i) (ad (30 + i)) (30 + i) (zln u i) (zev u i) (zst u i) hR_i.1 hR_i.2) hR_i.1 rfl kw_290 kw_291 kw_292 kw_10 kw_293 0 rfl rfl rfl (by decide +kernel) ⟨by decide, by decide⟩ rfl (Nat.le_of_ble_eq_true rfl) d_Rm_felling_81 ⟨by decide, by decide⟩) hS (fun r2 M1 H locs hp hM hS => ?_)
              obtain ⟨e_l, e_M⟩ := hp
              have hM : xh G M H := e_M ▸ hM
              subst e_l
              refine lv_iload_n hx hb d_Rm_felling_84 rfl (lv_at hl 3 rfl) ?_
              refine lv_isub hx hb d_Rm_felling_85 ?_
              refine lv_istore (lv' := [(6, .int ((zst u i + nI (zln u i) - 1) - sap)), (5, .ref (ad (20 + i))), (0, .ref (ad 0)), (1, .int x), (2, .int sap), (3, .int ab), (4, .int be)]) hx hb d_Rm_felling_86 hl (by decide) rfl (fun ls hl => ?_)
              refine lv_aload_n hx hb d_Rm_felling_88 rfl (lv_at hl 2 rfl) ?_
              refine lv_iload hx hb d_Rm_felling_89 (lv_at hl 0 rfl) ?_
              refine lv_iload_n hx hb d_Rm_felling_91 rfl (lv_at hl 4 rfl) ?_
              refine lv_iload_n hx hb d_Rm_felling_92 rfl (lv_at hl 5 rfl) ?_
              refine lv_iload hx hb d_Rm_felling_93 (lv_at hl 6 rfl) ?_
              obtain ⟨a, e_a, h_a, ex_a⟩ := z_in (x := sap) (n := 31) ⟨c_27, fun h9 => absurd (Int32.le_trans h9 c_37) (by rw [nI_leI (by decide) (by omega)]; omega)⟩ (by decide)
              have h_sap : ¬ (sap < 0 ∨ nI (zln u i) < sap) := fun h9 => h9.elim c_27 (z_nlt c_37)
              subst ex_a
              refine x_ci (x_runV (As := [.int ((zst u i + nI (zln u i) - 1) - (nI a)), .int (nI a), .int ab, .int be]) (rest := []) hE hK hM hl.1 (c_Rm_shortestYears l G M ad u hC hO a (by omega) (zst u i + nI (zln u i) - 1 - nI a) ab be) hC.1 rfl kw_491 kw_493 ks_14 kw_1 kw_494 4 rfl rfl rfl (by decide +kernel) ⟨by decide, by decide⟩ rfl (Nat.le_of_ble_eq_true rfl) d_Rm_felling_95 ⟨by decide, by decide⟩) hS (fun r3 M1 H locs hp hM hS => ?_)
              obtain ⟨e_r, e_M⟩ := hp
              have hM : xh G M H := e_M ▸ hM
              refine vx_ret ?_
              exact x_ri hE rfl hM hS ⟨by unfold fFell; rw [if_pos h_in, ← e_i, if_neg c_13, if_neg h_sap, if_neg (fun h9 => h9.elim c_52 (fun h8 => h8.elim c_58 (z_nlt c_66))), e_r, ← e_a], rfl⟩ (by omega) (by omega) d_Rm_felling_98
            · exact x_iae (is := 201) (text := "no such share") hst hE hnx hK h0 hM hS hl.1 (by decide) d_Rm_felling_69 d_Rm_felling_72 d_Rm_felling_73 d_Rm_felling_75 d_Rm_felling_78 (by decide) (Nat.le_of_ble_eq_true rfl) ⟨by decide, by decide⟩ ⟨by decide, by decide⟩ (⟨Or.inr (Or.inr ⟨by unfold fFell; rw [if_pos h_in, ← e_i, if_neg c_13, if_neg (fun h9 => h9.elim c_27 (z_nlt c_37)), if_pos (Or.inr (Or.inr (Int32.not_le.mp c_66)))], rfl⟩), rfl⟩)
      · exact x_iae (is := 199) (text := "no such number of rings of sapwood") hst hE hnx hK h0 hM hS hl.1 (by decide) d_Rm_felling_40 d_Rm_felling_43 d_Rm_felling_44 d_Rm_felling_46 d_Rm_felling_49 (by decide) (Nat.le_of_ble_eq_true rfl) ⟨by decide, by decide⟩ ⟨by decide, by decide⟩ (⟨Or.inr (Or.inr ⟨by unfold fFell; rw [if_pos h_in, ← e_i, if_neg c_13, if_pos (Or.inr (Int32.not_le.mp c_37))], rfl⟩), rfl⟩)
  · exact x_ise (is := 197) (text := "the series floats") hst hE hnx hK h0 hM hS hl.1 (by decide) d_Rm_felling_16 d_Rm_felling_19 d_Rm_felling_20 d_Rm_felling_22 d_Rm_felling_25 (by decide) (Nat.le_of_ble_eq_true rfl) ⟨by decide, by decide⟩ ⟨by decide, by decide⟩ (⟨Or.inr (Or.inl ⟨by unfold fFell; rw [if_pos h_in, ← e_i, if_pos c_13], rfl⟩), rfl⟩)
