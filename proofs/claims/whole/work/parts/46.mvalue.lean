set_option maxHeartbeats 4000000 in
set_option maxRecDepth 100000 in
theorem c_Mo_has (l : Launch) (G : xG) (M : xM) (ad : Nat → Nat) (u : zS) (th : Int32) (q : z5) (ho : M (ad 100) = some (100, eMo ad u th q)) (X : zX) (hA : MoA G M ad X) (hX : MoR u X) (hO : zOk u) (j : Nat) (hj : j < zmn u) (i : Nat) (hi10 : i < 10) (y : Int32) (hy : inR y (-2000) 2000) : Met l y_Mo_has w_Mo_has ({ frames := 0, cells := 0, slots := 0, locals := 0 }) (xP G [.ref (ad 100), .int (nI j), .int (nI i), .int y] M) (xQi G (fun v M' => v = zBo (zHas u j i y) ∧ M' = M)) 0 0 (xF G) := by
  refine x_met (by decide) (Nat.le_of_ble_eq_true rfl) ?_
  intro p e s m below meth c ls hE hin hl hM hK hS
  obtain ⟨hx, hb, hr, hml, hown, hw, hlocks⟩ := id hE
  have hl : lv_has ls 5 [(0, .ref (ad 100)), (1, .int (nI j)), (2, .int (nI i)), (3, .int y)] := hl
  refine lv_aload_n hx hb d_Mo_has_0 rfl (lv_at hl 0 rfl) ?_
  refine x_get (C := R_Mo) (T := F_Mo) (N := 20) hx hb hw i_Mo hown hK.1 hM ho rfl 8 (by decide) (hw _ kw_531) rfl rfl d_Mo_has_1 ?_
  refine lv_bipush (v := 10) hx hb d_Mo_has_4 (by decide) ?_
  refine lv_iload_n hx hb d_Mo_has_6 rfl (lv_at hl 1 rfl) ?_
  refine lv_imul hx hb d_Mo_has_7 ?_
  refine lv_iload_n hx hb d_Mo_has_8 rfl (lv_at hl 2 rfl) ?_
  refine lv_iadd hx hb d_Mo_has_9 ?_
  refine x_iald hx hb hK.1 hM hA.2.2.2.2.1 0 rfl (z_i10 j i) (by have := hO.2.2.2.2.1; omega) (by decide) d_Mo_has_10 ?_
  refine lv_topi (fun tv etv => ?_)
  have etv : tv = zms u j i := by rw [etv]; exact (hX.2.2.2.1 j hj).1 i hi10
  subst etv
  refine lv_istore (lv' := [(4, .int (zms u j i)), (0, .ref (ad 100)), (1, .int (nI j)), (2, .int (nI i)), (3, .int y)]) hx hb d_Mo_has_11 hl (by decide) rfl (fun ls hl => ?_)
  refine lv_iload hx hb d_Mo_has_13 (lv_at hl 0 rfl) ?_
  refine lv_iconst (v := (-1)) hx hb d_Mo_has_15 (by decide) ?_
  refine lv_icmp_eq (tgt := 42) hx hb d_Mo_has_16 (by decide) (fun c_16 => ?_) (fun c_16 => ?_)
  · refine lv_iconst (v := 0) hx hb d_Mo_has_42 (by decide) ?_
    exact x_rz hE rfl (Or.inl rfl) hM hS ⟨(zBo_f (fun h9 => h9.1 c_16)).symm, rfl⟩ (by decide) (by decide) d_Mo_has_43
  · refine lv_iload_n hx hb d_Mo_has_19 rfl (lv_at hl 4 rfl) ?_
    refine lv_iload hx hb d_Mo_has_20 (lv_at hl 0 rfl) ?_
    refine lv_icmp_lt (tgt := 42) hx hb d_Mo_has_22 (by decide) (fun c_22 => ?_) (fun c_22 => ?_)
    · refine lv_iconst (v := 0) hx hb d_Mo_has_42 (by decide) ?_
      have hir : i < zrn u := ((hO.2.2.2.2.2.1 j hj).1 i hi10).2 c_16
      have hz := z_has (y := y) (n := zln u i) (f := zev u i) hy (z_ne1 ((hO.2.2.2.2.2.1 j hj).1 i hi10).1 c_16) (hO.2.2.2.1 i hir).2.1 (fun k hk => zev_ne hO hir hk)
      exact x_rz hE rfl (Or.inl rfl) hM hS ⟨(zBo_f (fun h9 => (hz.mpr h9.2).1 c_22)).symm, rfl⟩ (by decide) (by decide) d_Mo_has_43
    · refine lv_iload_n hx hb d_Mo_has_25 rfl (lv_at hl 4 rfl) ?_
      refine lv_iload hx hb d_Mo_has_26 (lv_at hl 0 rfl) ?_
      refine lv_aload_n hx hb d_Mo_has_28 rfl (lv_at hl 1 rfl) ?_
      refine x_get (C := R_Mo) (T := F_Mo) (N := 20) hx hb hw i_Mo hown hK.1 hM ho rfl 4 (by decide) (hw _ kw_527) rfl rfl d_Mo_has_29 ?_
      refine lv_iload_n hx hb d_Mo_has_32 rfl (lv_at hl 3 rfl) ?_
      refine x_iald hx hb hK.1 hM hA.2.1 0 rfl rfl hi10 (by decide) d_Mo_has_33 ?_
      refine lv_iadd hx hb d_Mo_has_34 ?_
      refine lv_icmp_ge (tgt := 42) hx hb d_Mo_has_35 (by decide) (fun c_35 => ?_) (fun c_35 => ?_)
      · refine lv_iconst (v := 0) hx hb d_Mo_has_42 (by decide) ?_
        have hir : i < zrn u := ((hO.2.2.2.2.2.1 j hj).1 i hi10).2 c_16
        have hz := z_has (y := y) (n := zln u i) (f := zev u i) hy (z_ne1 ((hO.2.2.2.2.2.1 j hj).1 i hi10).1 c_16) (hO.2.2.2.1 i hir).2.1 (fun k hk => zev_ne hO hir hk)
        have hsz := (hX.2.1 i hir).1
        rw [hsz] at c_35
        exact x_rz hE rfl (Or.inl rfl) hM hS ⟨(zBo_f (fun h9 => (hz.mpr h9.2).2 c_35)).symm, rfl⟩ (by decide) (by decide) d_Mo_has_43
      · refine lv_iconst (v := 1) hx hb d_Mo_has_38 (by decide) ?_
        refine lv_goto (tgt := 43) hx hb d_Mo_has_39 (by decide) ?_
        have hir : i < zrn u := ((hO.2.2.2.2.2.1 j hj).1 i hi10).2 c_16
        have hz := z_has (y := y) (n := zln u i) (f := zev u i) hy (z_ne1 ((hO.2.2.2.2.2.1 j hj).1 i hi10).1 c_16) (hO.2.2.2.1 i hir).2.1 (fun k hk => zev_ne hO hir hk)
        have hsz := (hX.2.1 i hir).1
        rw [hsz] at c_35
        exact x_rz hE rfl (Or.inr rfl) hM hS ⟨(zBo_t ⟨c_16, hz.mp ⟨c_22, c_35⟩⟩).symm, rfl⟩ (by decide) (by decide) d_Mo_has_43

set_option maxHeartbeats 4000000 in
set_option maxRecDepth 100000 in
theorem lp_Mo_depthOf {p : Program} {l : Launch} {e : Env} {s : State} {m : MethodId} {below : List Frame} {meth : Method} {c : Code} {args : Array Value} {G : xG} {M : xM} (ad : Nat → Nat) (u : zS) (th : Int32) (q : z5) (ho : M (ad 100) = some (100, eMo ad u th q)) (X : zX) (hA : MoA G M ad X) (hX : MoR u X) (hO : zOk u) (j : Nat) (hj : j < zmn u) (y wo : Int32) (hy : inR y (-2000) 2000) (hE : xE p s m args meth c b_Mo_depthOf (some .int) 6 R_Mo) (hK : KX G s) : ∀ (n i : Nat), i ≤ 10 → 11 ≤ i + n → ∀ (H : Heap) (locs : List Loc) (ls : Array Slot), xh G M H → va_S (xF G) s.heap H locs → lv_has ls 6 [(0, .ref (ad 100)), (1, .int (nI j)), (2, .int y), (3, .int wo), (4, .int (zGat (zln u) (zev u) (zms u j) y wo i).1), (5, .int (nI i))] → W p l e ({ frames := 1, cells := 0, slots := 0, locals := 40 }) s m args below meth c H locs 0 0 (MQ below (xQi G (fun v M' => v = (zGat (zln u) (zev u) (zms u j) y wo 10).1 ∧ M' = M)) args s 0 0 (xF G)) (F0 m 6 ls []) := by
  obtain ⟨hx, hb, hr, hml, hown, hw, hlocks⟩ := id hE
  intro n
  induction n with
  | zero =>
    intro i h1 h2
    exact absurd h2 (by omega)
  | succ n ih =>
    intro i hi hin H locs ls hM hS hl
    refine lv_iload hx hb d_Mo_depthOf_6 (lv_at hl 5 rfl) ?_
    refine lv_bipush (v := 10) hx hb d_Mo_depthOf_8 (by decide) ?_
    refine lv_icmp_ge (tgt := 47) hx hb d_Mo_depthOf_10 (by decide) (fun c_10 => ?_) (fun c_10 => ?_)
    · have h10 : 10 ≤ i := (nI_leI (a := 10) (by decide) (by omega)).mp c_10
      refine lv_iload hx hb d_Mo_depthOf_47 (lv_at hl 4 rfl) ?_
      exact x_ri hE rfl hM hS ⟨by rw [show i = 10 by omega], rfl⟩ (by omega) (by omega) d_Mo_depthOf_49
    · have hi10 : i < 10 := Nat.not_le.mp (fun h9 => c_10 ((nI_leI (a := 10) (by decide) (by omega)).mpr h9))
      refine lv_iload hx hb d_Mo_depthOf_13 (lv_at hl 5 rfl) ?_
      refine lv_iload_n hx hb d_Mo_depthOf_15 rfl (lv_at hl 3 rfl) ?_
      refine lv_icmp_eq (tgt := 37) hx hb d_Mo_depthOf_16 (by decide) (fun c_16 => ?_) (fun c_16 => ?_)
      · refine lv_iload hx hb d_Mo_depthOf_37 (lv_at hl 4 rfl) ?_
        refine lv_istore (lv' := [(4, .int (zGat (zln u) (zev u) (zms u j) y wo i).1), (0, .ref (ad 100)), (1, .int (nI j)), (2, .int y), (3, .int wo), (5, .int (nI i))]) hx hb d_Mo_depthOf_39 hl (by decide) rfl (fun ls hl => ?_)
        refine lv_iinc (v := (nI (i + 1))) (lv' := [(5, .int (nI (i + 1))), (4, .int (zGat (zln u) (zev u) (zms u j) y wo i).1), (0, .ref (ad 100)), (1, .int (nI j)), (2, .int y), (3, .int wo)]) hx hb d_Mo_depthOf_41 hl (k := 5) rfl (nI_1 i) (by decide) rfl (fun ls hl => ?_)
        refine lv_goto (tgt := 6) hx hb d_Mo_depthOf_44 (by decide) ?_
        have hz : zGat (zln u) (zev u) (zms u j) y wo (i + 1) = zGat (zln u) (zev u) (zms u j) y wo i := by show zGs _ _ _ _ _ _ _ = _; unfold zGs; rw [if_pos c_16]
        exact ih (i + 1) (by omega) (by omega) _ _ _ hM hS (by rw [hz]; exact lv_sub hl [2, 3, 4, 5, 1, 0] rfl)
      · refine lv_aload_n hx hb d_Mo_depthOf_19 rfl (lv_at hl 0 rfl) ?_
        refine lv_iload_n hx hb d_Mo_depthOf_20 rfl (lv_at hl 1 rfl) ?_
        refine lv_iload hx hb d_Mo_depthOf_21 (lv_at hl 5 rfl) ?_
        refine lv_iload_n hx hb d_Mo_depthOf_23 rfl (lv_at hl 2 rfl) ?_
        refine x_ci (x_runV (As := [.int (nI j), .int (nI i), .int y]) (rest := []) hE hK hM hl.1 (c_Mo_has l G M ad u th q ho X hA hX hO j hj i hi10 y hy) ho rfl kw_643 kw_645 ks_23 kw_4 kw_646 3 rfl rfl rfl (by decide +kernel) ⟨by decide, by decide⟩ rfl (Nat.le_of_ble_eq_true rfl) d_Mo_depthOf_24 ⟨by decide, by decide⟩) hS (fun r1 M1 H locs hp hM hS => ?_)
        obtain ⟨e_h, e_M⟩ := hp
        have hM : xh G M H := e_M ▸ hM
        refine lv_if_eq (tgt := 37) hx hb d_Mo_depthOf_27 (by decide) (fun c_27 => ?_) (fun c_27 => ?_)
        · refine lv_iload hx hb d_Mo_depthOf_37 (lv_at hl 4 rfl) ?_
          refine lv_istore (lv' := [(4, .int (zGat (zln u) (zev u) (zms u j) y wo i).1), (0, .ref (ad 100)), (1, .int (nI j)), (2, .int y), (3, .int wo), (5, .int (nI i))]) hx hb d_Mo_depthOf_39 hl (by decide) rfl (fun ls hl => ?_)
          refine lv_iinc (v := (nI (i + 1))) (lv' := [(5, .int (nI (i + 1))), (4, .int (zGat (zln u) (zev u) (zms u j) y wo i).1), (0, .ref (ad 100)), (1, .int (nI j)), (2, .int y), (3, .int wo)]) hx hb d_Mo_depthOf_41 hl (k := 5) rfl (nI_1 i) (by decide) rfl (fun ls hl => ?_)
          refine lv_goto (tgt := 6) hx hb d_Mo_depthOf_44 (by decide) ?_
          have h_no : ¬ zHas u j i y := fun h9 => by rw [e_h, zBo_t h9] at c_27; exact absurd c_27 (by decide)
          have hz : zGat (zln u) (zev u) (zms u j) y wo (i + 1) = zGat (zln u) (zev u) (zms u j) y wo i := by
            show zGs _ _ _ _ _ _ _ = _
            unfold zGs
            rw [if_neg c_16]
            by_cases h9 : zms u j i = -1
            · rw [if_pos h9]
            · rw [if_neg h9, if_pos (Classical.byContradiction fun h8 => h_no ⟨h9, h8⟩)]
          exact ih (i + 1) (by omega) (by omega) _ _ _ hM hS (by rw [hz]; exact lv_sub hl [2, 3, 4, 5, 1, 0] rfl)
        · refine lv_iload hx hb d_Mo_depthOf_30 (lv_at hl 4 rfl) ?_
          refine lv_iconst (v := 1) hx hb d_Mo_depthOf_32 (by decide) ?_
          refine lv_iadd hx hb d_Mo_depthOf_33 ?_
          refine lv_goto (tgt := 39) hx hb d_Mo_depthOf_34 (by decide) ?_
          refine lv_istore (lv' := [(4, .int (((zGat (zln u) (zev u) (zms u j) y wo i).1) + 1)), (0, .ref (ad 100)), (1, .int (nI j)), (2, .int y), (3, .int wo), (5, .int (nI i))]) hx hb d_Mo_depthOf_39 hl (by decide) rfl (fun ls hl => ?_)
          refine lv_iinc (v := (nI (i + 1))) (lv' := [(5, .int (nI (i + 1))), (4, .int (((zGat (zln u) (zev u) (zms u j) y wo i).1) + 1)), (0, .ref (ad 100)), (1, .int (nI j)), (2, .int y), (3, .int wo)]) hx hb d_Mo_depthOf_41 hl (k := 5) rfl (nI_1 i) (by decide) rfl (fun ls hl => ?_)
          refine lv_goto (tgt := 6) hx hb d_Mo_depthOf_44 (by decide) ?_
          have h_ye : zHas u j i y := zBo_ne.mp (fun h9 => c_27 (e_h.trans h9))
          have hz : zGat (zln u) (zev u) (zms u j) y wo (i + 1) = zTk (zGat (zln u) (zev u) (zms u j) y wo i) (zRing (zln u i) (zev u i) (y - zms u j i)) := by
            show zGs _ _ _ _ _ _ _ = _
            unfold zGs
            rw [if_neg c_16, if_neg h_ye.1, if_neg h_ye.2]
          exact ih (i + 1) (by omega) (by omega) _ _ _ hM hS (by rw [hz]; exact lv_sub hl [2, 3, 4, 5, 1, 0] rfl)

set_option maxHeartbeats 4000000 in
set_option maxRecDepth 100000 in
theorem c_Mo_depthOf (l : Launch) (G : xG) (M : xM) (ad : Nat → Nat) (u : zS) (th : Int32) (q : z5) (ho : M (ad 100) = some (100, eMo ad u th q)) (X : zX) (hA : MoA G M ad X) (hX : MoR u X) (hO : zOk u) (j : Nat) (hj : j < zmn u) (y wo : Int32) (hy : inR y (-2000) 2000)  : Met l y_Mo_depthOf w_Mo_depthOf ({ frames := 1, cells := 0, slots := 0, locals := 40 }) (xP G [.ref (ad 100), .int (nI j), .int y, .int wo] M) (xQi G (fun v M' => v = (zGat (zln u) (zev u) (zms u j) y wo 10).1 ∧ M' = M)) 0 0 (xF G) := by
  refine x_met (by decide) (Nat.le_of_ble_eq_true rfl) ?_
  intro p e s m below meth c ls hE hin hl hM hK hS
  obtain ⟨hx, hb, hr, hml, hown, hw, hlocks⟩ := id hE
  have hl : lv_has ls 6 [(0, .ref (ad 100)), (1, .int (nI j)), (2, .int y), (3, .int wo)] := hl
  refine lv_iconst (v := 0) hx hb d_Mo_depthOf_0 (by decide) ?_
  refine lv_istore (lv' := [(4, .int 0), (0, .ref (ad 100)), (1, .int (nI j)), (2, .int y), (3, .int wo)]) hx hb d_Mo_depthOf_1 hl (by decide) rfl (fun ls hl => ?_)
  refine lv_iconst (v := 0) hx hb d_Mo_depthOf_3 (by decide) ?_
  refine lv_istore (lv' := [(5, .int 0), (4, .int 0), (0, .ref (ad 100)), (1, .int (nI j)), (2, .int y), (3, .int wo)]) hx hb d_Mo_depthOf_4 hl (by decide) rfl (fun ls hl => ?_)
  exact lp_Mo_depthOf ad u th q ho X hA hX hO j hj y wo hy hE hK 11 0 (by omega) (by omega) _ _ _ hM hS (lv_sub hl [2, 3, 4, 5, 1, 0] rfl)

set_option maxHeartbeats 4000000 in
set_option maxRecDepth 100000 in
theorem lp_Mo_valueOf {p : Program} {l : Launch} {e : Env} {s : State} {m : MethodId} {below : List Frame} {meth : Method} {c : Code} {args : Array Value} {G : xG} {M : xM} (ad : Nat → Nat) (u : zS) (th : Int32) (q : z5) (ho : M (ad 100) = some (100, eMo ad u th q)) (X : zX) (hA : MoA G M ad X) (hX : MoR u X) (hO : zOk u) (j : Nat) (hj : j < zmn u) (y wo : Int32) (hy : inR y (-2000) 2000) (hE : xE p s m args meth c b_Mo_valueOf (some .int) 10 R_Mo) (hK : KX G s) : ∀ (n i : Nat), i ≤ 10 → 11 ≤ i + n → ∀ (H : Heap) (locs : List Loc) (ls : Array Slot), xh G M H → va_S (xF G) s.heap H locs → lv_has ls 10 [(0, .ref (ad 100)), (1, .int (nI j)), (2, .int y), (3, .int wo), (4, .int (zGat (zln u) (zev u) (zms u j) y wo i).1), (5, .int (zGat (zln u) (zev u) (zms u j) y wo i).2.1), (6, .int (zLo (zGat (zln u) (zev u) (zms u j) y wo i))), (7, .int (zHi (zGat (zln u) (zev u) (zms u j) y wo i))), (8, .int (nI i))] → W p l e ({ frames := 1, cells := 0, slots := 0, locals := 40 }) s m args below meth c H locs 0 0 (MQ below (xQi G (fun v M' => v = zAq (zGat (zln u) (zev u) (zms u j) y wo 10) ∧ M' = M)) args s 0 0 (xF G)) (F0 m 17 ls []) := by
  obtain ⟨hx, hb, hr, hml, hown, hw, hlocks⟩ := id hE
  intro n
  induction n with
  | zero =>
    intro i h1 h2
    exact absurd h2 (by omega)
  | succ n ih =>
    intro i hi hin H locs ls hM hS hl
    obtain ⟨g, eg⟩ : ∃ z : zQ, z = zGat (zln u) (zev u) (zms u j) y wo i := ⟨_, rfl⟩
    rw [← eg] at hl
    obtain ⟨T, hT1, hT2⟩ := zGat_n (u := u) (b := zms u j) (y := y) (wo := wo) i
    rw [← eg] at hT1
    refine lv_iload hx hb d_Mo_valueOf_17 (lv_at hl 8 rfl) ?_
    refine lv_bipush (v := 10) hx hb d_Mo_valueOf_19 (by decide) ?_
    refine lv_icmp_ge (tgt := 111) hx hb d_Mo_valueOf_21 (by decide) (fun c_21 => ?_) (fun c_21 => ?_)
    · have h10 : 10 ≤ i := (nI_leI (a := 10) (by decide) (by omega)).mp c_21
      refine lv_iload hx hb d_Mo_valueOf_111 (lv_at hl 4 rfl) ?_
      refine lv_if_ne (tgt := 120) hx hb d_Mo_valueOf_113 (by decide) (fun c_113 => ?_) (fun c_113 => ?_)
      · refine lv_iload hx hb d_Mo_valueOf_120 (lv_at hl 4 rfl) ?_
        refine lv_iconst (v := 3) hx hb d_Mo_valueOf_122 (by decide) ?_
        refine lv_icmp_ge (tgt := 134) hx hb d_Mo_valueOf_123 (by decide) (fun c_123 => ?_) (fun c_123 => ?_)
        · refine lv_iload hx hb d_Mo_valueOf_134 (lv_at hl 5 rfl) ?_
          refine lv_iload hx hb d_Mo_valueOf_136 (lv_at hl 6 rfl) ?_
          refine lv_isub hx hb d_Mo_valueOf_138 ?_
          refine lv_iload hx hb d_Mo_valueOf_139 (lv_at hl 7 rfl) ?_
          refine lv_isub hx hb d_Mo_valueOf_141 ?_
          refine lv_iload hx hb d_Mo_valueOf_142 (lv_at hl 4 rfl) ?_
          refine lv_iconst (v := 2) hx hb d_Mo_valueOf_144 (by decide) ?_
          refine lv_isub hx hb d_Mo_valueOf_145 ?_
          refine lv_idiv hx hb d_Mo_valueOf_146 (fun h9 => by have h8 := z_m2 h9; rw [hT1] at h8 c_123; rw [h8] at c_123; exact absurd c_123 (by decide)) ?_
          have hg : zGat (zln u) (zev u) (zms u j) y wo 10 = g := by rw [eg, show i = 10 by omega]
          have hT0 : 0 < T := Nat.pos_of_ne_zero (fun h9 => c_113 (by rw [hT1, h9]; rfl))
          have h0 : 0 < g.1 := by rw [hT1]; exact (nI_ltI (a := 0) (by decide) (by omega)).mpr hT0
          have h3 : 3 ≤ T := (nI_leI (a := 3) (by decide) (by omega)).mp (hT1 ▸ c_123)
          have hlo : zLo g = g.2.2.1 := if_neg c_113
          have hhi : zHi g = g.2.2.2 := if_neg c_113
          exact x_ri hE rfl hM hS ⟨by rw [hg]; unfold zAq zAns; rw [if_neg (not_not_intro h0), if_neg (not_not_intro (by rw [hT1]; exact (nI_ltI (a := 2) (by decide) (by omega)).mpr (by omega)))]; rw [hlo, hhi], rfl⟩ (by decide) (by decide) d_Mo_valueOf_147
        · refine lv_iload hx hb d_Mo_valueOf_126 (lv_at hl 5 rfl) ?_
          refine lv_iload hx hb d_Mo_valueOf_128 (lv_at hl 4 rfl) ?_
          refine lv_idiv hx hb d_Mo_valueOf_130 c_113 ?_
          refine lv_goto (tgt := 147) hx hb d_Mo_valueOf_131 (by decide) ?_
          have hg : zGat (zln u) (zev u) (zms u j) y wo 10 = g := by rw [eg, show i = 10 by omega]
          have hT0 : 0 < T := Nat.pos_of_ne_zero (fun h9 => c_113 (by rw [hT1, h9]; rfl))
          have h0 : 0 < g.1 := by rw [hT1]; exact (nI_ltI (a := 0) (by decide) (by omega)).mpr hT0
          have h3 : T < 3 := Nat.not_le.mp (fun h9 => c_123 (by rw [hT1]; exact (nI_leI (a := 3) (by decide) (by omega)).mpr h9))
          exact x_ri hE rfl hM hS ⟨by rw [hg]; unfold zAq zAns; rw [if_neg (not_not_intro h0), if_pos (by rw [hT1]; exact fun h9 => absurd ((nI_ltI (a := 2) (by decide) (by omega)).mp h9) (by omega))], rfl⟩ (by decide) (by decide) d_Mo_valueOf_147
      · refine lv_iconst (v := (-1)) hx hb d_Mo_valueOf_116 (by decide) ?_
        refine lv_goto (tgt := 147) hx hb d_Mo_valueOf_117 (by decide) ?_
        have hg : zGat (zln u) (zev u) (zms u j) y wo 10 = g := by rw [eg, show i = 10 by omega]
        exact x_ri hE rfl hM hS ⟨by rw [hg]; unfold zAq zAns; rw [if_pos (by rw [c_113]; decide)], rfl⟩ (by decide) (by decide) d_Mo_valueOf_147
    · have hi10 : i < 10 := Nat.not_le.mp (fun h9 => c_21 ((nI_leI (a := 10) (by decide) (by omega)).mpr h9))
      refine lv_iload hx hb d_Mo_valueOf_24 (lv_at hl 8 rfl) ?_
      refine lv_iload_n hx hb d_Mo_valueOf_26 rfl (lv_at hl 3 rfl) ?_
      refine lv_icmp_eq (tgt := 105) hx hb d_Mo_valueOf_27 (by decide) (fun c_27 => ?_) (fun c_27 => ?_)
      · refine lv_iinc (v := (nI (i + 1))) (lv' := [(8, .int (nI (i + 1))), (0, .ref (ad 100)), (1, .int (nI j)), (2, .int y), (3, .int wo), (4, .int g.1), (5, .int g.2.1), (6, .int (zLo g)), (7, .int (zHi g))]) hx hb d_Mo_valueOf_105 hl (k := 8) rfl (nI_1 i) (by decide) rfl (fun ls hl => ?_)
        refine lv_goto (tgt := 17) hx hb d_Mo_valueOf_108 (by decide) ?_
        have hz : zGat (zln u) (zev u) (zms u j) y wo (i + 1) = g := by rw [eg]; show zGs _ _ _ _ _ _ _ = _; unfold zGs; rw [if_pos c_27]
        exact ih (i + 1) (by omega) (by omega) _ _ _ hM hS (by rw [hz]; exact lv_sub hl [1, 2, 3, 4, 5, 6, 7, 8, 0] rfl)
      · refine lv_aload_n hx hb d_Mo_valueOf_30 rfl (lv_at hl 0 rfl) ?_
        refine lv_iload_n hx hb d_Mo_valueOf_31 rfl (lv_at hl 1 rfl) ?_
        refine lv_iload hx hb d_Mo_valueOf_32 (lv_at hl 8 rfl) ?_
        refine lv_iload_n hx hb d_Mo_valueOf_34 rfl (lv_at hl 2 rfl) ?_
        refine x_ci (x_runV (As := [.int (nI j), .int (nI i), .int y]) (rest := []) hE hK hM hl.1 (c_Mo_has l G M ad u th q ho X hA hX hO j hj i hi10 y hy) ho rfl kw_643 kw_645 ks_23 kw_4 kw_646 3 rfl rfl rfl (by decide +kernel) ⟨by decide, by decide⟩ rfl (Nat.le_of_ble_eq_true rfl) d_Mo_valueOf_35 ⟨by decide, by decide⟩) hS (fun r1 M1 H locs hp hM hS => ?_)
        obtain ⟨e_h, e_M⟩ := hp
        have hM : xh G M H := e_M ▸ hM
        refine lv_if_eq (tgt := 105) hx hb d_Mo_valueOf_38 (by decide) (fun c_38 => ?_) (fun c_38 => ?_)
        · refine lv_iinc (v := (nI (i + 1))) (lv' := [(8, .int (nI (i + 1))), (0, .ref (ad 100)), (1, .int (nI j)), (2, .int y), (3, .int wo), (4, .int g.1), (5, .int g.2.1), (6, .int (zLo g)), (7, .int (zHi g))]) hx hb d_Mo_valueOf_105 hl (k := 8) rfl (nI_1 i) (by decide) rfl (fun ls hl => ?_)
          refine lv_goto (tgt := 17) hx hb d_Mo_valueOf_108 (by decide) ?_
          have h_no : ¬ zHas u j i y := fun h9 => by rw [e_h, zBo_t h9] at c_38; exact absurd c_38 (by decide)
          have hz : zGat (zln u) (zev u) (zms u j) y wo (i + 1) = g := by
            rw [eg]
            show zGs _ _ _ _ _ _ _ = _
            unfold zGs
            rw [if_neg c_27]
            by_cases h9 : zms u j i = -1
            · rw [if_pos h9]
            · rw [if_neg h9, if_pos (Classical.byContradiction fun h8 => h_no ⟨h9, h8⟩)]
          exact ih (i + 1) (by omega) (by omega) _ _ _ hM hS (by rw [hz]; exact lv_sub hl [1, 2, 3, 4, 5, 6, 7, 8, 0] rfl)
        · refine lv_aload_n hx hb d_Mo_valueOf_41 rfl (lv_at hl 0 rfl) ?_
          refine lv_iload hx hb d_Mo_valueOf_42 (lv_at hl 8 rfl) ?_
          refine lv_iload_n hx hb d_Mo_valueOf_44 rfl (lv_at hl 2 rfl) ?_
          refine lv_aload_n hx hb d_Mo_valueOf_45 rfl (lv_at hl 0 rfl) ?_
          refine x_get (C := R_Mo) (T := F_Mo) (N := 20) hx hb hw i_Mo hown hK.1 hM ho rfl 8 (by decide) (hw _ kw_531) rfl rfl d_Mo_valueOf_46 ?_
          refine lv_bipush (v := 10) hx hb d_Mo_valueOf_49 (by decide) ?_
          refine lv_iload_n hx hb d_Mo_valueOf_51 rfl (lv_at hl 1 rfl) ?_
          refine lv_imul hx hb d_Mo_valueOf_52 ?_
          refine lv_iload hx hb d_Mo_valueOf_53 (lv_at hl 8 rfl) ?_
          refine lv_iadd hx hb d_Mo_valueOf_55 ?_
          refine x_iald hx hb hK.1 hM hA.2.2.2.2.1 0 rfl (z_i10 j i) (by have := hO.2.2.2.2.1; omega) (by decide) d_Mo_valueOf_56 ?_
          refine lv_topi (fun tv etv => ?_)
          have etv : tv = zms u j i := by rw [etv]; exact (hX.2.2.2.1 j hj).1 i hi10
          subst etv
          refine lv_isub hx hb d_Mo_valueOf_57 ?_
          have h_ye : zHas u j i y := zBo_ne.mp (fun h9 => c_38 (e_h.trans h9))
          have hir : i < zrn u := ((hO.2.2.2.2.2.1 j hj).1 i hi10).2 h_ye.1
          obtain ⟨kk, hk1, hk2, hk3⟩ := z_ringv (hO.2.2.2.1 i hir).2.1 h_ye.2
          rw [hk2]
          refine x_ci (x_runV (As := [.int (nI i), .int (nI kk)]) (rest := []) hE hK hM hl.1 (c_Mo_even l G M ad u th q ho X hA hX hO i hir kk hk1) ho rfl kw_611 kw_613 ks_19 kw_4 kw_614 2 rfl rfl rfl (by decide +kernel) ⟨by decide, by decide⟩ rfl (Nat.le_of_ble_eq_true rfl) d_Mo_valueOf_58 ⟨by decide, by decide⟩) hS (fun r2 M1 H locs hp hM hS => ?_)
          obtain ⟨e_v, e_M⟩ := hp
          have hM : xh G M H := e_M ▸ hM
          have hv := (hO.2.2.2.1 i hir).2.2.1 kk hk1
          rw [← e_v] at hv
          refine lv_istore (lv' := [(9, .int r2), (0, .ref (ad 100)), (1, .int (nI j)), (2, .int y), (3, .int wo), (4, .int g.1), (5, .int g.2.1), (6, .int (zLo g)), (7, .int (zHi g)), (8, .int (nI i))]) hx hb d_Mo_valueOf_61 hl (by decide) rfl (fun ls hl => ?_)
          refine lv_iinc (v := (g.1 + 1)) (lv' := [(4, .int (g.1 + 1)), (9, .int r2), (0, .ref (ad 100)), (1, .int (nI j)), (2, .int y), (3, .int wo), (5, .int g.2.1), (6, .int (zLo g)), (7, .int (zHi g)), (8, .int (nI i))]) hx hb d_Mo_valueOf_63 hl (k := 5) rfl rfl (by decide) rfl (fun ls hl => ?_)
          refine lv_iload hx hb d_Mo_valueOf_66 (lv_at hl 6 rfl) ?_
          refine lv_iload hx hb d_Mo_valueOf_68 (lv_at hl 1 rfl) ?_
          refine lv_iadd hx hb d_Mo_valueOf_70 ?_
          refine lv_istore (lv' := [(5, .int (g.2.1 + r2)), (4, .int (g.1 + 1)), (9, .int r2), (0, .ref (ad 100)), (1, .int (nI j)), (2, .int y), (3, .int wo), (6, .int (zLo g)), (7, .int (zHi g)), (8, .int (nI i))]) hx hb d_Mo_valueOf_71 hl (by decide) rfl (fun ls hl => ?_)
          refine lv_iload hx hb d_Mo_valueOf_73 (lv_at hl 2 rfl) ?_
          refine lv_iload hx hb d_Mo_valueOf_75 (lv_at hl 7 rfl) ?_
          refine lv_icmp_ge (tgt := 85) hx hb d_Mo_valueOf_77 (by decide) (fun c_77 => ?_) (fun c_77 => ?_)
          · refine lv_iload hx hb d_Mo_valueOf_85 (lv_at hl 7 rfl) ?_
            refine lv_istore (lv' := [(6, .int (zLo g)), (5, .int (g.2.1 + r2)), (4, .int (g.1 + 1)), (9, .int r2), (0, .ref (ad 100)), (1, .int (nI j)), (2, .int y), (3, .int wo), (7, .int (zHi g)), (8, .int (nI i))]) hx hb d_Mo_valueOf_87 hl (by decide) rfl (fun ls hl => ?_)
            refine lv_iload hx hb d_Mo_valueOf_89 (lv_at hl 3 rfl) ?_
            refine lv_iload hx hb d_Mo_valueOf_91 (lv_at hl 8 rfl) ?_
            refine lv_icmp_le (tgt := 101) hx hb d_Mo_valueOf_93 (by decide) (fun c_93 => ?_) (fun c_93 => ?_)
            · refine lv_iload hx hb d_Mo_valueOf_101 (lv_at hl 8 rfl) ?_
              refine lv_istore (lv' := [(7, .int (zHi g)), (6, .int (zLo g)), (5, .int (g.2.1 + r2)), (4, .int (g.1 + 1)), (9, .int r2), (0, .ref (ad 100)), (1, .int (nI j)), (2, .int y), (3, .int wo), (8, .int (nI i))]) hx hb d_Mo_valueOf_103 hl (by decide) rfl (fun ls hl => ?_)
              refine lv_iinc (v := (nI (i + 1))) (lv' := [(8, .int (nI (i + 1))), (7, .int (zHi g)), (6, .int (zLo g)), (5, .int (g.2.1 + r2)), (4, .int (g.1 + 1)), (9, .int r2), (0, .ref (ad 100)), (1, .int (nI j)), (2, .int y), (3, .int wo)]) hx hb d_Mo_valueOf_105 hl (k := 9) rfl (nI_1 i) (by decide) rfl (fun ls hl => ?_)
              refine lv_goto (tgt := 17) hx hb d_Mo_valueOf_108 (by decide) ?_
              have hz : zGat (zln u) (zev u) (zms u j) y wo (i + 1) = zTk g r2 := by
                rw [e_v, ← hk3, eg]
                show zGs _ _ _ _ _ _ _ = _
                unfold zGs
                rw [if_neg c_27, if_neg h_ye.1, if_neg h_ye.2]
              have hz1 : (zTk g r2).1 = g.1 + 1 := rfl
              have hz2 : (zTk g r2).2.1 = g.2.1 + r2 := rfl
              have hz3 : zLo (zTk g r2) = (zLo g) := by rw [zTk_lo hT1 (by omega) hv]; exact if_neg (z_nlt c_77)
              have hz4 : zHi (zTk g r2) = (zHi g) := by rw [zTk_hi hT1 (by omega) hv]; exact if_pos c_93
              exact ih (i + 1) (by omega) (by omega) _ _ _ hM hS (by rw [hz, hz1, hz2, hz3, hz4]; exact lv_sub hl [6, 7, 8, 9, 4, 3, 2, 1, 0] rfl)
            · refine lv_iload hx hb d_Mo_valueOf_96 (lv_at hl 3 rfl) ?_
              refine lv_goto (tgt := 103) hx hb d_Mo_valueOf_98 (by decide) ?_
              refine lv_istore (lv' := [(7, .int r2), (6, .int (zLo g)), (5, .int (g.2.1 + r2)), (4, .int (g.1 + 1)), (9, .int r2), (0, .ref (ad 100)), (1, .int (nI j)), (2, .int y), (3, .int wo), (8, .int (nI i))]) hx hb d_Mo_valueOf_103 hl (by decide) rfl (fun ls hl => ?_)
              refine lv_iinc (v := (nI (i + 1))) (lv' := [(8, .int (nI (i + 1))), (7, .int r2), (6, .int (zLo g)), (5, .int (g.2.1 + r2)), (4, .int (g.1 + 1)), (9, .int r2), (0, .ref (ad 100)), (1, .int (nI j)), (2, .int y), (3, .int wo)]) hx hb d_Mo_valueOf_105 hl (k := 9) rfl (nI_1 i) (by decide) rfl (fun ls hl => ?_)
              refine lv_goto (tgt := 17) hx hb d_Mo_valueOf_108 (by decide) ?_
              have hz : zGat (zln u) (zev u) (zms u j) y wo (i + 1) = zTk g r2 := by
                rw [e_v, ← hk3, eg]
                show zGs _ _ _ _ _ _ _ = _
                unfold zGs
                rw [if_neg c_27, if_neg h_ye.1, if_neg h_ye.2]
              have hz1 : (zTk g r2).1 = g.1 + 1 := rfl
              have hz2 : (zTk g r2).2.1 = g.2.1 + r2 := rfl
              have hz3 : zLo (zTk g r2) = (zLo g) := by rw [zTk_lo hT1 (by omega) hv]; exact if_neg (z_nlt c_77)
              have hz4 : zHi (zTk g r2) = r2 := by rw [zTk_hi hT1 (by omega) hv]; exact if_neg c_93
              exact ih (i + 1) (by omega) (by omega) _ _ _ hM hS (by rw [hz, hz1, hz2, hz3, hz4]; exact lv_sub hl [6, 7, 8, 9, 4, 3, 2, 1, 0] rfl)
          · refine lv_iload hx hb d_Mo_valueOf_80 (lv_at hl 2 rfl) ?_
            refine lv_goto (tgt := 87) hx hb d_Mo_valueOf_82 (by decide) ?_
            refine lv_istore (lv' := [(6, .int r2), (5, .int (g.2.1 + r2)), (4, .int (g.1 + 1)), (9, .int r2), (0, .ref (ad 100)), (1, .int (nI j)), (2, .int y), (3, .int wo), (7, .int (zHi g)), (8, .int (nI i))]) hx hb d_Mo_valueOf_87 hl (by decide) rfl (fun ls hl => ?_)
            refine lv_iload hx hb d_Mo_valueOf_89 (lv_at hl 3 rfl) ?_
            refine lv_iload hx hb d_Mo_valueOf_91 (lv_at hl 8 rfl) ?_
            refine lv_icmp_le (tgt := 101) hx hb d_Mo_valueOf_93 (by decide) (fun c_93 => ?_) (fun c_93 => ?_)
            · refine lv_iload hx hb d_Mo_valueOf_101 (lv_at hl 8 rfl) ?_
              refine lv_istore (lv' := [(7, .int (zHi g)), (6, .int r2), (5, .int (g.2.1 + r2)), (4, .int (g.1 + 1)), (9, .int r2), (0, .ref (ad 100)), (1, .int (nI j)), (2, .int y), (3, .int wo), (8, .int (nI i))]) hx hb d_Mo_valueOf_103 hl (by decide) rfl (fun ls hl => ?_)
              refine lv_iinc (v := (nI (i + 1))) (lv' := [(8, .int (nI (i + 1))), (7, .int (zHi g)), (6, .int r2), (5, .int (g.2.1 + r2)), (4, .int (g.1 + 1)), (9, .int r2), (0, .ref (ad 100)), (1, .int (nI j)), (2, .int y), (3, .int wo)]) hx hb d_Mo_valueOf_105 hl (k := 9) rfl (nI_1 i) (by decide) rfl (fun ls hl => ?_)
              refine lv_goto (tgt := 17) hx hb d_Mo_valueOf_108 (by decide) ?_
              have hz : zGat (zln u) (zev u) (zms u j) y wo (i + 1) = zTk g r2 := by
                rw [e_v, ← hk3, eg]
                show zGs _ _ _ _ _ _ _ = _
                unfold zGs
                rw [if_neg c_27, if_neg h_ye.1, if_neg h_ye.2]
              have hz1 : (zTk g r2).1 = g.1 + 1 := rfl
              have hz2 : (zTk g r2).2.1 = g.2.1 + r2 := rfl
              have hz3 : zLo (zTk g r2) = r2 := by rw [zTk_lo hT1 (by omega) hv]; exact if_pos (Int32.not_le.mp c_77)
              have hz4 : zHi (zTk g r2) = (zHi g) := by rw [zTk_hi hT1 (by omega) hv]; exact if_pos c_93
              exact ih (i + 1) (by omega) (by omega) _ _ _ hM hS (by rw [hz, hz1, hz2, hz3, hz4]; exact lv_sub hl [6, 7, 8, 9, 4, 3, 2, 1, 0] rfl)
            · refine lv_iload hx hb d_Mo_valueOf_96 (lv_at hl 3 rfl) ?_
              refine lv_goto (tgt := 103) hx hb d_Mo_valueOf_98 (by decide) ?_
              refine lv_istore (lv' := [(7, .int r2), (6, .int r2), (5, .int (g.2.1 + r2)), (4, .int (g.1 + 1)), (9, .int r2), (0, .ref (ad 100)), (1, .int (nI j)), (2, .int y), (3, .int wo), (8, .int (nI i))]) hx hb d_Mo_valueOf_103 hl (by decide) rfl (fun ls hl => ?_)
              refine lv_iinc (v := (nI (i + 1))) (lv' := [(8, .int (nI (i + 1))), (7, .int r2), (6, .int r2), (5, .int (g.2.1 + r2)), (4, .int (g.1 + 1)), (9, .int r2), (0, .ref (ad 100)), (1, .int (nI j)), (2, .int y), (3, .int wo)]) hx hb d_Mo_valueOf_105 hl (k := 9) rfl (nI_1 i) (by decide) rfl (fun ls hl => ?_)
              refine lv_goto (tgt := 17) hx hb d_Mo_valueOf_108 (by decide) ?_
              have hz : zGat (zln u) (zev u) (zms u j) y wo (i + 1) = zTk g r2 := by
                rw [e_v, ← hk3, eg]
                show zGs _ _ _ _ _ _ _ = _
                unfold zGs
                rw [if_neg c_27, if_neg h_ye.1, if_neg h_ye.2]
              have hz1 : (zTk g r2).1 = g.1 + 1 := rfl
              have hz2 : (zTk g r2).2.1 = g.2.1 + r2 := rfl
              have hz3 : zLo (zTk g r2) = r2 := by rw [zTk_lo hT1 (by omega) hv]; exact if_pos (Int32.not_le.mp c_77)
              have hz4 : zHi (zTk g r2) = r2 := by rw [zTk_hi hT1 (by omega) hv]; exact if_neg c_93
              exact ih (i + 1) (by omega) (by omega) _ _ _ hM hS (by rw [hz, hz1, hz2, hz3, hz4]; exact lv_sub hl [6, 7, 8, 9, 4, 3, 2, 1, 0] rfl)

set_option maxHeartbeats 4000000 in
set_option maxRecDepth 100000 in
theorem c_Mo_valueOf (l : Launch) (G : xG) (M : xM) (ad : Nat → Nat) (u : zS) (th : Int32) (q : z5) (ho : M (ad 100) = some (100, eMo ad u th q)) (X : zX) (hA : MoA G M ad X) (hX : MoR u X) (hO : zOk u) (j : Nat) (hj : j < zmn u) (y wo : Int32) (hy : inR y (-2000) 2000)  : Met l y_Mo_valueOf w_Mo_valueOf ({ frames := 1, cells := 0, slots := 0, locals := 40 }) (xP G [.ref (ad 100), .int (nI j), .int y, .int wo] M) (xQi G (fun v M' => v = zAq (zGat (zln u) (zev u) (zms u j) y wo 10) ∧ M' = M)) 0 0 (xF G) := by
  refine x_met (by decide) (Nat.le_of_ble_eq_true rfl) ?_
  intro p e s m below meth c ls hE hin hl hM hK hS
  obtain ⟨hx, hb, hr, hml, hown, hw, hlocks⟩ := id hE
  have hl : lv_has ls 10 [(0, .ref (ad 100)), (1, .int (nI j)), (2, .int y), (3, .int wo)] := hl
  refine lv_iconst (v := 0) hx hb d_Mo_valueOf_0 (by decide) ?_
  refine lv_istore (lv' := [(4, .int 0), (0, .ref (ad 100)), (1, .int (nI j)), (2, .int y), (3, .int wo)]) hx hb d_Mo_valueOf_1 hl (by decide) rfl (fun ls hl => ?_)
  refine lv_iconst (v := 0) hx hb d_Mo_valueOf_3 (by decide) ?_
  refine lv_istore (lv' := [(5, .int 0), (4, .int 0), (0, .ref (ad 100)), (1, .int (nI j)), (2, .int y), (3, .int wo)]) hx hb d_Mo_valueOf_4 hl (by decide) rfl (fun ls hl => ?_)
  refine lv_sipush (v := 9999) hx hb d_Mo_valueOf_6 (by decide) ?_
  refine lv_istore (lv' := [(6, .int 9999), (5, .int 0), (4, .int 0), (0, .ref (ad 100)), (1, .int (nI j)), (2, .int y), (3, .int wo)]) hx hb d_Mo_valueOf_9 hl (by decide) rfl (fun ls hl => ?_)
  refine lv_iconst (v := (-1)) hx hb d_Mo_valueOf_11 (by decide) ?_
  refine lv_istore (lv' := [(7, .int (-1)), (6, .int 9999), (5, .int 0), (4, .int 0), (0, .ref (ad 100)), (1, .int (nI j)), (2, .int y), (3, .int wo)]) hx hb d_Mo_valueOf_12 hl (by decide) rfl (fun ls hl => ?_)
  refine lv_iconst (v := 0) hx hb d_Mo_valueOf_14 (by decide) ?_
  refine lv_istore (lv' := [(8, .int 0), (7, .int (-1)), (6, .int 9999), (5, .int 0), (4, .int 0), (0, .ref (ad 100)), (1, .int (nI j)), (2, .int y), (3, .int wo)]) hx hb d_Mo_valueOf_15 hl (by decide) rfl (fun ls hl => ?_)
  exact lp_Mo_valueOf ad u th q ho X hA hX hO j hj y wo hy hE hK 11 0 (by omega) (by omega) _ _ _ hM hS (lv_sub hl [5, 6, 7, 8, 4, 3, 2, 1, 0] rfl)
