set_option maxHeartbeats 4000000 in
set_option maxRecDepth 100000 in
theorem lp_Mo_count {p : Program} {l : Launch} {e : Env} {s : State} {m : MethodId} {below : List Frame} {meth : Method} {c : Code} {args : Array Value} {G : xG} {M : xM} (ad : Nat → Nat) (u : zS) (th : Int32) (q : z5) (ho : M (ad 100) = some (100, eMo ad u th q)) (X : zX) (hA : MoA G M ad X) (hX : MoR u X) (hO : zOk u) (k : Int32) (Post : Int32 → xM → Prop) (hP : (k = 0 → Post (nI (zpn u)) M) ∧ (k = 1 → Post (nI (zrn u)) M) ∧ (k = 2 → Post (nI (zmn u)) M) ∧ (¬ k = 0 → ¬ k = 1 → ¬ k = 2 → Post (nI (zFlo (zst u) (zrn u))) M)) (hE : xE p s m args meth c b_Mo_count (some .int) 4 R_Mo) (hK : KX G s) : ∀ (n i : Nat), i ≤ zrn u → zrn u + 1 ≤ i + n → ∀ (H : Heap) (locs : List Loc) (ls : Array Slot), xh G M H → va_S (xF G) s.heap H locs → lv_has ls 4 [(0, .ref (ad 100)), (1, .int k), (2, .int (nI (zFlo (zst u) i))), (3, .int (nI i))] → W p l e ({ frames := 2, cells := 0, slots := 0, locals := 75 }) s m args below meth c H locs 0 0 (MQ below (xQi G Post) args s 0 0 (xF G)) (F0 m 21 ls []) := by
  obtain ⟨hx, hb, hr, hml, hown, hw, hlocks⟩ := id hE
  have hrn : zrn u ≤ 10 := hO.2.2.1
  intro n
  induction n with
  | zero =>
    intro i h1 h2
    exact absurd h2 (by omega)
  | succ n ih =>
    intro i hi9 hin H locs ls hM hS hl
    refine lv_iload_n hx hb d_Mo_count_21 rfl (lv_at hl 3 rfl) ?_
    refine lv_aload_n hx hb d_Mo_count_22 rfl (lv_at hl 0 rfl) ?_
    refine x_get (C := R_Mo) (T := F_Mo) (N := 20) hx hb hw i_Mo hown hK.1 hM (id ho) rfl 3 (by decide) (hw _ kw_526) rfl rfl d_Mo_count_23 ?_
    refine lv_icmp_ge (tgt := 53) hx hb d_Mo_count_26 (by decide) (fun c_26 => ?_) (fun c_26 => ?_)
    · have h_ge : zrn u ≤ i := (nI_leI (by omega) (by omega)).mp c_26
      refine lv_iload_n hx hb d_Mo_count_53 rfl (lv_at hl 1 rfl) ?_
      refine lv_if_ne (tgt := 64) hx hb d_Mo_count_54 (by decide) (fun c_54 => ?_) (fun c_54 => ?_)
      · refine lv_iload_n hx hb d_Mo_count_64 rfl (lv_at hl 1 rfl) ?_
        refine lv_iconst (v := 1) hx hb d_Mo_count_65 (by decide) ?_
        refine lv_icmp_ne (tgt := 76) hx hb d_Mo_count_66 (by decide) (fun c_66 => ?_) (fun c_66 => ?_)
        · refine lv_iload_n hx hb d_Mo_count_76 rfl (lv_at hl 1 rfl) ?_
          refine lv_iconst (v := 2) hx hb d_Mo_count_77 (by decide) ?_
          refine lv_icmp_ne (tgt := 88) hx hb d_Mo_count_78 (by decide) (fun c_78 => ?_) (fun c_78 => ?_)
          · refine lv_iload_n hx hb d_Mo_count_88 rfl (lv_at hl 2 rfl) ?_
            exact x_ri hE rfl hM hS (by have h9 := hP.2.2.2 c_54 c_66 c_78; rw [show zrn u = i by omega] at h9; exact h9) (by decide) (by decide) d_Mo_count_89
          · refine lv_aload_n hx hb d_Mo_count_81 rfl (lv_at hl 0 rfl) ?_
            refine x_get (C := R_Mo) (T := F_Mo) (N := 20) hx hb hw i_Mo hown hK.1 hM (id ho) rfl 7 (by decide) (hw _ kw_530) rfl rfl d_Mo_count_82 ?_
            refine lv_goto (tgt := 89) hx hb d_Mo_count_85 (by decide) ?_
            exact x_ri hE rfl hM hS (hP.2.2.1 c_78) (by decide) (by decide) d_Mo_count_89
        · refine lv_aload_n hx hb d_Mo_count_69 rfl (lv_at hl 0 rfl) ?_
          refine x_get (C := R_Mo) (T := F_Mo) (N := 20) hx hb hw i_Mo hown hK.1 hM (id ho) rfl 3 (by decide) (hw _ kw_526) rfl rfl d_Mo_count_70 ?_
          refine lv_goto (tgt := 89) hx hb d_Mo_count_73 (by decide) ?_
          exact x_ri hE rfl hM hS (hP.2.1 c_66) (by decide) (by decide) d_Mo_count_89
      · refine lv_aload_n hx hb d_Mo_count_57 rfl (lv_at hl 0 rfl) ?_
        refine x_get (C := R_Mo) (T := F_Mo) (N := 20) hx hb hw i_Mo hown hK.1 hM (id ho) rfl 1 (by decide) (hw _ kw_524) rfl rfl d_Mo_count_58 ?_
        refine lv_goto (tgt := 89) hx hb d_Mo_count_61 (by decide) ?_
        exact x_ri hE rfl hM hS (hP.1 c_54) (by decide) (by decide) d_Mo_count_89
    · have h_lt : i < zrn u := Nat.not_le.mp (fun h9 => c_26 ((nI_leI (by omega) (by omega)).mpr h9))
      refine lv_aload_n hx hb d_Mo_count_29 rfl (lv_at hl 0 rfl) ?_
      refine x_get (C := R_Mo) (T := F_Mo) (N := 20) hx hb hw i_Mo hown hK.1 hM (id ho) rfl 6 (by decide) (hw _ kw_529) rfl rfl d_Mo_count_30 ?_
      refine lv_iload_n hx hb d_Mo_count_33 rfl (lv_at hl 3 rfl) ?_
      refine x_iald hx hb hK.1 hM hA.2.2.2.1 0 rfl rfl (by omega) (by decide) d_Mo_count_34 ?_
      refine lv_topi (fun tv etv => ?_)
      have etv : tv = zst u i := by rw [etv]; exact (hX.2.1 i h_lt).2.2
      subst etv
      refine lv_iconst (v := (-1)) hx hb d_Mo_count_35 (by decide) ?_
      refine lv_icmp_ne (tgt := 45) hx hb d_Mo_count_36 (by decide) (fun c_36 => ?_) (fun c_36 => ?_)
      · refine lv_iload_n hx hb d_Mo_count_45 rfl (lv_at hl 2 rfl) ?_
        refine lv_topi (fun tv etv => ?_)
        have etv : tv = nI (zFlo (zst u) (i + 1)) := by rw [etv]; show _ = nI (if zst u i = -1 then _ else _); rw [if_neg c_36]
        subst etv
        refine lv_istore_n (lv' := [(2, .int (nI (zFlo (zst u) (i + 1)))), (0, .ref (ad 100)), (1, .int k), (3, .int (nI i))]) hx hb d_Mo_count_46 rfl hl (by decide) rfl (fun ls hl => ?_)
        refine lv_iinc (v := (nI (i + 1))) (lv' := [(3, .int (nI (i + 1))), (2, .int (nI (zFlo (zst u) (i + 1)))), (0, .ref (ad 100)), (1, .int k)]) hx hb d_Mo_count_47 hl (k := 3) rfl (nI_1 i) (by decide) rfl (fun ls hl => ?_)
        refine lv_goto (tgt := 21) hx hb d_Mo_count_50 (by decide) ?_
        exact ih (i + 1) h_lt (by omega) _ _ _ hM hS (lv_sub hl [2, 3, 1, 0] rfl)
      · refine lv_iload_n hx hb d_Mo_count_39 rfl (lv_at hl 2 rfl) ?_
        refine lv_iconst (v := 1) hx hb d_Mo_count_40 (by decide) ?_
        refine lv_iadd hx hb d_Mo_count_41 ?_
        refine lv_goto (tgt := 46) hx hb d_Mo_count_42 (by decide) ?_
        refine lv_topi (fun tv etv => ?_)
        have etv : tv = nI (zFlo (zst u) (i + 1)) := by rw [etv]; show nI _ + 1 = nI (if zst u i = -1 then _ else _); rw [if_pos c_36, nI_1]
        subst etv
        refine lv_istore_n (lv' := [(2, .int (nI (zFlo (zst u) (i + 1)))), (0, .ref (ad 100)), (1, .int k), (3, .int (nI i))]) hx hb d_Mo_count_46 rfl hl (by decide) rfl (fun ls hl => ?_)
        refine lv_iinc (v := (nI (i + 1))) (lv' := [(3, .int (nI (i + 1))), (2, .int (nI (zFlo (zst u) (i + 1)))), (0, .ref (ad 100)), (1, .int k)]) hx hb d_Mo_count_47 hl (k := 3) rfl (nI_1 i) (by decide) rfl (fun ls hl => ?_)
        refine lv_goto (tgt := 21) hx hb d_Mo_count_50 (by decide) ?_
        exact ih (i + 1) h_lt (by omega) _ _ _ hM hS (lv_sub hl [2, 3, 1, 0] rfl)

set_option maxHeartbeats 4000000 in
set_option maxRecDepth 100000 in
theorem c_Mo_count (l : Launch) (G : xG) (M : xM) (ad : Nat → Nat) (u : zS) (th : Int32) (q : z5) (ho : M (ad 100) = some (100, eMo ad u th q)) (X : zX) (hA : MoA G M ad X) (hX : MoR u X) (hO : zOk u) (k : Int32) : Met l y_Mo_count w_Mo_count ({ frames := 2, cells := 0, slots := 0, locals := 75 }) (xP G [.ref (ad 100), .int k] M) (xQi G (fun v M' => MoPost M ad u (fCount u k) v M')) 0 0 (xF G) := by
  refine x_met (by decide) (Nat.le_of_ble_eq_true rfl) ?_
  intro p e s m below meth c ls hE hin hl hM hK hS
  obtain ⟨hx, hb, hr, hml, hown, hw, hlocks⟩ := id hE
  have hlt : (fCount u k).1 < 2 ^ 31 := by
    unfold fCount
    repeat' split
    all_goals exact Nat.le_of_ble_eq_true rfl
  have hl : lv_has ls 4 [(0, .ref (ad 100)), (1, .int k)] := hl
  refine lv_aload_n hx hb d_Mo_count_0 rfl (lv_at hl 0 rfl) ?_
  refine lv_iload_n hx hb d_Mo_count_1 rfl (lv_at hl 1 rfl) ?_
  refine lv_iconst (v := 0) hx hb d_Mo_count_2 (by decide) ?_
  refine lv_iconst (v := 3) hx hb d_Mo_count_3 (by decide) ?_
  refine x_ci (x_runS (As := [.int k, .int 0, .int 3]) (rest := [.ref (ad 100)]) hE hK hM hl.1 (c_Mo_within l G M k 0 3) kw_592 kw_593 kw_4 kw_594 3 rfl rfl rfl (by decide +kernel) ⟨by decide, by decide⟩ rfl (Nat.le_of_ble_eq_true rfl) d_Mo_count_4 ⟨by decide, by decide⟩) hS (fun r1 M1 H locs hp hM hS => ?_)
  obtain ⟨e_w, e_M0⟩ := hp
  have hM : xh G M H := e_M0 ▸ hM
  subst e_w
  refine lv_iconst (v := 1) hx hb d_Mo_count_7 (by decide) ?_
  refine lv_iconst (v := 1) hx hb d_Mo_count_8 (by decide) ?_
  refine x_ci (x_runV (As := [.int (zBo (¬ k < 0 ∧ ¬ 3 < k)), .int 1, .int 1]) (rest := []) hE hK hM hl.1 (c_Mo_goes l G M ad u th q ho (zBo (¬ k < 0 ∧ ¬ 3 < k)) 1 1) (id ho) rfl kw_595 kw_597 ks_17 kw_4 kw_598 3 rfl rfl rfl (by decide +kernel) ⟨by decide, by decide⟩ rfl (Nat.le_of_ble_eq_true rfl) d_Mo_count_9 ⟨by decide, by decide⟩) hS (fun r2 M1 H locs hp hM hS => ?_)
  have hgb := g_count u k
  obtain ⟨e_g, e_M⟩ := hp
  rw [hgb] at e_M e_g
  obtain ⟨Ma, eMa⟩ : ∃ zz9 : xM, zz9 = M1 := ⟨_, rfl⟩
  subst eMa
  have hog := xw_atE e_M
  have hAg := hA.up ho e_M
  refine lv_if_ne (tgt := 17) hx hb d_Mo_count_12 (by decide) (fun c_12 => ?_) (fun c_12 => ?_)
  · have hc0 : (fCount u k).1 = 0 := (nI_eq (b := 0) (by exact hlt) (by decide)).mp (zBo_ne.mp (fun h9 => c_12 (e_g.trans h9)))
    have hcd := g_cd hgb hc0
    have h_a := zBo_ne.mp hcd.1
    refine lv_iconst (v := 0) hx hb d_Mo_count_17 (by decide) ?_
    refine lv_istore_n (lv' := [(2, .int 0), (0, .ref (ad 100)), (1, .int k)]) hx hb d_Mo_count_18 rfl hl (by decide) rfl (fun ls hl => ?_)
    refine lv_iconst (v := 0) hx hb d_Mo_count_19 (by decide) ?_
    refine lv_istore_n (lv' := [(3, .int 0), (2, .int 0), (0, .ref (ad 100)), (1, .int k)]) hx hb d_Mo_count_20 rfl hl (by decide) rfl (fun ls hl => ?_)
    exact lp_Mo_count ad u _ q hog X hAg hX hO k (fun v M' => MoPost M ad u (fCount u k) v M') ⟨fun h9 => ⟨⟨_, e_M⟩, fun _ => by unfold fCount; rw [if_pos h9]⟩, fun h9 => ⟨⟨_, e_M⟩, fun _ => by rw [h9]; rfl⟩, fun h9 => ⟨⟨_, e_M⟩, fun _ => by rw [h9]; rfl⟩, fun h7 h8 h9 => ⟨⟨_, e_M⟩, fun _ => by unfold fCount; rw [if_neg h7, if_neg h8, if_neg h9, if_pos ((((z_cs3 h_a).resolve_left h7).resolve_left h8).resolve_left h9)]⟩⟩ hE hK (zrn u + 1) 0 (by omega) (by omega) _ _ _ hM hS (lv_sub hl [2, 3, 1, 0] rfl)
  · have hc1 : ¬ (fCount u k).1 = 0 := fun h9 => by rw [e_g, zBo_t (by rw [h9]; rfl)] at c_12; exact absurd c_12 (by decide)
    refine lv_iconst (v := 0) hx hb d_Mo_count_15 (by decide) ?_
    exact x_ri hE rfl hM hS ⟨⟨_, e_M⟩, fun h9 => absurd h9 hc1⟩ (by decide) (by decide) d_Mo_count_16

set_option maxHeartbeats 4000000 in
set_option maxRecDepth 100000 in
theorem lp_Mo_about {p : Program} {l : Launch} {e : Env} {s : State} {m : MethodId} {below : List Frame} {meth : Method} {c : Code} {args : Array Value} {G : xG} {M : xM} (ad : Nat → Nat) (u : zS) (th : Int32) (q : z5) (ho : M (ad 100) = some (100, eMo ad u th q)) (X : zX) (hA : MoA G M ad X) (hX : MoR u X) (hO : zOk u) (j : Nat) (hj : j < zmn u) (k : Int32) (Post : Int32 → xM → Prop) (hP : (k = 0 → Post (zFst (zms u j) 10) M) ∧ (k = 1 → Post (zLst (zln u) (zms u j) 10) M) ∧ (¬ k = 0 → ¬ k = 1 → Post (nI (zCnt (zms u j) 10)) M)) (hE : xE p s m args meth c b_Mo_about (some .int) 5 R_Mo) (hK : KX G s) : ∀ (n i : Nat), i ≤ 10 → 10 + 1 ≤ i + n → ∀ (H : Heap) (locs : List Loc) (ls : Array Slot), xh G M H → va_S (xF G) s.heap H locs → lv_has ls 5 [(0, .ref (ad 100)), (1, .int (nI j)), (2, .int k), (3, .int (nI (zCnt (zms u j) i))), (4, .int (nI i))] → W p l e ({ frames := 2, cells := 0, slots := 0, locals := 75 }) s m args below meth c H locs 0 0 (MQ below (xQi G Post) args s 0 0 (xF G)) (F0 m 38 ls []) := by
  obtain ⟨hx, hb, hr, hml, hown, hw, hlocks⟩ := id hE
  have hmn : zmn u ≤ 8 := hO.2.2.2.2.1
  intro n
  induction n with
  | zero =>
    intro i h1 h2
    exact absurd h2 (by omega)
  | succ n ih =>
    intro i hi9 hin H locs ls hM hS hl
    refine lv_iload hx hb d_Mo_about_38 (lv_at hl 4 rfl) ?_
    refine lv_bipush (v := 10) hx hb d_Mo_about_40 (by decide) ?_
    refine lv_icmp_ge (tgt := 75) hx hb d_Mo_about_42 (by decide) (fun c_42 => ?_) (fun c_42 => ?_)
    · have h_ge : 10 ≤ i := (nI_leI (a := 10) (by decide) (by omega)).mp c_42
      refine lv_iload_n hx hb d_Mo_about_75 rfl (lv_at hl 2 rfl) ?_
      refine lv_if_ne (tgt := 88) hx hb d_Mo_about_76 (by decide) (fun c_76 => ?_) (fun c_76 => ?_)
      · refine lv_iload_n hx hb d_Mo_about_88 rfl (lv_at hl 2 rfl) ?_
        refine lv_iconst (v := 1) hx hb d_Mo_about_89 (by decide) ?_
        refine lv_icmp_ne (tgt := 102) hx hb d_Mo_about_90 (by decide) (fun c_90 => ?_) (fun c_90 => ?_)
        · refine lv_iload_n hx hb d_Mo_about_102 rfl (lv_at hl 3 rfl) ?_
          exact x_ri hE rfl hM hS (by have h9 := hP.2.2 c_76 c_90; rw [show 10 = i by omega] at h9; exact h9) (by decide) (by decide) d_Mo_about_103
        · refine lv_aload_n hx hb d_Mo_about_93 rfl (lv_at hl 0 rfl) ?_
          refine x_get (C := R_Mo) (T := F_Mo) (N := 20) hx hb hw i_Mo hown hK.1 hM (id ho) rfl 10 (by decide) (hw _ kw_533) rfl rfl d_Mo_about_94 ?_
          refine lv_iload_n hx hb d_Mo_about_97 rfl (lv_at hl 1 rfl) ?_
          refine x_iald hx hb hK.1 hM hA.2.2.2.2.2.2.1 0 rfl rfl (by omega) (by decide) d_Mo_about_98 ?_
          refine lv_goto (tgt := 103) hx hb d_Mo_about_99 (by decide) ?_
          exact x_ri hE rfl hM hS (by have h9 := hP.2.1 c_90; rw [← (hX.2.2.2.1 j hj).2.2] at h9; exact h9) (by decide) (by decide) d_Mo_about_103
      · refine lv_aload_n hx hb d_Mo_about_79 rfl (lv_at hl 0 rfl) ?_
        refine x_get (C := R_Mo) (T := F_Mo) (N := 20) hx hb hw i_Mo hown hK.1 hM (id ho) rfl 9 (by decide) (hw _ kw_532) rfl rfl d_Mo_about_80 ?_
        refine lv_iload_n hx hb d_Mo_about_83 rfl (lv_at hl 1 rfl) ?_
        refine x_iald hx hb hK.1 hM hA.2.2.2.2.2.1 0 rfl rfl (by omega) (by decide) d_Mo_about_84 ?_
        refine lv_goto (tgt := 103) hx hb d_Mo_about_85 (by decide) ?_
        exact x_ri hE rfl hM hS (by have h9 := hP.1 c_76; rw [← (hX.2.2.2.1 j hj).2.1] at h9; exact h9) (by decide) (by decide) d_Mo_about_103
    · have h_lt : i < 10 := Nat.not_le.mp (fun h9 => c_42 ((nI_leI (a := 10) (by decide) (by omega)).mpr h9))
      refine lv_aload_n hx hb d_Mo_about_45 rfl (lv_at hl 0 rfl) ?_
      refine x_get (C := R_Mo) (T := F_Mo) (N := 20) hx hb hw i_Mo hown hK.1 hM (id ho) rfl 8 (by decide) (hw _ kw_531) rfl rfl d_Mo_about_46 ?_
      refine lv_bipush (v := 10) hx hb d_Mo_about_49 (by decide) ?_
      refine lv_iload_n hx hb d_Mo_about_51 rfl (lv_at hl 1 rfl) ?_
      refine lv_imul hx hb d_Mo_about_52 ?_
      refine lv_iload hx hb d_Mo_about_53 (lv_at hl 4 rfl) ?_
      refine lv_iadd hx hb d_Mo_about_55 ?_
      refine x_iald hx hb hK.1 hM hA.2.2.2.2.1 0 rfl (z_i10 j i) (by omega) (by decide) d_Mo_about_56 ?_
      refine lv_topi (fun tv etv => ?_)
      have etv : tv = zms u j i := by rw [etv]; exact (hX.2.2.2.1 j hj).1 i h_lt
      subst etv
      refine lv_iconst (v := (-1)) hx hb d_Mo_about_57 (by decide) ?_
      refine lv_icmp_eq (tgt := 67) hx hb d_Mo_about_58 (by decide) (fun c_58 => ?_) (fun c_58 => ?_)
      · refine lv_iload_n hx hb d_Mo_about_67 rfl (lv_at hl 3 rfl) ?_
        refine lv_topi (fun tv etv => ?_)
        have etv : tv = nI (zCnt (zms u j) (i + 1)) := by rw [etv]; show _ = nI (if zms u j i = -1 then _ else _); rw [if_pos c_58]
        subst etv
        refine lv_istore_n (lv' := [(3, .int (nI (zCnt (zms u j) (i + 1)))), (0, .ref (ad 100)), (1, .int (nI j)), (2, .int k), (4, .int (nI i))]) hx hb d_Mo_about_68 rfl hl (by decide) rfl (fun ls hl => ?_)
        refine lv_iinc (v := (nI (i + 1))) (lv' := [(4, .int (nI (i + 1))), (3, .int (nI (zCnt (zms u j) (i + 1)))), (0, .ref (ad 100)), (1, .int (nI j)), (2, .int k)]) hx hb d_Mo_about_69 hl (k := 4) rfl (nI_1 i) (by decide) rfl (fun ls hl => ?_)
        refine lv_goto (tgt := 38) hx hb d_Mo_about_72 (by decide) ?_
        exact ih (i + 1) h_lt (by omega) _ _ _ hM hS (lv_sub hl [2, 3, 4, 1, 0] rfl)
      · refine lv_iload_n hx hb d_Mo_about_61 rfl (lv_at hl 3 rfl) ?_
        refine lv_iconst (v := 1) hx hb d_Mo_about_62 (by decide) ?_
        refine lv_iadd hx hb d_Mo_about_63 ?_
        refine lv_goto (tgt := 68) hx hb d_Mo_about_64 (by decide) ?_
        refine lv_topi (fun tv etv => ?_)
        have etv : tv = nI (zCnt (zms u j) (i + 1)) := by rw [etv]; show nI _ + 1 = nI (if zms u j i = -1 then _ else _); rw [if_neg c_58, nI_1]
        subst etv
        refine lv_istore_n (lv' := [(3, .int (nI (zCnt (zms u j) (i + 1)))), (0, .ref (ad 100)), (1, .int (nI j)), (2, .int k), (4, .int (nI i))]) hx hb d_Mo_about_68 rfl hl (by decide) rfl (fun ls hl => ?_)
        refine lv_iinc (v := (nI (i + 1))) (lv' := [(4, .int (nI (i + 1))), (3, .int (nI (zCnt (zms u j) (i + 1)))), (0, .ref (ad 100)), (1, .int (nI j)), (2, .int k)]) hx hb d_Mo_about_69 hl (k := 4) rfl (nI_1 i) (by decide) rfl (fun ls hl => ?_)
        refine lv_goto (tgt := 38) hx hb d_Mo_about_72 (by decide) ?_
        exact ih (i + 1) h_lt (by omega) _ _ _ hM hS (lv_sub hl [2, 3, 4, 1, 0] rfl)

set_option maxHeartbeats 4000000 in
set_option maxRecDepth 100000 in
theorem c_Mo_about (l : Launch) (G : xG) (M : xM) (ad : Nat → Nat) (u : zS) (th : Int32) (q : z5) (ho : M (ad 100) = some (100, eMo ad u th q)) (X : zX) (hA : MoA G M ad X) (hX : MoR u X) (hO : zOk u) (x k : Int32) : Met l y_Mo_about w_Mo_about ({ frames := 2, cells := 0, slots := 0, locals := 75 }) (xP G [.ref (ad 100), .int x, .int k] M) (xQi G (fun v M' => MoPost M ad u (fAbout u x k) v M')) 0 0 (xF G) := by
  refine x_met (by decide) (Nat.le_of_ble_eq_true rfl) ?_
  intro p e s m below meth c ls hE hin hl hM hK hS
  obtain ⟨hx, hb, hr, hml, hown, hw, hlocks⟩ := id hE
  have hlt : (fAbout u x k).1 < 2 ^ 31 := by
    unfold fAbout
    repeat' split
    all_goals exact Nat.le_of_ble_eq_true rfl
  have hl : lv_has ls 5 [(0, .ref (ad 100)), (1, .int x), (2, .int k)] := hl
  refine lv_aload_n hx hb d_Mo_about_0 rfl (lv_at hl 0 rfl) ?_
  refine x_cutH (G := G) (M := M) (ls := ls) 23 [.ref (ad 100)] (fun v => v = zBo (cAbout u x k)) (fun o1 H locs h_o1 hM hS => ?_) (fun hjn => ?_)
  · subst h_o1
    refine lv_iconst (v := 1) hx hb d_Mo_about_23 (by decide) ?_
    refine lv_iconst (v := 1) hx hb d_Mo_about_24 (by decide) ?_
    refine x_ci (x_runV (As := [.int (zBo (cAbout u x k)), .int 1, .int 1]) (rest := []) hE hK hM hl.1 (c_Mo_goes l G M ad u th q ho (zBo (cAbout u x k)) 1 1) (id ho) rfl kw_595 kw_597 ks_17 kw_4 kw_598 3 rfl rfl rfl (by decide +kernel) ⟨by decide, by decide⟩ rfl (Nat.le_of_ble_eq_true rfl) d_Mo_about_25 ⟨by decide, by decide⟩) hS (fun r1 M1 H locs hp hM hS => ?_)
    have hgb := g_about u x k
    obtain ⟨e_g, e_M⟩ := hp
    rw [hgb] at e_M e_g
    obtain ⟨Ma, eMa⟩ : ∃ zz9 : xM, zz9 = M1 := ⟨_, rfl⟩
    subst eMa
    have hog := xw_atE e_M
    have hAg := hA.up ho e_M
    refine lv_if_ne (tgt := 33) hx hb d_Mo_about_28 (by decide) (fun c_28 => ?_) (fun c_28 => ?_)
    · have hc0 : (fAbout u x k).1 = 0 := (nI_eq (b := 0) (by exact hlt) (by decide)).mp (zBo_ne.mp (fun h9 => c_28 (e_g.trans h9)))
      have hcd := g_cd hgb hc0
      have h_a := zBo_ne.mp hcd.1
      obtain ⟨j, ej, hj, exj⟩ := z_in (h_a.1) (by have := hO.2.2.2.2.1; omega)
      refine lv_iconst (v := 0) hx hb d_Mo_about_33 (by decide) ?_
      refine lv_istore_n (lv' := [(3, .int 0), (0, .ref (ad 100)), (1, .int x), (2, .int k)]) hx hb d_Mo_about_34 rfl hl (by decide) rfl (fun ls hl => ?_)
      refine lv_iconst (v := 0) hx hb d_Mo_about_35 (by decide) ?_
      refine lv_istore (lv' := [(4, .int 0), (3, .int 0), (0, .ref (ad 100)), (1, .int x), (2, .int k)]) hx hb d_Mo_about_36 hl (by decide) rfl (fun ls hl => ?_)
      exact lp_Mo_about ad u _ q hog X hAg hX hO j hj k (fun v M' => MoPost M ad u (fAbout u x k) v M') ⟨fun h9 => ⟨⟨_, e_M⟩, fun _ => by unfold fAbout; rw [if_pos h_a.1, if_pos h9, ← ej]⟩, fun h9 => ⟨⟨_, e_M⟩, fun _ => by unfold fAbout; rw [if_pos h_a.1, h9, if_neg (by decide), if_pos rfl, ← ej]⟩, fun h7 h8 => ⟨⟨_, e_M⟩, fun _ => by unfold fAbout; rw [if_pos h_a.1, if_neg h7, if_neg h8, if_pos (((z_cs2 h_a.2).resolve_left h7).resolve_left h8), ← ej]⟩⟩ hE hK 11 0 (by omega) (by omega) _ _ _ hM hS (by have h9 : lv_has ls 5 [(0, .ref (ad 100)), (1, .int x), (2, .int k), (3, .int 0), (4, .int 0)] := lv_sub hl [2, 3, 4, 1, 0] rfl; rw [exj] at h9; exact h9)
    · have hc1 : ¬ (fAbout u x k).1 = 0 := fun h9 => by rw [e_g, zBo_t (by rw [h9]; rfl)] at c_28; exact absurd c_28 (by decide)
      refine lv_iconst (v := 0) hx hb d_Mo_about_31 (by decide) ?_
      exact x_ri hE rfl hM hS ⟨⟨_, e_M⟩, fun h9 => absurd h9 hc1⟩ (by decide) (by decide) d_Mo_about_32
  · refine lv_aload_n hx hb d_Mo_about_1 rfl (lv_at hl 0 rfl) ?_
    refine lv_iload_n hx hb d_Mo_about_2 rfl (lv_at hl 1 rfl) ?_
    refine x_ci (x_runV (As := [.int x]) (rest := [.ref (ad 100)]) hE hK hM hl.1 (c_Mo_isMaster l G M ad u th q ho hO x) (id ho) rfl kw_627 kw_629 ks_20 kw_4 kw_630 1 rfl rfl rfl (by decide +kernel) ⟨by decide, by decide⟩ rfl (Nat.le_of_ble_eq_true rfl) d_Mo_about_3 ⟨by decide, by decide⟩) hS (fun r1 M1 H locs hp hM hS => ?_)
    obtain ⟨e_i, e_M0⟩ := hp
    have hM : xh G M H := e_M0 ▸ hM
    subst e_i
    refine lv_if_eq (tgt := 22) hx hb d_Mo_about_6 (by decide) (fun c_6 => ?_) (fun c_6 => ?_)
    · refine lv_iconst (v := 0) hx hb d_Mo_about_22 (by decide) ?_
      exact hjn _ _ _ (zBo_f (fun h9 => zBo_ne.mpr h9.1 c_6)).symm hM hS
    · refine lv_iload_n hx hb d_Mo_about_9 rfl (lv_at hl 2 rfl) ?_
      refine lv_iconst (v := 0) hx hb d_Mo_about_10 (by decide) ?_
      refine lv_iconst (v := 2) hx hb d_Mo_about_11 (by decide) ?_
      refine x_ci (x_runS (As := [.int k, .int 0, .int 2]) (rest := [.ref (ad 100)]) hE hK hM hl.1 (c_Mo_within l G M k 0 2) kw_592 kw_593 kw_4 kw_594 3 rfl rfl rfl (by decide +kernel) ⟨by decide, by decide⟩ rfl (Nat.le_of_ble_eq_true rfl) d_Mo_about_12 ⟨by decide, by decide⟩) hS (fun r2 M1 H locs hp hM hS => ?_)
      obtain ⟨e_w, e_M0⟩ := hp
      have hM : xh G M H := e_M0 ▸ hM
      subst e_w
      refine lv_if_eq (tgt := 22) hx hb d_Mo_about_15 (by decide) (fun c_15 => ?_) (fun c_15 => ?_)
      · refine lv_iconst (v := 0) hx hb d_Mo_about_22 (by decide) ?_
        exact hjn _ _ _ (zBo_f (fun h9 => zBo_ne.mpr h9.2 c_15)).symm hM hS
      · refine lv_iconst (v := 1) hx hb d_Mo_about_18 (by decide) ?_
        refine lv_goto (tgt := 23) hx hb d_Mo_about_19 (by decide) ?_
        exact hjn _ _ _ (zBo_t ⟨zBo_ne.mp c_6, zBo_ne.mp c_15⟩).symm hM hS

set_option maxHeartbeats 4000000 in
set_option maxRecDepth 100000 in
theorem lp_Mo_sameTree {p : Program} {l : Launch} {e : Env} {s : State} {m : MethodId} {below : List Frame} {meth : Method} {c : Code} {args : Array Value} {G : xG} {M : xM} (ad : Nat → Nat) (u : zS) (th : Int32) (q : z5) (ho : M (ad 100) = some (100, eMo ad u th q)) (X : zX) (hA : MoA G M ad X) (hX : MoR u X) (hO : zOk u) (i : Nat) (hi : i < zrn u) (j : Nat) (hj : j < zrn u) (Post : Int32 → xM → Prop) (hP : ∀ v, v = (if zst u i = -1 ∨ zst u j = -1 then 0 else if (zSam u i j).2 < 5 ∨ 15 * (zSam u i j).2 < (zSam u i j).1 then 0 else 1) → Post v M) (hE : xE p s m args meth c b_Mo_sameTree (some .boolean) 8 R_Mo) (hK : KX G s) : ∀ (n k : Nat), k ≤ zln u i → zln u i + 1 ≤ k + n → ∀ (H : Heap) (locs : List Loc) (ls : Array Slot), xh G M H → va_S (xF G) s.heap H locs → lv_has ls 8 [(0, .ref (ad 100)), (1, .int (nI i)), (2, .int (nI j)), (3, .int (zDist (zev u i) (zSf u i j) k).2), (4, .int (zDist (zev u i) (zSf u i j) k).1), (5, .int (nI k))] → W p l e ({ frames := 2, cells := 0, slots := 0, locals := 75 }) s m args below meth c H locs 0 0 (MQ below (xQi G Post) args s 0 0 (xF G)) (F0 m 40 ls []) := by
  obtain ⟨hx, hb, hr, hml, hown, hw, hlocks⟩ := id hE
  have hrn : zrn u ≤ 10 := hO.2.2.1
  have hZ := hO.2.2.2.1 i hi
  have hZj := hO.2.2.2.1 j hj
  intro n
  induction n with
  | zero =>
    intro k h1 h2
    exact absurd h2 (by omega)
  | succ n ih =>
    intro k hk9 hin H locs ls hM hS hl
    obtain ⟨d, ed⟩ : ∃ zz9 : Int32 × Int32, zz9 = zDist (zev u i) (zSf u i j) k := ⟨_, rfl⟩
    rw [← ed] at hl
    refine lv_iload hx hb d_Mo_sameTree_40 (lv_at hl 5 rfl) ?_
    refine lv_aload_n hx hb d_Mo_sameTree_42 rfl (lv_at hl 0 rfl) ?_
    refine x_get (C := R_Mo) (T := F_Mo) (N := 20) hx hb hw i_Mo hown hK.1 hM (id ho) rfl 4 (by decide) (hw _ kw_527) rfl rfl d_Mo_sameTree_43 ?_
    refine lv_iload_n hx hb d_Mo_sameTree_46 rfl (lv_at hl 1 rfl) ?_
    refine x_iald hx hb hK.1 hM hA.2.1 0 rfl rfl (by omega) (by decide) d_Mo_sameTree_47 ?_
    refine lv_topi (fun tv etv => ?_)
    have etv : tv = nI (zln u i) := by rw [etv]; exact (hX.2.1 i hi).1
    subst etv
    refine lv_icmp_ge (tgt := 151) hx hb d_Mo_sameTree_48 (by decide) (fun c_48 => ?_) (fun c_48 => ?_)
    · have h48 : zln u i ≤ k := (nI_leI (by omega) (by omega)).mp c_48
      refine lv_iload_n hx hb d_Mo_sameTree_151 rfl (lv_at hl 3 rfl) ?_
      refine lv_iconst (v := 5) hx hb d_Mo_sameTree_152 (by decide) ?_
      refine lv_icmp_lt (tgt := 169) hx hb d_Mo_sameTree_153 (by decide) (fun c_153 => ?_) (fun c_153 => ?_)
      · refine lv_iconst (v := 0) hx hb d_Mo_sameTree_169 (by decide) ?_
        have hk8 : k = zln u i := by omega
        rw [hk8] at ed
        exact x_rz hE rfl (Or.inl rfl) hM hS (hP _ (by rw [← zSf_same, ← ed]; exact (zBo_f (fun h9 => h9.1 c_153)).symm)) (by decide) (by decide) d_Mo_sameTree_170
      · refine lv_iload hx hb d_Mo_sameTree_156 (lv_at hl 4 rfl) ?_
        refine lv_bipush (v := 15) hx hb d_Mo_sameTree_158 (by decide) ?_
        refine lv_iload_n hx hb d_Mo_sameTree_160 rfl (lv_at hl 3 rfl) ?_
        refine lv_imul hx hb d_Mo_sameTree_161 ?_
        refine lv_icmp_gt (tgt := 169) hx hb d_Mo_sameTree_162 (by decide) (fun c_162 => ?_) (fun c_162 => ?_)
        · refine lv_iconst (v := 0) hx hb d_Mo_sameTree_169 (by decide) ?_
          have hk8 : k = zln u i := by omega
          rw [hk8] at ed
          exact x_rz hE rfl (Or.inl rfl) hM hS (hP _ (by rw [← zSf_same, ← ed]; exact (zBo_f (fun h9 => h9.2 c_162)).symm)) (by decide) (by decide) d_Mo_sameTree_170
        · refine lv_iconst (v := 1) hx hb d_Mo_sameTree_165 (by decide) ?_
          refine lv_goto (tgt := 170) hx hb d_Mo_sameTree_166 (by decide) ?_
          have hk8 : k = zln u i := by omega
          rw [hk8] at ed
          exact x_rz hE rfl (Or.inr rfl) hM hS (hP _ (by rw [← zSf_same, ← ed]; exact (zBo_t ⟨c_153, fun h9 => c_162 h9⟩).symm)) (by decide) (by decide) d_Mo_sameTree_170
    · have hkl : k < zln u i := Nat.not_le.mp (fun h9 => c_48 ((nI_leI (by omega) (by omega)).mpr h9))
      refine lv_aload_n hx hb d_Mo_sameTree_51 rfl (lv_at hl 0 rfl) ?_
      refine x_get (C := R_Mo) (T := F_Mo) (N := 20) hx hb hw i_Mo hown hK.1 hM (id ho) rfl 6 (by decide) (hw _ kw_529) rfl rfl d_Mo_sameTree_52 ?_
      refine lv_iload_n hx hb d_Mo_sameTree_55 rfl (lv_at hl 1 rfl) ?_
      refine x_iald hx hb hK.1 hM hA.2.2.2.1 0 rfl rfl (by omega) (by decide) d_Mo_sameTree_56 ?_
      refine lv_topi (fun tv etv => ?_)
      have etv : tv = zst u i := by rw [etv]; exact (hX.2.1 i hi).2.2
      subst etv
      refine lv_iload hx hb d_Mo_sameTree_57 (lv_at hl 5 rfl) ?_
      refine lv_iadd hx hb d_Mo_sameTree_59 ?_
      refine lv_aload_n hx hb d_Mo_sameTree_60 rfl (lv_at hl 0 rfl) ?_
      refine x_get (C := R_Mo) (T := F_Mo) (N := 20) hx hb hw i_Mo hown hK.1 hM (id ho) rfl 6 (by decide) (hw _ kw_529) rfl rfl d_Mo_sameTree_61 ?_
      refine lv_iload_n hx hb d_Mo_sameTree_64 rfl (lv_at hl 2 rfl) ?_
      refine x_iald hx hb hK.1 hM hA.2.2.2.1 0 rfl rfl (by omega) (by decide) d_Mo_sameTree_65 ?_
      refine lv_topi (fun tv etv => ?_)
      have etv : tv = zst u j := by rw [etv]; exact (hX.2.1 j hj).2.2
      subst etv
      refine lv_isub hx hb d_Mo_sameTree_66 ?_
      refine lv_istore (lv' := [(6, .int (((zst u i) + (nI k)) - (zst u j))), (0, .ref (ad 100)), (1, .int (nI i)), (2, .int (nI j)), (3, .int d.2), (4, .int d.1), (5, .int (nI k))]) hx hb d_Mo_sameTree_67 hl (by decide) rfl (fun ls hl => ?_)
      refine lv_aload_n hx hb d_Mo_sameTree_69 rfl (lv_at hl 1 rfl) ?_
      refine x_get (C := R_Mo) (T := F_Mo) (N := 20) hx hb hw i_Mo hown hK.1 hM (id ho) rfl 6 (by decide) (hw _ kw_529) rfl rfl d_Mo_sameTree_70 ?_
      refine lv_iload_n hx hb d_Mo_sameTree_73 rfl (lv_at hl 2 rfl) ?_
      refine x_iald hx hb hK.1 hM hA.2.2.2.1 0 rfl rfl (by omega) (by decide) d_Mo_sameTree_74 ?_
      refine lv_topi (fun tv etv => ?_)
      have etv : tv = zst u i := by rw [etv]; exact (hX.2.1 i hi).2.2
      subst etv
      refine lv_iconst (v := (-1)) hx hb d_Mo_sameTree_75 (by decide) ?_
      refine lv_icmp_eq (tgt := 145) hx hb d_Mo_sameTree_76 (by decide) (fun c_76 => ?_) (fun c_76 => ?_)
      · refine lv_iinc (v := (nI (k + 1))) (lv' := [(5, .int (nI (k + 1))), (6, .int (((zst u i) + (nI k)) - (zst u j))), (0, .ref (ad 100)), (1, .int (nI i)), (2, .int (nI j)), (3, .int d.2), (4, .int d.1)]) hx hb d_Mo_sameTree_145 hl (k := 6) rfl (nI_1 k) (by decide) rfl (fun ls hl => ?_)
        refine lv_goto (tgt := 40) hx hb d_Mo_sameTree_148 (by decide) ?_
        have h_f : zSf u i j k = -1 := by unfold zSf; rw [if_pos (Or.inl c_76)]
        have hz : zDist (zev u i) (zSf u i j) (k + 1) = d := by show (if zSf u i j k = -1 then _ else _) = _; rw [if_pos h_f, ← ed]
        exact ih (k + 1) (by omega) (by omega) _ _ _ hM hS (by rw [hz]; exact lv_sub hl [2, 3, 4, 5, 6, 0] rfl)
      · refine lv_aload_n hx hb d_Mo_sameTree_79 rfl (lv_at hl 1 rfl) ?_
        refine x_get (C := R_Mo) (T := F_Mo) (N := 20) hx hb hw i_Mo hown hK.1 hM (id ho) rfl 6 (by decide) (hw _ kw_529) rfl rfl d_Mo_sameTree_80 ?_
        refine lv_iload_n hx hb d_Mo_sameTree_83 rfl (lv_at hl 3 rfl) ?_
        refine x_iald hx hb hK.1 hM hA.2.2.2.1 0 rfl rfl (by omega) (by decide) d_Mo_sameTree_84 ?_
        refine lv_topi (fun tv etv => ?_)
        have etv : tv = zst u j := by rw [etv]; exact (hX.2.1 j hj).2.2
        subst etv
        refine lv_iconst (v := (-1)) hx hb d_Mo_sameTree_85 (by decide) ?_
        refine lv_icmp_eq (tgt := 145) hx hb d_Mo_sameTree_86 (by decide) (fun c_86 => ?_) (fun c_86 => ?_)
        · refine lv_iinc (v := (nI (k + 1))) (lv' := [(5, .int (nI (k + 1))), (6, .int (((zst u i) + (nI k)) - (zst u j))), (0, .ref (ad 100)), (1, .int (nI i)), (2, .int (nI j)), (3, .int d.2), (4, .int d.1)]) hx hb d_Mo_sameTree_145 hl (k := 6) rfl (nI_1 k) (by decide) rfl (fun ls hl => ?_)
          refine lv_goto (tgt := 40) hx hb d_Mo_sameTree_148 (by decide) ?_
          have h_f : zSf u i j k = -1 := by unfold zSf; rw [if_pos (Or.inr c_86)]
          have hz : zDist (zev u i) (zSf u i j) (k + 1) = d := by show (if zSf u i j k = -1 then _ else _) = _; rw [if_pos h_f, ← ed]
          exact ih (k + 1) (by omega) (by omega) _ _ _ hM hS (by rw [hz]; exact lv_sub hl [2, 3, 4, 5, 6, 0] rfl)
        · refine lv_iload hx hb d_Mo_sameTree_89 (lv_at hl 0 rfl) ?_
          refine lv_if_lt (tgt := 145) hx hb d_Mo_sameTree_91 (by decide) (fun c_91 => ?_) (fun c_91 => ?_)
          · refine lv_iinc (v := (nI (k + 1))) (lv' := [(5, .int (nI (k + 1))), (6, .int (((zst u i) + (nI k)) - (zst u j))), (0, .ref (ad 100)), (1, .int (nI i)), (2, .int (nI j)), (3, .int d.2), (4, .int d.1)]) hx hb d_Mo_sameTree_145 hl (k := 6) rfl (nI_1 k) (by decide) rfl (fun ls hl => ?_)
            refine lv_goto (tgt := 40) hx hb d_Mo_sameTree_148 (by decide) ?_
            have h_f : zSf u i j k = -1 := by unfold zSf zRing; rw [if_neg (fun h9 => h9.elim c_76 c_86), if_pos c_91]
            have hz : zDist (zev u i) (zSf u i j) (k + 1) = d := by show (if zSf u i j k = -1 then _ else _) = _; rw [if_pos h_f, ← ed]
            exact ih (k + 1) (by omega) (by omega) _ _ _ hM hS (by rw [hz]; exact lv_sub hl [2, 3, 4, 5, 6, 0] rfl)
          · refine lv_iload hx hb d_Mo_sameTree_94 (lv_at hl 0 rfl) ?_
            refine lv_aload_n hx hb d_Mo_sameTree_96 rfl (lv_at hl 1 rfl) ?_
            refine x_get (C := R_Mo) (T := F_Mo) (N := 20) hx hb hw i_Mo hown hK.1 hM (id ho) rfl 4 (by decide) (hw _ kw_527) rfl rfl d_Mo_sameTree_97 ?_
            refine lv_iload_n hx hb d_Mo_sameTree_100 rfl (lv_at hl 3 rfl) ?_
            refine x_iald hx hb hK.1 hM hA.2.1 0 rfl rfl (by omega) (by decide) d_Mo_sameTree_101 ?_
            refine lv_topi (fun tv etv => ?_)
            have etv : tv = nI (zln u j) := by rw [etv]; exact (hX.2.1 j hj).1
            subst etv
            refine lv_icmp_ge (tgt := 145) hx hb d_Mo_sameTree_102 (by decide) (fun c_102 => ?_) (fun c_102 => ?_)
            · refine lv_iinc (v := (nI (k + 1))) (lv' := [(5, .int (nI (k + 1))), (6, .int (((zst u i) + (nI k)) - (zst u j))), (0, .ref (ad 100)), (1, .int (nI i)), (2, .int (nI j)), (3, .int d.2), (4, .int d.1)]) hx hb d_Mo_sameTree_145 hl (k := 6) rfl (nI_1 k) (by decide) rfl (fun ls hl => ?_)
              refine lv_goto (tgt := 40) hx hb d_Mo_sameTree_148 (by decide) ?_
              have h_f : zSf u i j k = -1 := by unfold zSf zRing; rw [if_neg (fun h9 => h9.elim c_76 c_86), if_neg c_91, if_pos c_102]
              have hz : zDist (zev u i) (zSf u i j) (k + 1) = d := by show (if zSf u i j k = -1 then _ else _) = _; rw [if_pos h_f, ← ed]
              exact ih (k + 1) (by omega) (by omega) _ _ _ hM hS (by rw [hz]; exact lv_sub hl [2, 3, 4, 5, 6, 0] rfl)
            · refine lv_aload_n hx hb d_Mo_sameTree_105 rfl (lv_at hl 1 rfl) ?_
              refine lv_iload_n hx hb d_Mo_sameTree_106 rfl (lv_at hl 2 rfl) ?_
              refine lv_iload hx hb d_Mo_sameTree_107 (lv_at hl 6 rfl) ?_
              refine x_ci (x_runV (As := [.int (nI i), .int (nI k)]) (rest := []) hE hK hM hl.1 (c_Mo_even l G M ad u th q ho X hA hX hO i hi k hkl) (id ho) rfl kw_611 kw_613 ks_19 kw_4 kw_614 2 rfl rfl rfl (by decide +kernel) ⟨by decide, by decide⟩ rfl (Nat.le_of_ble_eq_true rfl) d_Mo_sameTree_109 ⟨by decide, by decide⟩) hS (fun r1 M1 H locs hp hM hS => ?_)
              obtain ⟨e_e1, e_M1⟩ := hp
              have hM : xh G M H := e_M1 ▸ hM
              refine lv_aload_n hx hb d_Mo_sameTree_112 rfl (lv_at hl 1 rfl) ?_
              refine lv_iload_n hx hb d_Mo_sameTree_113 rfl (lv_at hl 3 rfl) ?_
              refine lv_iload hx hb d_Mo_sameTree_114 (lv_at hl 0 rfl) ?_
              obtain ⟨z, ez, hz1, exz⟩ : ∃ z : Nat, z = (zst u i + nI k - zst u j).toNatClampNeg ∧ z < zln u j ∧ zst u i + nI k - zst u j = nI z := ⟨_, rfl, (z_ix c_91 c_102 (by omega)).1, (z_ix c_91 c_102 (by omega)).2⟩
              refine W.eq (g2 := F0 m 116 ls [.int (nI z), .int (nI j), .ref (ad 100), .int r1]) (by rw [exz]) ?_
              refine x_ci (x_runV (As := [.int (nI j), .int (nI z)]) (rest := [.int r1]) hE hK hM hl.1 (c_Mo_even l G M ad u th q ho X hA hX hO j hj z hz1) (id ho) rfl kw_611 kw_613 ks_19 kw_4 kw_614 2 rfl rfl rfl (by decide +kernel) ⟨by decide, by decide⟩ rfl (Nat.le_of_ble_eq_true rfl) d_Mo_sameTree_116 ⟨by decide, by decide⟩) hS (fun r2 M1 H locs hp hM hS => ?_)
              obtain ⟨e_e2, e_M2⟩ := hp
              have hM : xh G M H := e_M2 ▸ hM
              refine lv_isub hx hb d_Mo_sameTree_119 ?_
              refine lv_istore (lv' := [(7, .int (r1 - r2)), (6, .int (((zst u i) + (nI k)) - (zst u j))), (0, .ref (ad 100)), (1, .int (nI i)), (2, .int (nI j)), (3, .int d.2), (4, .int d.1), (5, .int (nI k))]) hx hb d_Mo_sameTree_120 hl (by decide) rfl (fun ls hl => ?_)
              refine lv_iload hx hb d_Mo_sameTree_122 (lv_at hl 0 rfl) ?_
              refine lv_if_ge (tgt := 135) hx hb d_Mo_sameTree_124 (by decide) (fun c_124 => ?_) (fun c_124 => ?_)
              · refine lv_iload hx hb d_Mo_sameTree_135 (lv_at hl 6 rfl) ?_
                refine lv_iload hx hb d_Mo_sameTree_137 (lv_at hl 0 rfl) ?_
                refine lv_iadd hx hb d_Mo_sameTree_139 ?_
                refine lv_istore (lv' := [(4, .int (d.1 + (r1 - r2))), (7, .int (r1 - r2)), (6, .int (((zst u i) + (nI k)) - (zst u j))), (0, .ref (ad 100)), (1, .int (nI i)), (2, .int (nI j)), (3, .int d.2), (5, .int (nI k))]) hx hb d_Mo_sameTree_140 hl (by decide) rfl (fun ls hl => ?_)
                refine lv_iinc (v := (d.2 + 1)) (lv' := [(3, .int (d.2 + 1)), (4, .int (d.1 + (r1 - r2))), (7, .int (r1 - r2)), (6, .int (((zst u i) + (nI k)) - (zst u j))), (0, .ref (ad 100)), (1, .int (nI i)), (2, .int (nI j)), (5, .int (nI k))]) hx hb d_Mo_sameTree_142 hl (k := 6) rfl rfl (by decide) rfl (fun ls hl => ?_)
                refine lv_iinc (v := (nI (k + 1))) (lv' := [(5, .int (nI (k + 1))), (3, .int (d.2 + 1)), (4, .int (d.1 + (r1 - r2))), (7, .int (r1 - r2)), (6, .int (((zst u i) + (nI k)) - (zst u j))), (0, .ref (ad 100)), (1, .int (nI i)), (2, .int (nI j))]) hx hb d_Mo_sameTree_145 hl (k := 7) rfl (nI_1 k) (by decide) rfl (fun ls hl => ?_)
                refine lv_goto (tgt := 40) hx hb d_Mo_sameTree_148 (by decide) ?_
                have h_f : zSf u i j k = zev u j z := by unfold zSf zRing; rw [if_neg (fun h9 => h9.elim c_76 c_86), if_neg c_91, if_neg c_102, ← ez]
                have hz : zDist (zev u i) (zSf u i j) (k + 1) = ((d.1 + (r1 - r2)), d.2 + 1) := by
                  show (if zSf u i j k = -1 then _ else ((zDist (zev u i) (zSf u i j) k).1 + zAbs (zev u i k - zSf u i j k), (zDist (zev u i) (zSf u i j) k).2 + 1)) = _
                  rw [if_neg (fun h9 => zev_ne hO hj hz1 (h_f.symm.trans h9)), ← ed, h_f, ← e_e1, ← e_e2, ← z_absd2, if_neg (z_nlt c_124)]
                exact ih (k + 1) (by omega) (by omega) _ _ _ hM hS (by rw [hz]; exact lv_sub hl [5, 6, 7, 1, 2, 0] rfl)
              · refine lv_iload hx hb d_Mo_sameTree_127 (lv_at hl 6 rfl) ?_
                refine lv_iload hx hb d_Mo_sameTree_129 (lv_at hl 0 rfl) ?_
                refine lv_isub hx hb d_Mo_sameTree_131 ?_
                refine lv_goto (tgt := 140) hx hb d_Mo_sameTree_132 (by decide) ?_
                refine lv_istore (lv' := [(4, .int (d.1 - (r1 - r2))), (7, .int (r1 - r2)), (6, .int (((zst u i) + (nI k)) - (zst u j))), (0, .ref (ad 100)), (1, .int (nI i)), (2, .int (nI j)), (3, .int d.2), (5, .int (nI k))]) hx hb d_Mo_sameTree_140 hl (by decide) rfl (fun ls hl => ?_)
                refine lv_iinc (v := (d.2 + 1)) (lv' := [(3, .int (d.2 + 1)), (4, .int (d.1 - (r1 - r2))), (7, .int (r1 - r2)), (6, .int (((zst u i) + (nI k)) - (zst u j))), (0, .ref (ad 100)), (1, .int (nI i)), (2, .int (nI j)), (5, .int (nI k))]) hx hb d_Mo_sameTree_142 hl (k := 6) rfl rfl (by decide) rfl (fun ls hl => ?_)
                refine lv_iinc (v := (nI (k + 1))) (lv' := [(5, .int (nI (k + 1))), (3, .int (d.2 + 1)), (4, .int (d.1 - (r1 - r2))), (7, .int (r1 - r2)), (6, .int (((zst u i) + (nI k)) - (zst u j))), (0, .ref (ad 100)), (1, .int (nI i)), (2, .int (nI j))]) hx hb d_Mo_sameTree_145 hl (k := 7) rfl (nI_1 k) (by decide) rfl (fun ls hl => ?_)
                refine lv_goto (tgt := 40) hx hb d_Mo_sameTree_148 (by decide) ?_
                have h_f : zSf u i j k = zev u j z := by unfold zSf zRing; rw [if_neg (fun h9 => h9.elim c_76 c_86), if_neg c_91, if_neg c_102, ← ez]
                have hz : zDist (zev u i) (zSf u i j) (k + 1) = ((d.1 - (r1 - r2)), d.2 + 1) := by
                  show (if zSf u i j k = -1 then _ else ((zDist (zev u i) (zSf u i j) k).1 + zAbs (zev u i k - zSf u i j k), (zDist (zev u i) (zSf u i j) k).2 + 1)) = _
                  rw [if_neg (fun h9 => zev_ne hO hj hz1 (h_f.symm.trans h9)), ← ed, h_f, ← e_e1, ← e_e2, ← z_absd2, if_pos (Int32.not_le.mp c_124)]
                exact ih (k + 1) (by omega) (by omega) _ _ _ hM hS (by rw [hz]; exact lv_sub hl [5, 6, 7, 1, 2, 0] rfl)

set_option maxHeartbeats 4000000 in
set_option maxRecDepth 100000 in
theorem c_Mo_sameTree (l : Launch) (G : xG) (M : xM) (ad : Nat → Nat) (u : zS) (th : Int32) (q : z5) (ho : M (ad 100) = some (100, eMo ad u th q)) (X : zX) (hA : MoA G M ad X) (hX : MoR u X) (hO : zOk u) (x y : Int32) : Met l y_Mo_sameTree w_Mo_sameTree ({ frames := 2, cells := 0, slots := 0, locals := 75 }) (xP G [.ref (ad 100), .int x, .int y] M) (xQi G (fun v M' => MoPost M ad u (fSame u x y) v M')) 0 0 (xF G) := by
  refine x_met (by decide) (Nat.le_of_ble_eq_true rfl) ?_
  intro p e s m below meth c ls hE hin hl hM hK hS
  obtain ⟨hx, hb, hr, hml, hown, hw, hlocks⟩ := id hE
  have hlt : (fSame u x y).1 < 2 ^ 31 := by
    unfold fSame
    repeat' split
    all_goals exact Nat.le_of_ble_eq_true rfl
  have hl : lv_has ls 8 [(0, .ref (ad 100)), (1, .int x), (2, .int y)] := hl
  refine lv_aload_n hx hb d_Mo_sameTree_0 rfl (lv_at hl 0 rfl) ?_
  refine x_cutH (G := G) (M := M) (ls := ls) 22 [.ref (ad 100)] (fun v => v = zBo (cSame u x y)) (fun o1 H locs h_o1 hM hS => ?_) (fun hjn => ?_)
  · subst h_o1
    refine lv_iconst (v := 1) hx hb d_Mo_sameTree_22 (by decide) ?_
    refine lv_iconst (v := 1) hx hb d_Mo_sameTree_23 (by decide) ?_
    refine x_ci (x_runV (As := [.int (zBo (cSame u x y)), .int 1, .int 1]) (rest := []) hE hK hM hl.1 (c_Mo_goes l G M ad u th q ho (zBo (cSame u x y)) 1 1) (id ho) rfl kw_595 kw_597 ks_17 kw_4 kw_598 3 rfl rfl rfl (by decide +kernel) ⟨by decide, by decide⟩ rfl (Nat.le_of_ble_eq_true rfl) d_Mo_sameTree_24 ⟨by decide, by decide⟩) hS (fun r1 M1 H locs hp hM hS => ?_)
    have hgb := g_same u x y
    obtain ⟨e_g, e_M⟩ := hp
    rw [hgb] at e_M e_g
    obtain ⟨Ma, eMa⟩ : ∃ zz9 : xM, zz9 = M1 := ⟨_, rfl⟩
    subst eMa
    have hog := xw_atE e_M
    have hAg := hA.up ho e_M
    refine lv_if_ne (tgt := 32) hx hb d_Mo_sameTree_27 (by decide) (fun c_27 => ?_) (fun c_27 => ?_)
    · have hc0 : (fSame u x y).1 = 0 := (nI_eq (b := 0) (by exact hlt) (by decide)).mp (zBo_ne.mp (fun h9 => c_27 (e_g.trans h9)))
      have hcd := g_cd hgb hc0
      have h_a := zBo_ne.mp hcd.1
      obtain ⟨i, ei, hi, exi⟩ := z_in (h_a.1) (by have := hO.2.2.1; omega)
      obtain ⟨j, ej, hj, exj⟩ := z_in (h_a.2) (by have := hO.2.2.1; omega)
      refine lv_iconst (v := 0) hx hb d_Mo_sameTree_32 (by decide) ?_
      refine lv_istore_n (lv' := [(3, .int 0), (0, .ref (ad 100)), (1, .int x), (2, .int y)]) hx hb d_Mo_sameTree_33 rfl hl (by decide) rfl (fun ls hl => ?_)
      refine lv_iconst (v := 0) hx hb d_Mo_sameTree_34 (by decide) ?_
      refine lv_istore (lv' := [(4, .int 0), (3, .int 0), (0, .ref (ad 100)), (1, .int x), (2, .int y)]) hx hb d_Mo_sameTree_35 hl (by decide) rfl (fun ls hl => ?_)
      refine lv_iconst (v := 0) hx hb d_Mo_sameTree_37 (by decide) ?_
      refine lv_istore (lv' := [(5, .int 0), (4, .int 0), (3, .int 0), (0, .ref (ad 100)), (1, .int x), (2, .int y)]) hx hb d_Mo_sameTree_38 hl (by decide) rfl (fun ls hl => ?_)
      exact lp_Mo_sameTree ad u _ q hog X hAg hX hO i hi j hj (fun v M' => MoPost M ad u (fSame u x y) v M') (fun v h9 => ⟨⟨_, e_M⟩, fun _ => by rw [h9]; unfold fSame; rw [if_pos h_a.1, if_pos h_a.2, ← ei, ← ej]⟩) hE hK (zln u i + 1) 0 (by omega) (by omega) _ _ _ hM hS (by have h9 : lv_has ls 8 [(0, .ref (ad 100)), (1, .int x), (2, .int y), (3, .int 0), (4, .int 0), (5, .int 0)] := lv_sub hl [3, 4, 5, 2, 1, 0] rfl; rw [exi, exj] at h9; exact h9)
    · have hc1 : ¬ (fSame u x y).1 = 0 := fun h9 => by rw [e_g, zBo_t (by rw [h9]; rfl)] at c_27; exact absurd c_27 (by decide)
      refine lv_iconst (v := 0) hx hb d_Mo_sameTree_30 (by decide) ?_
      exact x_rz hE rfl (Or.inl rfl) hM hS ⟨⟨_, e_M⟩, fun h9 => absurd h9 hc1⟩ (by decide) (by decide) d_Mo_sameTree_31
  · refine lv_aload_n hx hb d_Mo_sameTree_1 rfl (lv_at hl 0 rfl) ?_
    refine lv_iload_n hx hb d_Mo_sameTree_2 rfl (lv_at hl 1 rfl) ?_
    refine x_ci (x_runV (As := [.int x]) (rest := [.ref (ad 100)]) hE hK hM hl.1 (c_Mo_isSeries l G M ad u th q ho hO x) (id ho) rfl kw_607 kw_609 ks_18 kw_4 kw_610 1 rfl rfl rfl (by decide +kernel) ⟨by decide, by decide⟩ rfl (Nat.le_of_ble_eq_true rfl) d_Mo_sameTree_3 ⟨by decide, by decide⟩) hS (fun r1 M1 H locs hp hM hS => ?_)
    obtain ⟨e_i, e_M0⟩ := hp
    have hM : xh G M H := e_M0 ▸ hM
    subst e_i
    refine lv_if_eq (tgt := 21) hx hb d_Mo_sameTree_6 (by decide) (fun c_6 => ?_) (fun c_6 => ?_)
    · refine lv_iconst (v := 0) hx hb d_Mo_sameTree_21 (by decide) ?_
      exact hjn _ _ _ (zBo_f (fun h9 => zBo_ne.mpr h9.1 c_6)).symm hM hS
    · refine lv_aload_n hx hb d_Mo_sameTree_9 rfl (lv_at hl 0 rfl) ?_
      refine lv_iload_n hx hb d_Mo_sameTree_10 rfl (lv_at hl 2 rfl) ?_
      refine x_ci (x_runV (As := [.int y]) (rest := [.ref (ad 100)]) hE hK hM hl.1 (c_Mo_isSeries l G M ad u th q ho hO y) (id ho) rfl kw_607 kw_609 ks_18 kw_4 kw_610 1 rfl rfl rfl (by decide +kernel) ⟨by decide, by decide⟩ rfl (Nat.le_of_ble_eq_true rfl) d_Mo_sameTree_11 ⟨by decide, by decide⟩) hS (fun r2 M1 H locs hp hM hS => ?_)
      obtain ⟨e_i, e_M0⟩ := hp
      have hM : xh G M H := e_M0 ▸ hM
      subst e_i
      refine lv_if_eq (tgt := 21) hx hb d_Mo_sameTree_14 (by decide) (fun c_14 => ?_) (fun c_14 => ?_)
      · refine lv_iconst (v := 0) hx hb d_Mo_sameTree_21 (by decide) ?_
        exact hjn _ _ _ (zBo_f (fun h9 => zBo_ne.mpr h9.2 c_14)).symm hM hS
      · refine lv_iconst (v := 1) hx hb d_Mo_sameTree_17 (by decide) ?_
        refine lv_goto (tgt := 22) hx hb d_Mo_sameTree_18 (by decide) ?_
        exact hjn _ _ _ (zBo_t ⟨zBo_ne.mp c_6, zBo_ne.mp c_14⟩).symm hM hS

set_option maxHeartbeats 4000000 in
set_option maxRecDepth 100000 in
theorem lp_Mo_agrees {p : Program} {l : Launch} {e : Env} {s : State} {m : MethodId} {below : List Frame} {meth : Method} {c : Code} {args : Array Value} {G : xG} {M : xM} (ad : Nat → Nat) (u : zS) (th : Int32) (q : z5) (ho : M (ad 100) = some (100, eMo ad u th q)) (X : zX) (hA : MoA G M ad X) (hX : MoR u X) (hO : zOk u) (th2 : Int32) (i : Nat) (hi : i < zrn u) (st w : Int32) (h_le : zLe w) (h_s : ¬ st < 0 ∧ ¬ (1 : Int32) <<< (nI (zmn u) &&& 31) ≤ st) (Post : Int32 → xM → Prop) (hP : ∀ (v : Int32) (q' : z5), v = zAnsA (zAgr u i st w (zmn u)) → Post v (va_up M (ad 100) (some (100, eMo ad u th2 q')))) (hE : xE p s m args meth c b_Mo_agrees (some .boolean) 8 R_Mo) (hK : KX G s) : ∀ (n k : Nat), k ≤ zmn u → zmn u + 1 ≤ k + n → ∀ (dt gd : Int32) (qi : z5), AgI u i st w k dt gd → ∀ (H : Heap) (locs : List Loc) (ls : Array Slot), xh G (va_up M (ad 100) (some (100, eMo ad u th2 qi))) H → va_S (xF G) s.heap H locs → lv_has ls 8 [(0, .ref (ad 100)), (1, .int (nI i)), (2, .int st), (3, .int w), (5, .int dt), (6, .int gd), (7, .int (nI k))] → W p l e ({ frames := 4, cells := 0, slots := 0, locals := 160 }) s m args below meth c H locs 0 0 (MQ below (xQi G Post) args s 0 0 (xF G)) (F0 m 64 ls []) := by
  obtain ⟨hx, hb, hr, hml, hown, hw, hlocks⟩ := id hE
  have hmn : zmn u ≤ 8 := hO.2.2.2.2.1
  intro n
  induction n with
  | zero =>
    intro k h1 h2
    exact absurd h2 (by omega)
  | succ n ih =>
    intro k hk9 hin dt gd qi hI H locs ls hM hS hl
    obtain ⟨Mi, eMi⟩ : ∃ zz9 : xM, zz9 = va_up M (ad 100) (some (100, eMo ad u th2 qi)) := ⟨_, rfl⟩
    rw [← eMi] at hM
    have hoi : Mi (ad 100) = some (100, eMo ad u th2 qi) := xw_atE eMi
    have hAi := hA.up ho eMi
    refine lv_iload hx hb d_Mo_agrees_64 (lv_at hl 6 rfl) ?_
    refine lv_aload_n hx hb d_Mo_agrees_66 rfl (lv_at hl 0 rfl) ?_
    refine x_get (C := R_Mo) (T := F_Mo) (N := 20) hx hb hw i_Mo hown hK.1 hM hoi rfl 7 (by decide) (hw _ kw_530) rfl rfl d_Mo_agrees_67 ?_
    refine lv_icmp_ge (tgt := 142) hx hb d_Mo_agrees_70 (by decide) (fun c_70 => ?_) (fun c_70 => ?_)
    · have h_ge : zmn u ≤ k := (nI_leI (by omega) (by omega)).mp c_70
      refine lv_iload hx hb d_Mo_agrees_142 (lv_at hl 5 rfl) ?_
      have hk8 : k = zmn u := by omega
      rw [hk8] at hI
      have h_an := hI.ans hO h_s.1 h_s.2
      exact x_rz hE rfl (by rcases hI with ⟨-, h9⟩ | ⟨-, h9⟩; rw [h9]; exact zBo_01; exact Or.inl h9) hM hS (by have h9 := hP gd qi h_an; rw [← eMi] at h9; exact h9) (by decide) (by decide) d_Mo_agrees_144
    · have h_lt : k < zmn u := Nat.not_le.mp (fun h9 => c_70 ((nI_leI (by omega) (by omega)).mpr h9))
      have h_b := z_stp hO.2.2.2.2.1 h_s.1 h_s.2 (show k < 8 by omega)
      refine lv_iload_n hx hb d_Mo_agrees_73 rfl (lv_at hl 2 rfl) ?_
      refine lv_iload hx hb d_Mo_agrees_74 (lv_at hl 6 rfl) ?_
      refine lv_ishr hx hb d_Mo_agrees_76 ?_
      refine lv_iconst (v := 1) hx hb d_Mo_agrees_77 (by decide) ?_
      refine lv_iand hx hb d_Mo_agrees_78 ?_
      refine lv_iconst (v := 1) hx hb d_Mo_agrees_79 (by decide) ?_
      refine lv_icmp_ne (tgt := 136) hx hb d_Mo_agrees_80 (by decide) (fun c_80 => ?_) (fun c_80 => ?_)
      · refine lv_iinc (v := (nI (k + 1))) (lv' := [(7, .int (nI (k + 1))), (0, .ref (ad 100)), (1, .int (nI i)), (2, .int st), (3, .int w), (5, .int dt), (6, .int gd)]) hx hb d_Mo_agrees_136 hl (k := 6) rfl (nI_1 k) (by decide) rfl (fun ls hl => ?_)
        refine lv_goto (tgt := 64) hx hb d_Mo_agrees_139 (by decide) ?_
        exact ih (k + 1) h_lt (by omega) dt gd qi (hI.skip (h_b.1.resolve_right c_80)) _ _ _ (eMi ▸ hM) hS (lv_sub hl [1, 2, 3, 4, 5, 6, 0] rfl)
      · refine lv_aload_n hx hb d_Mo_agrees_83 rfl (lv_at hl 0 rfl) ?_
        refine lv_iload_n hx hb d_Mo_agrees_84 rfl (lv_at hl 1 rfl) ?_
        refine lv_iload hx hb d_Mo_agrees_85 (lv_at hl 6 rfl) ?_
        refine lv_iload_n hx hb d_Mo_agrees_87 rfl (lv_at hl 3 rfl) ?_
        refine x_cv (x_runV (As := [.int (nI i), .int (nI k), .int w]) (rest := []) hE hK hM hl.1 (c_Mo_seek l G Mi ad u th2 qi hoi X hAi hX hO i hi k h_lt w) hoi rfl kw_674 kw_676 ks_26 kw_4 kw_677 3 rfl rfl rfl (by decide +kernel) ⟨by decide, by decide⟩ rfl (Nat.le_of_ble_eq_true rfl) d_Mo_agrees_88 ⟨by decide, by decide⟩) hS (fun M1 H locs hp hM hS => ?_)
        obtain ⟨q2, e_Mb, e_q⟩ := hp
        obtain ⟨Mb, eMb⟩ : ∃ zz9 : xM, zz9 = M1 := ⟨_, rfl⟩
        subst eMb
        have hob := xw_atE e_Mb
        rw [eMi, bx_uu] at e_Mb
        have e_d : q2.2.2.1 = (zDat u i k w).1 := by rw [e_q]; exact (zSk_dat hO hi h_lt h_le _ rfl).1
        refine x_cutH (G := G) (M := Mb) (ls := ls) 128 [] (fun v => v = zBo (¬ gd = 0 ∧ ¬ q2.2.2.1 = -1000 ∧ (dt = -1000 ∨ dt = q2.2.2.1))) (fun g2 H locs h_g2 hM hS => ?_) (fun hjn => ?_)
        · subst h_g2
          refine lv_istore (lv' := [(6, .int (zBo (¬ gd = 0 ∧ ¬ q2.2.2.1 = -1000 ∧ (dt = -1000 ∨ dt = q2.2.2.1)))), (0, .ref (ad 100)), (1, .int (nI i)), (2, .int st), (3, .int w), (5, .int dt), (7, .int (nI k))]) hx hb d_Mo_agrees_128 hl (by decide) rfl (fun ls hl => ?_)
          refine lv_aload_n hx hb d_Mo_agrees_130 rfl (lv_at hl 1 rfl) ?_
          refine x_get (C := R_Mo) (T := F_Mo) (N := 20) hx hb hw i_Mo hown hK.1 hM hob rfl 14 (by decide) (hw _ kw_537) rfl rfl d_Mo_agrees_131 ?_
          refine lv_istore (lv' := [(5, .int q2.2.2.1), (6, .int (zBo (¬ gd = 0 ∧ ¬ q2.2.2.1 = -1000 ∧ (dt = -1000 ∨ dt = q2.2.2.1)))), (0, .ref (ad 100)), (1, .int (nI i)), (2, .int st), (3, .int w), (7, .int (nI k))]) hx hb d_Mo_agrees_134 hl (by decide) rfl (fun ls hl => ?_)
          refine lv_iinc (v := (nI (k + 1))) (lv' := [(7, .int (nI (k + 1))), (5, .int q2.2.2.1), (6, .int (zBo (¬ gd = 0 ∧ ¬ q2.2.2.1 = -1000 ∧ (dt = -1000 ∨ dt = q2.2.2.1)))), (0, .ref (ad 100)), (1, .int (nI i)), (2, .int st), (3, .int w)]) hx hb d_Mo_agrees_136 hl (k := 6) rfl (nI_1 k) (by decide) rfl (fun ls hl => ?_)
          refine lv_goto (tgt := 64) hx hb d_Mo_agrees_139 (by decide) ?_
          exact ih (k + 1) h_lt (by omega) q2.2.2.1 _ q2 (hI.take e_d (h_b.2 c_80) (by rw [c_80]; decide)) _ _ _ (e_Mb ▸ hM) hS (lv_sub hl [3, 4, 5, 6, 1, 2, 0] rfl)
        · refine lv_iload hx hb d_Mo_agrees_91 (lv_at hl 5 rfl) ?_
          refine lv_if_eq (tgt := 127) hx hb d_Mo_agrees_93 (by decide) (fun c_93 => ?_) (fun c_93 => ?_)
          · refine lv_iconst (v := 0) hx hb d_Mo_agrees_127 (by decide) ?_
            exact hjn _ _ _ (zBo_f (fun h9 => h9.1 c_93)).symm hM hS
          · refine lv_aload_n hx hb d_Mo_agrees_96 rfl (lv_at hl 0 rfl) ?_
            refine x_get (C := R_Mo) (T := F_Mo) (N := 20) hx hb hw i_Mo hown hK.1 hM hob rfl 14 (by decide) (hw _ kw_537) rfl rfl d_Mo_agrees_97 ?_
            refine lv_sipush (v := (-1000)) hx hb d_Mo_agrees_100 (by decide) ?_
            refine lv_icmp_eq (tgt := 127) hx hb d_Mo_agrees_103 (by decide) (fun c_103 => ?_) (fun c_103 => ?_)
            · refine lv_iconst (v := 0) hx hb d_Mo_agrees_127 (by decide) ?_
              exact hjn _ _ _ (zBo_f (fun h9 => h9.2.1 c_103)).symm hM hS
            · refine lv_iload hx hb d_Mo_agrees_106 (lv_at hl 4 rfl) ?_
              refine lv_sipush (v := (-1000)) hx hb d_Mo_agrees_108 (by decide) ?_
              refine lv_icmp_eq (tgt := 123) hx hb d_Mo_agrees_111 (by decide) (fun c_111 => ?_) (fun c_111 => ?_)
              · refine lv_iconst (v := 1) hx hb d_Mo_agrees_123 (by decide) ?_
                refine lv_goto (tgt := 128) hx hb d_Mo_agrees_124 (by decide) ?_
                exact hjn _ _ _ (zBo_t ⟨c_93, c_103, Or.inl c_111⟩).symm hM hS
              · refine lv_iload hx hb d_Mo_agrees_114 (lv_at hl 4 rfl) ?_
                refine lv_aload_n hx hb d_Mo_agrees_116 rfl (lv_at hl 0 rfl) ?_
                refine x_get (C := R_Mo) (T := F_Mo) (N := 20) hx hb hw i_Mo hown hK.1 hM hob rfl 14 (by decide) (hw _ kw_537) rfl rfl d_Mo_agrees_117 ?_
                refine lv_icmp_ne (tgt := 127) hx hb d_Mo_agrees_120 (by decide) (fun c_120 => ?_) (fun c_120 => ?_)
                · refine lv_iconst (v := 0) hx hb d_Mo_agrees_127 (by decide) ?_
                  exact hjn _ _ _ (zBo_f (fun h9 => h9.2.2.elim c_111 c_120)).symm hM hS
                · refine lv_iconst (v := 1) hx hb d_Mo_agrees_123 (by decide) ?_
                  refine lv_goto (tgt := 128) hx hb d_Mo_agrees_124 (by decide) ?_
                  exact hjn _ _ _ (zBo_t ⟨c_93, c_103, Or.inr c_120⟩).symm hM hS

set_option maxHeartbeats 4000000 in
set_option maxRecDepth 100000 in
theorem c_Mo_agrees (l : Launch) (G : xG) (M : xM) (ad : Nat → Nat) (u : zS) (th : Int32) (q : z5) (ho : M (ad 100) = some (100, eMo ad u th q)) (X : zX) (hA : MoA G M ad X) (hX : MoR u X) (hO : zOk u) (x st w : Int32) : Met l y_Mo_agrees w_Mo_agrees ({ frames := 4, cells := 0, slots := 0, locals := 160 }) (xP G [.ref (ad 100), .int x, .int st, .int w] M) (xQi G (fun v M' => MoPost M ad u (fAgr u x st w) v M')) 0 0 (xF G) := by
  refine x_met (by decide) (Nat.le_of_ble_eq_true rfl) ?_
  intro p e s m below meth c ls hE hin hl hM hK hS
  obtain ⟨hx, hb, hr, hml, hown, hw, hlocks⟩ := id hE
  have hlt : (fAgr u x st w).1 < 2 ^ 31 := by
    unfold fAgr
    repeat' split
    all_goals exact Nat.le_of_ble_eq_true rfl
  have hl : lv_has ls 8 [(0, .ref (ad 100)), (1, .int x), (2, .int st), (3, .int w)] := hl
  refine x_cutH (G := G) (M := M) (ls := ls) 27 [] (fun v => v = zBo (cAgr u x st)) (fun o1 H locs h_o1 hM hS => ?_) (fun hjn => ?_)
  · subst h_o1
    refine lv_istore (lv' := [(4, .int (zBo (cAgr u x st))), (0, .ref (ad 100)), (1, .int x), (2, .int st), (3, .int w)]) hx hb d_Mo_agrees_27 hl (by decide) rfl (fun ls hl => ?_)
    refine lv_aload_n hx hb d_Mo_agrees_29 rfl (lv_at hl 1 rfl) ?_
    refine lv_iload hx hb d_Mo_agrees_30 (lv_at hl 0 rfl) ?_
    refine lv_iload_n hx hb d_Mo_agrees_32 rfl (lv_at hl 4 rfl) ?_
    refine x_ci (x_runS (As := [.int w]) (rest := [.int (zBo (cAgr u x st)), .ref (ad 100)]) hE hK hM hl.1 (c_Mo_isLeast l G M w) kw_671 kw_672 kw_4 kw_673 1 rfl rfl rfl (by decide +kernel) ⟨by decide, by decide⟩ rfl (Nat.le_of_ble_eq_true rfl) d_Mo_agrees_33 ⟨by decide, by decide⟩) hS (fun r1 M1 H locs hp hM hS => ?_)
    obtain ⟨e_w, e_M0⟩ := hp
    have hM : xh G M H := e_M0 ▸ hM
    subst e_w
    refine lv_iconst (v := 1) hx hb d_Mo_agrees_36 (by decide) ?_
    refine x_ci (x_runV (As := [.int (zBo (cAgr u x st)), .int (zBo (zLe w)), .int 1]) (rest := []) hE hK hM hl.1 (c_Mo_goes l G M ad u th q ho (zBo (cAgr u x st)) (zBo (zLe w)) 1) (id ho) rfl kw_595 kw_597 ks_17 kw_4 kw_598 3 rfl rfl rfl (by decide +kernel) ⟨by decide, by decide⟩ rfl (Nat.le_of_ble_eq_true rfl) d_Mo_agrees_37 ⟨by decide, by decide⟩) hS (fun r2 M1 H locs hp hM hS => ?_)
    have hgb := g_agr hO x st w
    obtain ⟨e_g, e_M⟩ := hp
    rw [hgb] at e_M e_g
    obtain ⟨Ma, eMa⟩ : ∃ zz9 : xM, zz9 = M1 := ⟨_, rfl⟩
    subst eMa
    have hog := xw_atE e_M
    have hAg := hA.up ho e_M
    refine lv_if_ne (tgt := 45) hx hb d_Mo_agrees_40 (by decide) (fun c_40 => ?_) (fun c_40 => ?_)
    · have hc0 : (fAgr u x st w).1 = 0 := (nI_eq (b := 0) (by exact hlt) (by decide)).mp (zBo_ne.mp (fun h9 => c_40 (e_g.trans h9)))
      have hcd := g_cd hgb hc0
      have h_a := zBo_ne.mp hcd.1
      have h_le := zBo_ne.mp hcd.2.1
      obtain ⟨i, ei, hi, exi⟩ := z_in (h_a.1) (by have := hO.2.2.1; omega)
      refine lv_sipush (v := (-1000)) hx hb d_Mo_agrees_45 (by decide) ?_
      refine lv_istore (lv' := [(5, .int (-1000)), (4, .int (zBo (cAgr u x st))), (0, .ref (ad 100)), (1, .int x), (2, .int st), (3, .int w)]) hx hb d_Mo_agrees_48 hl (by decide) rfl (fun ls hl => ?_)
      refine x_cutH (G := G) (M := Ma) (ls := ls) 59 [] (fun v => v = zBo (0 < st)) (fun o3 H locs h_o3 hM hS => ?_) (fun hjn => ?_)
      · subst h_o3
        refine lv_istore (lv' := [(6, .int (zBo (0 < st))), (5, .int (-1000)), (4, .int (zBo (cAgr u x st))), (0, .ref (ad 100)), (1, .int x), (2, .int st), (3, .int w)]) hx hb d_Mo_agrees_59 hl (by decide) rfl (fun ls hl => ?_)
        refine lv_iconst (v := 0) hx hb d_Mo_agrees_61 (by decide) ?_
        refine lv_istore (lv' := [(7, .int 0), (6, .int (zBo (0 < st))), (5, .int (-1000)), (4, .int (zBo (cAgr u x st))), (0, .ref (ad 100)), (1, .int x), (2, .int st), (3, .int w)]) hx hb d_Mo_agrees_62 hl (by decide) rfl (fun ls hl => ?_)
        exact lp_Mo_agrees ad u th q ho X hA hX hO (nI (fAgr u x st w).1) i hi st w h_le h_a.2 (fun v M' => MoPost M ad u (fAgr u x st w) v M') (fun v q' h9 => ⟨⟨q', rfl⟩, fun _ => by rw [h9]; unfold fAgr; rw [if_pos h_a.1, if_neg (fun h9 => h9.elim h_a.2.1 (fun h8 => h8 ((z_set hO.2.2.2.2.1 h_a.2.1).mp h_a.2.2))), if_pos h_le, ← ei]⟩) hE hK (zmn u + 1) 0 (by omega) (by omega) (-1000) _ q (Or.inl ⟨rfl, rfl⟩) _ _ _ (e_M ▸ hM) hS (by have h9 : lv_has ls 8 [(0, .ref (ad 100)), (1, .int x), (2, .int st), (3, .int w), (5, .int (-1000)), (6, .int (zBo (0 < st))), (7, .int 0)] := lv_sub hl [4, 5, 6, 7, 2, 1, 0] rfl; rw [exi] at h9; exact h9)
      · refine lv_iload_n hx hb d_Mo_agrees_50 rfl (lv_at hl 4 rfl) ?_
        refine lv_if_le (tgt := 58) hx hb d_Mo_agrees_51 (by decide) (fun c_51 => ?_) (fun c_51 => ?_)
        · refine lv_iconst (v := 0) hx hb d_Mo_agrees_58 (by decide) ?_
          exact hjn _ _ _ (zBo_f (z_nlt c_51)).symm hM hS
        · refine lv_iconst (v := 1) hx hb d_Mo_agrees_54 (by decide) ?_
          refine lv_goto (tgt := 59) hx hb d_Mo_agrees_55 (by decide) ?_
          exact hjn _ _ _ (zBo_t (Int32.not_le.mp c_51)).symm hM hS
    · have hc1 : ¬ (fAgr u x st w).1 = 0 := fun h9 => by rw [e_g, zBo_t (by rw [h9]; rfl)] at c_40; exact absurd c_40 (by decide)
      refine lv_iconst (v := 0) hx hb d_Mo_agrees_43 (by decide) ?_
      exact x_rz hE rfl (Or.inl rfl) hM hS ⟨⟨_, e_M⟩, fun h9 => absurd h9 hc1⟩ (by decide) (by decide) d_Mo_agrees_44
  · refine lv_aload_n hx hb d_Mo_agrees_0 rfl (lv_at hl 0 rfl) ?_
    refine lv_iload_n hx hb d_Mo_agrees_1 rfl (lv_at hl 1 rfl) ?_
    refine x_ci (x_runV (As := [.int x]) (rest := []) hE hK hM hl.1 (c_Mo_isSeries l G M ad u th q ho hO x) (id ho) rfl kw_607 kw_609 ks_18 kw_4 kw_610 1 rfl rfl rfl (by decide +kernel) ⟨by decide, by decide⟩ rfl (Nat.le_of_ble_eq_true rfl) d_Mo_agrees_2 ⟨by decide, by decide⟩) hS (fun r1 M1 H locs hp hM hS => ?_)
    obtain ⟨e_i, e_M0⟩ := hp
    have hM : xh G M H := e_M0 ▸ hM
    subst e_i
    refine lv_if_eq (tgt := 26) hx hb d_Mo_agrees_5 (by decide) (fun c_5 => ?_) (fun c_5 => ?_)
    · refine lv_iconst (v := 0) hx hb d_Mo_agrees_26 (by decide) ?_
      exact hjn _ _ _ (zBo_f (fun h9 => zBo_ne.mpr h9.1 c_5)).symm hM hS
    · refine lv_iload_n hx hb d_Mo_agrees_8 rfl (lv_at hl 2 rfl) ?_
      refine lv_if_lt (tgt := 26) hx hb d_Mo_agrees_9 (by decide) (fun c_9 => ?_) (fun c_9 => ?_)
      · refine lv_iconst (v := 0) hx hb d_Mo_agrees_26 (by decide) ?_
        exact hjn _ _ _ (zBo_f (fun h9 => h9.2.1 c_9)).symm hM hS
      · refine lv_iload_n hx hb d_Mo_agrees_12 rfl (lv_at hl 2 rfl) ?_
        refine lv_iconst (v := 1) hx hb d_Mo_agrees_13 (by decide) ?_
        refine lv_aload_n hx hb d_Mo_agrees_14 rfl (lv_at hl 0 rfl) ?_
        refine x_get (C := R_Mo) (T := F_Mo) (N := 20) hx hb hw i_Mo hown hK.1 hM (id ho) rfl 7 (by decide) (hw _ kw_530) rfl rfl d_Mo_agrees_15 ?_
        refine lv_ishl hx hb d_Mo_agrees_18 ?_
        refine lv_icmp_ge (tgt := 26) hx hb d_Mo_agrees_19 (by decide) (fun c_19 => ?_) (fun c_19 => ?_)
        · refine lv_iconst (v := 0) hx hb d_Mo_agrees_26 (by decide) ?_
          exact hjn _ _ _ (zBo_f (fun h9 => h9.2.2 c_19)).symm hM hS
        · refine lv_iconst (v := 1) hx hb d_Mo_agrees_22 (by decide) ?_
          refine lv_goto (tgt := 27) hx hb d_Mo_agrees_23 (by decide) ?_
          exact hjn _ _ _ (zBo_t ⟨zBo_ne.mp c_5, c_9, c_19⟩).symm hM hS
