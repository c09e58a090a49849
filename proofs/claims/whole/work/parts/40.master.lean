theorem Core.keepQ {G : xG} {M M' : xM} {ad : Nat → Nat} {u : zS} (h : Core G M ad u) (hr : zrn u ≤ 10) (hm : zmn u < 8) (hk : xOff (40 + zmn u) M M') : Core G M' ad u := by
  obtain ⟨h0, h1, h2, h3, h4, h8, hR, hM⟩ := h
  refine ⟨hk _ _ _ h0 (by omega), hk _ _ _ h1 (by omega), hk _ _ _ h2 (by omega), hk _ _ _ h3 (by omega), hk _ _ _ h4 (by omega), hk _ _ _ h8 (by omega), fun i hi => ⟨hk _ _ _ (hR i hi).1 (by omega), hk _ _ _ (hR i hi).2 (by omega)⟩, fun j hj => ?_⟩
  obtain ⟨m1, m2, V, D, m3, m4, m5⟩ := hM j hj
  exact ⟨hk _ _ _ m1 (by omega), hk _ _ _ m2 (by omega), V, D, hk _ _ _ m3 (by omega), hk _ _ _ m4 (by omega), m5⟩

set_option maxHeartbeats 4000000 in
set_option maxRecDepth 100000 in
theorem c_Rm_master (l : Launch) (G : xG) (M : xM) (hst : l.stackTraces = false) (ad : Nat → Nat) (u : zS) (hC : Core G M ad u) (hO : zOk u) (hs : Scr G M ad) (set : Int32) : vx_Met l y_Rm_master w_Rm_master ({ frames := 6, cells := 5, slots := 1100, locals := 110 }) (xP G [.ref (ad 0), .int set] M) (xQi G (fun v M' => fMas u set = (0, v) ∧ ((zMk (zB u set) (zrn u) = 0 ∧ M' = M) ∨ (¬ zMk (zB u set) (zrn u) = 0 ∧ ∃ (B : Nat → Int32) (ad' : Nat → Nat), (∀ i, i < 10 → B i = zB u set i) ∧ Core G M' ad' (uMas u B) ∧ Scr G M' ad' ∧ xK100 M M' ∧ ∀ r, r < 40 ∨ 80 ≤ r → ad' r = ad r)))) (xX G (fun E M' => ((fMas u set = (1, 0) ∧ E = nISE) ∨ (fMas u set = (2, 0) ∧ E = nIAE)) ∧ M' = M)) 5 1100 (xF G) := by
  refine x_metX (by decide) (Nat.le_of_ble_eq_true rfl) ?_
  intro p e s m below meth c ls hE hnx hl hM hK hS
  obtain ⟨hx, hb, hr, hml, hown, hw, hlocks⟩ := id hE
  have h0 := hM
  have hl : lv_has ls 4 [(0, .ref (ad 0)), (1, .int set)] := hl
  refine lv_aload_n hx hb d_Rm_master_0 rfl (lv_at hl 0 rfl) ?_
  refine x_get (C := R_Rm) (T := F_Rm) (N := 12) hx hb hw i_Rm hown hK.1 hM hC.1 rfl 5 (by decide) (hw _ kw_70) rfl rfl d_Rm_master_1 ?_
  refine lv_bipush (v := 8) hx hb d_Rm_master_4 (by decide) ?_
  refine lv_icmp_lt (tgt := 19) hx hb d_Rm_master_6 (by decide) (fun c_6 => ?_) (fun c_6 => ?_)
  · have h6 : zmn u < 8 := (nI_ltI (b := 8) (by have := hO.2.2.2.2.1; omega) (by decide)).mp c_6
    refine lv_iload_n hx hb d_Rm_master_19 rfl (lv_at hl 1 rfl) ?_
    refine lv_if_lt (tgt := 30) hx hb d_Rm_master_20 (by decide) (fun c_20 => ?_) (fun c_20 => ?_)
    · exact x_iae (is := 102) (text := "no such set") hst hE hnx hK h0 hM hS hl.1 (by decide) d_Rm_master_30 d_Rm_master_33 d_Rm_master_34 d_Rm_master_36 d_Rm_master_39 (by decide) (Nat.le_of_ble_eq_true rfl) ⟨by decide, by decide⟩ ⟨by decide, by decide⟩ (⟨Or.inr ⟨by unfold fMas; rw [if_neg (by omega), if_pos (Or.inl c_20)], rfl⟩, rfl⟩)
    · refine lv_iload_n hx hb d_Rm_master_23 rfl (lv_at hl 1 rfl) ?_
      refine lv_sipush (v := 1023) hx hb d_Rm_master_24 (by decide) ?_
      refine lv_icmp_le (tgt := 40) hx hb d_Rm_master_27 (by decide) (fun c_27 => ?_) (fun c_27 => ?_)
      · refine lv_aload_n hx hb d_Rm_master_40 rfl (lv_at hl 0 rfl) ?_
        refine lv_iload_n hx hb d_Rm_master_41 rfl (lv_at hl 1 rfl) ?_
        refine x_ci (x_runV (As := [.int set]) (rest := []) hE hK hM hl.1 (c_Rm_membersOf l G M ad u hC hO set) hC.1 rfl kw_270 kw_272 ks_3 kw_1 kw_273 1 rfl rfl rfl (by decide +kernel) ⟨by decide, by decide⟩ rfl (Nat.le_of_ble_eq_true rfl) d_Rm_master_42 ⟨by decide, by decide⟩) hS (fun r1 M1 H locs hp hM hS => ?_)
        obtain ⟨e_r, e_M⟩ := hp
        have hM : xh G M H := e_M ▸ hM
        subst e_r
        obtain ⟨b, eb⟩ : ∃ z : Nat → Int32, z = zB u set := ⟨_, rfl⟩
        rw [← eb]
        have hb9 : ∀ i, i < zrn u → b i = -1 ∨ b i = zst u i := fun i hi => by
          rw [eb]
          unfold zB
          by_cases h9 : i < zrn u ∧ ((set >>> (nI i &&& 31)) &&& 1) = 1
          · rw [if_pos h9]; exact Or.inr rfl
          · rw [if_neg h9]; exact Or.inl rfl
        have hge : ∀ k, zrn u ≤ k → b k = -1 := fun k hk => by rw [eb]; exact zB_ge hk
        have hrn := hO.2.2.1
        refine lv_istore_n (lv' := [(2, .int (nI (zMk b (zrn u)))), (0, .ref (ad 0)), (1, .int set)]) hx hb d_Rm_master_45 rfl hl (by decide) rfl (fun ls hl => ?_)
        refine lv_iload_n hx hb d_Rm_master_46 rfl (lv_at hl 0 rfl) ?_
        refine lv_if_ne (tgt := 52) hx hb d_Rm_master_47 (by decide) (fun c_47 => ?_) (fun c_47 => ?_)
        · have h47 : ¬ zMk b (zrn u) = 0 := fun h9 => c_47 (by rw [h9]; rfl)
          refine x_new (40 + zmn u) (ci := 3) (C := R_Men) (T := F_Men) (N := 6) (fs := [.null, .int 0, .int 0, .int 0, .null, .null]) hx hb hw i_Men t_Men t_Men_ok hown (hw _ kw_26) (hw _ kw_274) (hw _ kw_13) hK.1 hM hS rfl (fun j hj => by rcases (show j = 0 ∨ j = 1 ∨ j = 2 ∨ j = 3 ∨ j = 4 ∨ j = 5 by omega) with rfl | rfl | rfl | rfl | rfl | rfl <;> rfl) (by decide) (by decide) d_Rm_master_52 (fun q H hn_q hM hS => ?_)
          have hM : xh G (va_up M q (some (40 + zmn u, .inr (3, [.null, .int 0, .int 0, .int 0, .null, .null])))) H := hM
          obtain ⟨M_1, eM_1⟩ : ∃ z : xM, z = va_up M q (some (40 + zmn u, .inr (3, [.null, .int 0, .int 0, .int 0, .null, .null]))) := ⟨_, rfl⟩
          rw [← eM_1] at hM
          have k_ad0 := xw_newE eM_1 hC.1 hn_q
          have k_ad3 := xw_newE eM_1 hC.2.2.2.1 hn_q
          have c_q := xw_atE eM_1
          refine lv_dup hx hb d_Rm_master_55 rfl ?_
          refine lv_aload_n hx hb d_Rm_master_56 rfl (lv_at hl 1 rfl) ?_
          refine lv_iload_n hx hb d_Rm_master_57 rfl (lv_at hl 0 rfl) ?_
          have hext : xKeep M M_1 := fun b r e hb _ => xw_newE eM_1 hb hn_q
          have hC1 := hC.keep hext
          refine x_cr (x_runV (As := [.int (nI (zMk b (zrn u)))]) (rest := [.ref q, .ref q]) hE hK hM hl.1 (c_Rm_startsOf l G M_1 ad u hC1 hO b hb9 hge (50 + zmn u)) k_ad0 rfl kw_275 kw_277 ks_4 kw_1 kw_278 1 rfl rfl rfl (by decide +kernel) ⟨by decide, by decide⟩ rfl (Nat.le_of_ble_eq_true rfl) d_Rm_master_58 ⟨by decide, by decide⟩) hS (fun r2 M1 H locs hp hM hS => ?_)
          obtain ⟨hn_a, B, hB, e_M⟩ := hp
          obtain ⟨a, e_a⟩ : ∃ z : Nat, z = r2 := ⟨_, rfl⟩
          subst e_a
          obtain ⟨Mb, eMb⟩ : ∃ z : xM, z = M1 := ⟨_, rfl⟩
          subst eMb
          have k_ad0 := xw_newE e_M k_ad0 hn_a
          have k_ad3 := xw_newE e_M k_ad3 hn_a
          have c_q := xw_newE e_M c_q hn_a
          have c_a := xw_atE e_M
          have hC2 : Core G Mb ad u := hC1.keep (fun b r e hb _ => xw_newE e_M hb hn_a)
          refine lv_aload_n hx hb d_Rm_master_61 rfl (lv_at hl 1 rfl) ?_
          refine lv_iload_n hx hb d_Rm_master_62 rfl (lv_at hl 0 rfl) ?_
          refine x_ci (x_runV (As := [.int (nI (zMk b (zrn u)))]) (rest := [.ref a, .ref q, .ref q]) hE hK hM hl.1 (c_Rm_firstYearOf l G Mb ad u hC2 hO b hb9) k_ad0 rfl kw_282 kw_284 ks_5 kw_1 kw_285 1 rfl rfl rfl (by decide +kernel) ⟨by decide, by decide⟩ rfl (Nat.le_of_ble_eq_true rfl) d_Rm_master_63 ⟨by decide, by decide⟩) hS (fun r3 M1 H locs hp hM hS => ?_)
          obtain ⟨e_r, e_M9⟩ := hp
          have hM : xh G Mb H := e_M9 ▸ hM
          subst e_r
          refine lv_aload_n hx hb d_Rm_master_66 rfl (lv_at hl 1 rfl) ?_
          refine lv_iload_n hx hb d_Rm_master_67 rfl (lv_at hl 0 rfl) ?_
          refine x_ci (x_runV (As := [.int (nI (zMk b (zrn u)))]) (rest := [.int (zFst b (zrn u)), .ref a, .ref q, .ref q]) hE hK hM hl.1 (c_Rm_lastYearOf l G Mb ad u hC2 hO b hb9) k_ad0 rfl kw_286 kw_288 ks_6 kw_1 kw_289 1 rfl rfl rfl (by decide +kernel) ⟨by decide, by decide⟩ rfl (Nat.le_of_ble_eq_true rfl) d_Rm_master_68 ⟨by decide, by decide⟩) hS (fun r4 M1 H locs hp hM hS => ?_)
          obtain ⟨e_r, e_M9⟩ := hp
          have hM : xh G Mb H := e_M9 ▸ hM
          subst e_r
          refine lv_iload_n hx hb d_Rm_master_71 rfl (lv_at hl 0 rfl) ?_
          refine x_ci (x_runS (As := [.int (nI (zMk b (zrn u)))]) (rest := [.int (zLst (zln u) b (zrn u)), .int (zFst b (zrn u)), .ref a, .ref q, .ref q]) hE hK hM hl.1 (c_JI_bitCount l G Mb (nI (zMk b (zrn u)))) kw_297 kw_298 kw_15 kw_299 1 rfl rfl rfl (by decide +kernel) ⟨by decide, by decide⟩ rfl (Nat.le_of_ble_eq_true rfl) d_Rm_master_72 ⟨by decide, by decide⟩) hS (fun r5 M1 H locs hp hM hS => ?_)
          obtain ⟨e_r, e_M9⟩ := hp
          have hM : xh G Mb H := e_M9 ▸ hM
          subst e_r
          have eF : zFst b (zrn u) = zFst B 10 := by
            rw [zFst_cg 10 hB]
            have h9 := zFst_ext (b := b) (n := zrn u) (fun i hi => hge i hi) (10 - zrn u)
            rw [show zrn u + (10 - zrn u) = 10 by omega] at h9
            exact h9.symm
          have eL : zLst (zln u) b (zrn u) = zLst (zln u) B 10 := by
            rw [zLst_cg 10 hB]
            have h9 := zLst_ext (ln := zln u) (b := b) (n := zrn u) (fun i hi => hge i hi) (10 - zrn u)
            rw [show zrn u + (10 - zrn u) = 10 by omega] at h9
            exact h9.symm
          have eN : zBc (nI (zMk b (zrn u))) = nI (zCnt B 10) := by
            rw [zCnt_cg 10 hB, ← zBc_cnt]
            have h9 := zMk_ext (b := b) (n := zrn u) (fun i hi => hge i hi) (10 - zrn u)
            rw [show zrn u + (10 - zrn u) = 10 by omega] at h9
            rw [h9]
          rw [eF, eL, eN]
          have hB1 : ∀ i, i < 10 → inR (B i) (-1) 500 ∧ (B i ≠ -1 → i < zrn u) := fun i hi => by
            rw [hB i hi]
            by_cases h9 : i < zrn u
            · refine ⟨?_, fun _ => h9⟩
              rcases hb9 i h9 with h8 | h8
              · rw [h8]; exact ⟨by decide, by decide⟩
              · rw [h8]; exact (hO.2.2.2.1 i h9).2.2.2
            · rw [hge i (by omega)]
              exact ⟨⟨by decide, by decide⟩, fun h8 => absurd rfl h8⟩
          have hIf : inR (zFst B 10) 0 500 := zFst_in 10 fun i hi => (hB1 i hi).1
          have hIl : inR (zLst (zln u) B 10) 0 529 := zLst_in 10 fun i hi => ⟨(hB1 i hi).1, fun h9 => by
            have h8 := hO.2.2.2.1 i ((hB1 i hi).2 h9)
            exact ⟨by omega, h8.2.1⟩⟩
          have hY : zYn (zln u) B ≤ 530 := by
            show (zLst (zln u) B 10 - zFst B 10 + 1).toNatClampNeg ≤ 530
            rw [z_yn hIf hIl]
            have h8 := hIf.1
            have h9 := hIl.2
            omega
          refine x_cv (x_runI (As := [.ref a, .int (zFst B 10), .int (zLst (zln u) B 10), .int (nI (zCnt B 10))]) (rest := [.ref q]) hE hK hM hl.1 (c_Men_init l G Mb q (40 + zmn u) a (60 + zmn u) (70 + zmn u) (zFst B 10) (zLst (zln u) B 10) (nI (zCnt B 10)) (by omega) (by omega) (by omega) hY c_q) kw_303 kw_304 kw_13 kw_305 rfl 4 rfl rfl rfl (by decide +kernel) ⟨by decide, by decide⟩ rfl (Nat.le_of_ble_eq_true rfl) d_Rm_master_75 ⟨by decide, by decide⟩) hS (fun M1 H locs hp hM hS => ?_)
          obtain ⟨hof, va, da, c_q2, c_va, c_da⟩ := hp
          obtain ⟨Mc, eMc⟩ : ∃ z : xM, z = M1 := ⟨_, rfl⟩
          subst eMc
          have c_q := c_q2
          have c_a := hof _ _ _ c_a (by omega)
          have hC3 : Core G Mc ad u := hC2.keepQ hrn h6 hof
          obtain ⟨z5, k5⟩ := hs.1
          have k5c := hof _ _ _ (xw_newE e_M (xw_newE eM_1 k5 hn_q) hn_a) (by omega)
          refine lv_astore_n (lv' := [(3, .ref q), (2, .int (nI (zMk b (zrn u)))), (0, .ref (ad 0)), (1, .int set)]) hx hb d_Rm_master_78 rfl hl (by decide) rfl (fun ls hl => ?_)
          refine lv_aload_n hx hb d_Rm_master_79 rfl (lv_at hl 2 rfl) ?_
          refine lv_aload_n hx hb d_Rm_master_80 rfl (lv_at hl 0 rfl) ?_
          refine x_cv (x_runV (As := [.ref q]) (rest := []) hE hK hM hl.1 (c_Rm_fillValues l G Mc ad u hC3 hO h6 q a va da B (zFst B 10) (zLst (zln u) B 10) (nI (zCnt B 10)) (zYn (zln u) B) hY c_a c_q z5 k5c _ _ c_va c_da) hC3.1 rfl kw_333 kw_335 ks_7 kw_1 kw_336 1 rfl rfl rfl (by decide +kernel) ⟨by decide, by decide⟩ rfl (Nat.le_of_ble_eq_true rfl) d_Rm_master_81 ⟨by decide, by decide⟩) hS (fun M1 H locs hp hM hS => ?_)
          obtain ⟨hof3, h5, V, D, c_va, c_da, hVD⟩ := hp
          obtain ⟨Md, eMd⟩ : ∃ z : xM, z = M1 := ⟨_, rfl⟩
          subst eMd
          have hC4 : Core G Md ad u := hC3.keepM hrn h6 hof3
          have c_q := hof3 _ _ _ c_q (by omega) (by omega) (by omega)
          have c_a := hof3 _ _ _ c_a (by omega) (by omega) (by omega)
          refine lv_aload_n hx hb d_Rm_master_84 rfl (lv_at hl 2 rfl) ?_
          refine x_get (C := R_Rm) (T := F_Rm) (N := 12) hx hb hw i_Rm hown hK.1 hM hC4.1 rfl 4 (by decide) (hw _ kw_69) rfl rfl d_Rm_master_85 ?_
          refine lv_aload_n hx hb d_Rm_master_88 rfl (lv_at hl 2 rfl) ?_
          refine x_get (C := R_Rm) (T := F_Rm) (N := 12) hx hb hw i_Rm hown hK.1 hM hC4.1 rfl 5 (by decide) (hw _ kw_70) rfl rfl d_Rm_master_89 ?_
          refine lv_aload_n hx hb d_Rm_master_92 rfl (lv_at hl 0 rfl) ?_
          have c_q0 := c_q
          refine x_astq hx hb hK.1 hM hS hC4.2.2.2.1 3 rfl c_q rfl rfl h6 (by decide) d_Rm_master_93 (fun H locs hM hS hz => ?_)
          have hM : xh G (va_up Md (ad 3) (some (3, .inl (gM G, 8, .inr (.inr (.inr (.inr (va_up (zrw ad 40 (zmn u)) (zmn u) (some q))))))))) H := hM
          obtain ⟨Md_2, eMd_2⟩ : ∃ z : xM, z = va_up Md (ad 3) (some (3, .inl (gM G, 8, .inr (.inr (.inr (.inr (va_up (zrw ad 40 (zmn u)) (zmn u) (some q)))))))) := ⟨_, rfl⟩
          rw [← eMd_2] at hM
          have k_ad0 := xw_upE eMd_2 hC4.1 hC4.2.2.2.1 (by decide)
          have c_q := xw_upE eMd_2 c_q hC4.2.2.2.1 (by omega)
          have k_ad3 := xw_atE eMd_2
          refine lv_aload_n hx hb d_Rm_master_94 rfl (lv_at hl 2 rfl) ?_
          refine lv_dup hx hb d_Rm_master_95 rfl ?_
          refine x_get (C := R_Rm) (T := F_Rm) (N := 12) hx hb hw i_Rm hown hK.1 hM k_ad0 rfl 5 (by decide) (hw _ kw_70) rfl rfl d_Rm_master_96 ?_
          refine lv_iconst (v := 1) hx hb d_Rm_master_99 (by decide) ?_
          refine lv_iadd hx hb d_Rm_master_100 ?_
          refine lv_topi (fun tv etv => ?_)
          have etv : tv = nI (zmn u + 1) := by rw [etv]; exact nI_1 _
          subst etv
          refine x_put (C := R_Rm) (T := F_Rm) (N := 12) (ty := .int) (v := .int (nI (zmn u + 1))) hx hb hw i_Rm t_Rm t_Rm_ok n_Rm hown hK.1 hM hS k_ad0 rfl 5 (by decide) (hw _ kw_70) rfl rfl (by decide +kernel) rfl rfl (Nat.le_of_ble_eq_true rfl) d_Rm_master_101 (fun H locs hM hS hz => ?_)
          have hM : xh G (va_up Md_2 (ad 0) (some (0, .inr (4, [.ref (ad 1), .int (nI (zpn u)), .ref (ad 2), .int (nI (zrn u)), .ref (ad 3), .int (nI (zmn u + 1)), .ref (ad 4), .ref (ad 5), .ref (ad 6), .ref (ad 7), .ref (ad 8), .ref (ad 9)])))) H := hM
          obtain ⟨Md_3, eMd_3⟩ : ∃ z : xM, z = va_up Md_2 (ad 0) (some (0, .inr (4, [.ref (ad 1), .int (nI (zpn u)), .ref (ad 2), .int (nI (zrn u)), .ref (ad 3), .int (nI (zmn u + 1)), .ref (ad 4), .ref (ad 5), .ref (ad 6), .ref (ad 7), .ref (ad 8), .ref (ad 9)]))) := ⟨_, rfl⟩
          rw [← eMd_3] at hM
          have k_ad3 := xw_upE eMd_3 k_ad3 k_ad0 (by decide)
          have c_q := xw_upE eMd_3 c_q k_ad0 (by omega)
          have k_ad0 := xw_atE eMd_3
          refine lv_aload_n hx hb d_Rm_master_104 rfl (lv_at hl 2 rfl) ?_
          refine x_get (C := R_Rm) (T := F_Rm) (N := 12) hx hb hw i_Rm hown hK.1 hM k_ad0 rfl 5 (by decide) (hw _ kw_70) rfl rfl d_Rm_master_105 ?_
          refine lv_iconst (v := 1) hx hb d_Rm_master_108 (by decide) ?_
          refine lv_isub hx hb d_Rm_master_109 ?_
          refine lv_topi (fun tv etv => ?_)
          have etv : tv = nI (zmn u) := by rw [etv]; exact nI_pred _
          subst etv
          have hGx : ∀ y, zGat (zln u) (zev u) B y (-1) (zrn u) = zGat (zln u) (zev u) B y (-1) 10 := fun y => by
            have h9 := zGat_ext (ln := zln u) (ev := zev u) (b := B) (y := y) (wo := -1) (n := zrn u) (10 - zrn u) (fun i h1 h2 => by rw [hB i (by omega)]; exact hge i h1)
            rw [show zrn u + (10 - zrn u) = 10 by omega] at h9
            exact h9.symm
          have hkk : ∀ (b r : Nat) (e : va_E), M b = some (r, e) → r ≠ 5 → r ≠ 40 + zmn u → r ≠ 60 + zmn u → r ≠ 70 + zmn u → Md b = some (r, e) := fun b r e hb n1 n2 n3 n4 => hof3 _ _ _ (hof _ _ _ (xw_newE e_M (xw_newE eM_1 hb hn_q) hn_a) n2) n1 n3 n4
          obtain ⟨ad', k1, k2, k3, k4⟩ := Core.mas hC hs hrn h6 hkk h5 c_q0 c_a c_va c_da (fun k hk => by rw [← hGx]; exact hVD k hk) eMd_2 eMd_3
          refine vx_ret ?_
          exact x_ri hE rfl hM hS ⟨by unfold fMas; rw [if_neg (by omega), if_neg (fun h9 => h9.elim c_20 (z_nlt c_27)), ← eb, if_neg h47], Or.inr ⟨h47, B, ad', hB, k1, k2, k3, k4⟩⟩ (by decide) (by decide) d_Rm_master_110
        · have h47 : zMk b (zrn u) = 0 := (nI_eq (b := 0) (Nat.lt_trans (zMk_lt b _) (Nat.lt_of_le_of_lt (Nat.pow_le_pow_right (by decide) hrn : 2 ^ zrn u ≤ 2 ^ 10) (by decide))) (by decide)).mp c_47
          refine lv_iconst (v := (-1)) hx hb d_Rm_master_50 (by decide) ?_
          refine vx_ret ?_
          exact x_ri hE rfl hM hS ⟨by unfold fMas; rw [if_neg (by omega), if_neg (fun h9 => h9.elim c_20 (z_nlt c_27)), ← eb, if_pos h47], Or.inl ⟨h47, rfl⟩⟩ (by omega) (by omega) d_Rm_master_51
      · exact x_iae (is := 102) (text := "no such set") hst hE hnx hK h0 hM hS hl.1 (by decide) d_Rm_master_30 d_Rm_master_33 d_Rm_master_34 d_Rm_master_36 d_Rm_master_39 (by decide) (Nat.le_of_ble_eq_true rfl) ⟨by decide, by decide⟩ ⟨by decide, by decide⟩ (⟨Or.inr ⟨by unfold fMas; rw [if_neg (by omega), if_pos (Or.inr (Int32.not_le.mp c_27))], rfl⟩, rfl⟩)
  · have h6 : 8 ≤ zmn u := Nat.not_lt.mp (fun h9 => c_6 ((nI_ltI (b := 8) (by omega) (by decide)).mpr h9))
    exact x_ise (is := 100) (text := "there are eight masters") hst hE hnx hK h0 hM hS hl.1 (by decide) d_Rm_master_9 d_Rm_master_12 d_Rm_master_13 d_Rm_master_15 d_Rm_master_18 (by decide) (Nat.le_of_ble_eq_true rfl) ⟨by decide, by decide⟩ ⟨by decide, by decide⟩ (⟨Or.inl ⟨by unfold fMas; rw [if_pos h6], rfl⟩, rfl⟩)
