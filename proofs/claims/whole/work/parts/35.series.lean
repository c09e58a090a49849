set_option maxHeartbeats 4000000 in
set_option maxRecDepth 100000 in
theorem c_Rm_series (l : Launch) (G : xG) (M : xM) (hst : l.stackTraces = false) (ad : Nat → Nat) (u : zS) (hC : Core G M ad u) (hO : zOk u) (hs : Scr G M ad) : vx_Met l y_Rm_series w_Rm_series ({ frames := 6, cells := 3, slots := 40, locals := 90 }) (xP G [.ref (ad 0)] M) (xQi G (fun v M' => fSer u = (0, v) ∧ ((v = -1 ∧ zpn u < 3 ∧ M' = M) ∨ (3 ≤ zpn u ∧ ∃ (F : Nat → Int32) (ad' : Nat → Nat), (∀ k, k < zpn u → F k = zEvn (zpd u) (zpn u) k) ∧ Core G M' ad' (uSer u F) ∧ Scr G M' ad' ∧ xK100 M M' ∧ ∀ r, r < 20 ∨ 40 ≤ r → ad' r = ad r)))) (xX G (fun E M' => fSer u = (1, 0) ∧ E = nISE ∧ M' = M)) 3 40 (xF G) := by
  refine x_metX (by decide) (Nat.le_of_ble_eq_true rfl) ?_
  intro p e s m below meth c ls hE hnx hl hM hK hS
  obtain ⟨hx, hb, hr, hml, hown, hw, hlocks⟩ := id hE
  have h0 := hM
  have hl : lv_has ls 1 [(0, .ref (ad 0))] := hl
  refine lv_aload_n hx hb d_Rm_series_0 rfl (lv_at hl 0 rfl) ?_
  refine x_get (C := R_Rm) (T := F_Rm) (N := 12) hx hb hw i_Rm hown hK.1 hM hC.1 rfl 3 (by decide) (hw _ kw_68) rfl rfl d_Rm_series_1 ?_
  refine lv_bipush (v := 10) hx hb d_Rm_series_4 (by decide) ?_
  refine lv_icmp_lt (tgt := 19) hx hb d_Rm_series_6 (by decide) (fun c_6 => ?_) (fun c_6 => ?_)
  · have h6 : zrn u < 10 := (nI_ltI (b := 10) (by have := hO.2.2.1; omega) (by decide)).mp c_6
    refine lv_aload_n hx hb d_Rm_series_19 rfl (lv_at hl 0 rfl) ?_
    refine x_get (C := R_Rm) (T := F_Rm) (N := 12) hx hb hw i_Rm hown hK.1 hM hC.1 rfl 1 (by decide) (hw _ kw_66) rfl rfl d_Rm_series_20 ?_
    refine lv_iconst (v := 3) hx hb d_Rm_series_23 (by decide) ?_
    refine lv_icmp_ge (tgt := 29) hx hb d_Rm_series_24 (by decide) (fun c_24 => ?_) (fun c_24 => ?_)
    · have h24 : 3 ≤ zpn u := (nI_leI (a := 3) (by decide) (by have := hO.1; omega)).mp c_24
      refine lv_aload_n hx hb d_Rm_series_29 rfl (lv_at hl 0 rfl) ?_
      refine x_get (C := R_Rm) (T := F_Rm) (N := 12) hx hb hw i_Rm hown hK.1 hM hC.1 rfl 2 (by decide) (hw _ kw_67) rfl rfl d_Rm_series_30 ?_
      refine lv_aload_n hx hb d_Rm_series_33 rfl (lv_at hl 0 rfl) ?_
      refine x_get (C := R_Rm) (T := F_Rm) (N := 12) hx hb hw i_Rm hown hK.1 hM hC.1 rfl 3 (by decide) (hw _ kw_68) rfl rfl d_Rm_series_34 ?_
      refine x_new (20 + zrn u) (ci := 2) (C := R_Row) (T := F_Row) (N := 2) (fs := [.null, .int 0]) hx hb hw i_Row t_Row t_Row_ok hown (hw _ kw_24) (hw _ kw_203) (hw _ kw_10) hK.1 hM hS rfl (fun j hj => by rcases (show j = 0 ∨ j = 1 by omega) with rfl | rfl <;> rfl) (by decide) (by decide) d_Rm_series_37 (fun q H hn_q hM hS => ?_)
      have hM : xh G (va_up M q (some (20 + zrn u, .inr (2, [.null, .int 0])))) H := hM
      obtain ⟨M_1, eM_1⟩ : ∃ z : xM, z = va_up M q (some (20 + zrn u, .inr (2, [.null, .int 0]))) := ⟨_, rfl⟩
      rw [← eM_1] at hM
      have k_ad0 := xw_newE eM_1 hC.1 hn_q
      have k_ad2 := xw_newE eM_1 hC.2.2.1 hn_q
      have c_q := xw_atE eM_1
      refine lv_dup hx hb d_Rm_series_40 rfl ?_
      refine lv_aload_n hx hb d_Rm_series_41 rfl (lv_at hl 0 rfl) ?_
      have hext : xKeep M M_1 := fun b r e hb _ => xw_newE eM_1 hb hn_q
      refine x_cr (x_runV (As := []) (rest := [.ref q, .ref q, .int (nI (zrn u)), .ref (ad 2)]) hE hK hM hl.1 (c_Rm_evenedPad l G M_1 ad u (hC.keep hext) hO h24 (30 + zrn u)) k_ad0 rfl kw_204 kw_206 ks_1 kw_1 kw_207 0 rfl rfl rfl (by decide +kernel) ⟨by decide, by decide⟩ rfl (Nat.le_of_ble_eq_true rfl) d_Rm_series_42 ⟨by decide, by decide⟩) hS (fun r1 M1 H locs hp hM hS => ?_)
      obtain ⟨hn_a, F, hF, e_M⟩ := hp
      obtain ⟨a, e_a⟩ : ∃ z : Nat, z = r1 := ⟨_, rfl⟩
      subst e_a
      obtain ⟨Mb, eMb⟩ : ∃ z : xM, z = M1 := ⟨_, rfl⟩
      subst eMb
      have k_ad0 := xw_newE e_M k_ad0 hn_a
      have k_ad2 := xw_newE e_M k_ad2 hn_a
      have c_q := xw_newE e_M c_q hn_a
      refine x_cv (x_runI (As := [.ref a]) (rest := [.ref q, .int (nI (zrn u)), .ref (ad 2)]) hE hK hM hl.1 (c_Row_init l G Mb q (20 + zrn u) a c_q) kw_211 kw_212 kw_10 kw_213 rfl 1 rfl rfl rfl (by decide +kernel) ⟨by decide, by decide⟩ rfl (Nat.le_of_ble_eq_true rfl) d_Rm_series_45 ⟨by decide, by decide⟩) hS (fun M1 H locs hp hM hS => ?_)
      obtain ⟨Mc, eMc⟩ : ∃ z : xM, z = M1 := ⟨_, rfl⟩
      subst eMc
      have k_ad0 := xw_upE hp k_ad0 c_q (by omega)
      have k_ad2 := xw_upE hp k_ad2 c_q (by omega)
      have hp3 := hp
      have c_q := xw_atE hp3
      refine x_astq hx hb hK.1 hM hS k_ad2 2 rfl c_q rfl rfl h6 (by decide) d_Rm_series_48 (fun H locs hM hS hz => ?_)
      have hM : xh G (va_up Mc (ad 2) (some (2, .inl (gR G, 10, .inr (.inr (.inr (.inr (va_up (zrw ad 20 (zrn u)) (zrn u) (some q))))))))) H := hM
      obtain ⟨Mc_2, eMc_2⟩ : ∃ z : xM, z = va_up Mc (ad 2) (some (2, .inl (gR G, 10, .inr (.inr (.inr (.inr (va_up (zrw ad 20 (zrn u)) (zrn u) (some q)))))))) := ⟨_, rfl⟩
      rw [← eMc_2] at hM
      have k_ad0 := xw_upE eMc_2 k_ad0 k_ad2 (by decide)
      have c_q := xw_upE eMc_2 c_q k_ad2 (by omega)
      have k_ad2 := xw_atE eMc_2
      refine lv_aload_n hx hb d_Rm_series_49 rfl (lv_at hl 0 rfl) ?_
      refine lv_dup hx hb d_Rm_series_50 rfl ?_
      refine x_get (C := R_Rm) (T := F_Rm) (N := 12) hx hb hw i_Rm hown hK.1 hM k_ad0 rfl 3 (by decide) (hw _ kw_68) rfl rfl d_Rm_series_51 ?_
      refine lv_iconst (v := 1) hx hb d_Rm_series_54 (by decide) ?_
      refine lv_iadd hx hb d_Rm_series_55 ?_
      refine lv_topi (fun tv etv => ?_)
      have etv : tv = nI (zrn u + 1) := by rw [etv]; exact nI_1 _
      subst etv
      refine x_put (C := R_Rm) (T := F_Rm) (N := 12) (ty := .int) (v := .int (nI (zrn u + 1))) hx hb hw i_Rm t_Rm t_Rm_ok n_Rm hown hK.1 hM hS k_ad0 rfl 3 (by decide) (hw _ kw_68) rfl rfl (by decide +kernel) rfl rfl (Nat.le_of_ble_eq_true rfl) d_Rm_series_56 (fun H locs hM hS hz => ?_)
      have hM : xh G (va_up Mc_2 (ad 0) (some (0, .inr (4, [.ref (ad 1), .int (nI (zpn u)), .ref (ad 2), .int (nI (zrn u + 1)), .ref (ad 3), .int (nI (zmn u)), .ref (ad 4), .ref (ad 5), .ref (ad 6), .ref (ad 7), .ref (ad 8), .ref (ad 9)])))) H := hM
      obtain ⟨Mc_3, eMc_3⟩ : ∃ z : xM, z = va_up Mc_2 (ad 0) (some (0, .inr (4, [.ref (ad 1), .int (nI (zpn u)), .ref (ad 2), .int (nI (zrn u + 1)), .ref (ad 3), .int (nI (zmn u)), .ref (ad 4), .ref (ad 5), .ref (ad 6), .ref (ad 7), .ref (ad 8), .ref (ad 9)]))) := ⟨_, rfl⟩
      rw [← eMc_3] at hM
      have k_ad2 := xw_upE eMc_3 k_ad2 k_ad0 (by decide)
      have c_q := xw_upE eMc_3 c_q k_ad0 (by omega)
      have k_ad0 := xw_atE eMc_3
      refine lv_aload_n hx hb d_Rm_series_59 rfl (lv_at hl 0 rfl) ?_
      refine lv_iconst (v := 0) hx hb d_Rm_series_60 (by decide) ?_
      refine x_put (C := R_Rm) (T := F_Rm) (N := 12) (ty := .int) (v := .int 0) hx hb hw i_Rm t_Rm t_Rm_ok n_Rm hown hK.1 hM hS k_ad0 rfl 1 (by decide) (hw _ kw_66) rfl rfl (by decide +kernel) rfl rfl (Nat.le_of_ble_eq_true rfl) d_Rm_series_61 (fun H locs hM hS hz => ?_)
      have hM : xh G (va_up Mc_3 (ad 0) (some (0, .inr (4, [.ref (ad 1), .int 0, .ref (ad 2), .int (nI (zrn u + 1)), .ref (ad 3), .int (nI (zmn u)), .ref (ad 4), .ref (ad 5), .ref (ad 6), .ref (ad 7), .ref (ad 8), .ref (ad 9)])))) H := hM
      obtain ⟨Mc_4, eMc_4⟩ : ∃ z : xM, z = va_up Mc_3 (ad 0) (some (0, .inr (4, [.ref (ad 1), .int 0, .ref (ad 2), .int (nI (zrn u + 1)), .ref (ad 3), .int (nI (zmn u)), .ref (ad 4), .ref (ad 5), .ref (ad 6), .ref (ad 7), .ref (ad 8), .ref (ad 9)]))) := ⟨_, rfl⟩
      rw [← eMc_4] at hM
      have k_ad2 := xw_upE eMc_4 k_ad2 k_ad0 (by decide)
      have c_q := xw_upE eMc_4 c_q k_ad0 (by omega)
      have k_ad0 := xw_atE eMc_4
      refine lv_aload_n hx hb d_Rm_series_64 rfl (lv_at hl 0 rfl) ?_
      refine x_get (C := R_Rm) (T := F_Rm) (N := 12) hx hb hw i_Rm hown hK.1 hM k_ad0 rfl 3 (by decide) (hw _ kw_68) rfl rfl d_Rm_series_65 ?_
      refine lv_iconst (v := 1) hx hb d_Rm_series_68 (by decide) ?_
      refine lv_isub hx hb d_Rm_series_69 ?_
      refine lv_topi (fun tv etv => ?_)
      have etv : tv = nI (zrn u) := by rw [etv]; exact nI_pred _
      subst etv
      refine vx_ret ?_
      obtain ⟨k1, k2, k3, k4⟩ := Core.ser hC hs hO h6 hn_q hn_a eM_1 e_M hp3 eMc_2 eMc_3 eMc_4
      exact x_ri hE rfl hM hS ⟨by unfold fSer; rw [if_neg (by omega), if_neg (by omega)], Or.inr ⟨h24, F, _, hF, k1, k2, k3, k4⟩⟩ (by decide) (by decide) d_Rm_series_70
    · have h24 : zpn u < 3 := Nat.not_le.mp (fun h9 => c_24 ((nI_leI (a := 3) (by decide) (by have := hO.1; omega)).mpr h9))
      refine lv_iconst (v := (-1)) hx hb d_Rm_series_27 (by decide) ?_
      refine vx_ret ?_
      exact x_ri hE rfl hM hS ⟨by unfold fSer; rw [if_neg (by omega), if_pos h24], Or.inl ⟨rfl, h24, rfl⟩⟩ (by omega) (by omega) d_Rm_series_28
  · have h6 : 10 ≤ zrn u := Nat.not_lt.mp (fun h9 => c_6 ((nI_ltI (b := 10) (by omega) (by decide)).mpr h9))
    exact x_ise (is := 74) (text := "there are ten series") hst hE hnx hK h0 hM hS hl.1 (by decide) d_Rm_series_9 d_Rm_series_12 d_Rm_series_13 d_Rm_series_15 d_Rm_series_18 (by decide) (Nat.le_of_ble_eq_true rfl) ⟨by decide, by decide⟩ ⟨by decide, by decide⟩ (⟨by unfold fSer; rw [if_pos h6], rfl, rfl⟩)
