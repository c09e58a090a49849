set_option maxHeartbeats 4000000 in
set_option maxRecDepth 100000 in
theorem c_Mo_evened (l : Launch) (G : xG) (M : xM) (ad : Nat → Nat) (u : zS) (th : Int32) (q : z5) (ho : M (ad 100) = some (100, eMo ad u th q)) (X : zX) (hA : MoA G M ad X) (hX : MoR u X) (hO : zOk u) (x k : Int32) : Met l y_Mo_evened w_Mo_evened ({ frames := 2, cells := 0, slots := 0, locals := 75 }) (xP G [.ref (ad 100), .int x, .int k] M) (xQi G (fun v M' => MoPost M ad u (fEvened u x k) v M')) 0 0 (xF G) := by
  refine x_met (by decide) (Nat.le_of_ble_eq_true rfl) ?_
  intro p e s m below meth c ls hE hin hl hM hK hS
  obtain ⟨hx, hb, hr, hml, hown, hw, hlocks⟩ := id hE
  have hlt : (fEvened u x k).1 < 2 ^ 31 := by
    unfold fEvened
    repeat' split
    all_goals exact Nat.le_of_ble_eq_true rfl
  have h_ev : zIn x (zrn u) → ((¬ k < -1 ∧ ¬ nI (zln u x.toNatClampNeg) - 1 < k) ↔ (k = -1 ∨ zIn k (zln u x.toNatClampNeg))) := fun hx9 => by
    obtain ⟨i9, ei9, hi9, -⟩ := z_in hx9 (by have := hO.2.2.1; omega)
    rw [← ei9]
    have hl9 := (hO.2.2.2.1 i9 hi9)
    rw [← z_pred (n := zln u i9) (by omega)]
    constructor
    · intro ⟨h1, h2⟩
      by_cases h3 : k = -1
      · exact Or.inl h3
      · refine Or.inr ⟨fun h4 => ?_, h2⟩
        have h5 := z_le0.mp (Int32.not_lt.mp h1)
        have h6 := z_lt0.mp h4
        have e1 : (-1 : Int32).toInt = -1 := rfl
        have e0 : (0 : Int32).toInt = 0 := rfl
        exact h3 (Int32.toInt_inj.mp (show k.toInt = (-1 : Int32).toInt by omega))
    · rintro (h | ⟨h1, h2⟩)
      · rw [h]
        refine ⟨by decide, fun h4 => ?_⟩
        have h5 : nI (zln u i9) - 1 = nI (zln u i9 - 1) := by
          rw [show zln u i9 = (zln u i9 - 1) + 1 by omega, nI_pred]; congr 1
        rw [h5] at h4
        have h6 := z_lt0.mp h4
        rw [nI_toInt (by omega)] at h6
        have e1 : (-1 : Int32).toInt = -1 := rfl
        omega
      · exact ⟨fun h4 => h1 (Int32.lt_trans h4 (by decide)), h2⟩
  have hl : lv_has ls 4 [(0, .ref (ad 100)), (1, .int x), (2, .int k)] := hl
  refine lv_aload_n hx hb d_Mo_evened_0 rfl (lv_at hl 0 rfl) ?_
  refine lv_iload_n hx hb d_Mo_evened_1 rfl (lv_at hl 1 rfl) ?_
  refine x_ci (x_runV (As := [.int x]) (rest := []) hE hK hM hl.1 (c_Mo_isSeries l G M ad u th q ho hO x) (id ho) rfl kw_607 kw_609 ks_18 kw_4 kw_610 1 rfl rfl rfl (by decide +kernel) ⟨by decide, by decide⟩ rfl (Nat.le_of_ble_eq_true rfl) d_Mo_evened_2 ⟨by decide, by decide⟩) hS (fun r1 M1 H locs hp hM hS => ?_)
  obtain ⟨e_i, e_M0⟩ := hp
  have hM : xh G M H := e_M0 ▸ hM
  subst e_i
  refine lv_istore_n (lv' := [(3, .int (zBo (zIn x (zrn u)))), (0, .ref (ad 100)), (1, .int x), (2, .int k)]) hx hb d_Mo_evened_5 rfl hl (by decide) rfl (fun ls hl => ?_)
  refine lv_aload_n hx hb d_Mo_evened_6 rfl (lv_at hl 1 rfl) ?_
  refine x_cutH (G := G) (M := M) (ls := ls) 40 [.ref (ad 100)] (fun v => v = zBo (cEvened u x k)) (fun o1 H locs h_o1 hM hS => ?_) (fun hjn => ?_)
  · subst h_o1
    refine lv_iconst (v := 1) hx hb d_Mo_evened_40 (by decide) ?_
    refine lv_iconst (v := 1) hx hb d_Mo_evened_41 (by decide) ?_
    refine x_ci (x_runV (As := [.int (zBo (cEvened u x k)), .int 1, .int 1]) (rest := []) hE hK hM hl.1 (c_Mo_goes l G M ad u th q ho (zBo (cEvened u x k)) 1 1) (id ho) rfl kw_595 kw_597 ks_17 kw_4 kw_598 3 rfl rfl rfl (by decide +kernel) ⟨by decide, by decide⟩ rfl (Nat.le_of_ble_eq_true rfl) d_Mo_evened_42 ⟨by decide, by decide⟩) hS (fun r2 M1 H locs hp hM hS => ?_)
    have hgb := g_evened u x k
    obtain ⟨e_g, e_M⟩ := hp
    rw [hgb] at e_M e_g
    obtain ⟨Ma, eMa⟩ : ∃ zz9 : xM, zz9 = M1 := ⟨_, rfl⟩
    subst eMa
    have hog := xw_atE e_M
    have hAg := hA.up ho e_M
    refine lv_if_ne (tgt := 50) hx hb d_Mo_evened_45 (by decide) (fun c_45 => ?_) (fun c_45 => ?_)
    · have hc0 : (fEvened u x k).1 = 0 := (nI_eq (b := 0) (by exact hlt) (by decide)).mp (zBo_ne.mp (fun h9 => c_45 (e_g.trans h9)))
      have hcd := g_cd hgb hc0
      have h_cd := zBo_ne.mp hcd.1
      obtain ⟨i, ei, hi, exi⟩ := z_in (h_cd.1) (by have := hO.2.2.1; omega)
      refine lv_iload_n hx hb d_Mo_evened_50 rfl (lv_at hl 3 rfl) ?_
      refine lv_iconst (v := (-1)) hx hb d_Mo_evened_51 (by decide) ?_
      refine lv_icmp_ne (tgt := 64) hx hb d_Mo_evened_52 (by decide) (fun c_52 => ?_) (fun c_52 => ?_)
      · refine lv_aload_n hx hb d_Mo_evened_64 rfl (lv_at hl 1 rfl) ?_
        refine lv_iload_n hx hb d_Mo_evened_65 rfl (lv_at hl 2 rfl) ?_
        refine lv_iload_n hx hb d_Mo_evened_66 rfl (lv_at hl 3 rfl) ?_
        have hk9 : zIn k (zln u i) := by have h9 := h_cd.2.resolve_left c_52; rw [← ei] at h9; exact h9
        obtain ⟨kk, ek, hk, exk⟩ := z_in hk9 (by have := (hO.2.2.2.1 i hi).2.1; omega)
        refine W.eq (g2 := F0 m 67 ls [.int (nI kk), .int (nI i), .ref (ad 100)]) (by rw [exi, exk]) ?_
        refine x_ci (x_runV (As := [.int (nI i), .int (nI kk)]) (rest := []) hE hK hM hl.1 (c_Mo_even l G Ma ad u _ q hog X hAg hX hO i hi kk hk) hog rfl kw_611 kw_613 ks_19 kw_4 kw_614 2 rfl rfl rfl (by decide +kernel) ⟨by decide, by decide⟩ rfl (Nat.le_of_ble_eq_true rfl) d_Mo_evened_67 ⟨by decide, by decide⟩) hS (fun r3 M1 H locs hp hM hS => ?_)
        obtain ⟨e_v, e_M2⟩ := hp
        have hM : xh G Ma H := e_M2 ▸ hM
        exact x_ri hE rfl hM hS ⟨⟨_, e_M⟩, fun _ => by unfold fEvened; rw [if_pos h_cd.1, if_neg c_52, if_pos (by rw [← ei]; exact hk9), e_v, ← ei, ← ek]⟩ (by decide) (by decide) d_Mo_evened_70
      · refine lv_aload_n hx hb d_Mo_evened_55 rfl (lv_at hl 1 rfl) ?_
        refine x_get (C := R_Mo) (T := F_Mo) (N := 20) hx hb hw i_Mo hown hK.1 hM hog rfl 4 (by decide) (hw _ kw_527) rfl rfl d_Mo_evened_56 ?_
        refine lv_iload_n hx hb d_Mo_evened_59 rfl (lv_at hl 2 rfl) ?_
        refine x_iald hx hb hK.1 hM hAg.2.1 0 rfl exi (by have := hO.2.2.1; omega) (by decide) d_Mo_evened_60 ?_
        refine lv_goto (tgt := 70) hx hb d_Mo_evened_61 (by decide) ?_
        exact x_ri hE rfl hM hS ⟨⟨_, e_M⟩, fun _ => by unfold fEvened; rw [if_pos h_cd.1, if_pos c_52]; rw [← ei]; exact (hX.2.1 i hi).1⟩ (by decide) (by decide) d_Mo_evened_70
    · have hc1 : ¬ (fEvened u x k).1 = 0 := fun h9 => by rw [e_g, zBo_t (by rw [h9]; rfl)] at c_45; exact absurd c_45 (by decide)
      refine lv_iconst (v := 0) hx hb d_Mo_evened_48 (by decide) ?_
      exact x_ri hE rfl hM hS ⟨⟨_, e_M⟩, fun h9 => absurd h9 hc1⟩ (by decide) (by decide) d_Mo_evened_49
  · refine lv_iload_n hx hb d_Mo_evened_7 rfl (lv_at hl 0 rfl) ?_
    refine lv_if_eq (tgt := 39) hx hb d_Mo_evened_8 (by decide) (fun c_8 => ?_) (fun c_8 => ?_)
    · refine lv_iconst (v := 0) hx hb d_Mo_evened_39 (by decide) ?_
      exact hjn _ _ _ (zBo_f (fun h9 => zBo_ne.mpr h9.1 c_8)).symm hM hS
    · refine lv_iload_n hx hb d_Mo_evened_11 rfl (lv_at hl 3 rfl) ?_
      refine lv_iconst (v := (-1)) hx hb d_Mo_evened_12 (by decide) ?_
      refine lv_iload_n hx hb d_Mo_evened_13 rfl (lv_at hl 0 rfl) ?_
      refine lv_if_eq (tgt := 28) hx hb d_Mo_evened_14 (by decide) (fun c_14 => ?_) (fun c_14 => ?_)
      · exact absurd c_14 c_8
      · obtain ⟨i, ei, hi, exi⟩ := z_in (zBo_ne.mp c_14) (by have := hO.2.2.1; omega)
        refine lv_aload_n hx hb d_Mo_evened_17 rfl (lv_at hl 1 rfl) ?_
        refine x_get (C := R_Mo) (T := F_Mo) (N := 20) hx hb hw i_Mo hown hK.1 hM (id ho) rfl 4 (by decide) (hw _ kw_527) rfl rfl d_Mo_evened_18 ?_
        refine lv_iload_n hx hb d_Mo_evened_21 rfl (lv_at hl 2 rfl) ?_
        refine x_iald hx hb hK.1 hM hA.2.1 0 rfl exi (by have := hO.2.2.1; omega) (by decide) d_Mo_evened_22 ?_
        refine lv_topi (fun tv etv => ?_)
        have etv : tv = nI (zln u x.toNatClampNeg) := by rw [etv]; rw [← ei]; exact (hX.2.1 i hi).1
        subst etv
        refine lv_iconst (v := 1) hx hb d_Mo_evened_23 (by decide) ?_
        refine lv_isub hx hb d_Mo_evened_24 ?_
        refine lv_goto (tgt := 29) hx hb d_Mo_evened_25 (by decide) ?_
        refine x_ci (x_runS (As := [.int k, .int (-1), .int ((nI (zln u x.toNatClampNeg)) - 1)]) (rest := [.ref (ad 100)]) hE hK hM hl.1 (c_Mo_within l G M k (-1) (nI (zln u x.toNatClampNeg) - 1)) kw_592 kw_593 kw_4 kw_594 3 rfl rfl rfl (by decide +kernel) ⟨by decide, by decide⟩ rfl (Nat.le_of_ble_eq_true rfl) d_Mo_evened_29 ⟨by decide, by decide⟩) hS (fun r2 M1 H locs hp hM hS => ?_)
        obtain ⟨e_w, e_M0⟩ := hp
        have hM : xh G M H := e_M0 ▸ hM
        subst e_w
        refine lv_if_eq (tgt := 39) hx hb d_Mo_evened_32 (by decide) (fun c_32 => ?_) (fun c_32 => ?_)
        · refine lv_iconst (v := 0) hx hb d_Mo_evened_39 (by decide) ?_
          exact hjn _ _ _ (zBo_f (fun h9 => zBo_ne.mpr ((h_ev (zBo_ne.mp c_8)).mpr h9.2) c_32)).symm hM hS
        · refine lv_iconst (v := 1) hx hb d_Mo_evened_35 (by decide) ?_
          refine lv_goto (tgt := 40) hx hb d_Mo_evened_36 (by decide) ?_
          exact hjn _ _ _ (zBo_t ⟨zBo_ne.mp c_8, (h_ev (zBo_ne.mp c_8)).mp (zBo_ne.mp c_32)⟩).symm hM hS

set_option maxHeartbeats 4000000 in
set_option maxRecDepth 100000 in
theorem c_Mo_ring (l : Launch) (G : xG) (M : xM) (ad : Nat → Nat) (u : zS) (th : Int32) (q : z5) (ho : M (ad 100) = some (100, eMo ad u th q)) (X : zX) (hA : MoA G M ad X) (hX : MoR u X) (hO : zOk u) (w : Int32) : Met l y_Mo_ring w_Mo_ring ({ frames := 2, cells := 0, slots := 0, locals := 75 }) (xP G [.ref (ad 100), .int w] M) (xQi G (fun v M' => ((fRing u w).1 = 0 → MoU G M ad (uRing u w) (fRing u w) v M') ∧ (¬ (fRing u w).1 = 0 → MoU G M ad u (fRing u w) v M'))) 0 0 (xF G) := by
  refine x_met (by decide) (Nat.le_of_ble_eq_true rfl) ?_
  intro p e s m below meth c ls hE hin hl hM hK hS
  obtain ⟨hx, hb, hr, hml, hown, hw, hlocks⟩ := id hE
  have hlt : (fRing u w).1 < 2 ^ 31 := by
    unfold fRing
    repeat' split
    all_goals exact Nat.le_of_ble_eq_true rfl
  have hl : lv_has ls 2 [(0, .ref (ad 100)), (1, .int w)] := hl
  refine lv_aload_n hx hb d_Mo_ring_0 rfl (lv_at hl 0 rfl) ?_
  refine x_cutH (G := G) (M := M) (ls := ls) 15 [.ref (ad 100)] (fun v => v = zBo (zpn u < 30)) (fun o1 H locs h_o1 hM hS => ?_) (fun hjn => ?_)
  · subst h_o1
    refine lv_iload_n hx hb d_Mo_ring_15 rfl (lv_at hl 1 rfl) ?_
    refine lv_iconst (v := 1) hx hb d_Mo_ring_16 (by decide) ?_
    refine lv_sipush (v := 900) hx hb d_Mo_ring_17 (by decide) ?_
    refine x_ci (x_runS (As := [.int w, .int 1, .int 900]) (rest := [.int (zBo (zpn u < 30)), .ref (ad 100)]) hE hK hM hl.1 (c_Mo_within l G M w 1 900) kw_592 kw_593 kw_4 kw_594 3 rfl rfl rfl (by decide +kernel) ⟨by decide, by decide⟩ rfl (Nat.le_of_ble_eq_true rfl) d_Mo_ring_20 ⟨by decide, by decide⟩) hS (fun r1 M1 H locs hp hM hS => ?_)
    obtain ⟨e_w, e_M0⟩ := hp
    have hM : xh G M H := e_M0 ▸ hM
    subst e_w
    refine lv_iconst (v := 1) hx hb d_Mo_ring_23 (by decide) ?_
    refine x_ci (x_runV (As := [.int (zBo (zpn u < 30)), .int (zBo (¬ w < 1 ∧ ¬ 900 < w)), .int 1]) (rest := []) hE hK hM hl.1 (c_Mo_goes l G M ad u th q ho (zBo (zpn u < 30)) (zBo (¬ w < 1 ∧ ¬ 900 < w)) 1) (id ho) rfl kw_595 kw_597 ks_17 kw_4 kw_598 3 rfl rfl rfl (by decide +kernel) ⟨by decide, by decide⟩ rfl (Nat.le_of_ble_eq_true rfl) d_Mo_ring_24 ⟨by decide, by decide⟩) hS (fun r2 M1 H locs hp hM hS => ?_)
    have hgb := g_ring u w
    obtain ⟨e_g, e_M⟩ := hp
    rw [hgb] at e_M e_g
    obtain ⟨Ma, eMa⟩ : ∃ zz9 : xM, zz9 = M1 := ⟨_, rfl⟩
    subst eMa
    have hog := xw_atE e_M
    have hAg := hA.up ho e_M
    refine lv_if_ne (tgt := 32) hx hb d_Mo_ring_27 (by decide) (fun c_27 => ?_) (fun c_27 => ?_)
    · have hc0 : (fRing u w).1 = 0 := (nI_eq (b := 0) (by exact hlt) (by decide)).mp (zBo_ne.mp (fun h9 => c_27 (e_g.trans h9)))
      have hcd := g_cd hgb hc0
      have h_a := zBo_ne.mp hcd.1
      have h_b := zBo_ne.mp hcd.2.1
      refine lv_aload_n hx hb d_Mo_ring_32 rfl (lv_at hl 0 rfl) ?_
      refine x_get (C := R_Mo) (T := F_Mo) (N := 20) hx hb hw i_Mo hown hK.1 hM hog rfl 2 (by decide) (hw _ kw_525) rfl rfl d_Mo_ring_33 ?_
      refine lv_aload_n hx hb d_Mo_ring_36 rfl (lv_at hl 0 rfl) ?_
      refine x_get (C := R_Mo) (T := F_Mo) (N := 20) hx hb hw i_Mo hown hK.1 hM hog rfl 1 (by decide) (hw _ kw_524) rfl rfl d_Mo_ring_37 ?_
      refine lv_iload_n hx hb d_Mo_ring_40 rfl (lv_at hl 1 rfl) ?_
      refine x_iast hx hb hK.1 hM hS hAg.1 0 rfl rfl h_a (by decide) d_Mo_ring_41 (fun H locs hM hS hz => ?_)
      have hM : xh G (va_up Ma (ad 101) (some (101, .inl (gI G, 30, .inl (upd (mPd X) (zpn u) w))))) H := hM
      obtain ⟨Ma_1, eMa_1⟩ : ∃ z : xM, z = va_up Ma (ad 101) (some (101, .inl (gI G, 30, .inl (upd (mPd X) (zpn u) w)))) := ⟨_, rfl⟩
      rw [← eMa_1] at hM
      have hog := xw_upE eMa_1 hog hAg.1 (by decide)
      have k_ad102 := xw_upE eMa_1 hAg.2.1 hAg.1 (by decide)
      have k_ad103 := xw_upE eMa_1 hAg.2.2.1 hAg.1 (by decide)
      have k_ad104 := xw_upE eMa_1 hAg.2.2.2.1 hAg.1 (by decide)
      have k_ad105 := xw_upE eMa_1 hAg.2.2.2.2.1 hAg.1 (by decide)
      have k_ad106 := xw_upE eMa_1 hAg.2.2.2.2.2.1 hAg.1 (by decide)
      have k_ad107 := xw_upE eMa_1 hAg.2.2.2.2.2.2.1 hAg.1 (by decide)
      have k_ad108 := xw_upE eMa_1 hAg.2.2.2.2.2.2.2 hAg.1 (by decide)
      have k_ad101 := xw_atE eMa_1
      refine lv_aload_n hx hb d_Mo_ring_42 rfl (lv_at hl 0 rfl) ?_
      refine lv_dup hx hb d_Mo_ring_43 rfl ?_
      refine x_get (C := R_Mo) (T := F_Mo) (N := 20) hx hb hw i_Mo hown hK.1 hM hog rfl 1 (by decide) (hw _ kw_524) rfl rfl d_Mo_ring_44 ?_
      refine lv_iconst (v := 1) hx hb d_Mo_ring_47 (by decide) ?_
      refine lv_iadd hx hb d_Mo_ring_48 ?_
      refine lv_topi (fun tv etv => ?_)
      have etv : tv = nI (zpn u + 1) := by rw [etv]; exact nI_1 _
      subst etv
      have hog1 := hog
      refine x_put (C := R_Mo) (T := F_Mo) (N := 20) (ty := .int) (v := .int (nI (zpn u + 1))) hx hb hw i_Mo t_Mo t_Mo_ok n_Mo hown hK.1 hM hS hog rfl 1 (by decide) (hw _ kw_524) rfl rfl (by decide +kernel) rfl rfl (Nat.le_of_ble_eq_true rfl) d_Mo_ring_49 (fun H locs hM hS hz => ?_)
      have hM : xh G (va_up Ma_1 (ad 100) (some (100, .inr (5, [.int (nI (fRing u w).1), .int (nI (zpn u + 1)), .ref (ad 101), .int (nI (zrn u)), .ref (ad 102), .ref (ad 103), .ref (ad 104), .int (nI (zmn u)), .ref (ad 105), .ref (ad 106), .ref (ad 107), .ref (ad 108), .int q.1, .int q.2.1, .int q.2.2.1, .int q.2.2.2.1, .int q.2.2.2.2, .ref (ad 109), .ref (ad 110), .ref (ad 111)])))) H := hM
      obtain ⟨Ma_2, eMa_2⟩ : ∃ z : xM, z = va_up Ma_1 (ad 100) (some (100, .inr (5, [.int (nI (fRing u w).1), .int (nI (zpn u + 1)), .ref (ad 101), .int (nI (zrn u)), .ref (ad 102), .ref (ad 103), .ref (ad 104), .int (nI (zmn u)), .ref (ad 105), .ref (ad 106), .ref (ad 107), .ref (ad 108), .int q.1, .int q.2.1, .int q.2.2.1, .int q.2.2.2.1, .int q.2.2.2.2, .ref (ad 109), .ref (ad 110), .ref (ad 111)]))) := ⟨_, rfl⟩
      rw [← eMa_2] at hM
      have k_ad101 := xw_upE eMa_2 k_ad101 hog (by decide)
      have k_ad102 := xw_upE eMa_2 k_ad102 hog (by decide)
      have k_ad103 := xw_upE eMa_2 k_ad103 hog (by decide)
      have k_ad104 := xw_upE eMa_2 k_ad104 hog (by decide)
      have k_ad105 := xw_upE eMa_2 k_ad105 hog (by decide)
      have k_ad106 := xw_upE eMa_2 k_ad106 hog (by decide)
      have k_ad107 := xw_upE eMa_2 k_ad107 hog (by decide)
      have k_ad108 := xw_upE eMa_2 k_ad108 hog (by decide)
      have hog := xw_atE eMa_2
      refine lv_aload_n hx hb d_Mo_ring_52 rfl (lv_at hl 0 rfl) ?_
      refine x_get (C := R_Mo) (T := F_Mo) (N := 20) hx hb hw i_Mo hown hK.1 hM hog rfl 1 (by decide) (hw _ kw_524) rfl rfl d_Mo_ring_53 ?_
      exact x_ri hE rfl hM hS ⟨fun _ => ⟨⟨q, (upd (mPd X) (zpn u) w, X.2), by have h9 := hog; rw [hc0]; rw [hc0] at h9; exact h9, ⟨k_ad101, k_ad102, k_ad103, k_ad104, k_ad105, k_ad106, k_ad107, k_ad108⟩, hX.ring w⟩, (((xN.refl.put ho e_M (by omega) (by omega)).put hAg.1 eMa_1 (by omega) (by omega)).put hog1 eMa_2 (by omega) (by omega)), fun _ => by unfold fRing; rw [if_neg (by omega), if_neg (fun h9 => h9.elim h_b.1 h_b.2)]⟩, fun h9 => absurd hc0 h9⟩ (by decide) (by decide) d_Mo_ring_56
    · have hc1 : ¬ (fRing u w).1 = 0 := fun h9 => by rw [e_g, zBo_t (by rw [h9]; rfl)] at c_27; exact absurd c_27 (by decide)
      refine lv_iconst (v := 0) hx hb d_Mo_ring_30 (by decide) ?_
      exact x_ri hE rfl hM hS ⟨fun h9 => absurd h9 hc1, fun _ => MoPost.U ⟨⟨_, e_M⟩, fun h9 => absurd h9 hc1⟩ ho hA hX⟩ (by decide) (by decide) d_Mo_ring_31
  · refine lv_aload_n hx hb d_Mo_ring_1 rfl (lv_at hl 0 rfl) ?_
    refine x_get (C := R_Mo) (T := F_Mo) (N := 20) hx hb hw i_Mo hown hK.1 hM (id ho) rfl 1 (by decide) (hw _ kw_524) rfl rfl d_Mo_ring_2 ?_
    refine lv_bipush (v := 30) hx hb d_Mo_ring_5 (by decide) ?_
    refine lv_icmp_ge (tgt := 14) hx hb d_Mo_ring_7 (by decide) (fun c_7 => ?_) (fun c_7 => ?_)
    · have h7 : ¬ zpn u < 30 := fun h9 => absurd c_7 (z_nle ((nI_ltI (b := 30) (by omega) (by decide)).mpr h9))
      refine lv_iconst (v := 0) hx hb d_Mo_ring_14 (by decide) ?_
      exact hjn _ _ _ (zBo_f h7).symm hM hS
    · have h7 : zpn u < 30 := (nI_ltI (b := 30) (by have := hO.1; omega) (by decide)).mp (Int32.not_le.mp c_7)
      refine lv_iconst (v := 1) hx hb d_Mo_ring_10 (by decide) ?_
      refine lv_goto (tgt := 15) hx hb d_Mo_ring_11 (by decide) ?_
      exact hjn _ _ _ (zBo_t h7).symm hM hS

set_option maxHeartbeats 4000000 in
set_option maxRecDepth 100000 in
theorem c_Mo_place (l : Launch) (G : xG) (M : xM) (ad : Nat → Nat) (u : zS) (th : Int32) (q : z5) (ho : M (ad 100) = some (100, eMo ad u th q)) (X : zX) (hA : MoA G M ad X) (hX : MoR u X) (hO : zOk u) (x y : Int32) : Met l y_Mo_place w_Mo_place ({ frames := 2, cells := 0, slots := 0, locals := 75 }) (xP G [.ref (ad 100), .int x, .int y] M) (xQi G (fun v M' => ((fPlace u x y).1 = 0 → MoU G M ad (uPlace u x y) (fPlace u x y) v M') ∧ (¬ (fPlace u x y).1 = 0 → MoU G M ad u (fPlace u x y) v M'))) 0 0 (xF G) := by
  refine x_met (by decide) (Nat.le_of_ble_eq_true rfl) ?_
  intro p e s m below meth c ls hE hin hl hM hK hS
  obtain ⟨hx, hb, hr, hml, hown, hw, hlocks⟩ := id hE
  have hlt : (fPlace u x y).1 < 2 ^ 31 := by
    unfold fPlace
    repeat' split
    all_goals exact Nat.le_of_ble_eq_true rfl
  have hl : lv_has ls 4 [(0, .ref (ad 100)), (1, .int x), (2, .int y)] := hl
  refine lv_aload_n hx hb d_Mo_place_0 rfl (lv_at hl 0 rfl) ?_
  refine lv_aload_n hx hb d_Mo_place_1 rfl (lv_at hl 0 rfl) ?_
  refine lv_iload_n hx hb d_Mo_place_2 rfl (lv_at hl 1 rfl) ?_
  refine x_ci (x_runV (As := [.int x]) (rest := [.ref (ad 100)]) hE hK hM hl.1 (c_Mo_isSeries l G M ad u th q ho hO x) (id ho) rfl kw_607 kw_609 ks_18 kw_4 kw_610 1 rfl rfl rfl (by decide +kernel) ⟨by decide, by decide⟩ rfl (Nat.le_of_ble_eq_true rfl) d_Mo_place_3 ⟨by decide, by decide⟩) hS (fun r1 M1 H locs hp hM hS => ?_)
  obtain ⟨e_i, e_M0⟩ := hp
  have hM : xh G M H := e_M0 ▸ hM
  subst e_i
  refine lv_iload_n hx hb d_Mo_place_6 rfl (lv_at hl 2 rfl) ?_
  refine lv_iconst (v := (-1)) hx hb d_Mo_place_7 (by decide) ?_
  refine lv_sipush (v := 500) hx hb d_Mo_place_8 (by decide) ?_
  refine x_ci (x_runS (As := [.int y, .int (-1), .int 500]) (rest := [.int (zBo (zIn x (zrn u))), .ref (ad 100)]) hE hK hM hl.1 (c_Mo_within l G M y (-1) 500) kw_592 kw_593 kw_4 kw_594 3 rfl rfl rfl (by decide +kernel) ⟨by decide, by decide⟩ rfl (Nat.le_of_ble_eq_true rfl) d_Mo_place_11 ⟨by decide, by decide⟩) hS (fun r2 M1 H locs hp hM hS => ?_)
  obtain ⟨e_w, e_M0⟩ := hp
  have hM : xh G M H := e_M0 ▸ hM
  subst e_w
  refine lv_iconst (v := 1) hx hb d_Mo_place_14 (by decide) ?_
  refine x_ci (x_runV (As := [.int (zBo (zIn x (zrn u))), .int (zBo (¬ y < -1 ∧ ¬ 500 < y)), .int 1]) (rest := []) hE hK hM hl.1 (c_Mo_goes l G M ad u th q ho (zBo (zIn x (zrn u))) (zBo (¬ y < -1 ∧ ¬ 500 < y)) 1) (id ho) rfl kw_595 kw_597 ks_17 kw_4 kw_598 3 rfl rfl rfl (by decide +kernel) ⟨by decide, by decide⟩ rfl (Nat.le_of_ble_eq_true rfl) d_Mo_place_15 ⟨by decide, by decide⟩) hS (fun r3 M1 H locs hp hM hS => ?_)
  have hgb := g_place u x y
  obtain ⟨e_g, e_M⟩ := hp
  rw [hgb] at e_M e_g
  obtain ⟨Ma, eMa⟩ : ∃ zz9 : xM, zz9 = M1 := ⟨_, rfl⟩
  subst eMa
  have hog := xw_atE e_M
  have hAg := hA.up ho e_M
  refine lv_if_ne (tgt := 23) hx hb d_Mo_place_18 (by decide) (fun c_18 => ?_) (fun c_18 => ?_)
  · have hc0 : (fPlace u x y).1 = 0 := (nI_eq (b := 0) (by exact hlt) (by decide)).mp (zBo_ne.mp (fun h9 => c_18 (e_g.trans h9)))
    have hcd := g_cd hgb hc0
    have h_a := zBo_ne.mp hcd.1
    have h_b := zBo_ne.mp hcd.2.1
    obtain ⟨i, ei, hi, exi⟩ := z_in (h_a) (by have := hO.2.2.1; omega)
    refine lv_aload_n hx hb d_Mo_place_23 rfl (lv_at hl 0 rfl) ?_
    refine x_get (C := R_Mo) (T := F_Mo) (N := 20) hx hb hw i_Mo hown hK.1 hM hog rfl 6 (by decide) (hw _ kw_529) rfl rfl d_Mo_place_24 ?_
    refine lv_iload_n hx hb d_Mo_place_27 rfl (lv_at hl 1 rfl) ?_
    refine x_iald hx hb hK.1 hM hAg.2.2.2.1 0 rfl exi (by have := hO.2.2.1; omega) (by decide) d_Mo_place_28 ?_
    refine lv_istore_n (lv' := [(3, .int ((mPl X) i)), (0, .ref (ad 100)), (1, .int x), (2, .int y)]) hx hb d_Mo_place_29 rfl hl (by decide) rfl (fun ls hl => ?_)
    refine lv_aload_n hx hb d_Mo_place_30 rfl (lv_at hl 1 rfl) ?_
    refine x_get (C := R_Mo) (T := F_Mo) (N := 20) hx hb hw i_Mo hown hK.1 hM hog rfl 6 (by decide) (hw _ kw_529) rfl rfl d_Mo_place_31 ?_
    refine lv_iload_n hx hb d_Mo_place_34 rfl (lv_at hl 2 rfl) ?_
    refine lv_iload_n hx hb d_Mo_place_35 rfl (lv_at hl 3 rfl) ?_
    refine x_iast hx hb hK.1 hM hS hAg.2.2.2.1 0 rfl exi (by have := hO.2.2.1; omega) (by decide) d_Mo_place_36 (fun H locs hM hS hz => ?_)
    have hM : xh G (va_up Ma (ad 104) (some (104, .inl (gI G, 10, .inl (upd (mPl X) i y))))) H := hM
    obtain ⟨Ma_1, eMa_1⟩ : ∃ z : xM, z = va_up Ma (ad 104) (some (104, .inl (gI G, 10, .inl (upd (mPl X) i y)))) := ⟨_, rfl⟩
    rw [← eMa_1] at hM
    have hog := xw_upE eMa_1 hog hAg.2.2.2.1 (by decide)
    have k_ad101 := xw_upE eMa_1 hAg.1 hAg.2.2.2.1 (by decide)
    have k_ad102 := xw_upE eMa_1 hAg.2.1 hAg.2.2.2.1 (by decide)
    have k_ad103 := xw_upE eMa_1 hAg.2.2.1 hAg.2.2.2.1 (by decide)
    have k_ad105 := xw_upE eMa_1 hAg.2.2.2.2.1 hAg.2.2.2.1 (by decide)
    have k_ad106 := xw_upE eMa_1 hAg.2.2.2.2.2.1 hAg.2.2.2.1 (by decide)
    have k_ad107 := xw_upE eMa_1 hAg.2.2.2.2.2.2.1 hAg.2.2.2.1 (by decide)
    have k_ad108 := xw_upE eMa_1 hAg.2.2.2.2.2.2.2 hAg.2.2.2.1 (by decide)
    have k_ad104 := xw_atE eMa_1
    refine lv_iload_n hx hb d_Mo_place_37 rfl (lv_at hl 0 rfl) ?_
    exact x_ri hE rfl hM hS ⟨fun _ => ⟨⟨q, (mPd X, mSz X, mEv X, upd (mPl X) i y, X.2.2.2.2), by have h9 := hog; rw [hc0]; rw [hc0] at h9; exact h9, ⟨k_ad101, k_ad102, k_ad103, k_ad104, k_ad105, k_ad106, k_ad107, k_ad108⟩, hX.place ei hi y⟩, ((xN.refl.put ho e_M (by omega) (by omega)).put hAg.2.2.2.1 eMa_1 (by omega) (by omega)), fun _ => by unfold fPlace; rw [if_pos h_a, if_neg (fun h9 => h9.elim h_b.1 h_b.2), ← ei]; exact (hX.2.1 i hi).2.2⟩, fun h9 => absurd hc0 h9⟩ (by decide) (by decide) d_Mo_place_38
  · have hc1 : ¬ (fPlace u x y).1 = 0 := fun h9 => by rw [e_g, zBo_t (by rw [h9]; rfl)] at c_18; exact absurd c_18 (by decide)
    refine lv_iconst (v := 0) hx hb d_Mo_place_21 (by decide) ?_
    exact x_ri hE rfl hM hS ⟨fun h9 => absurd h9 hc1, fun _ => MoPost.U ⟨⟨_, e_M⟩, fun h9 => absurd h9 hc1⟩ ho hA hX⟩ (by decide) (by decide) d_Mo_place_22

set_option maxHeartbeats 4000000 in
set_option maxRecDepth 100000 in
theorem c_Mo_sapwood (l : Launch) (G : xG) (M : xM) (ad : Nat → Nat) (u : zS) (th : Int32) (q : z5) (ho : M (ad 100) = some (100, eMo ad u th q)) (X : zX) (hA : MoA G M ad X) (hX : MoR u X) (hO : zOk u) (x w : Int32) : Met l y_Mo_sapwood w_Mo_sapwood ({ frames := 2, cells := 0, slots := 0, locals := 75 }) (xP G [.ref (ad 100), .int x, .int w] M) (xQi G (fun v M' => ((fSap u x w).1 = 0 → MoU G M ad (uSap u x w) (fSap u x w) v M') ∧ (¬ (fSap u x w).1 = 0 → MoU G M ad u (fSap u x w) v M'))) 0 0 (xF G) := by
  refine x_met (by decide) (Nat.le_of_ble_eq_true rfl) ?_
  intro p e s m below meth c ls hE hin hl hM hK hS
  obtain ⟨hx, hb, hr, hml, hown, hw, hlocks⟩ := id hE
  have hlt : (fSap u x w).1 < 2 ^ 31 := by
    unfold fSap
    repeat' split
    all_goals exact Nat.le_of_ble_eq_true rfl
  have hl : lv_has ls 4 [(0, .ref (ad 100)), (1, .int x), (2, .int w)] := hl
  refine lv_aload_n hx hb d_Mo_sapwood_0 rfl (lv_at hl 0 rfl) ?_
  refine x_cutH (G := G) (M := M) (ls := ls) 27 [.ref (ad 100)] (fun v => v = zBo (cSap x w)) (fun o1 H locs h_o1 hM hS => ?_) (fun hjn => ?_)
  · subst h_o1
    refine lv_iconst (v := 1) hx hb d_Mo_sapwood_27 (by decide) ?_
    refine lv_iconst (v := 1) hx hb d_Mo_sapwood_28 (by decide) ?_
    refine x_ci (x_runV (As := [.int (zBo (cSap x w)), .int 1, .int 1]) (rest := []) hE hK hM hl.1 (c_Mo_goes l G M ad u th q ho (zBo (cSap x w)) 1 1) (id ho) rfl kw_595 kw_597 ks_17 kw_4 kw_598 3 rfl rfl rfl (by decide +kernel) ⟨by decide, by decide⟩ rfl (Nat.le_of_ble_eq_true rfl) d_Mo_sapwood_29 ⟨by decide, by decide⟩) hS (fun r1 M1 H locs hp hM hS => ?_)
    have hgb := g_sap u x w
    obtain ⟨e_g, e_M⟩ := hp
    rw [hgb] at e_M e_g
    obtain ⟨Ma, eMa⟩ : ∃ zz9 : xM, zz9 = M1 := ⟨_, rfl⟩
    subst eMa
    have hog := xw_atE e_M
    have hAg := hA.up ho e_M
    refine lv_if_ne (tgt := 37) hx hb d_Mo_sapwood_32 (by decide) (fun c_32 => ?_) (fun c_32 => ?_)
    · have hc0 : (fSap u x w).1 = 0 := (nI_eq (b := 0) (by exact hlt) (by decide)).mp (zBo_ne.mp (fun h9 => c_32 (e_g.trans h9)))
      have hcd := g_cd hgb hc0
      have h_a := zBo_ne.mp hcd.1
      obtain ⟨i, ei, hi, exi⟩ := z_60 h_a.1
      refine lv_aload_n hx hb d_Mo_sapwood_37 rfl (lv_at hl 0 rfl) ?_
      refine x_get (C := R_Mo) (T := F_Mo) (N := 20) hx hb hw i_Mo hown hK.1 hM hog rfl 11 (by decide) (hw _ kw_534) rfl rfl d_Mo_sapwood_38 ?_
      refine lv_iload_n hx hb d_Mo_sapwood_41 rfl (lv_at hl 1 rfl) ?_
      refine x_iald hx hb hK.1 hM hAg.2.2.2.2.2.2.2 0 rfl exi (by omega) (by decide) d_Mo_sapwood_42 ?_
      refine lv_istore_n (lv' := [(3, .int ((mWt X) i)), (0, .ref (ad 100)), (1, .int x), (2, .int w)]) hx hb d_Mo_sapwood_43 rfl hl (by decide) rfl (fun ls hl => ?_)
      refine lv_aload_n hx hb d_Mo_sapwood_44 rfl (lv_at hl 1 rfl) ?_
      refine x_get (C := R_Mo) (T := F_Mo) (N := 20) hx hb hw i_Mo hown hK.1 hM hog rfl 11 (by decide) (hw _ kw_534) rfl rfl d_Mo_sapwood_45 ?_
      refine lv_iload_n hx hb d_Mo_sapwood_48 rfl (lv_at hl 2 rfl) ?_
      refine lv_iload_n hx hb d_Mo_sapwood_49 rfl (lv_at hl 3 rfl) ?_
      refine x_iast hx hb hK.1 hM hS hAg.2.2.2.2.2.2.2 0 rfl exi (by omega) (by decide) d_Mo_sapwood_50 (fun H locs hM hS hz => ?_)
      have hM : xh G (va_up Ma (ad 108) (some (108, .inl (gI G, 61, .inl (upd (mWt X) i w))))) H := hM
      obtain ⟨Ma_1, eMa_1⟩ : ∃ z : xM, z = va_up Ma (ad 108) (some (108, .inl (gI G, 61, .inl (upd (mWt X) i w)))) := ⟨_, rfl⟩
      rw [← eMa_1] at hM
      have hog := xw_upE eMa_1 hog hAg.2.2.2.2.2.2.2 (by decide)
      have k_ad101 := xw_upE eMa_1 hAg.1 hAg.2.2.2.2.2.2.2 (by decide)
      have k_ad102 := xw_upE eMa_1 hAg.2.1 hAg.2.2.2.2.2.2.2 (by decide)
      have k_ad103 := xw_upE eMa_1 hAg.2.2.1 hAg.2.2.2.2.2.2.2 (by decide)
      have k_ad104 := xw_upE eMa_1 hAg.2.2.2.1 hAg.2.2.2.2.2.2.2 (by decide)
      have k_ad105 := xw_upE eMa_1 hAg.2.2.2.2.1 hAg.2.2.2.2.2.2.2 (by decide)
      have k_ad106 := xw_upE eMa_1 hAg.2.2.2.2.2.1 hAg.2.2.2.2.2.2.2 (by decide)
      have k_ad107 := xw_upE eMa_1 hAg.2.2.2.2.2.2.1 hAg.2.2.2.2.2.2.2 (by decide)
      have k_ad108 := xw_atE eMa_1
      refine lv_iload_n hx hb d_Mo_sapwood_51 rfl (lv_at hl 0 rfl) ?_
      exact x_ri hE rfl hM hS ⟨fun _ => ⟨⟨q, (mPd X, mSz X, mEv X, mPl X, mLy X, mFi X, mLa X, upd (mWt X) i w), by have h9 := hog; rw [hc0]; rw [hc0] at h9; exact h9, ⟨k_ad101, k_ad102, k_ad103, k_ad104, k_ad105, k_ad106, k_ad107, k_ad108⟩, hX.sap ei w⟩, ((xN.refl.put ho e_M (by omega) (by omega)).put hAg.2.2.2.2.2.2.2 eMa_1 (by omega) (by omega)), fun _ => by unfold fSap; rw [if_neg (fun h9 => h9.elim h_a.1.1 h_a.1.2), if_neg (fun h9 => h9.elim h_a.2.1 h_a.2.2), ← ei]; exact hX.2.2.2.2 i hi⟩, fun h9 => absurd hc0 h9⟩ (by decide) (by decide) d_Mo_sapwood_52
    · have hc1 : ¬ (fSap u x w).1 = 0 := fun h9 => by rw [e_g, zBo_t (by rw [h9]; rfl)] at c_32; exact absurd c_32 (by decide)
      refine lv_iconst (v := 0) hx hb d_Mo_sapwood_35 (by decide) ?_
      exact x_ri hE rfl hM hS ⟨fun h9 => absurd h9 hc1, fun _ => MoPost.U ⟨⟨_, e_M⟩, fun h9 => absurd h9 hc1⟩ ho hA hX⟩ (by decide) (by decide) d_Mo_sapwood_36
  · refine lv_iload_n hx hb d_Mo_sapwood_1 rfl (lv_at hl 1 rfl) ?_
    refine lv_iconst (v := 0) hx hb d_Mo_sapwood_2 (by decide) ?_
    refine lv_bipush (v := 60) hx hb d_Mo_sapwood_3 (by decide) ?_
    refine x_ci (x_runS (As := [.int x, .int 0, .int 60]) (rest := [.ref (ad 100)]) hE hK hM hl.1 (c_Mo_within l G M x 0 60) kw_592 kw_593 kw_4 kw_594 3 rfl rfl rfl (by decide +kernel) ⟨by decide, by decide⟩ rfl (Nat.le_of_ble_eq_true rfl) d_Mo_sapwood_5 ⟨by decide, by decide⟩) hS (fun r1 M1 H locs hp hM hS => ?_)
    obtain ⟨e_w, e_M0⟩ := hp
    have hM : xh G M H := e_M0 ▸ hM
    subst e_w
    refine lv_if_eq (tgt := 26) hx hb d_Mo_sapwood_8 (by decide) (fun c_8 => ?_) (fun c_8 => ?_)
    · refine lv_iconst (v := 0) hx hb d_Mo_sapwood_26 (by decide) ?_
      exact hjn _ _ _ (zBo_f (fun h9 => zBo_ne.mpr h9.1 c_8)).symm hM hS
    · refine lv_iload_n hx hb d_Mo_sapwood_11 rfl (lv_at hl 2 rfl) ?_
      refine lv_iconst (v := 0) hx hb d_Mo_sapwood_12 (by decide) ?_
      refine lv_sipush (v := 10000) hx hb d_Mo_sapwood_13 (by decide) ?_
      refine x_ci (x_runS (As := [.int w, .int 0, .int 10000]) (rest := [.ref (ad 100)]) hE hK hM hl.1 (c_Mo_within l G M w 0 10000) kw_592 kw_593 kw_4 kw_594 3 rfl rfl rfl (by decide +kernel) ⟨by decide, by decide⟩ rfl (Nat.le_of_ble_eq_true rfl) d_Mo_sapwood_16 ⟨by decide, by decide⟩) hS (fun r2 M1 H locs hp hM hS => ?_)
      obtain ⟨e_w, e_M0⟩ := hp
      have hM : xh G M H := e_M0 ▸ hM
      subst e_w
      refine lv_if_eq (tgt := 26) hx hb d_Mo_sapwood_19 (by decide) (fun c_19 => ?_) (fun c_19 => ?_)
      · refine lv_iconst (v := 0) hx hb d_Mo_sapwood_26 (by decide) ?_
        exact hjn _ _ _ (zBo_f (fun h9 => zBo_ne.mpr h9.2 c_19)).symm hM hS
      · refine lv_iconst (v := 1) hx hb d_Mo_sapwood_22 (by decide) ?_
        refine lv_goto (tgt := 27) hx hb d_Mo_sapwood_23 (by decide) ?_
        exact hjn _ _ _ (zBo_t ⟨zBo_ne.mp c_8, zBo_ne.mp c_19⟩).symm hM hS

set_option maxHeartbeats 4000000 in
set_option maxRecDepth 100000 in
theorem c_Mo_isYear (l : Launch) (G : xG) (M : xM) (ad : Nat → Nat) (u : zS) (th : Int32) (q : z5) (ho : M (ad 100) = some (100, eMo ad u th q)) (X : zX) (hA : MoA G M ad X) (hX : MoR u X) (hO : zOk u) (x y : Int32) : Met l y_Mo_isYear w_Mo_isYear ({ frames := 2, cells := 0, slots := 0, locals := 75 }) (xP G [.ref (ad 100), .int x, .int y] M) (xQi G (fun v M' => v = zBo (cAt u x y) ∧ M' = M)) 0 0 (xF G) := by
  refine x_met (by decide) (Nat.le_of_ble_eq_true rfl) ?_
  intro p e s m below meth c ls hE hin hl hM hK hS
  obtain ⟨hx, hb, hr, hml, hown, hw, hlocks⟩ := id hE
  have hl : lv_has ls 3 [(0, .ref (ad 100)), (1, .int x), (2, .int y)] := hl
  refine lv_aload_n hx hb d_Mo_isYear_0 rfl (lv_at hl 0 rfl) ?_
  refine lv_iload_n hx hb d_Mo_isYear_1 rfl (lv_at hl 1 rfl) ?_
  refine x_ci (x_runV (As := [.int x]) (rest := []) hE hK hM hl.1 (c_Mo_isMaster l G M ad u th q ho hO x) (id ho) rfl kw_627 kw_629 ks_20 kw_4 kw_630 1 rfl rfl rfl (by decide +kernel) ⟨by decide, by decide⟩ rfl (Nat.le_of_ble_eq_true rfl) d_Mo_isYear_2 ⟨by decide, by decide⟩) hS (fun r1 M1 H locs hp hM hS => ?_)
  obtain ⟨e_i, e_M0⟩ := hp
  have hM : xh G M H := e_M0 ▸ hM
  subst e_i
  refine lv_if_eq (tgt := 31) hx hb d_Mo_isYear_5 (by decide) (fun c_5 => ?_) (fun c_5 => ?_)
  · refine lv_iconst (v := 0) hx hb d_Mo_isYear_31 (by decide) ?_
    exact x_rz hE rfl (Or.inl rfl) hM hS ⟨(zBo_f (fun h9 => zBo_ne.mpr h9.1 c_5)).symm, rfl⟩ (by decide) (by decide) d_Mo_isYear_32
  · obtain ⟨j, ej, hj, exj⟩ := z_in (zBo_ne.mp c_5) (by have := hO.2.2.2.2.1; omega)
    refine lv_iload_n hx hb d_Mo_isYear_8 rfl (lv_at hl 2 rfl) ?_
    refine lv_aload_n hx hb d_Mo_isYear_9 rfl (lv_at hl 0 rfl) ?_
    refine x_get (C := R_Mo) (T := F_Mo) (N := 20) hx hb hw i_Mo hown hK.1 hM (id ho) rfl 9 (by decide) (hw _ kw_532) rfl rfl d_Mo_isYear_10 ?_
    refine lv_iload_n hx hb d_Mo_isYear_13 rfl (lv_at hl 1 rfl) ?_
    refine x_iald hx hb hK.1 hM hA.2.2.2.2.2.1 0 rfl exj (by have := hO.2.2.2.2.1; omega) (by decide) d_Mo_isYear_14 ?_
    refine lv_topi (fun tv etv => ?_)
    have etv : tv = zFst (zms u j) 10 := by rw [etv]; exact (hX.2.2.2.1 j hj).2.1
    subst etv
    refine lv_aload_n hx hb d_Mo_isYear_15 rfl (lv_at hl 0 rfl) ?_
    refine x_get (C := R_Mo) (T := F_Mo) (N := 20) hx hb hw i_Mo hown hK.1 hM (id ho) rfl 10 (by decide) (hw _ kw_533) rfl rfl d_Mo_isYear_16 ?_
    refine lv_iload_n hx hb d_Mo_isYear_19 rfl (lv_at hl 1 rfl) ?_
    refine x_iald hx hb hK.1 hM hA.2.2.2.2.2.2.1 0 rfl exj (by have := hO.2.2.2.2.1; omega) (by decide) d_Mo_isYear_20 ?_
    refine lv_topi (fun tv etv => ?_)
    have etv : tv = zLst (zln u) (zms u j) 10 := by rw [etv]; exact (hX.2.2.2.1 j hj).2.2
    subst etv
    refine x_ci (x_runS (As := [.int y, .int (zFst (zms u j) 10), .int (zLst (zln u) (zms u j) 10)]) (rest := []) hE hK hM hl.1 (c_Mo_within l G M y (zFst (zms u j) 10) (zLst (zln u) (zms u j) 10)) kw_592 kw_593 kw_4 kw_594 3 rfl rfl rfl (by decide +kernel) ⟨by decide, by decide⟩ rfl (Nat.le_of_ble_eq_true rfl) d_Mo_isYear_21 ⟨by decide, by decide⟩) hS (fun r2 M1 H locs hp hM hS => ?_)
    obtain ⟨e_w, e_M0⟩ := hp
    have hM : xh G M H := e_M0 ▸ hM
    subst e_w
    refine lv_if_eq (tgt := 31) hx hb d_Mo_isYear_24 (by decide) (fun c_24 => ?_) (fun c_24 => ?_)
    · refine lv_iconst (v := 0) hx hb d_Mo_isYear_31 (by decide) ?_
      exact x_rz hE rfl (Or.inl rfl) hM hS ⟨(zBo_f (fun h9 => zBo_ne.mpr (by rw [ej]; exact h9.2) c_24)).symm, rfl⟩ (by decide) (by decide) d_Mo_isYear_32
    · refine lv_iconst (v := 1) hx hb d_Mo_isYear_27 (by decide) ?_
      refine lv_goto (tgt := 32) hx hb d_Mo_isYear_28 (by decide) ?_
      exact x_rz hE rfl (Or.inr rfl) hM hS ⟨(zBo_t ⟨zBo_ne.mp c_5, by rw [← ej]; exact zBo_ne.mp c_24⟩).symm, rfl⟩ (by decide) (by decide) d_Mo_isYear_32

set_option maxHeartbeats 4000000 in
set_option maxRecDepth 100000 in
theorem c_Mo_at (l : Launch) (G : xG) (M : xM) (ad : Nat → Nat) (u : zS) (th : Int32) (q : z5) (ho : M (ad 100) = some (100, eMo ad u th q)) (X : zX) (hA : MoA G M ad X) (hX : MoR u X) (hO : zOk u) (x y : Int32) : Met l y_Mo_at w_Mo_at ({ frames := 3, cells := 0, slots := 0, locals := 130 }) (xP G [.ref (ad 100), .int x, .int y] M) (xQi G (fun v M' => MoPost M ad u (fAt u x y) v M')) 0 0 (xF G) := by
  refine x_met (by decide) (Nat.le_of_ble_eq_true rfl) ?_
  intro p e s m below meth c ls hE hin hl hM hK hS
  obtain ⟨hx, hb, hr, hml, hown, hw, hlocks⟩ := id hE
  have hlt : (fAt u x y).1 < 2 ^ 31 := by
    unfold fAt
    repeat' split
    all_goals exact Nat.le_of_ble_eq_true rfl
  have hl : lv_has ls 3 [(0, .ref (ad 100)), (1, .int x), (2, .int y)] := hl
  refine lv_aload_n hx hb d_Mo_at_0 rfl (lv_at hl 0 rfl) ?_
  refine lv_aload_n hx hb d_Mo_at_1 rfl (lv_at hl 0 rfl) ?_
  refine lv_iload_n hx hb d_Mo_at_2 rfl (lv_at hl 1 rfl) ?_
  refine lv_iload_n hx hb d_Mo_at_3 rfl (lv_at hl 2 rfl) ?_
  refine x_ci (x_runV (As := [.int x, .int y]) (rest := [.ref (ad 100)]) hE hK hM hl.1 (c_Mo_isYear l G M ad u th q ho X hA hX hO x y) (id ho) rfl kw_635 kw_637 ks_21 kw_4 kw_638 2 rfl rfl rfl (by decide +kernel) ⟨by decide, by decide⟩ rfl (Nat.le_of_ble_eq_true rfl) d_Mo_at_4 ⟨by decide, by decide⟩) hS (fun r1 M1 H locs hp hM hS => ?_)
  obtain ⟨e_i, e_M0⟩ := hp
  have hM : xh G M H := e_M0 ▸ hM
  subst e_i
  refine lv_iconst (v := 1) hx hb d_Mo_at_7 (by decide) ?_
  refine lv_iconst (v := 1) hx hb d_Mo_at_8 (by decide) ?_
  refine x_ci (x_runV (As := [.int (zBo (cAt u x y)), .int 1, .int 1]) (rest := []) hE hK hM hl.1 (c_Mo_goes l G M ad u th q ho (zBo (cAt u x y)) 1 1) (id ho) rfl kw_595 kw_597 ks_17 kw_4 kw_598 3 rfl rfl rfl (by decide +kernel) ⟨by decide, by decide⟩ rfl (Nat.le_of_ble_eq_true rfl) d_Mo_at_9 ⟨by decide, by decide⟩) hS (fun r2 M1 H locs hp hM hS => ?_)
  have hgb := g_at u x y
  obtain ⟨e_g, e_M⟩ := hp
  rw [hgb] at e_M e_g
  obtain ⟨Ma, eMa⟩ : ∃ zz9 : xM, zz9 = M1 := ⟨_, rfl⟩
  subst eMa
  have hog := xw_atE e_M
  have hAg := hA.up ho e_M
  refine lv_if_eq (tgt := 25) hx hb d_Mo_at_12 (by decide) (fun c_12 => ?_) (fun c_12 => ?_)
  · have hc1 : ¬ (fAt u x y).1 = 0 := fun h9 => by rw [e_g, zBo_t (by rw [h9]; rfl)] at c_12; exact absurd c_12 (by decide)
    refine lv_iconst (v := 0) hx hb d_Mo_at_25 (by decide) ?_
    exact x_ri hE rfl hM hS ⟨⟨_, e_M⟩, fun h9 => absurd h9 hc1⟩ (by decide) (by decide) d_Mo_at_26
  · have hc0 : (fAt u x y).1 = 0 := (nI_eq (b := 0) (by exact hlt) (by decide)).mp (zBo_ne.mp (fun h9 => c_12 (e_g.trans h9)))
    have hcd := g_cd hgb hc0
    have h_cd := zBo_ne.mp hcd.1
    obtain ⟨j, ej, hj, exj⟩ := z_in (h_cd.1) (by have := hO.2.2.2.2.1; omega)
    have h_yr : inR y (-2000) 2000 := by
      have h1 := hO.mas hj
      have h2 := h_cd.2
      rw [← ej] at h2
      have h3 := z_le0.mp (Int32.not_lt.mp h2.1)
      have h4 := z_le0.mp (Int32.not_lt.mp h2.2)
      have h5 := h1.1.1
      have h6 := h1.2.2
      exact ⟨by omega, by omega⟩
    refine lv_aload_n hx hb d_Mo_at_15 rfl (lv_at hl 0 rfl) ?_
    refine lv_iload_n hx hb d_Mo_at_16 rfl (lv_at hl 1 rfl) ?_
    refine lv_iload_n hx hb d_Mo_at_17 rfl (lv_at hl 2 rfl) ?_
    refine lv_iconst (v := (-1)) hx hb d_Mo_at_18 (by decide) ?_
    refine W.eq (g2 := F0 m 19 ls [.int (-1), .int y, .int (nI j), .ref (ad 100)]) (by rw [exj]) ?_
    refine x_ci (x_runV (As := [.int (nI j), .int y, .int (-1)]) (rest := []) hE hK hM hl.1 (c_Mo_valueOf l G Ma ad u _ q hog X hAg hX hO j hj y (-1) h_yr) hog rfl kw_639 kw_641 ks_22 kw_4 kw_642 3 rfl rfl rfl (by decide +kernel) ⟨by decide, by decide⟩ rfl (Nat.le_of_ble_eq_true rfl) d_Mo_at_19 ⟨by decide, by decide⟩) hS (fun r3 M1 H locs hp hM hS => ?_)
    obtain ⟨e_v, e_M2⟩ := hp
    have hM : xh G Ma H := e_M2 ▸ hM
    refine lv_goto (tgt := 26) hx hb d_Mo_at_22 (by decide) ?_
    exact x_ri hE rfl hM hS ⟨⟨_, e_M⟩, fun _ => by unfold fAt; rw [if_pos h_cd.1, if_neg (fun h9 => h9.elim h_cd.2.1 h_cd.2.2), e_v, ← ej]; rfl⟩ (by decide) (by decide) d_Mo_at_26

set_option maxHeartbeats 4000000 in
set_option maxRecDepth 100000 in
theorem c_Mo_depth (l : Launch) (G : xG) (M : xM) (ad : Nat → Nat) (u : zS) (th : Int32) (q : z5) (ho : M (ad 100) = some (100, eMo ad u th q)) (X : zX) (hA : MoA G M ad X) (hX : MoR u X) (hO : zOk u) (x y : Int32) : Met l y_Mo_depth w_Mo_depth ({ frames := 3, cells := 0, slots := 0, locals := 130 }) (xP G [.ref (ad 100), .int x, .int y] M) (xQi G (fun v M' => MoPost M ad u (fDepth u x y) v M')) 0 0 (xF G) := by
  refine x_met (by decide) (Nat.le_of_ble_eq_true rfl) ?_
  intro p e s m below meth c ls hE hin hl hM hK hS
  obtain ⟨hx, hb, hr, hml, hown, hw, hlocks⟩ := id hE
  have hlt : (fDepth u x y).1 < 2 ^ 31 := by
    unfold fDepth
    repeat' split
    all_goals exact Nat.le_of_ble_eq_true rfl
  have hl : lv_has ls 3 [(0, .ref (ad 100)), (1, .int x), (2, .int y)] := hl
  refine lv_aload_n hx hb d_Mo_depth_0 rfl (lv_at hl 0 rfl) ?_
  refine lv_aload_n hx hb d_Mo_depth_1 rfl (lv_at hl 0 rfl) ?_
  refine lv_iload_n hx hb d_Mo_depth_2 rfl (lv_at hl 1 rfl) ?_
  refine lv_iload_n hx hb d_Mo_depth_3 rfl (lv_at hl 2 rfl) ?_
  refine x_ci (x_runV (As := [.int x, .int y]) (rest := [.ref (ad 100)]) hE hK hM hl.1 (c_Mo_isYear l G M ad u th q ho X hA hX hO x y) (id ho) rfl kw_635 kw_637 ks_21 kw_4 kw_638 2 rfl rfl rfl (by decide +kernel) ⟨by decide, by decide⟩ rfl (Nat.le_of_ble_eq_true rfl) d_Mo_depth_4 ⟨by decide, by decide⟩) hS (fun r1 M1 H locs hp hM hS => ?_)
  obtain ⟨e_i, e_M0⟩ := hp
  have hM : xh G M H := e_M0 ▸ hM
  subst e_i
  refine lv_iconst (v := 1) hx hb d_Mo_depth_7 (by decide) ?_
  refine lv_iconst (v := 1) hx hb d_Mo_depth_8 (by decide) ?_
  refine x_ci (x_runV (As := [.int (zBo (cAt u x y)), .int 1, .int 1]) (rest := []) hE hK hM hl.1 (c_Mo_goes l G M ad u th q ho (zBo (cAt u x y)) 1 1) (id ho) rfl kw_595 kw_597 ks_17 kw_4 kw_598 3 rfl rfl rfl (by decide +kernel) ⟨by decide, by decide⟩ rfl (Nat.le_of_ble_eq_true rfl) d_Mo_depth_9 ⟨by decide, by decide⟩) hS (fun r2 M1 H locs hp hM hS => ?_)
  have hgb := g_depth u x y
  obtain ⟨e_g, e_M⟩ := hp
  rw [hgb] at e_M e_g
  obtain ⟨Ma, eMa⟩ : ∃ zz9 : xM, zz9 = M1 := ⟨_, rfl⟩
  subst eMa
  have hog := xw_atE e_M
  have hAg := hA.up ho e_M
  refine lv_if_eq (tgt := 25) hx hb d_Mo_depth_12 (by decide) (fun c_12 => ?_) (fun c_12 => ?_)
  · have hc1 : ¬ (fDepth u x y).1 = 0 := fun h9 => by rw [e_g, zBo_t (by rw [h9]; rfl)] at c_12; exact absurd c_12 (by decide)
    refine lv_iconst (v := 0) hx hb d_Mo_depth_25 (by decide) ?_
    exact x_ri hE rfl hM hS ⟨⟨_, e_M⟩, fun h9 => absurd h9 hc1⟩ (by decide) (by decide) d_Mo_depth_26
  · have hc0 : (fDepth u x y).1 = 0 := (nI_eq (b := 0) (by exact hlt) (by decide)).mp (zBo_ne.mp (fun h9 => c_12 (e_g.trans h9)))
    have hcd := g_cd hgb hc0
    have h_cd := zBo_ne.mp hcd.1
    obtain ⟨j, ej, hj, exj⟩ := z_in (h_cd.1) (by have := hO.2.2.2.2.1; omega)
    have h_yr : inR y (-2000) 2000 := by
      have h1 := hO.mas hj
      have h2 := h_cd.2
      rw [← ej] at h2
      have h3 := z_le0.mp (Int32.not_lt.mp h2.1)
      have h4 := z_le0.mp (Int32.not_lt.mp h2.2)
      have h5 := h1.1.1
      have h6 := h1.2.2
      exact ⟨by omega, by omega⟩
    refine lv_aload_n hx hb d_Mo_depth_15 rfl (lv_at hl 0 rfl) ?_
    refine lv_iload_n hx hb d_Mo_depth_16 rfl (lv_at hl 1 rfl) ?_
    refine lv_iload_n hx hb d_Mo_depth_17 rfl (lv_at hl 2 rfl) ?_
    refine lv_iconst (v := (-1)) hx hb d_Mo_depth_18 (by decide) ?_
    refine W.eq (g2 := F0 m 19 ls [.int (-1), .int y, .int (nI j), .ref (ad 100)]) (by rw [exj]) ?_
    refine x_ci (x_runV (As := [.int (nI j), .int y, .int (-1)]) (rest := []) hE hK hM hl.1 (c_Mo_depthOf l G Ma ad u _ q hog X hAg hX hO j hj y (-1) h_yr) hog rfl kw_651 kw_653 ks_24 kw_4 kw_654 3 rfl rfl rfl (by decide +kernel) ⟨by decide, by decide⟩ rfl (Nat.le_of_ble_eq_true rfl) d_Mo_depth_19 ⟨by decide, by decide⟩) hS (fun r3 M1 H locs hp hM hS => ?_)
    obtain ⟨e_v, e_M2⟩ := hp
    have hM : xh G Ma H := e_M2 ▸ hM
    refine lv_goto (tgt := 26) hx hb d_Mo_depth_22 (by decide) ?_
    exact x_ri hE rfl hM hS ⟨⟨_, e_M⟩, fun _ => by unfold fDepth; rw [if_pos h_cd.1, if_neg (fun h9 => h9.elim h_cd.2.1 h_cd.2.2), e_v, ← ej]; rfl⟩ (by decide) (by decide) d_Mo_depth_26

set_option maxHeartbeats 4000000 in
set_option maxRecDepth 100000 in
theorem c_Mo_leftOut (l : Launch) (G : xG) (M : xM) (ad : Nat → Nat) (u : zS) (th : Int32) (q : z5) (ho : M (ad 100) = some (100, eMo ad u th q)) (X : zX) (hA : MoA G M ad X) (hX : MoR u X) (hO : zOk u) (x s1 w : Int32) : Met l y_Mo_leftOut w_Mo_leftOut ({ frames := 3, cells := 0, slots := 0, locals := 130 }) (xP G [.ref (ad 100), .int x, .int s1, .int w] M) (xQi G (fun v M' => MoPost M ad u (fLeft u x s1 w) v M')) 0 0 (xF G) := by
  refine x_met (by decide) (Nat.le_of_ble_eq_true rfl) ?_
  intro p e s m below meth c ls hE hin hl hM hK hS
  obtain ⟨hx, hb, hr, hml, hown, hw, hlocks⟩ := id hE
  have hlt : (fLeft u x s1 w).1 < 2 ^ 31 := by
    unfold fLeft
    repeat' split
    all_goals exact Nat.le_of_ble_eq_true rfl
  have hl : lv_has ls 5 [(0, .ref (ad 100)), (1, .int x), (2, .int s1), (3, .int w)] := hl
  refine x_cutH (G := G) (M := M) (ls := ls) 56 [] (fun v => v = zBo (cLo u x s1)) (fun o1 H locs h_o1 hM hS => ?_) (fun hjn => ?_)
  · subst h_o1
    refine lv_istore (lv' := [(4, .int (zBo (cLo u x s1))), (0, .ref (ad 100)), (1, .int x), (2, .int s1), (3, .int w)]) hx hb d_Mo_leftOut_56 hl (by decide) rfl (fun ls hl => ?_)
    refine lv_aload_n hx hb d_Mo_leftOut_58 rfl (lv_at hl 1 rfl) ?_
    refine x_cutH (G := G) (M := M) (ls := ls) 78 [.ref (ad 100)] (fun v => v = zBo (cLeft u x s1 w)) (fun o2 H locs h_o2 hM hS => ?_) (fun hjn => ?_)
    · subst h_o2
      refine lv_iconst (v := 1) hx hb d_Mo_leftOut_78 (by decide) ?_
      refine lv_iconst (v := 1) hx hb d_Mo_leftOut_79 (by decide) ?_
      refine x_ci (x_runV (As := [.int (zBo (cLeft u x s1 w)), .int 1, .int 1]) (rest := []) hE hK hM hl.1 (c_Mo_goes l G M ad u th q ho (zBo (cLeft u x s1 w)) 1 1) (id ho) rfl kw_595 kw_597 ks_17 kw_4 kw_598 3 rfl rfl rfl (by decide +kernel) ⟨by decide, by decide⟩ rfl (Nat.le_of_ble_eq_true rfl) d_Mo_leftOut_80 ⟨by decide, by decide⟩) hS (fun r1 M1 H locs hp hM hS => ?_)
      have hgb := g_left hO x s1 w
      obtain ⟨e_g, e_M⟩ := hp
      rw [hgb] at e_M e_g
      obtain ⟨Ma, eMa⟩ : ∃ zz9 : xM, zz9 = M1 := ⟨_, rfl⟩
      subst eMa
      have hog := xw_atE e_M
      have hAg := hA.up ho e_M
      refine lv_if_ne (tgt := 88) hx hb d_Mo_leftOut_83 (by decide) (fun c_83 => ?_) (fun c_83 => ?_)
      · have hc0 : (fLeft u x s1 w).1 = 0 := (nI_eq (b := 0) (by exact hlt) (by decide)).mp (zBo_ne.mp (fun h9 => c_83 (e_g.trans h9)))
        have hcd := g_cd hgb hc0
        have h_cd := zBo_ne.mp hcd.1
        obtain ⟨j, ej, hj, exj⟩ := z_in (h_cd.1.1) (by have := hO.2.2.2.2.1; omega)
        obtain ⟨i, ei, hi, exi⟩ := z_in (h_cd.1.2.1) (by have := hO.2.2.1; omega)
        refine lv_aload_n hx hb d_Mo_leftOut_88 rfl (lv_at hl 1 rfl) ?_
        refine lv_iload_n hx hb d_Mo_leftOut_89 rfl (lv_at hl 3 rfl) ?_
        refine lv_iload_n hx hb d_Mo_leftOut_90 rfl (lv_at hl 2 rfl) ?_
        refine lv_aload_n hx hb d_Mo_leftOut_91 rfl (lv_at hl 1 rfl) ?_
        refine x_get (C := R_Mo) (T := F_Mo) (N := 20) hx hb hw i_Mo hown hK.1 hM hog rfl 8 (by decide) (hw _ kw_531) rfl rfl d_Mo_leftOut_92 ?_
        refine lv_bipush (v := 10) hx hb d_Mo_leftOut_95 (by decide) ?_
        refine lv_iload_n hx hb d_Mo_leftOut_97 rfl (lv_at hl 2 rfl) ?_
        refine lv_imul hx hb d_Mo_leftOut_98 ?_
        refine lv_iload_n hx hb d_Mo_leftOut_99 rfl (lv_at hl 3 rfl) ?_
        refine lv_iadd hx hb d_Mo_leftOut_100 ?_
        refine x_iald hx hb hK.1 hM hAg.2.2.2.2.1 0 rfl (by rw [exj, exi]; exact z_i10 j i) (by have := hO.2.2.2.2.1; have := hO.2.2.1; omega) (by decide) d_Mo_leftOut_101 ?_
        refine lv_topi (fun tv etv => ?_)
        have etv : tv = zms u j i := by rw [etv]; exact (hX.2.2.2.1 j hj).1 i (by have := hO.2.2.1; omega)
        subst etv
        refine lv_iload_n hx hb d_Mo_leftOut_102 rfl (lv_at hl 3 rfl) ?_
        refine W.eq (g2 := F0 m 103 ls [.int (nI i), .int (zms u j i), .int (nI j), .int (nI i), .ref (ad 100)]) (by rw [exi, exj]) ?_
        refine x_cv (x_runV (As := [.int (nI i), .int (nI j), .int (zms u j i), .int (nI i)]) (rest := []) hE hK hM hl.1 (c_Mo_measure l G Ma ad u _ q hog X hAg hX hO i hi j hj (zms u j i) (nI i)) hog rfl kw_659 kw_661 ks_25 kw_4 kw_662 4 rfl rfl rfl (by decide +kernel) ⟨by decide, by decide⟩ rfl (Nat.le_of_ble_eq_true rfl) d_Mo_leftOut_103 ⟨by decide, by decide⟩) hS (fun M1 H locs hp hM hS => ?_)
        rw [zMm_mo hO hi hj (by have h9 := h_cd.1.2.2; rw [← ej, ← ei] at h9; exact h9)] at hp
        obtain ⟨Mb, eMb⟩ : ∃ zz9 : xM, zz9 = M1 := ⟨_, rfl⟩
        subst eMb
        have hob := xw_atE hp
        have e_Mb := hp
        rw [e_M, bx_uu] at e_Mb
        refine lv_iload_n hx hb d_Mo_leftOut_106 rfl (lv_at hl 4 rfl) ?_
        refine lv_if_ne (tgt := 117) hx hb d_Mo_leftOut_107 (by decide) (fun c_107 => ?_) (fun c_107 => ?_)
        · refine lv_aload_n hx hb d_Mo_leftOut_117 rfl (lv_at hl 1 rfl) ?_
          refine x_get (C := R_Mo) (T := F_Mo) (N := 20) hx hb hw i_Mo hown hK.1 hM hob rfl 13 (by decide) (hw _ kw_536) rfl rfl d_Mo_leftOut_118 ?_
          exact x_ri hE rfl hM hS ⟨⟨_, e_Mb⟩, fun _ => by unfold fLeft; rw [if_pos h_cd.1.1, if_pos h_cd.2, if_pos ⟨⟨h_cd.1.2.1.1, fun h9 => by rw [exi] at h9; have h8 := (nI_leI (by omega) (by have := hO.2.2.1; omega)).mp h9; have := hO.2.2.1; omega⟩, h_cd.1.2.2⟩, ← ei, ← ej, if_neg c_107]⟩ (by decide) (by decide) d_Mo_leftOut_121
        · refine lv_aload_n hx hb d_Mo_leftOut_110 rfl (lv_at hl 1 rfl) ?_
          refine x_get (C := R_Mo) (T := F_Mo) (N := 20) hx hb hw i_Mo hown hK.1 hM hob rfl 12 (by decide) (hw _ kw_535) rfl rfl d_Mo_leftOut_111 ?_
          refine lv_goto (tgt := 121) hx hb d_Mo_leftOut_114 (by decide) ?_
          exact x_ri hE rfl hM hS ⟨⟨_, e_Mb⟩, fun _ => by unfold fLeft; rw [if_pos h_cd.1.1, if_pos h_cd.2, if_pos ⟨⟨h_cd.1.2.1.1, fun h9 => by rw [exi] at h9; have h8 := (nI_leI (by omega) (by have := hO.2.2.1; omega)).mp h9; have := hO.2.2.1; omega⟩, h_cd.1.2.2⟩, ← ei, ← ej, if_pos c_107]⟩ (by decide) (by decide) d_Mo_leftOut_121
      · have hc1 : ¬ (fLeft u x s1 w).1 = 0 := fun h9 => by rw [e_g, zBo_t (by rw [h9]; rfl)] at c_83; exact absurd c_83 (by decide)
        refine lv_iconst (v := 0) hx hb d_Mo_leftOut_86 (by decide) ?_
        exact x_ri hE rfl hM hS ⟨⟨_, e_M⟩, fun h9 => absurd h9 hc1⟩ (by decide) (by decide) d_Mo_leftOut_87
    · refine lv_iload hx hb d_Mo_leftOut_59 (lv_at hl 0 rfl) ?_
      refine lv_if_eq (tgt := 77) hx hb d_Mo_leftOut_61 (by decide) (fun c_61 => ?_) (fun c_61 => ?_)
      · refine lv_iconst (v := 0) hx hb d_Mo_leftOut_77 (by decide) ?_
        exact hjn _ _ _ (zBo_f (fun h9 => zBo_ne.mpr h9.1 c_61)).symm hM hS
      · refine lv_iload_n hx hb d_Mo_leftOut_64 rfl (lv_at hl 4 rfl) ?_
        refine lv_iconst (v := 0) hx hb d_Mo_leftOut_65 (by decide) ?_
        refine lv_iconst (v := 1) hx hb d_Mo_leftOut_66 (by decide) ?_
        refine x_ci (x_runS (As := [.int w, .int 0, .int 1]) (rest := [.ref (ad 100)]) hE hK hM hl.1 (c_Mo_within l G M w 0 1) kw_592 kw_593 kw_4 kw_594 3 rfl rfl rfl (by decide +kernel) ⟨by decide, by decide⟩ rfl (Nat.le_of_ble_eq_true rfl) d_Mo_leftOut_67 ⟨by decide, by decide⟩) hS (fun r1 M1 H locs hp hM hS => ?_)
        obtain ⟨e_w, e_M0⟩ := hp
        have hM : xh G M H := e_M0 ▸ hM
        subst e_w
        refine lv_if_eq (tgt := 77) hx hb d_Mo_leftOut_70 (by decide) (fun c_70 => ?_) (fun c_70 => ?_)
        · refine lv_iconst (v := 0) hx hb d_Mo_leftOut_77 (by decide) ?_
          exact hjn _ _ _ (zBo_f (fun h9 => zBo_ne.mpr h9.2 c_70)).symm hM hS
        · refine lv_iconst (v := 1) hx hb d_Mo_leftOut_73 (by decide) ?_
          refine lv_goto (tgt := 78) hx hb d_Mo_leftOut_74 (by decide) ?_
          exact hjn _ _ _ (zBo_t ⟨zBo_ne.mp c_61, zBo_ne.mp c_70⟩).symm hM hS
  · refine lv_aload_n hx hb d_Mo_leftOut_0 rfl (lv_at hl 0 rfl) ?_
    refine lv_iload_n hx hb d_Mo_leftOut_1 rfl (lv_at hl 1 rfl) ?_
    refine x_ci (x_runV (As := [.int x]) (rest := []) hE hK hM hl.1 (c_Mo_isMaster l G M ad u th q ho hO x) (id ho) rfl kw_627 kw_629 ks_20 kw_4 kw_630 1 rfl rfl rfl (by decide +kernel) ⟨by decide, by decide⟩ rfl (Nat.le_of_ble_eq_true rfl) d_Mo_leftOut_2 ⟨by decide, by decide⟩) hS (fun r1 M1 H locs hp hM hS => ?_)
    obtain ⟨e_i, e_M0⟩ := hp
    have hM : xh G M H := e_M0 ▸ hM
    subst e_i
    refine lv_if_eq (tgt := 55) hx hb d_Mo_leftOut_5 (by decide) (fun c_5 => ?_) (fun c_5 => ?_)
    · refine lv_iconst (v := 0) hx hb d_Mo_leftOut_55 (by decide) ?_
      exact hjn _ _ _ (zBo_f (fun h9 => zBo_ne.mpr h9.1 c_5)).symm hM hS
    · obtain ⟨j, ej, hj, exj⟩ := z_in (zBo_ne.mp c_5) (by have := hO.2.2.2.2.1; omega)
      refine lv_aload_n hx hb d_Mo_leftOut_8 rfl (lv_at hl 0 rfl) ?_
      refine lv_iload_n hx hb d_Mo_leftOut_9 rfl (lv_at hl 2 rfl) ?_
      refine x_ci (x_runV (As := [.int s1]) (rest := []) hE hK hM hl.1 (c_Mo_isSeries l G M ad u th q ho hO s1) (id ho) rfl kw_607 kw_609 ks_18 kw_4 kw_610 1 rfl rfl rfl (by decide +kernel) ⟨by decide, by decide⟩ rfl (Nat.le_of_ble_eq_true rfl) d_Mo_leftOut_10 ⟨by decide, by decide⟩) hS (fun r2 M1 H locs hp hM hS => ?_)
      obtain ⟨e_i, e_M0⟩ := hp
      have hM : xh G M H := e_M0 ▸ hM
      subst e_i
      refine lv_if_eq (tgt := 55) hx hb d_Mo_leftOut_13 (by decide) (fun c_13 => ?_) (fun c_13 => ?_)
      · refine lv_iconst (v := 0) hx hb d_Mo_leftOut_55 (by decide) ?_
        exact hjn _ _ _ (zBo_f (fun h9 => zBo_ne.mpr h9.2.1 c_13)).symm hM hS
      · obtain ⟨i, ei, hi, exi⟩ := z_in (zBo_ne.mp c_13) (by have := hO.2.2.1; omega)
        refine lv_aload_n hx hb d_Mo_leftOut_16 rfl (lv_at hl 0 rfl) ?_
        refine x_get (C := R_Mo) (T := F_Mo) (N := 20) hx hb hw i_Mo hown hK.1 hM (id ho) rfl 8 (by decide) (hw _ kw_531) rfl rfl d_Mo_leftOut_17 ?_
        refine lv_aload_n hx hb d_Mo_leftOut_20 rfl (lv_at hl 0 rfl) ?_
        refine lv_iload_n hx hb d_Mo_leftOut_21 rfl (lv_at hl 1 rfl) ?_
        refine x_ci (x_runV (As := [.int x]) (rest := [.ref (ad 105)]) hE hK hM hl.1 (c_Mo_isMaster l G M ad u th q ho hO x) (id ho) rfl kw_627 kw_629 ks_20 kw_4 kw_630 1 rfl rfl rfl (by decide +kernel) ⟨by decide, by decide⟩ rfl (Nat.le_of_ble_eq_true rfl) d_Mo_leftOut_22 ⟨by decide, by decide⟩) hS (fun r3 M1 H locs hp hM hS => ?_)
        obtain ⟨e_i, e_M0⟩ := hp
        have hM : xh G M H := e_M0 ▸ hM
        subst e_i
        refine lv_if_eq (tgt := 45) hx hb d_Mo_leftOut_25 (by decide) (fun c_25 => ?_) (fun c_25 => ?_)
        · exact absurd c_25 c_5
        · refine lv_aload_n hx hb d_Mo_leftOut_28 rfl (lv_at hl 0 rfl) ?_
          refine lv_iload_n hx hb d_Mo_leftOut_29 rfl (lv_at hl 2 rfl) ?_
          refine x_ci (x_runV (As := [.int s1]) (rest := [.ref (ad 105)]) hE hK hM hl.1 (c_Mo_isSeries l G M ad u th q ho hO s1) (id ho) rfl kw_607 kw_609 ks_18 kw_4 kw_610 1 rfl rfl rfl (by decide +kernel) ⟨by decide, by decide⟩ rfl (Nat.le_of_ble_eq_true rfl) d_Mo_leftOut_30 ⟨by decide, by decide⟩) hS (fun r4 M1 H locs hp hM hS => ?_)
          obtain ⟨e_i, e_M0⟩ := hp
          have hM : xh G M H := e_M0 ▸ hM
          subst e_i
          refine lv_if_eq (tgt := 45) hx hb d_Mo_leftOut_33 (by decide) (fun c_33 => ?_) (fun c_33 => ?_)
          · exact absurd c_33 c_13
          · refine lv_bipush (v := 10) hx hb d_Mo_leftOut_36 (by decide) ?_
            refine lv_iload_n hx hb d_Mo_leftOut_38 rfl (lv_at hl 1 rfl) ?_
            refine lv_imul hx hb d_Mo_leftOut_39 ?_
            refine lv_iload_n hx hb d_Mo_leftOut_40 rfl (lv_at hl 2 rfl) ?_
            refine lv_iadd hx hb d_Mo_leftOut_41 ?_
            refine lv_goto (tgt := 46) hx hb d_Mo_leftOut_42 (by decide) ?_
            refine x_iald hx hb hK.1 hM hA.2.2.2.2.1 0 rfl (by rw [exj, exi]; exact z_i10 j i) (by have := hO.2.2.2.2.1; have := hO.2.2.1; omega) (by decide) d_Mo_leftOut_46 ?_
            refine lv_topi (fun tv etv => ?_)
            have etv : tv = zms u j i := by rw [etv]; exact (hX.2.2.2.1 j hj).1 i (by have := hO.2.2.1; omega)
            subst etv
            refine lv_iconst (v := (-1)) hx hb d_Mo_leftOut_47 (by decide) ?_
            refine lv_icmp_eq (tgt := 55) hx hb d_Mo_leftOut_48 (by decide) (fun c_48 => ?_) (fun c_48 => ?_)
            · refine lv_iconst (v := 0) hx hb d_Mo_leftOut_55 (by decide) ?_
              exact hjn _ _ _ (zBo_f (fun h9 => h9.2.2 (by rw [← ej, ← ei]; exact c_48))).symm hM hS
            · refine lv_iconst (v := 1) hx hb d_Mo_leftOut_51 (by decide) ?_
              refine lv_goto (tgt := 56) hx hb d_Mo_leftOut_52 (by decide) ?_
              exact hjn _ _ _ (zBo_t ⟨zBo_ne.mp c_5, zBo_ne.mp c_13, by rw [← ej, ← ei]; exact c_48⟩).symm hM hS

set_option maxHeartbeats 4000000 in
set_option maxRecDepth 100000 in
theorem c_Mo_distance (l : Launch) (G : xG) (M : xM) (ad : Nat → Nat) (u : zS) (th : Int32) (q : z5) (ho : M (ad 100) = some (100, eMo ad u th q)) (X : zX) (hA : MoA G M ad X) (hX : MoR u X) (hO : zOk u) (x n1 y w : Int32) : Met l y_Mo_distance w_Mo_distance ({ frames := 3, cells := 0, slots := 0, locals := 130 }) (xP G [.ref (ad 100), .int x, .int n1, .int y, .int w] M) (xQi G (fun v M' => MoPost M ad u (fDist u x n1 y w) v M')) 0 0 (xF G) := by
  refine x_met (by decide) (Nat.le_of_ble_eq_true rfl) ?_
  intro p e s m below meth c ls hE hin hl hM hK hS
  obtain ⟨hx, hb, hr, hml, hown, hw, hlocks⟩ := id hE
  have hlt : (fDist u x n1 y w).1 < 2 ^ 31 := by
    unfold fDist
    repeat' split
    all_goals exact Nat.le_of_ble_eq_true rfl
  have hl : lv_has ls 5 [(0, .ref (ad 100)), (1, .int x), (2, .int n1), (3, .int y), (4, .int w)] := hl
  refine lv_aload_n hx hb d_Mo_distance_0 rfl (lv_at hl 0 rfl) ?_
  refine x_cutH (G := G) (M := M) (ls := ls) 32 [.ref (ad 100)] (fun v => v = zBo (cDist u x n1 w)) (fun o1 H locs h_o1 hM hS => ?_) (fun hjn => ?_)
  · subst h_o1
    refine lv_iconst (v := 1) hx hb d_Mo_distance_32 (by decide) ?_
    refine lv_iconst (v := 1) hx hb d_Mo_distance_33 (by decide) ?_
    refine x_ci (x_runV (As := [.int (zBo (cDist u x n1 w)), .int 1, .int 1]) (rest := []) hE hK hM hl.1 (c_Mo_goes l G M ad u th q ho (zBo (cDist u x n1 w)) 1 1) (id ho) rfl kw_595 kw_597 ks_17 kw_4 kw_598 3 rfl rfl rfl (by decide +kernel) ⟨by decide, by decide⟩ rfl (Nat.le_of_ble_eq_true rfl) d_Mo_distance_34 ⟨by decide, by decide⟩) hS (fun r1 M1 H locs hp hM hS => ?_)
    have hgb := g_dist u x n1 y w
    obtain ⟨e_g, e_M⟩ := hp
    rw [hgb] at e_M e_g
    obtain ⟨Ma, eMa⟩ : ∃ zz9 : xM, zz9 = M1 := ⟨_, rfl⟩
    subst eMa
    have hog := xw_atE e_M
    have hAg := hA.up ho e_M
    refine lv_if_ne (tgt := 42) hx hb d_Mo_distance_37 (by decide) (fun c_37 => ?_) (fun c_37 => ?_)
    · have hc0 : (fDist u x n1 y w).1 = 0 := (nI_eq (b := 0) (by exact hlt) (by decide)).mp (zBo_ne.mp (fun h9 => c_37 (e_g.trans h9)))
      have hcd := g_cd hgb hc0
      have h_cd := zBo_ne.mp hcd.1
      obtain ⟨i, ei, hi, exi⟩ := z_in (h_cd.1) (by have := hO.2.2.1; omega)
      obtain ⟨j, ej, hj, exj⟩ := z_in (h_cd.2.1) (by have := hO.2.2.2.2.1; omega)
      refine lv_aload_n hx hb d_Mo_distance_42 rfl (lv_at hl 0 rfl) ?_
      refine lv_iload_n hx hb d_Mo_distance_43 rfl (lv_at hl 1 rfl) ?_
      refine lv_iload_n hx hb d_Mo_distance_44 rfl (lv_at hl 2 rfl) ?_
      refine lv_iload_n hx hb d_Mo_distance_45 rfl (lv_at hl 3 rfl) ?_
      refine lv_iconst (v := (-1)) hx hb d_Mo_distance_46 (by decide) ?_
      refine W.eq (g2 := F0 m 47 ls [.int (-1), .int y, .int (nI j), .int (nI i), .ref (ad 100)]) (by rw [exi, exj]) ?_
      refine x_cv (x_runV (As := [.int (nI i), .int (nI j), .int y, .int (-1)]) (rest := []) hE hK hM hl.1 (c_Mo_measure l G Ma ad u _ q hog X hAg hX hO i hi j hj y (-1)) hog rfl kw_659 kw_661 ks_25 kw_4 kw_662 4 rfl rfl rfl (by decide +kernel) ⟨by decide, by decide⟩ rfl (Nat.le_of_ble_eq_true rfl) d_Mo_distance_47 ⟨by decide, by decide⟩) hS (fun M1 H locs hp hM hS => ?_)
      rw [zMm_mea hO hi hj] at hp
      obtain ⟨Mb, eMb⟩ : ∃ zz9 : xM, zz9 = M1 := ⟨_, rfl⟩
      subst eMb
      have hob := xw_atE hp
      have e_Mb := hp
      rw [e_M, bx_uu] at e_Mb
      refine lv_iload hx hb d_Mo_distance_50 (lv_at hl 4 rfl) ?_
      refine lv_if_ne (tgt := 62) hx hb d_Mo_distance_52 (by decide) (fun c_52 => ?_) (fun c_52 => ?_)
      · refine lv_aload_n hx hb d_Mo_distance_62 rfl (lv_at hl 0 rfl) ?_
        refine x_get (C := R_Mo) (T := F_Mo) (N := 20) hx hb hw i_Mo hown hK.1 hM hob rfl 13 (by decide) (hw _ kw_536) rfl rfl d_Mo_distance_63 ?_
        exact x_ri hE rfl hM hS ⟨⟨_, e_Mb⟩, fun _ => by unfold fDist; rw [if_pos h_cd.1, if_pos h_cd.2.1, if_pos h_cd.2.2, ← ei, ← ej, if_neg c_52]⟩ (by decide) (by decide) d_Mo_distance_66
      · refine lv_aload_n hx hb d_Mo_distance_55 rfl (lv_at hl 0 rfl) ?_
        refine x_get (C := R_Mo) (T := F_Mo) (N := 20) hx hb hw i_Mo hown hK.1 hM hob rfl 12 (by decide) (hw _ kw_535) rfl rfl d_Mo_distance_56 ?_
        refine lv_goto (tgt := 66) hx hb d_Mo_distance_59 (by decide) ?_
        exact x_ri hE rfl hM hS ⟨⟨_, e_Mb⟩, fun _ => by unfold fDist; rw [if_pos h_cd.1, if_pos h_cd.2.1, if_pos h_cd.2.2, ← ei, ← ej, if_pos c_52]⟩ (by decide) (by decide) d_Mo_distance_66
    · have hc1 : ¬ (fDist u x n1 y w).1 = 0 := fun h9 => by rw [e_g, zBo_t (by rw [h9]; rfl)] at c_37; exact absurd c_37 (by decide)
      refine lv_iconst (v := 0) hx hb d_Mo_distance_40 (by decide) ?_
      exact x_ri hE rfl hM hS ⟨⟨_, e_M⟩, fun h9 => absurd h9 hc1⟩ (by decide) (by decide) d_Mo_distance_41
  · refine lv_aload_n hx hb d_Mo_distance_1 rfl (lv_at hl 0 rfl) ?_
    refine lv_iload_n hx hb d_Mo_distance_2 rfl (lv_at hl 1 rfl) ?_
    refine x_ci (x_runV (As := [.int x]) (rest := [.ref (ad 100)]) hE hK hM hl.1 (c_Mo_isSeries l G M ad u th q ho hO x) (id ho) rfl kw_607 kw_609 ks_18 kw_4 kw_610 1 rfl rfl rfl (by decide +kernel) ⟨by decide, by decide⟩ rfl (Nat.le_of_ble_eq_true rfl) d_Mo_distance_3 ⟨by decide, by decide⟩) hS (fun r1 M1 H locs hp hM hS => ?_)
    obtain ⟨e_i, e_M0⟩ := hp
    have hM : xh G M H := e_M0 ▸ hM
    subst e_i
    refine lv_if_eq (tgt := 31) hx hb d_Mo_distance_6 (by decide) (fun c_6 => ?_) (fun c_6 => ?_)
    · refine lv_iconst (v := 0) hx hb d_Mo_distance_31 (by decide) ?_
      exact hjn _ _ _ (zBo_f (fun h9 => zBo_ne.mpr h9.1 c_6)).symm hM hS
    · refine lv_aload_n hx hb d_Mo_distance_9 rfl (lv_at hl 0 rfl) ?_
      refine lv_iload_n hx hb d_Mo_distance_10 rfl (lv_at hl 2 rfl) ?_
      refine x_ci (x_runV (As := [.int n1]) (rest := [.ref (ad 100)]) hE hK hM hl.1 (c_Mo_isMaster l G M ad u th q ho hO n1) (id ho) rfl kw_627 kw_629 ks_20 kw_4 kw_630 1 rfl rfl rfl (by decide +kernel) ⟨by decide, by decide⟩ rfl (Nat.le_of_ble_eq_true rfl) d_Mo_distance_11 ⟨by decide, by decide⟩) hS (fun r2 M1 H locs hp hM hS => ?_)
      obtain ⟨e_i, e_M0⟩ := hp
      have hM : xh G M H := e_M0 ▸ hM
      subst e_i
      refine lv_if_eq (tgt := 31) hx hb d_Mo_distance_14 (by decide) (fun c_14 => ?_) (fun c_14 => ?_)
      · refine lv_iconst (v := 0) hx hb d_Mo_distance_31 (by decide) ?_
        exact hjn _ _ _ (zBo_f (fun h9 => zBo_ne.mpr h9.2.1 c_14)).symm hM hS
      · refine lv_iload hx hb d_Mo_distance_17 (lv_at hl 4 rfl) ?_
        refine lv_iconst (v := 0) hx hb d_Mo_distance_19 (by decide) ?_
        refine lv_iconst (v := 1) hx hb d_Mo_distance_20 (by decide) ?_
        refine x_ci (x_runS (As := [.int w, .int 0, .int 1]) (rest := [.ref (ad 100)]) hE hK hM hl.1 (c_Mo_within l G M w 0 1) kw_592 kw_593 kw_4 kw_594 3 rfl rfl rfl (by decide +kernel) ⟨by decide, by decide⟩ rfl (Nat.le_of_ble_eq_true rfl) d_Mo_distance_21 ⟨by decide, by decide⟩) hS (fun r3 M1 H locs hp hM hS => ?_)
        obtain ⟨e_w, e_M0⟩ := hp
        have hM : xh G M H := e_M0 ▸ hM
        subst e_w
        refine lv_if_eq (tgt := 31) hx hb d_Mo_distance_24 (by decide) (fun c_24 => ?_) (fun c_24 => ?_)
        · refine lv_iconst (v := 0) hx hb d_Mo_distance_31 (by decide) ?_
          exact hjn _ _ _ (zBo_f (fun h9 => zBo_ne.mpr h9.2.2 c_24)).symm hM hS
        · refine lv_iconst (v := 1) hx hb d_Mo_distance_27 (by decide) ?_
          refine lv_goto (tgt := 32) hx hb d_Mo_distance_28 (by decide) ?_
          exact hjn _ _ _ (zBo_t ⟨zBo_ne.mp c_6, zBo_ne.mp c_14, zBo_ne.mp c_24⟩).symm hM hS

set_option maxHeartbeats 4000000 in
set_option maxRecDepth 100000 in
theorem c_Mo_date (l : Launch) (G : xG) (M : xM) (ad : Nat → Nat) (u : zS) (th : Int32) (q : z5) (ho : M (ad 100) = some (100, eMo ad u th q)) (X : zX) (hA : MoA G M ad X) (hX : MoR u X) (hO : zOk u) (x n1 w : Int32) : Met l y_Mo_date w_Mo_date ({ frames := 4, cells := 0, slots := 0, locals := 160 }) (xP G [.ref (ad 100), .int x, .int n1, .int w] M) (xQi G (fun v M' => MoPost M ad u (fDate u x n1 w) v M')) 0 0 (xF G) := by
  refine x_met (by decide) (Nat.le_of_ble_eq_true rfl) ?_
  intro p e s m below meth c ls hE hin hl hM hK hS
  obtain ⟨hx, hb, hr, hml, hown, hw, hlocks⟩ := id hE
  have hlt : (fDate u x n1 w).1 < 2 ^ 31 := by
    unfold fDate
    repeat' split
    all_goals exact Nat.le_of_ble_eq_true rfl
  have hl : lv_has ls 4 [(0, .ref (ad 100)), (1, .int x), (2, .int n1), (3, .int w)] := hl
  refine lv_aload_n hx hb d_Mo_date_0 rfl (lv_at hl 0 rfl) ?_
  refine x_cutH (G := G) (M := M) (ls := ls) 22 [.ref (ad 100)] (fun v => v = zBo (zIn x (zrn u) ∧ zIn n1 (zmn u))) (fun o1 H locs h_o1 hM hS => ?_) (fun hjn => ?_)
  · subst h_o1
    refine lv_iload_n hx hb d_Mo_date_22 rfl (lv_at hl 3 rfl) ?_
    refine x_ci (x_runS (As := [.int w]) (rest := [.int (zBo (zIn x (zrn u) ∧ zIn n1 (zmn u))), .ref (ad 100)]) hE hK hM hl.1 (c_Mo_isLeast l G M w) kw_671 kw_672 kw_4 kw_673 1 rfl rfl rfl (by decide +kernel) ⟨by decide, by decide⟩ rfl (Nat.le_of_ble_eq_true rfl) d_Mo_date_23 ⟨by decide, by decide⟩) hS (fun r1 M1 H locs hp hM hS => ?_)
    obtain ⟨e_w, e_M0⟩ := hp
    have hM : xh G M H := e_M0 ▸ hM
    subst e_w
    refine lv_iconst (v := 1) hx hb d_Mo_date_26 (by decide) ?_
    refine x_ci (x_runV (As := [.int (zBo (zIn x (zrn u) ∧ zIn n1 (zmn u))), .int (zBo (zLe w)), .int 1]) (rest := []) hE hK hM hl.1 (c_Mo_goes l G M ad u th q ho (zBo (zIn x (zrn u) ∧ zIn n1 (zmn u))) (zBo (zLe w)) 1) (id ho) rfl kw_595 kw_597 ks_17 kw_4 kw_598 3 rfl rfl rfl (by decide +kernel) ⟨by decide, by decide⟩ rfl (Nat.le_of_ble_eq_true rfl) d_Mo_date_27 ⟨by decide, by decide⟩) hS (fun r2 M1 H locs hp hM hS => ?_)
    have hgb := g_date u x n1 w
    obtain ⟨e_g, e_M⟩ := hp
    rw [hgb] at e_M e_g
    obtain ⟨Ma, eMa⟩ : ∃ zz9 : xM, zz9 = M1 := ⟨_, rfl⟩
    subst eMa
    have hog := xw_atE e_M
    have hAg := hA.up ho e_M
    refine lv_if_ne (tgt := 35) hx hb d_Mo_date_30 (by decide) (fun c_30 => ?_) (fun c_30 => ?_)
    · have hc0 : (fDate u x n1 w).1 = 0 := (nI_eq (b := 0) (by exact hlt) (by decide)).mp (zBo_ne.mp (fun h9 => c_30 (e_g.trans h9)))
      have hcd := g_cd hgb hc0
      have h_cd := zBo_ne.mp hcd.1
      have h_le := zBo_ne.mp hcd.2.1
      obtain ⟨i, ei, hi, exi⟩ := z_in (h_cd.1) (by have := hO.2.2.1; omega)
      obtain ⟨j, ej, hj, exj⟩ := z_in (h_cd.2) (by have := hO.2.2.2.2.1; omega)
      refine lv_aload_n hx hb d_Mo_date_35 rfl (lv_at hl 0 rfl) ?_
      refine lv_iload_n hx hb d_Mo_date_36 rfl (lv_at hl 1 rfl) ?_
      refine lv_iload_n hx hb d_Mo_date_37 rfl (lv_at hl 2 rfl) ?_
      refine lv_iload_n hx hb d_Mo_date_38 rfl (lv_at hl 3 rfl) ?_
      refine W.eq (g2 := F0 m 39 ls [.int w, .int (nI j), .int (nI i), .ref (ad 100)]) (by rw [exi, exj]) ?_
      refine x_cv (x_runV (As := [.int (nI i), .int (nI j), .int w]) (rest := []) hE hK hM hl.1 (c_Mo_seek l G Ma ad u _ q hog X hAg hX hO i hi j hj w) hog rfl kw_674 kw_676 ks_26 kw_4 kw_677 3 rfl rfl rfl (by decide +kernel) ⟨by decide, by decide⟩ rfl (Nat.le_of_ble_eq_true rfl) d_Mo_date_39 ⟨by decide, by decide⟩) hS (fun M1 H locs hp hM hS => ?_)
      obtain ⟨q2, e_Mb, e_q⟩ := hp
      obtain ⟨Mb, eMb⟩ : ∃ zz9 : xM, zz9 = M1 := ⟨_, rfl⟩
      subst eMb
      have hob := xw_atE e_Mb
      rw [e_M, bx_uu] at e_Mb
      refine lv_aload_n hx hb d_Mo_date_42 rfl (lv_at hl 0 rfl) ?_
      refine x_get (C := R_Mo) (T := F_Mo) (N := 20) hx hb hw i_Mo hown hK.1 hM hob rfl 14 (by decide) (hw _ kw_537) rfl rfl d_Mo_date_43 ?_
      exact x_ri hE rfl hM hS ⟨⟨_, e_Mb⟩, fun _ => by unfold fDate; rw [if_pos h_cd.1, if_pos h_cd.2, if_pos h_le, ← ei, ← ej, e_q]; exact (zSk_dat hO hi hj h_le _ rfl).1⟩ (by decide) (by decide) d_Mo_date_46
    · have hc1 : ¬ (fDate u x n1 w).1 = 0 := fun h9 => by rw [e_g, zBo_t (by rw [h9]; rfl)] at c_30; exact absurd c_30 (by decide)
      refine lv_iconst (v := 0) hx hb d_Mo_date_33 (by decide) ?_
      exact x_ri hE rfl hM hS ⟨⟨_, e_M⟩, fun h9 => absurd h9 hc1⟩ (by decide) (by decide) d_Mo_date_34
  · refine lv_aload_n hx hb d_Mo_date_1 rfl (lv_at hl 0 rfl) ?_
    refine lv_iload_n hx hb d_Mo_date_2 rfl (lv_at hl 1 rfl) ?_
    refine x_ci (x_runV (As := [.int x]) (rest := [.ref (ad 100)]) hE hK hM hl.1 (c_Mo_isSeries l G M ad u th q ho hO x) (id ho) rfl kw_607 kw_609 ks_18 kw_4 kw_610 1 rfl rfl rfl (by decide +kernel) ⟨by decide, by decide⟩ rfl (Nat.le_of_ble_eq_true rfl) d_Mo_date_3 ⟨by decide, by decide⟩) hS (fun r1 M1 H locs hp hM hS => ?_)
    obtain ⟨e_i, e_M0⟩ := hp
    have hM : xh G M H := e_M0 ▸ hM
    subst e_i
    refine lv_if_eq (tgt := 21) hx hb d_Mo_date_6 (by decide) (fun c_6 => ?_) (fun c_6 => ?_)
    · refine lv_iconst (v := 0) hx hb d_Mo_date_21 (by decide) ?_
      exact hjn _ _ _ (zBo_f (fun h9 => zBo_ne.mpr h9.1 c_6)).symm hM hS
    · refine lv_aload_n hx hb d_Mo_date_9 rfl (lv_at hl 0 rfl) ?_
      refine lv_iload_n hx hb d_Mo_date_10 rfl (lv_at hl 2 rfl) ?_
      refine x_ci (x_runV (As := [.int n1]) (rest := [.ref (ad 100)]) hE hK hM hl.1 (c_Mo_isMaster l G M ad u th q ho hO n1) (id ho) rfl kw_627 kw_629 ks_20 kw_4 kw_630 1 rfl rfl rfl (by decide +kernel) ⟨by decide, by decide⟩ rfl (Nat.le_of_ble_eq_true rfl) d_Mo_date_11 ⟨by decide, by decide⟩) hS (fun r2 M1 H locs hp hM hS => ?_)
      obtain ⟨e_i, e_M0⟩ := hp
      have hM : xh G M H := e_M0 ▸ hM
      subst e_i
      refine lv_if_eq (tgt := 21) hx hb d_Mo_date_14 (by decide) (fun c_14 => ?_) (fun c_14 => ?_)
      · refine lv_iconst (v := 0) hx hb d_Mo_date_21 (by decide) ?_
        exact hjn _ _ _ (zBo_f (fun h9 => zBo_ne.mpr h9.2 c_14)).symm hM hS
      · refine lv_iconst (v := 1) hx hb d_Mo_date_17 (by decide) ?_
        refine lv_goto (tgt := 22) hx hb d_Mo_date_18 (by decide) ?_
        exact hjn _ _ _ (zBo_t ⟨zBo_ne.mp c_6, zBo_ne.mp c_14⟩).symm hM hS
