set_option maxHeartbeats 4000000 in
set_option maxRecDepth 100000 in
theorem c_Mo_evened (l : Launch) (G : xG) (M : xM) (ad : Nat → Nat) (u : zS) (th : Int32) (q : z5) (ho : M (ad 100) = some (100, eMo ad u th q)) (X : zX) (hA : MoA G M ad X) (hX : MoR u X) (hO : zOk u) (x k : Int32) : Met l y_Mo_evened w_Mo_evened ({ frames := 2, cells := 0, slots := 0, locals := 75 }) (xP G [.ref (ad 100), .int x, .int k] M) (xQi G (fun v M' => MoPost M ad u (fEvened u x k) v M')) 0 0 (xF G) := by
  refine x_met (by decide) (Nat.le_of_ble_eq_true rfl) ?_
  intro p e s m below meth c ls hE hin hl hM hK hS
  obtain ⟨hx, hb, hr, hml, hown, hw, hlocks⟩ := id hE
  have hlt : (fEvened u x k).1 < 2 ^ 31 := by unfold fEvened; repeat (first | decide | split)
  have hgb := g_evened u x k
  have h_ev : zIn x (zrn u) → ((¬ k < -1 ∧ ¬ nI (zln u x.toNatClampNeg) - 1 < k) ↔ (k = -1 ∨ zIn k (zln u x.toNatClampNeg))) := fun hx9 => by
    obtain ⟨i9, ei9, hi9, -⟩ := z_in hx9 (by have := hO.2.2.1; omega)
    rw [← ei9]
    have hl9 := (hO.2.2.2.1 i9 hi9)
    rw [← z_pred (n := zln u i9) (by omega)]
    constructor
    · intro ⟨h1, h2⟩
      by_cases h3 : k = -1
      · exact Or.inl h3
      · refine Or.inr ⟨fun h4 => ?_, h2⟩
        have h5 := z_le0.mp (Int32.not_lt.mp h1)
        have h6 := z_lt0.mp h4
        have e1 : (-1 : Int32).toInt = -1 := rfl
        have e0 : (0 : Int32).toInt = 0 := rfl
        exact h3 (Int32.toInt_inj.mp (show k.toInt = (-1 : Int32).toInt by omega))
    · rintro (h | ⟨h1, h2⟩)
      · rw [h]
        refine ⟨by decide, fun h4 => ?_⟩
        have h5 : nI (zln u i9) - 1 = nI (zln u i9 - 1) := by
          rw [show zln u i9 = (zln u i9 - 1) + 1 by omega, nI_pred]; congr 1
        rw [h5] at h4
        have h6 := z_lt0.mp h4
        rw [nI_toInt (by omega)] at h6
        have e1 : (-1 : Int32).toInt = -1 := rfl
        omega
      · exact ⟨fun h4 => h1 (Int32.lt_trans h4 (by decide)), h2⟩
  have hl : lv_has ls 4 [(0, .ref (ad 100)), (1, .int x), (2, .int k)] := hl
  refine lv_aload_n hx hb d_Mo_evened_0 rfl (lv_at hl 0 rfl) ?_
  refine lv_iload_n hx hb d_Mo_evened_1 rfl (lv_at hl 1 rfl) ?_
  refine x_ci (x_runV (As := [.int x]) (rest := []) hE hK hM hl.1 (c_Mo_isSeries l G M ad u th q ho hO x) (id ho) rfl kw_607 kw_609 ks_18 kw_4 kw_610 1 rfl rfl rfl (by decide +kernel) ⟨by decide, by decide⟩ rfl (Nat.le_of_ble_eq_true rfl) d_Mo_evened_2 ⟨by decide, by decide⟩) hS (fun r1 M1 H locs hp hM hS => ?_)
  obtain ⟨e_i, e_M0⟩ := hp
  have hM : xh G M H := e_M0 ▸ hM
  subst e_i
  refine lv_istore_n (lv' := [(3, .int (zBo (zIn x (zrn u)))), (0, .ref (ad 100)), (1, .int x), (2, .int k)]) hx hb d_Mo_evened_5 rfl hl (by decide) rfl (fun ls hl => ?_)
  refine lv_aload_n hx hb d_Mo_evened_6 rfl (lv_at hl 1 rfl) ?_
  refine x_cut (ls := ls) 40 [.ref (ad 100)] (fun v => v = zBo (cEvened u x k)) (fun o1 h_o1 => ?_) (fun hj => ?_)
  · subst h_o1
    refine lv_iconst (v := 1) hx hb d_Mo_evened_40 (by decide) ?_
    refine lv_iconst (v := 1) hx hb d_Mo_evened_41 (by decide) ?_
    refine x_ci (x_runV (As := [.int (zBo (cEvened u x k)), .int 1, .int 1]) (rest := []) hE hK hM hl.1 (c_Mo_goes l G M ad u th q ho (zBo (cEvened u x k)) 1 1) (id ho) rfl kw_595 kw_597 ks_17 kw_4 kw_598 3 rfl rfl rfl (by decide +kernel) ⟨by decide, by decide⟩ rfl (Nat.le_of_ble_eq_true rfl) d_Mo_evened_42 ⟨by decide, by decide⟩) hS (fun r2 M1 H locs hp hM hS => ?_)
    obtain ⟨e_g, e_M⟩ := hp
    rw [g_evened] at e_M e_g
    obtain ⟨Ma, eMa⟩ : ∃ zz9 : xM, zz9 = M1 := ⟨_, rfl⟩
    subst eMa
    have hog := xw_atE e_M
    have hAg := hA.up ho e_M
    refine lv_if_ne (tgt := 50) hx hb d_Mo_evened_45 (by decide) (fun c_45 => ?_) (fun c_45 => ?_)
    · have hc0 : (fEvened u x k).1 = 0 := (nI_eq (b := 0) (by exact hlt) (by decide)).mp (zBo_ne.mp (fun h9 => c_45 (e_g.trans h9)))
      have h_cd : cEvened u x k := by have h9 := hgb; rw [hc0] at h9; exact zBo_ne.mp (zGo_0.mp h9).1
      obtain ⟨i, ei, hi, exi⟩ := z_in h_cd.1 (by have := hO.2.2.1; omega)
      refine lv_iload_n hx hb d_Mo_evened_50 rfl (lv_at hl 3 rfl) ?_
      refine lv_iconst (v := (-1)) hx hb d_Mo_evened_51 (by decide) ?_
      refine lv_icmp_ne (tgt := 64) hx hb d_Mo_evened_52 (by decide) (fun c_52 => ?_) (fun c_52 => ?_)
      · refine lv_aload_n hx hb d_Mo_evened_64 rfl (lv_at hl 1 rfl) ?_
        refine lv_iload_n hx hb d_Mo_evened_65 rfl (lv_at hl 2 rfl) ?_
        refine lv_iload_n hx hb d_Mo_evened_66 rfl (lv_at hl 3 rfl) ?_
        have hk9 : zIn k (zln u i) := by have h9 := h_cd.2.resolve_left c_52; rw [← ei] at h9; exact h9
        obtain ⟨kk, ek, hk, exk⟩ := z_in hk9 (by have := (hO.2.2.2.1 i hi).2.1; omega)
        rw [exi, exk]
        refine x_ci (x_runV (As := [.int (nI i), .int (nI kk)]) (rest := []) hE hK hM hl.1 (c_Mo_even l G Ma ad u _ q hog X hAg hX hO i hi kk hk) hog rfl kw_611 kw_613 ks_19 kw_4 kw_614 2 rfl rfl rfl (by decide +kernel) ⟨by decide, by decide⟩ rfl (Nat.le_of_ble_eq_true rfl) d_Mo_evened_67 ⟨by decide, by decide⟩) hS (fun r3 M1 H locs hp hM hS => ?_)
        obtain ⟨e_v, e_M2⟩ := hp
        have hM : xh G Ma H := e_M2 ▸ hM
        exact x_ri hE rfl hM hS ⟨⟨_, e_M⟩, fun _ => by unfold fEvened; rw [if_pos h_cd.1, if_neg c_52, if_pos (by rw [← ei]; exact hk9), e_v, ← ei, ← ek]⟩ (by decide) (by decide) d_Mo_evened_70
      · refine lv_aload_n hx hb d_Mo_evened_55 rfl (lv_at hl 1 rfl) ?_
        refine x_get (C := R_Mo) (T := F_Mo) (N := 20) hx hb hw i_Mo hown hK.1 hM hog rfl 4 (by decide) (hw _ kw_527) rfl rfl d_Mo_evened_56 ?_
        refine lv_iload_n hx hb d_Mo_evened_59 rfl (lv_at hl 2 rfl) ?_
        refine x_iald hx hb hK.1 hM hAg.2.1 0 rfl exi (by have := hO.2.2.1; omega) (by decide) d_Mo_evened_60 ?_
        refine lv_goto (tgt := 70) hx hb d_Mo_evened_61 (by decide) ?_
        exact x_ri hE rfl hM hS ⟨⟨_, e_M⟩, fun _ => by unfold fEvened; rw [if_pos h_cd.1, if_pos c_52]; rw [← ei]; exact (hX.2.1 i hi).1⟩ (by decide) (by decide) d_Mo_evened_70
    · have hc1 : ¬ (fEvened u x k).1 = 0 := fun h9 => by rw [e_g, zBo_t (by rw [h9]; rfl)] at c_45; exact absurd c_45 (by decide)
      refine lv_iconst (v := 0) hx hb d_Mo_evened_48 (by decide) ?_
      exact x_ri hE rfl hM hS ⟨⟨_, e_M⟩, fun h9 => absurd h9 hc1⟩ (by decide) (by decide) d_Mo_evened_49
  · refine lv_iload_n hx hb d_Mo_evened_7 rfl (lv_at hl 0 rfl) ?_
    refine lv_if_eq (tgt := 39) hx hb d_Mo_evened_8 (by decide) (fun c_8 => ?_) (fun c_8 => ?_)
    · refine lv_iconst (v := 0) hx hb d_Mo_evened_39 (by decide) ?_
      exact hj _ (zBo_f (fun h9 => zBo_ne.mpr h9.1 c_8)).symm
    · refine lv_iload_n hx hb d_Mo_evened_11 rfl (lv_at hl 3 rfl) ?_
      refine lv_iconst (v := (-1)) hx hb d_Mo_evened_12 (by decide) ?_
      refine lv_iload_n hx hb d_Mo_evened_13 rfl (lv_at hl 0 rfl) ?_
      refine lv_if_eq (tgt := 28) hx hb d_Mo_evened_14 (by decide) (fun c_14 => ?_) (fun c_14 => ?_)
      · exact absurd c_14 c_8
      · obtain ⟨i, ei, hi, exi⟩ := z_in (zBo_ne.mp c_14) (by have := hO.2.2.1; omega)
        refine lv_aload_n hx hb d_Mo_evened_17 rfl (lv_at hl 1 rfl) ?_
        refine x_get (C := R_Mo) (T := F_Mo) (N := 20) hx hb hw i_Mo hown hK.1 hM (id ho) rfl 4 (by decide) (hw _ kw_527) rfl rfl d_Mo_evened_18 ?_
        refine lv_iload_n hx hb d_Mo_evened_21 rfl (lv_at hl 2 rfl) ?_
        refine x_iald hx hb hK.1 hM hA.2.1 0 rfl exi (by have := hO.2.2.1; omega) (by decide) d_Mo_evened_22 ?_
        refine lv_topi (fun tv etv => ?_)
        have etv : tv = nI (zln u x.toNatClampNeg) := by rw [etv]; rw [← ei]; exact (hX.2.1 i hi).1
        subst etv
        refine lv_iconst (v := 1) hx hb d_Mo_evened_23 (by decide) ?_
        refine lv_isub hx hb d_Mo_evened_24 ?_
        refine lv_goto (tgt := 29) hx hb d_Mo_evened_25 (by decide) ?_
        refine x_ci (x_runS (As := [.int k, .int (-1), .int ((nI (zln u x.toNatClampNeg)) - 1)]) (rest := [.ref (ad 100)]) hE hK hM hl.1 (c_Mo_within l G M k (-1) (nI (zln u x.toNatClampNeg) - 1)) kw_592 kw_593 kw_4 kw_594 3 rfl rfl rfl (by decide +kernel) ⟨by decide, by decide⟩ rfl (Nat.le_of_ble_eq_true rfl) d_Mo_evened_29 ⟨by decide, by decide⟩) hS (fun r2 M1 H locs hp hM hS => ?_)
        obtain ⟨e_w, e_M0⟩ := hp
        have hM : xh G M H := e_M0 ▸ hM
        subst e_w
        refine lv_if_eq (tgt := 39) hx hb d_Mo_evened_32 (by decide) (fun c_32 => ?_) (fun c_32 => ?_)
        · refine lv_iconst (v := 0) hx hb d_Mo_evened_39 (by decide) ?_
          exact hj _ (zBo_f (fun h9 => zBo_ne.mpr ((h_ev (zBo_ne.mp c_8)).mpr h9.2) c_32)).symm
        · refine lv_iconst (v := 1) hx hb d_Mo_evened_35 (by decide) ?_
          refine lv_goto (tgt := 40) hx hb d_Mo_evened_36 (by decide) ?_
          exact hj _ (zBo_t ⟨zBo_ne.mp c_8, (h_ev (zBo_ne.mp c_8)).mp (zBo_ne.mp c_32)⟩).symm
