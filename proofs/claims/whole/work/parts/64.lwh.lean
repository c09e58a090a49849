set_option maxHeartbeats 4000000 in
set_option maxRecDepth 100000 in
theorem c_L_ring (l : Launch) (G : xG) (M : xM) (hst : l.stackTraces = false) (ad : Nat → Nat) (u : zS) (hC : Core G M ad u) (hO : zOk u) (hs : Scr G M ad) (og : Nat) (fo : Nat → Int64) (hg : M og = some (200, eL G fo)) (w : Int32) : Met l y_L_ring w_L_ring ({ frames := 8, cells := 1, slots := 6, locals := 170 }) (xP G [.ref (ad 0), .int w, .ref og] M) (xQi G (fun k9 M' => ((fRing u w).1 = 0 → LPo G M ad og (uRing u w) (fRing u w) k9 M') ∧ (¬ (fRing u w).1 = 0 → LPo G M ad og u (fRing u w) k9 M'))) 1 6 (xF G) := by
  refine x_metH (by decide) (Nat.le_of_ble_eq_true rfl) ?_
  intro p e s m below meth c ls hE htab hl hM hK hS
  obtain ⟨hx, hb, hr, hml, hown, hw, hlocks⟩ := id hE
  have hl : lv_has ls 4 [(0, .ref (ad 0)), (1, .int w), (2, .ref og)] := hl
  refine lv_aload_n hx hb d_L_ring_0 rfl (lv_at hl 2 rfl) ?_
  refine lv_iconst (v := 0) hx hb d_L_ring_1 (by decide) ?_
  refine lv_aload_n hx hb d_L_ring_2 rfl (lv_at hl 0 rfl) ?_
  refine lv_iload_n hx hb d_L_ring_3 rfl (lv_at hl 1 rfl) ?_
  refine x_cxi (x_runVX (As := [.int w]) (rest := [.int 0, .ref og]) hE hK hM hl.1 (c_Rm_ring l G M hst ad u hC hO hs w) hC.1 rfl kw_107 kw_108 kw_109 kw_1 kw_110 1 rfl rfl rfl (by decide +kernel) ⟨by decide, by decide⟩ rfl (Nat.le_of_ble_eq_true rfl) d_L_ring_4 ⟨by decide, by decide⟩) hS (fun E ce q9 M1 H locs hp hM hS hq1 hq2 hq3 => ?_) (fun r1 M1 H locs hp hM hS => ?_)
  · obtain ⟨hp, e_M⟩ := hp
    rcases hp with ⟨h_f, rfl⟩ | ⟨h_f, rfl⟩
    · have hM : xh G M H := e_M ▸ hM
      refine vx_catch hown [] ⟨0, 9, 12, 13⟩ [⟨0, 9, 15, 15⟩] (htab.trans rfl) (fun z hz => by cases hz) (by decide) (by decide) (hw _ kw_105) (va_Nw.use rfl (hK.2.2.1.1 nISE (by simp))) hq1 hq2 hq3 ?_
      refine W.eq (g2 := F0 m 12 ls [.ref q9]) rfl ?_
      refine lv_astore_n (lv' := [(3, .ref q9), (0, .ref (ad 0)), (1, .int w), (2, .ref og)]) hx hb d_L_ring_12 rfl hl (by decide) rfl (fun ls hl => ?_)
      refine lv_iconst (v := 1) hx hb d_L_ring_13 (by decide) ?_
      exact x_ri hE rfl hM hS ⟨fun h9 => absurd h9 (by rw [h_f]; decide), fun _ => (LPo.thr hC hs hg h_f rfl (by decide))⟩ (by decide) (by decide) d_L_ring_14
    · have hM : xh G M H := e_M ▸ hM
      refine vx_catch hown [⟨0, 9, 12, 13⟩] ⟨0, 9, 15, 15⟩ [] (htab.trans rfl) (fun z hz => by
        rcases List.mem_cons.mp hz with rfl | hz
        · exact Or.inr ⟨by decide, _, hw _ kw_105, hK.2.2.2.2.2.2 (nIAE, nISE) (by simp)⟩
        · cases hz) (by decide) (by decide) (hw _ kw_106) (va_Nw.use rfl (hK.2.2.1.1 nIAE (by simp))) hq1 hq2 hq3 ?_
      refine W.eq (g2 := F0 m 15 ls [.ref q9]) rfl ?_
      refine lv_astore_n (lv' := [(3, .ref q9), (0, .ref (ad 0)), (1, .int w), (2, .ref og)]) hx hb d_L_ring_15 rfl hl (by decide) rfl (fun ls hl => ?_)
      refine lv_iconst (v := 2) hx hb d_L_ring_16 (by decide) ?_
      exact x_ri hE rfl hM hS ⟨fun h9 => absurd h9 (by rw [h_f]; decide), fun _ => (LPo.thr hC hs hg h_f rfl (by decide))⟩ (by decide) (by decide) d_L_ring_17
  obtain ⟨h_f, hC1, hs1, hk1⟩ := hp
  have hg1 := hk1 _ _ _ hg (by omega)
  have hgx := hg1
  have h_pw : zpn u < 30 ∧ ¬ (w < 1 ∨ 900 < w) := by
    have h9 := h_f
    unfold fRing at h9
    by_cases h1 : 30 ≤ zpn u
    · rw [if_pos h1] at h9; cases h9
    · rw [if_neg h1] at h9
      by_cases h2 : w < 1 ∨ 900 < w
      · rw [if_pos h2] at h9; cases h9
      · exact ⟨by omega, h2⟩
  refine lv_i2l (v := r1.toInt64) hx hb d_L_ring_7 rfl ?_
  refine x_last hx hb hK.1 hM hS hg1 1 rfl (show (0 : Int32) = nI 0 from rfl) (by decide) (by decide) d_L_ring_8 (fun H locs hM hS hz => ?_)
  have hM : xh G (va_up M1 og (some (200, .inl (gJ G, 1, .inr (.inl (vp_updL fo 0 (r1.toInt64))))))) H := hM
  obtain ⟨M1_1, eM1_1⟩ : ∃ z : xM, z = va_up M1 og (some (200, .inl (gJ G, 1, .inr (.inl (vp_updL fo 0 (r1.toInt64)))))) := ⟨_, rfl⟩
  rw [← eM1_1] at hM
  have hg1 := xw_atE eM1_1
  refine lv_goto (tgt := 18) hx hb d_L_ring_9 (by decide) ?_
  refine lv_iconst (v := 0) hx hb d_L_ring_18 (by decide) ?_
  exact x_ri hE rfl hM hS ⟨fun _ => (LPo.ok h_f rfl rfl hC1 (hO.ring h_pw.1 h_pw.2) hs1 hk1 hgx eM1_1), fun h9 => absurd (by rw [h_f]) h9⟩ (by decide) (by decide) d_L_ring_19

set_option maxHeartbeats 4000000 in
set_option maxRecDepth 100000 in
theorem c_L_series (l : Launch) (G : xG) (M : xM) (hst : l.stackTraces = false) (ad : Nat → Nat) (u : zS) (hC : Core G M ad u) (hO : zOk u) (hs : Scr G M ad) (og : Nat) (fo : Nat → Int64) (hg : M og = some (200, eL G fo)) : Met l y_L_series w_L_series ({ frames := 8, cells := 3, slots := 40, locals := 170 }) (xP G [.ref (ad 0), .ref og] M) (xQi G (fun k9 M' => ((fSer u).1 = 0 → zpn u < 3 → LPo G M ad og u (fSer u) k9 M') ∧ ((fSer u).1 = 0 → 3 ≤ zpn u → ∃ F : Nat → Int32, (∀ k, k < zpn u → F k = zEvn (zpd u) (zpn u) k) ∧ LPo G M ad og (uSer u F) (fSer u) k9 M') ∧ (¬ (fSer u).1 = 0 → LPo G M ad og u (fSer u) k9 M'))) 3 40 (xF G) := by
  refine x_metH (by decide) (Nat.le_of_ble_eq_true rfl) ?_
  intro p e s m below meth c ls hE htab hl hM hK hS
  obtain ⟨hx, hb, hr, hml, hown, hw, hlocks⟩ := id hE
  have hl : lv_has ls 3 [(0, .ref (ad 0)), (1, .ref og)] := hl
  refine lv_aload_n hx hb d_L_series_0 rfl (lv_at hl 1 rfl) ?_
  refine lv_iconst (v := 0) hx hb d_L_series_1 (by decide) ?_
  refine lv_aload_n hx hb d_L_series_2 rfl (lv_at hl 0 rfl) ?_
  refine x_cxi (x_runVX (As := []) (rest := [.int 0, .ref og]) hE hK hM hl.1 (c_Rm_series l G M hst ad u hC hO hs) hC.1 rfl kw_198 kw_199 kw_200 kw_1 kw_201 0 rfl rfl rfl (by decide +kernel) ⟨by decide, by decide⟩ rfl (Nat.le_of_ble_eq_true rfl) d_L_series_3 ⟨by decide, by decide⟩) hS (fun E ce q9 M1 H locs hp hM hS hq1 hq2 hq3 => ?_) (fun r1 M1 H locs hp hM hS => ?_)
  · obtain ⟨h_f, rfl, e_M⟩ := hp
    have hM : xh G M H := e_M ▸ hM
    refine vx_catch hown [] ⟨0, 8, 11, 13⟩ [] (htab.trans rfl) (fun z hz => by cases hz) (by decide) (by decide) (hw _ kw_105) (va_Nw.use rfl (hK.2.2.1.1 nISE (by simp))) hq1 hq2 hq3 ?_
    refine W.eq (g2 := F0 m 11 ls [.ref q9]) rfl ?_
    refine lv_astore_n (lv' := [(2, .ref q9), (0, .ref (ad 0)), (1, .ref og)]) hx hb d_L_series_11 rfl hl (by decide) rfl (fun ls hl => ?_)
    refine lv_iconst (v := 1) hx hb d_L_series_12 (by decide) ?_
    exact x_ri hE rfl hM hS ⟨fun h9 => absurd h9 (by rw [h_f]; decide), fun h9 => absurd h9 (by rw [h_f]; decide), fun _ => (LPo.thr hC hs hg h_f rfl (by decide))⟩ (by decide) (by decide) d_L_series_13
  have h_r10 : (fSer u).1 = 0 → zrn u < 10 := fun h9 => by
    unfold fSer at h9
    by_cases h1 : 10 ≤ zrn u
    · rw [if_pos h1] at h9; cases h9
    · omega
  obtain ⟨h_f, ⟨-, h_c, e_M⟩ | ⟨h_c, F, ad2, hF, hC1, hs1, hk1, hd⟩⟩ := hp
  · have hM : xh G M H := e_M ▸ hM
    have hg1 := hg
    refine lv_i2l (v := r1.toInt64) hx hb d_L_series_6 rfl ?_
    refine x_last hx hb hK.1 hM hS hg1 1 rfl (show (0 : Int32) = nI 0 from rfl) (by decide) (by decide) d_L_series_7 (fun H locs hM hS hz => ?_)
    have hM : xh G (va_up M og (some (200, .inl (gJ G, 1, .inr (.inl (vp_updL fo 0 (r1.toInt64))))))) H := hM
    obtain ⟨M_1, eM_1⟩ : ∃ z : xM, z = va_up M og (some (200, .inl (gJ G, 1, .inr (.inl (vp_updL fo 0 (r1.toInt64)))))) := ⟨_, rfl⟩
    rw [← eM_1] at hM
    have hg1 := xw_atE eM_1
    refine lv_goto (tgt := 14) hx hb d_L_series_8 (by decide) ?_
    refine lv_iconst (v := 0) hx hb d_L_series_14 (by decide) ?_
    exact x_ri hE rfl hM hS ⟨fun _ _ => (LPo.ok h_f rfl rfl hC hO hs xK100.refl hg eM_1), fun _ h9 => absurd h9 (by omega), fun h9 => absurd (by rw [h_f]) h9⟩ (by decide) (by decide) d_L_series_15
  have hg1 := hk1 _ _ _ hg (by omega)
  have hgx := hg1
  refine lv_i2l (v := r1.toInt64) hx hb d_L_series_6 rfl ?_
  refine x_last hx hb hK.1 hM hS hg1 1 rfl (show (0 : Int32) = nI 0 from rfl) (by decide) (by decide) d_L_series_7 (fun H locs hM hS hz => ?_)
  have hM : xh G (va_up M1 og (some (200, .inl (gJ G, 1, .inr (.inl (vp_updL fo 0 (r1.toInt64))))))) H := hM
  obtain ⟨M1_1, eM1_1⟩ : ∃ z : xM, z = va_up M1 og (some (200, .inl (gJ G, 1, .inr (.inl (vp_updL fo 0 (r1.toInt64)))))) := ⟨_, rfl⟩
  rw [← eM1_1] at hM
  have hg1 := xw_atE eM1_1
  refine lv_goto (tgt := 14) hx hb d_L_series_8 (by decide) ?_
  refine lv_iconst (v := 0) hx hb d_L_series_14 (by decide) ?_
  exact x_ri hE rfl hM hS ⟨fun _ h9 => absurd h9 (by omega), fun _ _ => ⟨F, hF, (LPo.ok h_f rfl (hd 0 (by omega)) hC1 (hO.ser (h_r10 (by rw [h_f])) h_c hF) hs1 hk1 hgx eM1_1)⟩, fun h9 => absurd (by rw [h_f]) h9⟩ (by decide) (by decide) d_L_series_15

set_option maxHeartbeats 4000000 in
set_option maxRecDepth 100000 in
theorem c_L_evened (l : Launch) (G : xG) (M : xM) (hst : l.stackTraces = false) (ad : Nat → Nat) (u : zS) (hC : Core G M ad u) (hO : zOk u) (hs : Scr G M ad) (og : Nat) (fo : Nat → Int64) (hg : M og = some (200, eL G fo)) (x k : Int32) : Met l y_L_evened w_L_evened ({ frames := 8, cells := 2, slots := 12, locals := 170 }) (xP G [.ref (ad 0), .int x, .int k, .ref og] M) (xQi G (fun k9 M' => LPo G M ad og u (fEvened u x k) k9 M')) 2 12 (xF G) := by
  refine x_metH (by decide) (Nat.le_of_ble_eq_true rfl) ?_
  intro p e s m below meth c ls hE htab hl hM hK hS
  obtain ⟨hx, hb, hr, hml, hown, hw, hlocks⟩ := id hE
  have hl : lv_has ls 5 [(0, .ref (ad 0)), (1, .int x), (2, .int k), (3, .ref og)] := hl
  refine lv_aload_n hx hb d_L_evened_0 rfl (lv_at hl 3 rfl) ?_
  refine lv_iconst (v := 0) hx hb d_L_evened_1 (by decide) ?_
  refine lv_aload_n hx hb d_L_evened_2 rfl (lv_at hl 0 rfl) ?_
  refine lv_iload_n hx hb d_L_evened_3 rfl (lv_at hl 1 rfl) ?_
  refine lv_iload_n hx hb d_L_evened_4 rfl (lv_at hl 2 rfl) ?_
  refine x_cxi (x_runVX (As := [.int x, .int k]) (rest := [.int 0, .ref og]) hE hK hM hl.1 (c_Rm_evened l G M hst ad u hC hO x k) hC.1 rfl kw_228 kw_229 kw_230 kw_1 kw_231 2 rfl rfl rfl (by decide +kernel) ⟨by decide, by decide⟩ rfl (Nat.le_of_ble_eq_true rfl) d_L_evened_5 ⟨by decide, by decide⟩) hS (fun E ce q9 M1 H locs hp hM hS hq1 hq2 hq3 => ?_) (fun r1 M1 H locs hp hM hS => ?_)
  · obtain ⟨h_f, rfl, e_M⟩ := hp
    have hM : xh G M H := e_M ▸ hM
    refine vx_catch hown [] ⟨0, 10, 13, 25⟩ [] (htab.trans rfl) (fun z hz => by cases hz) (by decide) (by decide) (hw _ kw_227) (va_Nw.use rfl (hK.2.2.1.1 nIOE (by simp))) hq1 hq2 hq3 ?_
    refine W.eq (g2 := F0 m 13 ls [.ref q9]) rfl ?_
    refine lv_astore (lv' := [(4, .ref q9), (0, .ref (ad 0)), (1, .int x), (2, .int k), (3, .ref og)]) hx hb d_L_evened_13 hl (by decide) rfl (fun ls hl => ?_)
    refine lv_iconst (v := 1) hx hb d_L_evened_15 (by decide) ?_
    exact x_ri hE rfl hM hS (LPo.thr hC hs hg h_f rfl (by decide)) (by decide) (by decide) d_L_evened_16
  obtain ⟨h_f, e_M⟩ := hp
  have hM : xh G M H := e_M ▸ hM
  have hg1 := hg
  refine lv_i2l (v := r1.toInt64) hx hb d_L_evened_8 rfl ?_
  refine x_last hx hb hK.1 hM hS hg1 1 rfl (show (0 : Int32) = nI 0 from rfl) (by decide) (by decide) d_L_evened_9 (fun H locs hM hS hz => ?_)
  have hM : xh G (va_up M og (some (200, .inl (gJ G, 1, .inr (.inl (vp_updL fo 0 (r1.toInt64))))))) H := hM
  obtain ⟨M_1, eM_1⟩ : ∃ z : xM, z = va_up M og (some (200, .inl (gJ G, 1, .inr (.inl (vp_updL fo 0 (r1.toInt64)))))) := ⟨_, rfl⟩
  rw [← eM_1] at hM
  have hg1 := xw_atE eM_1
  refine lv_goto (tgt := 17) hx hb d_L_evened_10 (by decide) ?_
  refine lv_iconst (v := 0) hx hb d_L_evened_17 (by decide) ?_
  exact x_ri hE rfl hM hS (LPo.ok h_f rfl rfl hC hO hs xK100.refl hg eM_1) (by decide) (by decide) d_L_evened_18

set_option maxHeartbeats 4000000 in
set_option maxRecDepth 100000 in
theorem c_L_place (l : Launch) (G : xG) (M : xM) (hst : l.stackTraces = false) (ad : Nat → Nat) (u : zS) (hC : Core G M ad u) (hO : zOk u) (hs : Scr G M ad) (og : Nat) (fo : Nat → Int64) (hg : M og = some (200, eL G fo)) (x y : Int32) : Met l y_L_place w_L_place ({ frames := 8, cells := 2, slots := 12, locals := 170 }) (xP G [.ref (ad 0), .int x, .int y, .ref og] M) (xQi G (fun k9 M' => ((fPlace u x y).1 = 0 → LPo G M ad og (uPlace u x y) (fPlace u x y) k9 M') ∧ (¬ (fPlace u x y).1 = 0 → LPo G M ad og u (fPlace u x y) k9 M'))) 2 12 (xF G) := by
  refine x_metH (by decide) (Nat.le_of_ble_eq_true rfl) ?_
  intro p e s m below meth c ls hE htab hl hM hK hS
  obtain ⟨hx, hb, hr, hml, hown, hw, hlocks⟩ := id hE
  have hl : lv_has ls 5 [(0, .ref (ad 0)), (1, .int x), (2, .int y), (3, .ref og)] := hl
  refine lv_aload_n hx hb d_L_place_0 rfl (lv_at hl 3 rfl) ?_
  refine lv_iconst (v := 0) hx hb d_L_place_1 (by decide) ?_
  refine lv_aload_n hx hb d_L_place_2 rfl (lv_at hl 0 rfl) ?_
  refine lv_iload_n hx hb d_L_place_3 rfl (lv_at hl 1 rfl) ?_
  refine lv_iload_n hx hb d_L_place_4 rfl (lv_at hl 2 rfl) ?_
  refine x_cxi (x_runVX (As := [.int x, .int y]) (rest := [.int 0, .ref og]) hE hK hM hl.1 (c_Rm_place l G M hst ad u hC hO hs x y) hC.1 rfl kw_256 kw_257 kw_258 kw_1 kw_259 2 rfl rfl rfl (by decide +kernel) ⟨by decide, by decide⟩ rfl (Nat.le_of_ble_eq_true rfl) d_L_place_5 ⟨by decide, by decide⟩) hS (fun E ce q9 M1 H locs hp hM hS hq1 hq2 hq3 => ?_) (fun r1 M1 H locs hp hM hS => ?_)
  · obtain ⟨hp, e_M⟩ := hp
    rcases hp with ⟨h_f, rfl⟩ | ⟨h_f, rfl⟩
    · have hM : xh G M H := e_M ▸ hM
      refine vx_catch hown [] ⟨0, 10, 13, 25⟩ [⟨0, 10, 17, 15⟩] (htab.trans rfl) (fun z hz => by cases hz) (by decide) (by decide) (hw _ kw_227) (va_Nw.use rfl (hK.2.2.1.1 nIOE (by simp))) hq1 hq2 hq3 ?_
      refine W.eq (g2 := F0 m 13 ls [.ref q9]) rfl ?_
      refine lv_astore (lv' := [(4, .ref q9), (0, .ref (ad 0)), (1, .int x), (2, .int y), (3, .ref og)]) hx hb d_L_place_13 hl (by decide) rfl (fun ls hl => ?_)
      refine lv_iconst (v := 1) hx hb d_L_place_15 (by decide) ?_
      exact x_ri hE rfl hM hS ⟨fun h9 => absurd h9 (by rw [h_f]; decide), fun _ => (LPo.thr hC hs hg h_f rfl (by decide))⟩ (by decide) (by decide) d_L_place_16
    · have hM : xh G M H := e_M ▸ hM
      refine vx_catch hown [⟨0, 10, 13, 25⟩] ⟨0, 10, 17, 15⟩ [] (htab.trans rfl) (fun z hz => by
        rcases List.mem_cons.mp hz with rfl | hz
        · exact Or.inr ⟨by decide, _, hw _ kw_227, hK.2.2.2.2.2.2 (nIAE, nIOE) (by simp)⟩
        · cases hz) (by decide) (by decide) (hw _ kw_106) (va_Nw.use rfl (hK.2.2.1.1 nIAE (by simp))) hq1 hq2 hq3 ?_
      refine W.eq (g2 := F0 m 17 ls [.ref q9]) rfl ?_
      refine lv_astore (lv' := [(4, .ref q9), (0, .ref (ad 0)), (1, .int x), (2, .int y), (3, .ref og)]) hx hb d_L_place_17 hl (by decide) rfl (fun ls hl => ?_)
      refine lv_iconst (v := 2) hx hb d_L_place_19 (by decide) ?_
      exact x_ri hE rfl hM hS ⟨fun h9 => absurd h9 (by rw [h_f]; decide), fun _ => (LPo.thr hC hs hg h_f rfl (by decide))⟩ (by decide) (by decide) d_L_place_20
  obtain ⟨h_f, hC1, hs1, hk1⟩ := hp
  have hg1 := hk1 _ _ _ hg (by omega)
  have hgx := hg1
  have h_pw : ¬ (y < -1 ∨ 500 < y) := by
    have h9 := h_f
    unfold fPlace at h9
    by_cases h1 : zIn x (zrn u)
    · rw [if_pos h1] at h9
      by_cases h2 : y < -1 ∨ 500 < y
      · rw [if_pos h2] at h9; cases h9
      · exact h2
    · rw [if_neg h1] at h9; cases h9
  refine lv_i2l (v := r1.toInt64) hx hb d_L_place_8 rfl ?_
  refine x_last hx hb hK.1 hM hS hg1 1 rfl (show (0 : Int32) = nI 0 from rfl) (by decide) (by decide) d_L_place_9 (fun H locs hM hS hz => ?_)
  have hM : xh G (va_up M1 og (some (200, .inl (gJ G, 1, .inr (.inl (vp_updL fo 0 (r1.toInt64))))))) H := hM
  obtain ⟨M1_1, eM1_1⟩ : ∃ z : xM, z = va_up M1 og (some (200, .inl (gJ G, 1, .inr (.inl (vp_updL fo 0 (r1.toInt64)))))) := ⟨_, rfl⟩
  rw [← eM1_1] at hM
  have hg1 := xw_atE eM1_1
  refine lv_goto (tgt := 21) hx hb d_L_place_10 (by decide) ?_
  refine lv_iconst (v := 0) hx hb d_L_place_21 (by decide) ?_
  exact x_ri hE rfl hM hS ⟨fun _ => (LPo.ok h_f rfl rfl hC1 (hO.place h_pw) hs1 hk1 hgx eM1_1), fun h9 => absurd (by rw [h_f]) h9⟩ (by decide) (by decide) d_L_place_22

set_option maxHeartbeats 4000000 in
set_option maxRecDepth 100000 in
theorem c_L_master (l : Launch) (G : xG) (M : xM) (hst : l.stackTraces = false) (ad : Nat → Nat) (u : zS) (hC : Core G M ad u) (hO : zOk u) (hs : Scr G M ad) (og : Nat) (fo : Nat → Int64) (hg : M og = some (200, eL G fo)) (st : Int32) : Met l y_L_master w_L_master ({ frames := 8, cells := 5, slots := 1100, locals := 170 }) (xP G [.ref (ad 0), .int st, .ref og] M) (xQi G (fun k9 M' => ((fMas u st).1 = 0 → zMk (zB u st) (zrn u) = 0 → LPo G M ad og u (fMas u st) k9 M') ∧ ((fMas u st).1 = 0 → ¬ zMk (zB u st) (zrn u) = 0 → ∃ B : Nat → Int32, (∀ i, i < 10 → B i = zB u st i) ∧ LPo G M ad og (uMas u B) (fMas u st) k9 M') ∧ (¬ (fMas u st).1 = 0 → LPo G M ad og u (fMas u st) k9 M'))) 5 1100 (xF G) := by
  refine x_metH (by decide) (Nat.le_of_ble_eq_true rfl) ?_
  intro p e s m below meth c ls hE htab hl hM hK hS
  obtain ⟨hx, hb, hr, hml, hown, hw, hlocks⟩ := id hE
  have hl : lv_has ls 4 [(0, .ref (ad 0)), (1, .int st), (2, .ref og)] := hl
  refine lv_aload_n hx hb d_L_master_0 rfl (lv_at hl 2 rfl) ?_
  refine lv_iconst (v := 0) hx hb d_L_master_1 (by decide) ?_
  refine lv_aload_n hx hb d_L_master_2 rfl (lv_at hl 0 rfl) ?_
  refine lv_iload_n hx hb d_L_master_3 rfl (lv_at hl 1 rfl) ?_
  refine x_cxi (x_runVX (As := [.int st]) (rest := [.int 0, .ref og]) hE hK hM hl.1 (c_Rm_master l G M hst ad u hC hO hs st) hC.1 rfl kw_264 kw_265 kw_266 kw_1 kw_267 1 rfl rfl rfl (by decide +kernel) ⟨by decide, by decide⟩ rfl (Nat.le_of_ble_eq_true rfl) d_L_master_4 ⟨by decide, by decide⟩) hS (fun E ce q9 M1 H locs hp hM hS hq1 hq2 hq3 => ?_) (fun r1 M1 H locs hp hM hS => ?_)
  · obtain ⟨hp, e_M⟩ := hp
    rcases hp with ⟨h_f, rfl⟩ | ⟨h_f, rfl⟩
    · have hM : xh G M H := e_M ▸ hM
      refine vx_catch hown [] ⟨0, 9, 12, 13⟩ [⟨0, 9, 15, 15⟩] (htab.trans rfl) (fun z hz => by cases hz) (by decide) (by decide) (hw _ kw_105) (va_Nw.use rfl (hK.2.2.1.1 nISE (by simp))) hq1 hq2 hq3 ?_
      refine W.eq (g2 := F0 m 12 ls [.ref q9]) rfl ?_
      refine lv_astore_n (lv' := [(3, .ref q9), (0, .ref (ad 0)), (1, .int st), (2, .ref og)]) hx hb d_L_master_12 rfl hl (by decide) rfl (fun ls hl => ?_)
      refine lv_iconst (v := 1) hx hb d_L_master_13 (by decide) ?_
      exact x_ri hE rfl hM hS ⟨fun h9 => absurd h9 (by rw [h_f]; decide), fun h9 => absurd h9 (by rw [h_f]; decide), fun _ => (LPo.thr hC hs hg h_f rfl (by decide))⟩ (by decide) (by decide) d_L_master_14
    · have hM : xh G M H := e_M ▸ hM
      refine vx_catch hown [⟨0, 9, 12, 13⟩] ⟨0, 9, 15, 15⟩ [] (htab.trans rfl) (fun z hz => by
        rcases List.mem_cons.mp hz with rfl | hz
        · exact Or.inr ⟨by decide, _, hw _ kw_105, hK.2.2.2.2.2.2 (nIAE, nISE) (by simp)⟩
        · cases hz) (by decide) (by decide) (hw _ kw_106) (va_Nw.use rfl (hK.2.2.1.1 nIAE (by simp))) hq1 hq2 hq3 ?_
      refine W.eq (g2 := F0 m 15 ls [.ref q9]) rfl ?_
      refine lv_astore_n (lv' := [(3, .ref q9), (0, .ref (ad 0)), (1, .int st), (2, .ref og)]) hx hb d_L_master_15 rfl hl (by decide) rfl (fun ls hl => ?_)
      refine lv_iconst (v := 2) hx hb d_L_master_16 (by decide) ?_
      exact x_ri hE rfl hM hS ⟨fun h9 => absurd h9 (by rw [h_f]; decide), fun h9 => absurd h9 (by rw [h_f]; decide), fun _ => (LPo.thr hC hs hg h_f rfl (by decide))⟩ (by decide) (by decide) d_L_master_17
  have h_r10 : (fMas u st).1 = 0 → zmn u < 8 := fun h9 => by
    unfold fMas at h9
    by_cases h1 : 8 ≤ zmn u
    · rw [if_pos h1] at h9; cases h9
    · omega
  obtain ⟨h_f, ⟨h_c, e_M⟩ | ⟨h_c, F, ad2, hF, hC1, hs1, hk1, hd⟩⟩ := hp
  · have hM : xh G M H := e_M ▸ hM
    have hg1 := hg
    refine lv_i2l (v := r1.toInt64) hx hb d_L_master_7 rfl ?_
    refine x_last hx hb hK.1 hM hS hg1 1 rfl (show (0 : Int32) = nI 0 from rfl) (by decide) (by decide) d_L_master_8 (fun H locs hM hS hz => ?_)
    have hM : xh G (va_up M og (some (200, .inl (gJ G, 1, .inr (.inl (vp_updL fo 0 (r1.toInt64))))))) H := hM
    obtain ⟨M_1, eM_1⟩ : ∃ z : xM, z = va_up M og (some (200, .inl (gJ G, 1, .inr (.inl (vp_updL fo 0 (r1.toInt64)))))) := ⟨_, rfl⟩
    rw [← eM_1] at hM
    have hg1 := xw_atE eM_1
    refine lv_goto (tgt := 18) hx hb d_L_master_9 (by decide) ?_
    refine lv_iconst (v := 0) hx hb d_L_master_18 (by decide) ?_
    exact x_ri hE rfl hM hS ⟨fun _ _ => (LPo.ok h_f rfl rfl hC hO hs xK100.refl hg eM_1), fun _ h9 => absurd h_c h9, fun h9 => absurd (by rw [h_f]) h9⟩ (by decide) (by decide) d_L_master_19
  have hg1 := hk1 _ _ _ hg (by omega)
  have hgx := hg1
  refine lv_i2l (v := r1.toInt64) hx hb d_L_master_7 rfl ?_
  refine x_last hx hb hK.1 hM hS hg1 1 rfl (show (0 : Int32) = nI 0 from rfl) (by decide) (by decide) d_L_master_8 (fun H locs hM hS hz => ?_)
  have hM : xh G (va_up M1 og (some (200, .inl (gJ G, 1, .inr (.inl (vp_updL fo 0 (r1.toInt64))))))) H := hM
  obtain ⟨M1_1, eM1_1⟩ : ∃ z : xM, z = va_up M1 og (some (200, .inl (gJ G, 1, .inr (.inl (vp_updL fo 0 (r1.toInt64)))))) := ⟨_, rfl⟩
  rw [← eM1_1] at hM
  have hg1 := xw_atE eM1_1
  refine lv_goto (tgt := 18) hx hb d_L_master_9 (by decide) ?_
  refine lv_iconst (v := 0) hx hb d_L_master_18 (by decide) ?_
  exact x_ri hE rfl hM hS ⟨fun _ h9 => absurd h9 h_c, fun _ _ => ⟨F, hF, (LPo.ok h_f rfl (hd 0 (by omega)) hC1 (hO.mas9 (h_r10 (by rw [h_f])) hF h_c) hs1 hk1 hgx eM1_1)⟩, fun h9 => absurd (by rw [h_f]) h9⟩ (by decide) (by decide) d_L_master_19

set_option maxHeartbeats 4000000 in
set_option maxRecDepth 100000 in
theorem c_L_about (l : Launch) (G : xG) (M : xM) (hst : l.stackTraces = false) (ad : Nat → Nat) (u : zS) (hC : Core G M ad u) (hO : zOk u) (hs : Scr G M ad) (og : Nat) (fo : Nat → Int64) (hg : M og = some (200, eL G fo)) (x k : Int32) : Met l y_L_about w_L_about ({ frames := 8, cells := 2, slots := 12, locals := 170 }) (xP G [.ref (ad 0), .int x, .int k, .ref og] M) (xQi G (fun k9 M' => LPo G M ad og u (fAbout u x k) k9 M')) 2 12 (xF G) := by
  refine x_metH (by decide) (Nat.le_of_ble_eq_true rfl) ?_
  intro p e s m below meth c ls hE htab hl hM hK hS
  obtain ⟨hx, hb, hr, hml, hown, hw, hlocks⟩ := id hE
  have hl : lv_has ls 5 [(0, .ref (ad 0)), (1, .int x), (2, .int k), (3, .ref og)] := hl
  refine lv_aload_n hx hb d_L_about_0 rfl (lv_at hl 3 rfl) ?_
  refine lv_iconst (v := 0) hx hb d_L_about_1 (by decide) ?_
  refine lv_aload_n hx hb d_L_about_2 rfl (lv_at hl 0 rfl) ?_
  refine lv_iload_n hx hb d_L_about_3 rfl (lv_at hl 1 rfl) ?_
  refine lv_iload_n hx hb d_L_about_4 rfl (lv_at hl 2 rfl) ?_
  refine x_cxi (x_runVX (As := [.int x, .int k]) (rest := [.int 0, .ref og]) hE hK hM hl.1 (c_Rm_about l G M hst ad u hC hO x k) hC.1 rfl kw_362 kw_363 kw_364 kw_1 kw_365 2 rfl rfl rfl (by decide +kernel) ⟨by decide, by decide⟩ rfl (Nat.le_of_ble_eq_true rfl) d_L_about_5 ⟨by decide, by decide⟩) hS (fun E ce q9 M1 H locs hp hM hS hq1 hq2 hq3 => ?_) (fun r1 M1 H locs hp hM hS => ?_)
  · obtain ⟨h_f, rfl, e_M⟩ := hp
    have hM : xh G M H := e_M ▸ hM
    refine vx_catch hown [] ⟨0, 10, 13, 25⟩ [] (htab.trans rfl) (fun z hz => by cases hz) (by decide) (by decide) (hw _ kw_227) (va_Nw.use rfl (hK.2.2.1.1 nIOE (by simp))) hq1 hq2 hq3 ?_
    refine W.eq (g2 := F0 m 13 ls [.ref q9]) rfl ?_
    refine lv_astore (lv' := [(4, .ref q9), (0, .ref (ad 0)), (1, .int x), (2, .int k), (3, .ref og)]) hx hb d_L_about_13 hl (by decide) rfl (fun ls hl => ?_)
    refine lv_iconst (v := 1) hx hb d_L_about_15 (by decide) ?_
    exact x_ri hE rfl hM hS (LPo.thr hC hs hg h_f rfl (by decide)) (by decide) (by decide) d_L_about_16
  obtain ⟨h_f, e_M⟩ := hp
  have hM : xh G M H := e_M ▸ hM
  have hg1 := hg
  refine lv_i2l (v := r1.toInt64) hx hb d_L_about_8 rfl ?_
  refine x_last hx hb hK.1 hM hS hg1 1 rfl (show (0 : Int32) = nI 0 from rfl) (by decide) (by decide) d_L_about_9 (fun H locs hM hS hz => ?_)
  have hM : xh G (va_up M og (some (200, .inl (gJ G, 1, .inr (.inl (vp_updL fo 0 (r1.toInt64))))))) H := hM
  obtain ⟨M_1, eM_1⟩ : ∃ z : xM, z = va_up M og (some (200, .inl (gJ G, 1, .inr (.inl (vp_updL fo 0 (r1.toInt64)))))) := ⟨_, rfl⟩
  rw [← eM_1] at hM
  have hg1 := xw_atE eM_1
  refine lv_goto (tgt := 17) hx hb d_L_about_10 (by decide) ?_
  refine lv_iconst (v := 0) hx hb d_L_about_17 (by decide) ?_
  exact x_ri hE rfl hM hS (LPo.ok h_f rfl rfl hC hO hs xK100.refl hg eM_1) (by decide) (by decide) d_L_about_18

set_option maxHeartbeats 4000000 in
set_option maxRecDepth 100000 in
theorem c_L_at (l : Launch) (G : xG) (M : xM) (hst : l.stackTraces = false) (ad : Nat → Nat) (u : zS) (hC : Core G M ad u) (hO : zOk u) (hs : Scr G M ad) (og : Nat) (fo : Nat → Int64) (hg : M og = some (200, eL G fo)) (x y : Int32) : Met l y_L_at w_L_at ({ frames := 8, cells := 2, slots := 12, locals := 170 }) (xP G [.ref (ad 0), .int x, .int y, .ref og] M) (xQi G (fun k9 M' => LPo G M ad og u (fAt u x y) k9 M')) 2 12 (xF G) := by
  refine x_metH (by decide) (Nat.le_of_ble_eq_true rfl) ?_
  intro p e s m below meth c ls hE htab hl hM hK hS
  obtain ⟨hx, hb, hr, hml, hown, hw, hlocks⟩ := id hE
  have hl : lv_has ls 5 [(0, .ref (ad 0)), (1, .int x), (2, .int y), (3, .ref og)] := hl
  refine lv_aload_n hx hb d_L_at_0 rfl (lv_at hl 3 rfl) ?_
  refine lv_iconst (v := 0) hx hb d_L_at_1 (by decide) ?_
  refine lv_aload_n hx hb d_L_at_2 rfl (lv_at hl 0 rfl) ?_
  refine lv_iload_n hx hb d_L_at_3 rfl (lv_at hl 1 rfl) ?_
  refine lv_iload_n hx hb d_L_at_4 rfl (lv_at hl 2 rfl) ?_
  refine x_cxi (x_runVX (As := [.int x, .int y]) (rest := [.int 0, .ref og]) hE hK hM hl.1 (c_Rm_at l G M hst ad u hC hO x y) hC.1 rfl kw_375 kw_376 kw_377 kw_1 kw_378 2 rfl rfl rfl (by decide +kernel) ⟨by decide, by decide⟩ rfl (Nat.le_of_ble_eq_true rfl) d_L_at_5 ⟨by decide, by decide⟩) hS (fun E ce q9 M1 H locs hp hM hS hq1 hq2 hq3 => ?_) (fun r1 M1 H locs hp hM hS => ?_)
  · obtain ⟨h_f, rfl, e_M⟩ := hp
    have hM : xh G M H := e_M ▸ hM
    refine vx_catch hown [] ⟨0, 10, 13, 25⟩ [] (htab.trans rfl) (fun z hz => by cases hz) (by decide) (by decide) (hw _ kw_227) (va_Nw.use rfl (hK.2.2.1.1 nIOE (by simp))) hq1 hq2 hq3 ?_
    refine W.eq (g2 := F0 m 13 ls [.ref q9]) rfl ?_
    refine lv_astore (lv' := [(4, .ref q9), (0, .ref (ad 0)), (1, .int x), (2, .int y), (3, .ref og)]) hx hb d_L_at_13 hl (by decide) rfl (fun ls hl => ?_)
    refine lv_iconst (v := 1) hx hb d_L_at_15 (by decide) ?_
    exact x_ri hE rfl hM hS (LPo.thr hC hs hg h_f rfl (by decide)) (by decide) (by decide) d_L_at_16
  obtain ⟨h_f, e_M⟩ := hp
  have hM : xh G M H := e_M ▸ hM
  have hg1 := hg
  refine lv_i2l (v := r1.toInt64) hx hb d_L_at_8 rfl ?_
  refine x_last hx hb hK.1 hM hS hg1 1 rfl (show (0 : Int32) = nI 0 from rfl) (by decide) (by decide) d_L_at_9 (fun H locs hM hS hz => ?_)
  have hM : xh G (va_up M og (some (200, .inl (gJ G, 1, .inr (.inl (vp_updL fo 0 (r1.toInt64))))))) H := hM
  obtain ⟨M_1, eM_1⟩ : ∃ z : xM, z = va_up M og (some (200, .inl (gJ G, 1, .inr (.inl (vp_updL fo 0 (r1.toInt64)))))) := ⟨_, rfl⟩
  rw [← eM_1] at hM
  have hg1 := xw_atE eM_1
  refine lv_goto (tgt := 17) hx hb d_L_at_10 (by decide) ?_
  refine lv_iconst (v := 0) hx hb d_L_at_17 (by decide) ?_
  exact x_ri hE rfl hM hS (LPo.ok h_f rfl rfl hC hO hs xK100.refl hg eM_1) (by decide) (by decide) d_L_at_18

set_option maxHeartbeats 4000000 in
set_option maxRecDepth 100000 in
theorem c_L_depth (l : Launch) (G : xG) (M : xM) (hst : l.stackTraces = false) (ad : Nat → Nat) (u : zS) (hC : Core G M ad u) (hO : zOk u) (hs : Scr G M ad) (og : Nat) (fo : Nat → Int64) (hg : M og = some (200, eL G fo)) (x y : Int32) : Met l y_L_depth w_L_depth ({ frames := 8, cells := 2, slots := 12, locals := 170 }) (xP G [.ref (ad 0), .int x, .int y, .ref og] M) (xQi G (fun k9 M' => LPo G M ad og u (fDepth u x y) k9 M')) 2 12 (xF G) := by
  refine x_metH (by decide) (Nat.le_of_ble_eq_true rfl) ?_
  intro p e s m below meth c ls hE htab hl hM hK hS
  obtain ⟨hx, hb, hr, hml, hown, hw, hlocks⟩ := id hE
  have hl : lv_has ls 5 [(0, .ref (ad 0)), (1, .int x), (2, .int y), (3, .ref og)] := hl
  refine lv_aload_n hx hb d_L_depth_0 rfl (lv_at hl 3 rfl) ?_
  refine lv_iconst (v := 0) hx hb d_L_depth_1 (by decide) ?_
  refine lv_aload_n hx hb d_L_depth_2 rfl (lv_at hl 0 rfl) ?_
  refine lv_iload_n hx hb d_L_depth_3 rfl (lv_at hl 1 rfl) ?_
  refine lv_iload_n hx hb d_L_depth_4 rfl (lv_at hl 2 rfl) ?_
  refine x_cxi (x_runVX (As := [.int x, .int y]) (rest := [.int 0, .ref og]) hE hK hM hl.1 (c_Rm_depth l G M hst ad u hC hO x y) hC.1 rfl kw_385 kw_386 kw_387 kw_1 kw_388 2 rfl rfl rfl (by decide +kernel) ⟨by decide, by decide⟩ rfl (Nat.le_of_ble_eq_true rfl) d_L_depth_5 ⟨by decide, by decide⟩) hS (fun E ce q9 M1 H locs hp hM hS hq1 hq2 hq3 => ?_) (fun r1 M1 H locs hp hM hS => ?_)
  · obtain ⟨h_f, rfl, e_M⟩ := hp
    have hM : xh G M H := e_M ▸ hM
    refine vx_catch hown [] ⟨0, 10, 13, 25⟩ [] (htab.trans rfl) (fun z hz => by cases hz) (by decide) (by decide) (hw _ kw_227) (va_Nw.use rfl (hK.2.2.1.1 nIOE (by simp))) hq1 hq2 hq3 ?_
    refine W.eq (g2 := F0 m 13 ls [.ref q9]) rfl ?_
    refine lv_astore (lv' := [(4, .ref q9), (0, .ref (ad 0)), (1, .int x), (2, .int y), (3, .ref og)]) hx hb d_L_depth_13 hl (by decide) rfl (fun ls hl => ?_)
    refine lv_iconst (v := 1) hx hb d_L_depth_15 (by decide) ?_
    exact x_ri hE rfl hM hS (LPo.thr hC hs hg h_f rfl (by decide)) (by decide) (by decide) d_L_depth_16
  obtain ⟨h_f, e_M⟩ := hp
  have hM : xh G M H := e_M ▸ hM
  have hg1 := hg
  refine lv_i2l (v := r1.toInt64) hx hb d_L_depth_8 rfl ?_
  refine x_last hx hb hK.1 hM hS hg1 1 rfl (show (0 : Int32) = nI 0 from rfl) (by decide) (by decide) d_L_depth_9 (fun H locs hM hS hz => ?_)
  have hM : xh G (va_up M og (some (200, .inl (gJ G, 1, .inr (.inl (vp_updL fo 0 (r1.toInt64))))))) H := hM
  obtain ⟨M_1, eM_1⟩ : ∃ z : xM, z = va_up M og (some (200, .inl (gJ G, 1, .inr (.inl (vp_updL fo 0 (r1.toInt64)))))) := ⟨_, rfl⟩
  rw [← eM_1] at hM
  have hg1 := xw_atE eM_1
  refine lv_goto (tgt := 17) hx hb d_L_depth_10 (by decide) ?_
  refine lv_iconst (v := 0) hx hb d_L_depth_17 (by decide) ?_
  exact x_ri hE rfl hM hS (LPo.ok h_f rfl rfl hC hO hs xK100.refl hg eM_1) (by decide) (by decide) d_L_depth_18

set_option maxHeartbeats 4000000 in
set_option maxRecDepth 100000 in
theorem c_L_leftOut (l : Launch) (G : xG) (M : xM) (hst : l.stackTraces = false) (ad : Nat → Nat) (u : zS) (hC : Core G M ad u) (hO : zOk u) (hs : Scr G M ad) (og : Nat) (fo : Nat → Int64) (hg : M og = some (200, eL G fo)) (x s1 w : Int32) : Met l y_L_leftOut w_L_leftOut ({ frames := 8, cells := 3, slots := 18, locals := 170 }) (xP G [.ref (ad 0), .int x, .int s1, .int w, .ref og] M) (xQi G (fun k9 M' => LPo G M ad og u (fLeft u x s1 w) k9 M')) 3 18 (xF G) := by
  refine x_metH (by decide) (Nat.le_of_ble_eq_true rfl) ?_
  intro p e s m below meth c ls hE htab hl hM hK hS
  obtain ⟨hx, hb, hr, hml, hown, hw, hlocks⟩ := id hE
  have hl : lv_has ls 6 [(0, .ref (ad 0)), (1, .int x), (2, .int s1), (3, .int w), (4, .ref og)] := hl
  refine lv_aload hx hb d_L_leftOut_0 (lv_at hl 4 rfl) ?_
  refine lv_iconst (v := 0) hx hb d_L_leftOut_2 (by decide) ?_
  refine lv_aload_n hx hb d_L_leftOut_3 rfl (lv_at hl 0 rfl) ?_
  refine lv_iload_n hx hb d_L_leftOut_4 rfl (lv_at hl 1 rfl) ?_
  refine lv_iload_n hx hb d_L_leftOut_5 rfl (lv_at hl 2 rfl) ?_
  refine lv_iload_n hx hb d_L_leftOut_6 rfl (lv_at hl 3 rfl) ?_
  refine x_cxi (x_runVX (As := [.int x, .int s1, .int w]) (rest := [.int 0, .ref og]) hE hK hM hl.1 (c_Rm_leftOut l G M hst ad u hC hO hs x s1 w) hC.1 rfl kw_392 kw_393 kw_394 kw_1 kw_395 3 rfl rfl rfl (by decide +kernel) ⟨by decide, by decide⟩ rfl (Nat.le_of_ble_eq_true rfl) d_L_leftOut_7 ⟨by decide, by decide⟩) hS (fun E ce q9 M1 H locs hp hM hS hq1 hq2 hq3 => ?_) (fun r1 M1 H locs hp hM hS => ?_)
  · obtain ⟨h_f, rfl, e_M⟩ := hp
    have hM : xh G M H := e_M ▸ hM
    refine vx_catch hown [] ⟨0, 12, 15, 25⟩ [] (htab.trans rfl) (fun z hz => by cases hz) (by decide) (by decide) (hw _ kw_227) (va_Nw.use rfl (hK.2.2.1.1 nIOE (by simp))) hq1 hq2 hq3 ?_
    refine W.eq (g2 := F0 m 15 ls [.ref q9]) rfl ?_
    refine lv_astore (lv' := [(5, .ref q9), (0, .ref (ad 0)), (1, .int x), (2, .int s1), (3, .int w), (4, .ref og)]) hx hb d_L_leftOut_15 hl (by decide) rfl (fun ls hl => ?_)
    refine lv_iconst (v := 1) hx hb d_L_leftOut_17 (by decide) ?_
    exact x_ri hE rfl hM hS (LPo.thr hC hs hg h_f rfl (by decide)) (by decide) (by decide) d_L_leftOut_18
  obtain ⟨h_f, hk1, hs1⟩ := hp
  have hg1 := hk1.k100 _ _ _ hg (by omega)
  have hgx := hg1
  refine lv_i2l (v := r1.toInt64) hx hb d_L_leftOut_10 rfl ?_
  refine x_last hx hb hK.1 hM hS hg1 1 rfl (show (0 : Int32) = nI 0 from rfl) (by decide) (by decide) d_L_leftOut_11 (fun H locs hM hS hz => ?_)
  have hM : xh G (va_up M1 og (some (200, .inl (gJ G, 1, .inr (.inl (vp_updL fo 0 (r1.toInt64))))))) H := hM
  obtain ⟨M1_1, eM1_1⟩ : ∃ z : xM, z = va_up M1 og (some (200, .inl (gJ G, 1, .inr (.inl (vp_updL fo 0 (r1.toInt64)))))) := ⟨_, rfl⟩
  rw [← eM1_1] at hM
  have hg1 := xw_atE eM1_1
  refine lv_goto (tgt := 19) hx hb d_L_leftOut_12 (by decide) ?_
  refine lv_iconst (v := 0) hx hb d_L_leftOut_19 (by decide) ?_
  exact x_ri hE rfl hM hS (LPo.ok h_f rfl rfl (hC.keep hk1) hO hs1 hk1.k100 hgx eM1_1) (by decide) (by decide) d_L_leftOut_20

set_option maxHeartbeats 4000000 in
set_option maxRecDepth 100000 in
theorem c_L_distance (l : Launch) (G : xG) (M : xM) (hst : l.stackTraces = false) (ad : Nat → Nat) (u : zS) (hC : Core G M ad u) (hO : zOk u) (hs : Scr G M ad) (og : Nat) (fo : Nat → Int64) (hg : M og = some (200, eL G fo)) (x n1 y w : Int32) : Met l y_L_distance w_L_distance ({ frames := 8, cells := 3, slots := 18, locals := 170 }) (xP G [.ref (ad 0), .int x, .int n1, .int y, .int w, .ref og] M) (xQi G (fun k9 M' => LPo G M ad og u (fDist u x n1 y w) k9 M')) 3 18 (xF G) := by
  refine x_metH (by decide) (Nat.le_of_ble_eq_true rfl) ?_
  intro p e s m below meth c ls hE htab hl hM hK hS
  obtain ⟨hx, hb, hr, hml, hown, hw, hlocks⟩ := id hE
  have hl : lv_has ls 7 [(0, .ref (ad 0)), (1, .int x), (2, .int n1), (3, .int y), (4, .int w), (5, .ref og)] := hl
  refine lv_aload hx hb d_L_distance_0 (lv_at hl 5 rfl) ?_
  refine lv_iconst (v := 0) hx hb d_L_distance_2 (by decide) ?_
  refine lv_aload_n hx hb d_L_distance_3 rfl (lv_at hl 0 rfl) ?_
  refine lv_iload_n hx hb d_L_distance_4 rfl (lv_at hl 1 rfl) ?_
  refine lv_iload_n hx hb d_L_distance_5 rfl (lv_at hl 2 rfl) ?_
  refine lv_iload_n hx hb d_L_distance_6 rfl (lv_at hl 3 rfl) ?_
  refine lv_iload hx hb d_L_distance_7 (lv_at hl 4 rfl) ?_
  refine x_cxi (x_runVX (As := [.int x, .int n1, .int y, .int w]) (rest := [.int 0, .ref og]) hE hK hM hl.1 (c_Rm_distance l G M hst ad u hC hO hs x n1 y w) hC.1 rfl kw_422 kw_423 kw_424 kw_1 kw_425 4 rfl rfl rfl (by decide +kernel) ⟨by decide, by decide⟩ rfl (Nat.le_of_ble_eq_true rfl) d_L_distance_9 ⟨by decide, by decide⟩) hS (fun E ce q9 M1 H locs hp hM hS hq1 hq2 hq3 => ?_) (fun r1 M1 H locs hp hM hS => ?_)
  · obtain ⟨h_f, rfl, e_M⟩ := hp
    have hM : xh G M H := e_M ▸ hM
    refine vx_catch hown [] ⟨0, 14, 17, 25⟩ [] (htab.trans rfl) (fun z hz => by cases hz) (by decide) (by decide) (hw _ kw_227) (va_Nw.use rfl (hK.2.2.1.1 nIOE (by simp))) hq1 hq2 hq3 ?_
    refine W.eq (g2 := F0 m 17 ls [.ref q9]) rfl ?_
    refine lv_astore (lv' := [(6, .ref q9), (0, .ref (ad 0)), (1, .int x), (2, .int n1), (3, .int y), (4, .int w), (5, .ref og)]) hx hb d_L_distance_17 hl (by decide) rfl (fun ls hl => ?_)
    refine lv_iconst (v := 1) hx hb d_L_distance_19 (by decide) ?_
    exact x_ri hE rfl hM hS (LPo.thr hC hs hg h_f rfl (by decide)) (by decide) (by decide) d_L_distance_20
  obtain ⟨h_f, hk1, hs1⟩ := hp
  have hg1 := hk1.k100 _ _ _ hg (by omega)
  have hgx := hg1
  refine lv_i2l (v := r1.toInt64) hx hb d_L_distance_12 rfl ?_
  refine x_last hx hb hK.1 hM hS hg1 1 rfl (show (0 : Int32) = nI 0 from rfl) (by decide) (by decide) d_L_distance_13 (fun H locs hM hS hz => ?_)
  have hM : xh G (va_up M1 og (some (200, .inl (gJ G, 1, .inr (.inl (vp_updL fo 0 (r1.toInt64))))))) H := hM
  obtain ⟨M1_1, eM1_1⟩ : ∃ z : xM, z = va_up M1 og (some (200, .inl (gJ G, 1, .inr (.inl (vp_updL fo 0 (r1.toInt64)))))) := ⟨_, rfl⟩
  rw [← eM1_1] at hM
  have hg1 := xw_atE eM1_1
  refine lv_goto (tgt := 21) hx hb d_L_distance_14 (by decide) ?_
  refine lv_iconst (v := 0) hx hb d_L_distance_21 (by decide) ?_
  exact x_ri hE rfl hM hS (LPo.ok h_f rfl rfl (hC.keep hk1) hO hs1 hk1.k100 hgx eM1_1) (by decide) (by decide) d_L_distance_22

set_option maxHeartbeats 4000000 in
set_option maxRecDepth 100000 in
theorem c_L_date (l : Launch) (G : xG) (M : xM) (hst : l.stackTraces = false) (ad : Nat → Nat) (u : zS) (hC : Core G M ad u) (hO : zOk u) (hs : Scr G M ad) (og : Nat) (fo : Nat → Int64) (hg : M og = some (200, eL G fo)) (x n1 w : Int32) : Met l y_L_date w_L_date ({ frames := 8, cells := 3, slots := 18, locals := 170 }) (xP G [.ref (ad 0), .int x, .int n1, .int w, .ref og] M) (xQi G (fun k9 M' => LPo G M ad og u (fDate u x n1 w) k9 M')) 3 18 (xF G) := by
  refine x_metH (by decide) (Nat.le_of_ble_eq_true rfl) ?_
  intro p e s m below meth c ls hE htab hl hM hK hS
  obtain ⟨hx, hb, hr, hml, hown, hw, hlocks⟩ := id hE
  have hl : lv_has ls 6 [(0, .ref (ad 0)), (1, .int x), (2, .int n1), (3, .int w), (4, .ref og)] := hl
  refine lv_aload hx hb d_L_date_0 (lv_at hl 4 rfl) ?_
  refine lv_iconst (v := 0) hx hb d_L_date_2 (by decide) ?_
  refine lv_aload_n hx hb d_L_date_3 rfl (lv_at hl 0 rfl) ?_
  refine lv_iload_n hx hb d_L_date_4 rfl (lv_at hl 1 rfl) ?_
  refine lv_iload_n hx hb d_L_date_5 rfl (lv_at hl 2 rfl) ?_
  refine lv_iload_n hx hb d_L_date_6 rfl (lv_at hl 3 rfl) ?_
  refine x_cxi (x_runVX (As := [.int x, .int n1, .int w]) (rest := [.int 0, .ref og]) hE hK hM hl.1 (c_Rm_date l G M hst ad u hC hO hs x n1 w) hC.1 rfl kw_433 kw_434 kw_435 kw_1 kw_436 3 rfl rfl rfl (by decide +kernel) ⟨by decide, by decide⟩ rfl (Nat.le_of_ble_eq_true rfl) d_L_date_7 ⟨by decide, by decide⟩) hS (fun E ce q9 M1 H locs hp hM hS hq1 hq2 hq3 => ?_) (fun r1 M1 H locs hp hM hS => ?_)
  · obtain ⟨hp, e_M⟩ := hp
    rcases hp with ⟨h_f, rfl⟩ | ⟨h_f, rfl⟩
    · have hM : xh G M H := e_M ▸ hM
      refine vx_catch hown [] ⟨0, 12, 15, 25⟩ [⟨0, 12, 19, 15⟩] (htab.trans rfl) (fun z hz => by cases hz) (by decide) (by decide) (hw _ kw_227) (va_Nw.use rfl (hK.2.2.1.1 nIOE (by simp))) hq1 hq2 hq3 ?_
      refine W.eq (g2 := F0 m 15 ls [.ref q9]) rfl ?_
      refine lv_astore (lv' := [(5, .ref q9), (0, .ref (ad 0)), (1, .int x), (2, .int n1), (3, .int w), (4, .ref og)]) hx hb d_L_date_15 hl (by decide) rfl (fun ls hl => ?_)
      refine lv_iconst (v := 1) hx hb d_L_date_17 (by decide) ?_
      exact x_ri hE rfl hM hS (LPo.thr hC hs hg h_f rfl (by decide)) (by decide) (by decide) d_L_date_18
    · have hM : xh G M H := e_M ▸ hM
      refine vx_catch hown [⟨0, 12, 15, 25⟩] ⟨0, 12, 19, 15⟩ [] (htab.trans rfl) (fun z hz => by
        rcases List.mem_cons.mp hz with rfl | hz
        · exact Or.inr ⟨by decide, _, hw _ kw_227, hK.2.2.2.2.2.2 (nIAE, nIOE) (by simp)⟩
        · cases hz) (by decide) (by decide) (hw _ kw_106) (va_Nw.use rfl (hK.2.2.1.1 nIAE (by simp))) hq1 hq2 hq3 ?_
      refine W.eq (g2 := F0 m 19 ls [.ref q9]) rfl ?_
      refine lv_astore (lv' := [(5, .ref q9), (0, .ref (ad 0)), (1, .int x), (2, .int n1), (3, .int w), (4, .ref og)]) hx hb d_L_date_19 hl (by decide) rfl (fun ls hl => ?_)
      refine lv_iconst (v := 2) hx hb d_L_date_21 (by decide) ?_
      exact x_ri hE rfl hM hS (LPo.thr hC hs hg h_f rfl (by decide)) (by decide) (by decide) d_L_date_22
  obtain ⟨h_f, hk1, hs1⟩ := hp
  have hg1 := hk1.k100 _ _ _ hg (by omega)
  have hgx := hg1
  refine lv_i2l (v := r1.toInt64) hx hb d_L_date_10 rfl ?_
  refine x_last hx hb hK.1 hM hS hg1 1 rfl (show (0 : Int32) = nI 0 from rfl) (by decide) (by decide) d_L_date_11 (fun H locs hM hS hz => ?_)
  have hM : xh G (va_up M1 og (some (200, .inl (gJ G, 1, .inr (.inl (vp_updL fo 0 (r1.toInt64))))))) H := hM
  obtain ⟨M1_1, eM1_1⟩ : ∃ z : xM, z = va_up M1 og (some (200, .inl (gJ G, 1, .inr (.inl (vp_updL fo 0 (r1.toInt64)))))) := ⟨_, rfl⟩
  rw [← eM1_1] at hM
  have hg1 := xw_atE eM1_1
  refine lv_goto (tgt := 23) hx hb d_L_date_12 (by decide) ?_
  refine lv_iconst (v := 0) hx hb d_L_date_23 (by decide) ?_
  exact x_ri hE rfl hM hS (LPo.ok h_f rfl rfl (hC.keep hk1) hO hs1 hk1.k100 hgx eM1_1) (by decide) (by decide) d_L_date_24

set_option maxHeartbeats 4000000 in
set_option maxRecDepth 100000 in
theorem c_L_agrees (l : Launch) (G : xG) (M : xM) (hst : l.stackTraces = false) (ad : Nat → Nat) (u : zS) (hC : Core G M ad u) (hO : zOk u) (hs : Scr G M ad) (og : Nat) (fo : Nat → Int64) (hg : M og = some (200, eL G fo)) (x st w : Int32) : Met l y_L_agrees w_L_agrees ({ frames := 8, cells := 2, slots := 12, locals := 170 }) (xP G [.ref (ad 0), .int x, .int st, .int w, .ref og] M) (xQi G (fun k9 M' => LPo G M ad og u (fAgr u x st w) k9 M')) 2 12 (xF G) := by
  refine x_metH (by decide) (Nat.le_of_ble_eq_true rfl) ?_
  intro p e s m below meth c ls hE htab hl hM hK hS
  obtain ⟨hx, hb, hr, hml, hown, hw, hlocks⟩ := id hE
  have hl : lv_has ls 6 [(0, .ref (ad 0)), (1, .int x), (2, .int st), (3, .int w), (4, .ref og)] := hl
  refine lv_aload hx hb d_L_agrees_0 (lv_at hl 4 rfl) ?_
  refine lv_iconst (v := 0) hx hb d_L_agrees_2 (by decide) ?_
  refine lv_aload_n hx hb d_L_agrees_3 rfl (lv_at hl 0 rfl) ?_
  refine lv_iload_n hx hb d_L_agrees_4 rfl (lv_at hl 1 rfl) ?_
  refine lv_iload_n hx hb d_L_agrees_5 rfl (lv_at hl 2 rfl) ?_
  refine lv_iload_n hx hb d_L_agrees_6 rfl (lv_at hl 3 rfl) ?_
  refine x_cxi (x_runVX (As := [.int x, .int st, .int w]) (rest := [.int 0, .ref og]) hE hK hM hl.1 (c_Rm_agrees l G M hst ad u hC hO hs x st w) hC.1 rfl kw_456 kw_457 kw_458 kw_1 kw_459 3 rfl rfl rfl (by decide +kernel) ⟨by decide, by decide⟩ rfl (Nat.le_of_ble_eq_true rfl) d_L_agrees_7 ⟨by decide, by decide⟩) hS (fun E ce q9 M1 H locs hp hM hS hq1 hq2 hq3 => ?_) (fun r1 M1 H locs hp hM hS => ?_)
  · obtain ⟨hp, e_M⟩ := hp
    rcases hp with ⟨h_f, rfl⟩ | ⟨h_f, rfl⟩
    · have hM : xh G M H := e_M ▸ hM
      refine vx_catch hown [] ⟨0, 19, 22, 25⟩ [⟨0, 19, 26, 15⟩] (htab.trans rfl) (fun z hz => by cases hz) (by decide) (by decide) (hw _ kw_227) (va_Nw.use rfl (hK.2.2.1.1 nIOE (by simp))) hq1 hq2 hq3 ?_
      refine W.eq (g2 := F0 m 22 ls [.ref q9]) rfl ?_
      refine lv_astore (lv' := [(5, .ref q9), (0, .ref (ad 0)), (1, .int x), (2, .int st), (3, .int w), (4, .ref og)]) hx hb d_L_agrees_22 hl (by decide) rfl (fun ls hl => ?_)
      refine lv_iconst (v := 1) hx hb d_L_agrees_24 (by decide) ?_
      exact x_ri hE rfl hM hS (LPo.thr hC hs hg h_f rfl (by decide)) (by decide) (by decide) d_L_agrees_25
    · have hM : xh G M H := e_M ▸ hM
      refine vx_catch hown [⟨0, 19, 22, 25⟩] ⟨0, 19, 26, 15⟩ [] (htab.trans rfl) (fun z hz => by
        rcases List.mem_cons.mp hz with rfl | hz
        · exact Or.inr ⟨by decide, _, hw _ kw_227, hK.2.2.2.2.2.2 (nIAE, nIOE) (by simp)⟩
        · cases hz) (by decide) (by decide) (hw _ kw_106) (va_Nw.use rfl (hK.2.2.1.1 nIAE (by simp))) hq1 hq2 hq3 ?_
      refine W.eq (g2 := F0 m 26 ls [.ref q9]) rfl ?_
      refine lv_astore (lv' := [(5, .ref q9), (0, .ref (ad 0)), (1, .int x), (2, .int st), (3, .int w), (4, .ref og)]) hx hb d_L_agrees_26 hl (by decide) rfl (fun ls hl => ?_)
      refine lv_iconst (v := 2) hx hb d_L_agrees_28 (by decide) ?_
      exact x_ri hE rfl hM hS (LPo.thr hC hs hg h_f rfl (by decide)) (by decide) (by decide) d_L_agrees_29
  obtain ⟨h_f, hk1, hs1⟩ := hp
  have hg1 := hk1.k100 _ _ _ hg (by omega)
  have hgx := hg1
  refine lv_if_eq (tgt := 17) hx hb d_L_agrees_10 (by decide) (fun c_10 => ?_) (fun c_10 => ?_)
  · refine lv_lconst (v := 0) hx hb d_L_agrees_17 (by decide) ?_
    refine x_last hx hb hK.1 hM hS hg1 1 rfl (show (0 : Int32) = nI 0 from rfl) (by decide) (by decide) d_L_agrees_18 (fun H locs hM hS hz => ?_)
    have hM : xh G (va_up M1 og (some (200, .inl (gJ G, 1, .inr (.inl (vp_updL fo 0 0)))))) H := hM
    obtain ⟨M1_1, eM1_1⟩ : ∃ z : xM, z = va_up M1 og (some (200, .inl (gJ G, 1, .inr (.inl (vp_updL fo 0 0))))) := ⟨_, rfl⟩
    rw [← eM1_1] at hM
    have hg1 := xw_atE eM1_1
    refine lv_goto (tgt := 30) hx hb d_L_agrees_19 (by decide) ?_
    refine lv_iconst (v := 0) hx hb d_L_agrees_30 (by decide) ?_
    exact x_ri hE rfl hM hS (LPo.ok h_f (by rw [c_10]; rfl) rfl (hC.keep hk1) hO hs1 hk1.k100 hgx eM1_1) (by decide) (by decide) d_L_agrees_31
  · refine lv_lconst (v := 1) hx hb d_L_agrees_13 (by decide) ?_
    refine lv_goto (tgt := 18) hx hb d_L_agrees_14 (by decide) ?_
    refine x_last hx hb hK.1 hM hS hg1 1 rfl (show (0 : Int32) = nI 0 from rfl) (by decide) (by decide) d_L_agrees_18 (fun H locs hM hS hz => ?_)
    have hM : xh G (va_up M1 og (some (200, .inl (gJ G, 1, .inr (.inl (vp_updL fo 0 1)))))) H := hM
    obtain ⟨M1_1, eM1_1⟩ : ∃ z : xM, z = va_up M1 og (some (200, .inl (gJ G, 1, .inr (.inl (vp_updL fo 0 1))))) := ⟨_, rfl⟩
    rw [← eM1_1] at hM
    have hg1 := xw_atE eM1_1
    refine lv_goto (tgt := 30) hx hb d_L_agrees_19 (by decide) ?_
    refine lv_iconst (v := 0) hx hb d_L_agrees_30 (by decide) ?_
    exact x_ri hE rfl hM hS (LPo.ok h_f (by have h9 := fAgr_01 u x st w; rw [h_f] at h9; rcases h9 with h9 | h9; exact absurd h9 c_10; have h8 : r1 = 1 := h9; rw [h8]; rfl) rfl (hC.keep hk1) hO hs1 hk1.k100 hgx eM1_1) (by decide) (by decide) d_L_agrees_31

set_option maxHeartbeats 4000000 in
set_option maxRecDepth 100000 in
theorem c_L_source (l : Launch) (G : xG) (M : xM) (hst : l.stackTraces = false) (ad : Nat → Nat) (u : zS) (hC : Core G M ad u) (hO : zOk u) (hs : Scr G M ad) (og : Nat) (fo : Nat → Int64) (hg : M og = some (200, eL G fo)) (x w k : Int32) : Met l y_L_source w_L_source ({ frames := 8, cells := 2, slots := 12, locals := 170 }) (xP G [.ref (ad 0), .int x, .int w, .int k, .ref og] M) (xQi G (fun k9 M' => LPo G M ad og u (fSrc u x w k) k9 M')) 2 12 (xF G) := by
  refine x_metH (by decide) (Nat.le_of_ble_eq_true rfl) ?_
  intro p e s m below meth c ls hE htab hl hM hK hS
  obtain ⟨hx, hb, hr, hml, hown, hw, hlocks⟩ := id hE
  have hl : lv_has ls 6 [(0, .ref (ad 0)), (1, .int x), (2, .int w), (3, .int k), (4, .ref og)] := hl
  refine lv_aload hx hb d_L_source_0 (lv_at hl 4 rfl) ?_
  refine lv_iconst (v := 0) hx hb d_L_source_2 (by decide) ?_
  refine lv_aload_n hx hb d_L_source_3 rfl (lv_at hl 0 rfl) ?_
  refine lv_iload_n hx hb d_L_source_4 rfl (lv_at hl 1 rfl) ?_
  refine lv_iload_n hx hb d_L_source_5 rfl (lv_at hl 2 rfl) ?_
  refine lv_iload_n hx hb d_L_source_6 rfl (lv_at hl 3 rfl) ?_
  refine x_cxi (x_runVX (As := [.int x, .int w, .int k]) (rest := [.int 0, .ref og]) hE hK hM hl.1 (c_Rm_source l G M hst ad u hC hO hs x w k) hC.1 rfl kw_463 kw_464 kw_465 kw_1 kw_466 3 rfl rfl rfl (by decide +kernel) ⟨by decide, by decide⟩ rfl (Nat.le_of_ble_eq_true rfl) d_L_source_7 ⟨by decide, by decide⟩) hS (fun E ce q9 M1 H locs hp hM hS hq1 hq2 hq3 => ?_) (fun r1 M1 H locs hp hM hS => ?_)
  · obtain ⟨hp, e_M⟩ := hp
    rcases hp with ⟨h_f, rfl⟩ | ⟨h_f, rfl⟩
    · have hM : xh G M H := e_M ▸ hM
      refine vx_catch hown [] ⟨0, 12, 15, 25⟩ [⟨0, 12, 19, 15⟩] (htab.trans rfl) (fun z hz => by cases hz) (by decide) (by decide) (hw _ kw_227) (va_Nw.use rfl (hK.2.2.1.1 nIOE (by simp))) hq1 hq2 hq3 ?_
      refine W.eq (g2 := F0 m 15 ls [.ref q9]) rfl ?_
      refine lv_astore (lv' := [(5, .ref q9), (0, .ref (ad 0)), (1, .int x), (2, .int w), (3, .int k), (4, .ref og)]) hx hb d_L_source_15 hl (by decide) rfl (fun ls hl => ?_)
      refine lv_iconst (v := 1) hx hb d_L_source_17 (by decide) ?_
      exact x_ri hE rfl hM hS (LPo.thr hC hs hg h_f rfl (by decide)) (by decide) (by decide) d_L_source_18
    · have hM : xh G M H := e_M ▸ hM
      refine vx_catch hown [⟨0, 12, 15, 25⟩] ⟨0, 12, 19, 15⟩ [] (htab.trans rfl) (fun z hz => by
        rcases List.mem_cons.mp hz with rfl | hz
        · exact Or.inr ⟨by decide, _, hw _ kw_227, hK.2.2.2.2.2.2 (nIAE, nIOE) (by simp)⟩
        · cases hz) (by decide) (by decide) (hw _ kw_106) (va_Nw.use rfl (hK.2.2.1.1 nIAE (by simp))) hq1 hq2 hq3 ?_
      refine W.eq (g2 := F0 m 19 ls [.ref q9]) rfl ?_
      refine lv_astore (lv' := [(5, .ref q9), (0, .ref (ad 0)), (1, .int x), (2, .int w), (3, .int k), (4, .ref og)]) hx hb d_L_source_19 hl (by decide) rfl (fun ls hl => ?_)
      refine lv_iconst (v := 2) hx hb d_L_source_21 (by decide) ?_
      exact x_ri hE rfl hM hS (LPo.thr hC hs hg h_f rfl (by decide)) (by decide) (by decide) d_L_source_22
  obtain ⟨h_f, hk1, hs1⟩ := hp
  have hg1 := hk1.k100 _ _ _ hg (by omega)
  have hgx := hg1
  refine lv_i2l (v := r1.toInt64) hx hb d_L_source_10 rfl ?_
  refine x_last hx hb hK.1 hM hS hg1 1 rfl (show (0 : Int32) = nI 0 from rfl) (by decide) (by decide) d_L_source_11 (fun H locs hM hS hz => ?_)
  have hM : xh G (va_up M1 og (some (200, .inl (gJ G, 1, .inr (.inl (vp_updL fo 0 (r1.toInt64))))))) H := hM
  obtain ⟨M1_1, eM1_1⟩ : ∃ z : xM, z = va_up M1 og (some (200, .inl (gJ G, 1, .inr (.inl (vp_updL fo 0 (r1.toInt64)))))) := ⟨_, rfl⟩
  rw [← eM1_1] at hM
  have hg1 := xw_atE eM1_1
  refine lv_goto (tgt := 23) hx hb d_L_source_12 (by decide) ?_
  refine lv_iconst (v := 0) hx hb d_L_source_23 (by decide) ?_
  exact x_ri hE rfl hM hS (LPo.ok h_f rfl rfl (hC.keep hk1) hO hs1 hk1.k100 hgx eM1_1) (by decide) (by decide) d_L_source_24

set_option maxHeartbeats 4000000 in
set_option maxRecDepth 100000 in
theorem c_L_sapwood (l : Launch) (G : xG) (M : xM) (hst : l.stackTraces = false) (ad : Nat → Nat) (u : zS) (hC : Core G M ad u) (hO : zOk u) (hs : Scr G M ad) (og : Nat) (fo : Nat → Int64) (hg : M og = some (200, eL G fo)) (x w : Int32) : Met l y_L_sapwood w_L_sapwood ({ frames := 8, cells := 1, slots := 6, locals := 170 }) (xP G [.ref (ad 0), .int x, .int w, .ref og] M) (xQi G (fun k9 M' => ((fSap u x w).1 = 0 → LPo G M ad og (uSap u x w) (fSap u x w) k9 M') ∧ (¬ (fSap u x w).1 = 0 → LPo G M ad og u (fSap u x w) k9 M'))) 1 6 (xF G) := by
  refine x_metH (by decide) (Nat.le_of_ble_eq_true rfl) ?_
  intro p e s m below meth c ls hE htab hl hM hK hS
  obtain ⟨hx, hb, hr, hml, hown, hw, hlocks⟩ := id hE
  have hl : lv_has ls 5 [(0, .ref (ad 0)), (1, .int x), (2, .int w), (3, .ref og)] := hl
  refine lv_aload_n hx hb d_L_sapwood_0 rfl (lv_at hl 3 rfl) ?_
  refine lv_iconst (v := 0) hx hb d_L_sapwood_1 (by decide) ?_
  refine lv_aload_n hx hb d_L_sapwood_2 rfl (lv_at hl 0 rfl) ?_
  refine lv_iload_n hx hb d_L_sapwood_3 rfl (lv_at hl 1 rfl) ?_
  refine lv_iload_n hx hb d_L_sapwood_4 rfl (lv_at hl 2 rfl) ?_
  refine x_cxi (x_runVX (As := [.int x, .int w]) (rest := [.int 0, .ref og]) hE hK hM hl.1 (c_Rm_sapwood l G M hst ad u hC hO hs x w) hC.1 rfl kw_475 kw_476 kw_477 kw_1 kw_478 2 rfl rfl rfl (by decide +kernel) ⟨by decide, by decide⟩ rfl (Nat.le_of_ble_eq_true rfl) d_L_sapwood_5 ⟨by decide, by decide⟩) hS (fun E ce q9 M1 H locs hp hM hS hq1 hq2 hq3 => ?_) (fun r1 M1 H locs hp hM hS => ?_)
  · obtain ⟨h_f, rfl, e_M⟩ := hp
    have hM : xh G M H := e_M ▸ hM
    refine vx_catch hown [] ⟨0, 10, 13, 15⟩ [] (htab.trans rfl) (fun z hz => by cases hz) (by decide) (by decide) (hw _ kw_106) (va_Nw.use rfl (hK.2.2.1.1 nIAE (by simp))) hq1 hq2 hq3 ?_
    refine W.eq (g2 := F0 m 13 ls [.ref q9]) rfl ?_
    refine lv_astore (lv' := [(4, .ref q9), (0, .ref (ad 0)), (1, .int x), (2, .int w), (3, .ref og)]) hx hb d_L_sapwood_13 hl (by decide) rfl (fun ls hl => ?_)
    refine lv_iconst (v := 1) hx hb d_L_sapwood_15 (by decide) ?_
    exact x_ri hE rfl hM hS ⟨fun h9 => absurd h9 (by rw [h_f]; decide), fun _ => (LPo.thr hC hs hg h_f rfl (by decide))⟩ (by decide) (by decide) d_L_sapwood_16
  obtain ⟨h_f, hC1, hs1, hk1⟩ := hp
  have hg1 := hk1 _ _ _ hg (by omega)
  have hgx := hg1
  have h_pw : ¬ (w < 0 ∨ 10000 < w) := by
    have h9 := h_f
    unfold fSap at h9
    by_cases h1 : x < 0 ∨ 60 < x
    · rw [if_pos h1] at h9; cases h9
    · rw [if_neg h1] at h9
      by_cases h2 : w < 0 ∨ 10000 < w
      · rw [if_pos h2] at h9; cases h9
      · exact h2
  refine lv_i2l (v := r1.toInt64) hx hb d_L_sapwood_8 rfl ?_
  refine x_last hx hb hK.1 hM hS hg1 1 rfl (show (0 : Int32) = nI 0 from rfl) (by decide) (by decide) d_L_sapwood_9 (fun H locs hM hS hz => ?_)
  have hM : xh G (va_up M1 og (some (200, .inl (gJ G, 1, .inr (.inl (vp_updL fo 0 (r1.toInt64))))))) H := hM
  obtain ⟨M1_1, eM1_1⟩ : ∃ z : xM, z = va_up M1 og (some (200, .inl (gJ G, 1, .inr (.inl (vp_updL fo 0 (r1.toInt64)))))) := ⟨_, rfl⟩
  rw [← eM1_1] at hM
  have hg1 := xw_atE eM1_1
  refine lv_goto (tgt := 17) hx hb d_L_sapwood_10 (by decide) ?_
  refine lv_iconst (v := 0) hx hb d_L_sapwood_17 (by decide) ?_
  exact x_ri hE rfl hM hS ⟨fun _ => (LPo.ok h_f rfl rfl hC1 (hO.sap h_pw) hs1 hk1 hgx eM1_1), fun h9 => absurd (by rw [h_f]) h9⟩ (by decide) (by decide) d_L_sapwood_18

set_option maxHeartbeats 4000000 in
set_option maxRecDepth 100000 in
theorem c_L_felling (l : Launch) (G : xG) (M : xM) (hst : l.stackTraces = false) (ad : Nat → Nat) (u : zS) (hC : Core G M ad u) (hO : zOk u) (hs : Scr G M ad) (og : Nat) (fo : Nat → Int64) (hg : M og = some (200, eL G fo)) (x sp ab1 be1 : Int32) : Met l y_L_felling w_L_felling ({ frames := 8, cells := 2, slots := 12, locals := 170 }) (xP G [.ref (ad 0), .int x, .int sp, .int ab1, .int be1, .ref og] M) (xQi G (fun k9 M' => LPo G M ad og u (fFell u x sp ab1 be1) k9 M')) 2 12 (xF G) := by
  refine x_metH (by decide) (Nat.le_of_ble_eq_true rfl) ?_
  intro p e s m below meth c ls hE htab hl hM hK hS
  obtain ⟨hx, hb, hr, hml, hown, hw, hlocks⟩ := id hE
  have hl : lv_has ls 7 [(0, .ref (ad 0)), (1, .int x), (2, .int sp), (3, .int ab1), (4, .int be1), (5, .ref og)] := hl
  refine lv_aload hx hb d_L_felling_0 (lv_at hl 5 rfl) ?_
  refine lv_iconst (v := 0) hx hb d_L_felling_2 (by decide) ?_
  refine lv_aload_n hx hb d_L_felling_3 rfl (lv_at hl 0 rfl) ?_
  refine lv_iload_n hx hb d_L_felling_4 rfl (lv_at hl 1 rfl) ?_
  refine lv_iload_n hx hb d_L_felling_5 rfl (lv_at hl 2 rfl) ?_
  refine lv_iload_n hx hb d_L_felling_6 rfl (lv_at hl 3 rfl) ?_
  refine lv_iload hx hb d_L_felling_7 (lv_at hl 4 rfl) ?_
  refine x_cxi (x_runVX (As := [.int x, .int sp, .int ab1, .int be1]) (rest := [.int 0, .ref og]) hE hK hM hl.1 (c_Rm_felling l G M hst ad u hC hO x sp ab1 be1) hC.1 rfl kw_484 kw_485 kw_486 kw_1 kw_487 4 rfl rfl rfl (by decide +kernel) ⟨by decide, by decide⟩ rfl (Nat.le_of_ble_eq_true rfl) d_L_felling_9 ⟨by decide, by decide⟩) hS (fun E ce q9 M1 H locs hp hM hS hq1 hq2 hq3 => ?_) (fun r1 M1 H locs hp hM hS => ?_)
  · obtain ⟨hp, e_M⟩ := hp
    rcases hp with ⟨h_f, rfl⟩ | ⟨h_f, rfl⟩ | ⟨h_f, rfl⟩
    · have hM : xh G M H := e_M ▸ hM
      refine vx_catch hown [] ⟨0, 14, 17, 25⟩ [⟨0, 14, 21, 13⟩, ⟨0, 14, 25, 15⟩] (htab.trans rfl) (fun z hz => by cases hz) (by decide) (by decide) (hw _ kw_227) (va_Nw.use rfl (hK.2.2.1.1 nIOE (by simp))) hq1 hq2 hq3 ?_
      refine W.eq (g2 := F0 m 17 ls [.ref q9]) rfl ?_
      refine lv_astore (lv' := [(6, .ref q9), (0, .ref (ad 0)), (1, .int x), (2, .int sp), (3, .int ab1), (4, .int be1), (5, .ref og)]) hx hb d_L_felling_17 hl (by decide) rfl (fun ls hl => ?_)
      refine lv_iconst (v := 1) hx hb d_L_felling_19 (by decide) ?_
      exact x_ri hE rfl hM hS (LPo.thr hC hs hg h_f rfl (by decide)) (by decide) (by decide) d_L_felling_20
    · have hM : xh G M H := e_M ▸ hM
      refine vx_catch hown [⟨0, 14, 17, 25⟩] ⟨0, 14, 21, 13⟩ [⟨0, 14, 25, 15⟩] (htab.trans rfl) (fun z hz => by
        rcases List.mem_cons.mp hz with rfl | hz
        · exact Or.inr ⟨by decide, _, hw _ kw_227, hK.2.2.2.2.2.2 (nISE, nIOE) (by simp)⟩
        · cases hz) (by decide) (by decide) (hw _ kw_105) (va_Nw.use rfl (hK.2.2.1.1 nISE (by simp))) hq1 hq2 hq3 ?_
      refine W.eq (g2 := F0 m 21 ls [.ref q9]) rfl ?_
      refine lv_astore (lv' := [(6, .ref q9), (0, .ref (ad 0)), (1, .int x), (2, .int sp), (3, .int ab1), (4, .int be1), (5, .ref og)]) hx hb d_L_felling_21 hl (by decide) rfl (fun ls hl => ?_)
      refine lv_iconst (v := 2) hx hb d_L_felling_23 (by decide) ?_
      exact x_ri hE rfl hM hS (LPo.thr hC hs hg h_f rfl (by decide)) (by decide) (by decide) d_L_felling_24
    · have hM : xh G M H := e_M ▸ hM
      refine vx_catch hown [⟨0, 14, 17, 25⟩, ⟨0, 14, 21, 13⟩] ⟨0, 14, 25, 15⟩ [] (htab.trans rfl) (fun z hz => by
        rcases List.mem_cons.mp hz with rfl | hz
        · exact Or.inr ⟨by decide, _, hw _ kw_227, hK.2.2.2.2.2.2 (nIAE, nIOE) (by simp)⟩
        · rcases List.mem_cons.mp hz with rfl | hz
          · exact Or.inr ⟨by decide, _, hw _ kw_105, hK.2.2.2.2.2.2 (nIAE, nISE) (by simp)⟩
          · cases hz) (by decide) (by decide) (hw _ kw_106) (va_Nw.use rfl (hK.2.2.1.1 nIAE (by simp))) hq1 hq2 hq3 ?_
      refine W.eq (g2 := F0 m 25 ls [.ref q9]) rfl ?_
      refine lv_astore (lv' := [(6, .ref q9), (0, .ref (ad 0)), (1, .int x), (2, .int sp), (3, .int ab1), (4, .int be1), (5, .ref og)]) hx hb d_L_felling_25 hl (by decide) rfl (fun ls hl => ?_)
      refine lv_iconst (v := 3) hx hb d_L_felling_27 (by decide) ?_
      exact x_ri hE rfl hM hS (LPo.thr hC hs hg h_f rfl (by decide)) (by decide) (by decide) d_L_felling_28
  obtain ⟨h_f, e_M⟩ := hp
  have hM : xh G M H := e_M ▸ hM
  have hg1 := hg
  refine lv_i2l (v := r1.toInt64) hx hb d_L_felling_12 rfl ?_
  refine x_last hx hb hK.1 hM hS hg1 1 rfl (show (0 : Int32) = nI 0 from rfl) (by decide) (by decide) d_L_felling_13 (fun H locs hM hS hz => ?_)
  have hM : xh G (va_up M og (some (200, .inl (gJ G, 1, .inr (.inl (vp_updL fo 0 (r1.toInt64))))))) H := hM
  obtain ⟨M_1, eM_1⟩ : ∃ z : xM, z = va_up M og (some (200, .inl (gJ G, 1, .inr (.inl (vp_updL fo 0 (r1.toInt64)))))) := ⟨_, rfl⟩
  rw [← eM_1] at hM
  have hg1 := xw_atE eM_1
  refine lv_goto (tgt := 29) hx hb d_L_felling_14 (by decide) ?_
  refine lv_iconst (v := 0) hx hb d_L_felling_29 (by decide) ?_
  exact x_ri hE rfl hM hS (LPo.ok h_f rfl rfl hC hO hs xK100.refl hg eM_1) (by decide) (by decide) d_L_felling_30

set_option maxHeartbeats 4000000 in
set_option maxRecDepth 100000 in
theorem c_L_sameTree (l : Launch) (G : xG) (M : xM) (hst : l.stackTraces = false) (ad : Nat → Nat) (u : zS) (hC : Core G M ad u) (hO : zOk u) (hs : Scr G M ad) (og : Nat) (fo : Nat → Int64) (hg : M og = some (200, eL G fo)) (x y : Int32) : Met l y_L_sameTree w_L_sameTree ({ frames := 8, cells := 2, slots := 12, locals := 170 }) (xP G [.ref (ad 0), .int x, .int y, .ref og] M) (xQi G (fun k9 M' => LPo G M ad og u (fSame u x y) k9 M')) 2 12 (xF G) := by
  refine x_metH (by decide) (Nat.le_of_ble_eq_true rfl) ?_
  intro p e s m below meth c ls hE htab hl hM hK hS
  obtain ⟨hx, hb, hr, hml, hown, hw, hlocks⟩ := id hE
  have hl : lv_has ls 5 [(0, .ref (ad 0)), (1, .int x), (2, .int y), (3, .ref og)] := hl
  refine lv_aload_n hx hb d_L_sameTree_0 rfl (lv_at hl 3 rfl) ?_
  refine lv_iconst (v := 0) hx hb d_L_sameTree_1 (by decide) ?_
  refine lv_aload_n hx hb d_L_sameTree_2 rfl (lv_at hl 0 rfl) ?_
  refine lv_iload_n hx hb d_L_sameTree_3 rfl (lv_at hl 1 rfl) ?_
  refine lv_iload_n hx hb d_L_sameTree_4 rfl (lv_at hl 2 rfl) ?_
  refine x_cxi (x_runVX (As := [.int x, .int y]) (rest := [.int 0, .ref og]) hE hK hM hl.1 (c_Rm_sameTree l G M hst ad u hC hO hs x y) hC.1 rfl kw_502 kw_503 kw_504 kw_1 kw_505 2 rfl rfl rfl (by decide +kernel) ⟨by decide, by decide⟩ rfl (Nat.le_of_ble_eq_true rfl) d_L_sameTree_5 ⟨by decide, by decide⟩) hS (fun E ce q9 M1 H locs hp hM hS hq1 hq2 hq3 => ?_) (fun r1 M1 H locs hp hM hS => ?_)
  · obtain ⟨h_f, rfl, e_M⟩ := hp
    have hM : xh G M H := e_M ▸ hM
    refine vx_catch hown [] ⟨0, 17, 20, 25⟩ [] (htab.trans rfl) (fun z hz => by cases hz) (by decide) (by decide) (hw _ kw_227) (va_Nw.use rfl (hK.2.2.1.1 nIOE (by simp))) hq1 hq2 hq3 ?_
    refine W.eq (g2 := F0 m 20 ls [.ref q9]) rfl ?_
    refine lv_astore (lv' := [(4, .ref q9), (0, .ref (ad 0)), (1, .int x), (2, .int y), (3, .ref og)]) hx hb d_L_sameTree_20 hl (by decide) rfl (fun ls hl => ?_)
    refine lv_iconst (v := 1) hx hb d_L_sameTree_22 (by decide) ?_
    exact x_ri hE rfl hM hS (LPo.thr hC hs hg h_f rfl (by decide)) (by decide) (by decide) d_L_sameTree_23
  obtain ⟨h_f, hk1, hs1⟩ := hp
  have hg1 := hk1.k100 _ _ _ hg (by omega)
  have hgx := hg1
  refine lv_if_eq (tgt := 15) hx hb d_L_sameTree_8 (by decide) (fun c_8 => ?_) (fun c_8 => ?_)
  · refine lv_lconst (v := 0) hx hb d_L_sameTree_15 (by decide) ?_
    refine x_last hx hb hK.1 hM hS hg1 1 rfl (show (0 : Int32) = nI 0 from rfl) (by decide) (by decide) d_L_sameTree_16 (fun H locs hM hS hz => ?_)
    have hM : xh G (va_up M1 og (some (200, .inl (gJ G, 1, .inr (.inl (vp_updL fo 0 0)))))) H := hM
    obtain ⟨M1_1, eM1_1⟩ : ∃ z : xM, z = va_up M1 og (some (200, .inl (gJ G, 1, .inr (.inl (vp_updL fo 0 0))))) := ⟨_, rfl⟩
    rw [← eM1_1] at hM
    have hg1 := xw_atE eM1_1
    refine lv_goto (tgt := 24) hx hb d_L_sameTree_17 (by decide) ?_
    refine lv_iconst (v := 0) hx hb d_L_sameTree_24 (by decide) ?_
    exact x_ri hE rfl hM hS (LPo.ok h_f (by rw [c_8]; rfl) rfl (hC.keep hk1) hO hs1 hk1.k100 hgx eM1_1) (by decide) (by decide) d_L_sameTree_25
  · refine lv_lconst (v := 1) hx hb d_L_sameTree_11 (by decide) ?_
    refine lv_goto (tgt := 16) hx hb d_L_sameTree_12 (by decide) ?_
    refine x_last hx hb hK.1 hM hS hg1 1 rfl (show (0 : Int32) = nI 0 from rfl) (by decide) (by decide) d_L_sameTree_16 (fun H locs hM hS hz => ?_)
    have hM : xh G (va_up M1 og (some (200, .inl (gJ G, 1, .inr (.inl (vp_updL fo 0 1)))))) H := hM
    obtain ⟨M1_1, eM1_1⟩ : ∃ z : xM, z = va_up M1 og (some (200, .inl (gJ G, 1, .inr (.inl (vp_updL fo 0 1))))) := ⟨_, rfl⟩
    rw [← eM1_1] at hM
    have hg1 := xw_atE eM1_1
    refine lv_goto (tgt := 24) hx hb d_L_sameTree_17 (by decide) ?_
    refine lv_iconst (v := 0) hx hb d_L_sameTree_24 (by decide) ?_
    exact x_ri hE rfl hM hS (LPo.ok h_f (by have h9 := fSame_01 u x y; rw [h_f] at h9; rcases h9 with h9 | h9; exact absurd h9 c_8; have h8 : r1 = 1 := h9; rw [h8]; rfl) rfl (hC.keep hk1) hO hs1 hk1.k100 hgx eM1_1) (by decide) (by decide) d_L_sameTree_25

set_option maxHeartbeats 4000000 in
set_option maxRecDepth 100000 in
theorem c_L_count (l : Launch) (G : xG) (M : xM) (hst : l.stackTraces = false) (ad : Nat → Nat) (u : zS) (hC : Core G M ad u) (hO : zOk u) (hs : Scr G M ad) (og : Nat) (fo : Nat → Int64) (hg : M og = some (200, eL G fo)) (k : Int32) : Met l y_L_count w_L_count ({ frames := 8, cells := 1, slots := 6, locals := 170 }) (xP G [.ref (ad 0), .int k, .ref og] M) (xQi G (fun k9 M' => LPo G M ad og u (fCount u k) k9 M')) 1 6 (xF G) := by
  refine x_metH (by decide) (Nat.le_of_ble_eq_true rfl) ?_
  intro p e s m below meth c ls hE htab hl hM hK hS
  obtain ⟨hx, hb, hr, hml, hown, hw, hlocks⟩ := id hE
  have hl : lv_has ls 4 [(0, .ref (ad 0)), (1, .int k), (2, .ref og)] := hl
  refine lv_aload_n hx hb d_L_count_0 rfl (lv_at hl 2 rfl) ?_
  refine lv_iconst (v := 0) hx hb d_L_count_1 (by decide) ?_
  refine lv_aload_n hx hb d_L_count_2 rfl (lv_at hl 0 rfl) ?_
  refine lv_iload_n hx hb d_L_count_3 rfl (lv_at hl 1 rfl) ?_
  refine x_cxi (x_runVX (As := [.int k]) (rest := [.int 0, .ref og]) hE hK hM hl.1 (c_Rm_count l G M hst ad u hC hO k) hC.1 rfl kw_509 kw_510 kw_511 kw_1 kw_512 1 rfl rfl rfl (by decide +kernel) ⟨by decide, by decide⟩ rfl (Nat.le_of_ble_eq_true rfl) d_L_count_4 ⟨by decide, by decide⟩) hS (fun E ce q9 M1 H locs hp hM hS hq1 hq2 hq3 => ?_) (fun r1 M1 H locs hp hM hS => ?_)
  · obtain ⟨h_f, rfl, e_M⟩ := hp
    have hM : xh G M H := e_M ▸ hM
    refine vx_catch hown [] ⟨0, 9, 12, 25⟩ [] (htab.trans rfl) (fun z hz => by cases hz) (by decide) (by decide) (hw _ kw_227) (va_Nw.use rfl (hK.2.2.1.1 nIOE (by simp))) hq1 hq2 hq3 ?_
    refine W.eq (g2 := F0 m 12 ls [.ref q9]) rfl ?_
    refine lv_astore_n (lv' := [(3, .ref q9), (0, .ref (ad 0)), (1, .int k), (2, .ref og)]) hx hb d_L_count_12 rfl hl (by decide) rfl (fun ls hl => ?_)
    refine lv_iconst (v := 1) hx hb d_L_count_13 (by decide) ?_
    exact x_ri hE rfl hM hS (LPo.thr hC hs hg h_f rfl (by decide)) (by decide) (by decide) d_L_count_14
  obtain ⟨h_f, e_M⟩ := hp
  have hM : xh G M H := e_M ▸ hM
  have hg1 := hg
  refine lv_i2l (v := r1.toInt64) hx hb d_L_count_7 rfl ?_
  refine x_last hx hb hK.1 hM hS hg1 1 rfl (show (0 : Int32) = nI 0 from rfl) (by decide) (by decide) d_L_count_8 (fun H locs hM hS hz => ?_)
  have hM : xh G (va_up M og (some (200, .inl (gJ G, 1, .inr (.inl (vp_updL fo 0 (r1.toInt64))))))) H := hM
  obtain ⟨M_1, eM_1⟩ : ∃ z : xM, z = va_up M og (some (200, .inl (gJ G, 1, .inr (.inl (vp_updL fo 0 (r1.toInt64)))))) := ⟨_, rfl⟩
  rw [← eM_1] at hM
  have hg1 := xw_atE eM_1
  refine lv_goto (tgt := 15) hx hb d_L_count_9 (by decide) ?_
  refine lv_iconst (v := 0) hx hb d_L_count_15 (by decide) ?_
  exact x_ri hE rfl hM hS (LPo.ok h_f rfl rfl hC hO hs xK100.refl hg eM_1) (by decide) (by decide) d_L_count_16
