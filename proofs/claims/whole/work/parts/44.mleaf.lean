set_option maxHeartbeats 4000000 in
set_option maxRecDepth 100000 in
theorem c_Mo_within (l : Launch) (G : xG) (M : xM) (x lo hi : Int32) : Met l y_Mo_within w_Mo_within ({ frames := 0, cells := 0, slots := 0, locals := 0 }) (xP G [.int x, .int lo, .int hi] M) (xQi G (fun v M' => v = zBo (¬ x < lo ∧ ¬ hi < x) ∧ M' = M)) 0 0 (xF G) := by
  refine x_met (by decide) (Nat.le_of_ble_eq_true rfl) ?_
  intro p e s m below meth c ls hE hin hl hM hK hS
  obtain ⟨hx, hb, hr, hml, hown, hw, hlocks⟩ := id hE
  have hl : lv_has ls 3 [(0, .int x), (1, .int lo), (2, .int hi)] := hl
  refine lv_iload_n hx hb d_Mo_within_0 rfl (lv_at hl 0 rfl) ?_
  refine lv_iload_n hx hb d_Mo_within_1 rfl (lv_at hl 1 rfl) ?_
  refine lv_icmp_lt (tgt := 14) hx hb d_Mo_within_2 (by decide) (fun c_2 => ?_) (fun c_2 => ?_)
  · refine lv_iconst (v := 0) hx hb d_Mo_within_14 (by decide) ?_
    exact x_rz hE rfl (Or.inl rfl) hM hS ⟨(zBo_f (fun h9 => h9.1 c_2)).symm, rfl⟩ (by decide) (by decide) d_Mo_within_15
  · refine lv_iload_n hx hb d_Mo_within_5 rfl (lv_at hl 0 rfl) ?_
    refine lv_iload_n hx hb d_Mo_within_6 rfl (lv_at hl 2 rfl) ?_
    refine lv_icmp_gt (tgt := 14) hx hb d_Mo_within_7 (by decide) (fun c_7 => ?_) (fun c_7 => ?_)
    · refine lv_iconst (v := 0) hx hb d_Mo_within_14 (by decide) ?_
      exact x_rz hE rfl (Or.inl rfl) hM hS ⟨(zBo_f (fun h9 => h9.2 c_7)).symm, rfl⟩ (by decide) (by decide) d_Mo_within_15
    · refine lv_iconst (v := 1) hx hb d_Mo_within_10 (by decide) ?_
      refine lv_goto (tgt := 15) hx hb d_Mo_within_11 (by decide) ?_
      exact x_rz hE rfl (Or.inr rfl) hM hS ⟨(zBo_t ⟨c_2, c_7⟩).symm, rfl⟩ (by decide) (by decide) d_Mo_within_15

set_option maxHeartbeats 4000000 in
set_option maxRecDepth 100000 in
theorem c_Mo_thrown (l : Launch) (G : xG) (M : xM) (ad : Nat → Nat) (u : zS) (th : Int32) (q : z5) (ho : M (ad 100) = some (100, eMo ad u th q))  : Met l y_Mo_thrown w_Mo_thrown ({ frames := 0, cells := 0, slots := 0, locals := 0 }) (xP G [.ref (ad 100)] M) (xQi G (fun v M' => v = th ∧ M' = M)) 0 0 (xF G) := by
  refine x_met (by decide) (Nat.le_of_ble_eq_true rfl) ?_
  intro p e s m below meth c ls hE hin hl hM hK hS
  obtain ⟨hx, hb, hr, hml, hown, hw, hlocks⟩ := id hE
  have hl : lv_has ls 1 [(0, .ref (ad 100))] := hl
  refine lv_aload_n hx hb d_Mo_thrown_0 rfl (lv_at hl 0 rfl) ?_
  refine x_get (C := R_Mo) (T := F_Mo) (N := 20) hx hb hw i_Mo hown hK.1 hM ho rfl 0 (by decide) (hw _ kw_523) rfl rfl d_Mo_thrown_1 ?_
  exact x_ri hE rfl hM hS ⟨rfl, rfl⟩ (by omega) (by omega) d_Mo_thrown_4

set_option maxHeartbeats 4000000 in
set_option maxRecDepth 100000 in
theorem c_Mo_goes (l : Launch) (G : xG) (M : xM) (ad : Nat → Nat) (u : zS) (th : Int32) (q : z5) (ho : M (ad 100) = some (100, eMo ad u th q)) (a b d : Int32) : Met l y_Mo_goes w_Mo_goes ({ frames := 0, cells := 0, slots := 0, locals := 0 }) (xP G [.ref (ad 100), .int a, .int b, .int d] M) (xQi G (fun v M' => v = zBo (zGo a b d = 0) ∧ M' = va_up M (ad 100) (some (100, eMo ad u (zGo a b d) q)))) 0 0 (xF G) := by
  refine x_met (by decide) (Nat.le_of_ble_eq_true rfl) ?_
  intro p e s m below meth c ls hE hin hl hM hK hS
  obtain ⟨hx, hb, hr, hml, hown, hw, hlocks⟩ := id hE
  have hl : lv_has ls 4 [(0, .ref (ad 100)), (1, .int a), (2, .int b), (3, .int d)] := hl
  refine lv_aload_n hx hb d_Mo_goes_0 rfl (lv_at hl 0 rfl) ?_
  refine x_cut (ls := ls) 26 [.ref (ad 100)] (fun v => v = zGo a b d) (fun tv h_tv => ?_) (fun hj => ?_)
  · subst h_tv
    refine x_put (C := R_Mo) (T := F_Mo) (N := 20) (ty := .int) (v := .int (zGo a b d)) hx hb hw i_Mo t_Mo t_Mo_ok n_Mo hown hK.1 hM hS ho rfl 0 (by decide) (hw _ kw_523) rfl rfl (by decide +kernel) rfl rfl (Nat.le_of_ble_eq_true rfl) d_Mo_goes_26 (fun H locs hM hS hz => ?_)
    have hM : xh G (va_up M (ad 100) (some (100, .inr (5, [.int (zGo a b d), .int (nI (zpn u)), .ref (ad 101), .int (nI (zrn u)), .ref (ad 102), .ref (ad 103), .ref (ad 104), .int (nI (zmn u)), .ref (ad 105), .ref (ad 106), .ref (ad 107), .ref (ad 108), .int q.1, .int q.2.1, .int q.2.2.1, .int q.2.2.2.1, .int q.2.2.2.2, .ref (ad 109), .ref (ad 110), .ref (ad 111)])))) H := hM
    obtain ⟨M_1, eM_1⟩ : ∃ z : xM, z = va_up M (ad 100) (some (100, .inr (5, [.int (zGo a b d), .int (nI (zpn u)), .ref (ad 101), .int (nI (zrn u)), .ref (ad 102), .ref (ad 103), .ref (ad 104), .int (nI (zmn u)), .ref (ad 105), .ref (ad 106), .ref (ad 107), .ref (ad 108), .int q.1, .int q.2.1, .int q.2.2.1, .int q.2.2.2.1, .int q.2.2.2.2, .ref (ad 109), .ref (ad 110), .ref (ad 111)]))) := ⟨_, rfl⟩
    rw [← eM_1] at hM
    have ho := xw_atE eM_1
    refine lv_aload_n hx hb d_Mo_goes_29 rfl (lv_at hl 0 rfl) ?_
    refine x_get (C := R_Mo) (T := F_Mo) (N := 20) hx hb hw i_Mo hown hK.1 hM ho rfl 0 (by decide) (hw _ kw_523) rfl rfl d_Mo_goes_30 ?_
    refine lv_if_ne (tgt := 40) hx hb d_Mo_goes_33 (by decide) (fun c_33 => ?_) (fun c_33 => ?_)
    · refine lv_iconst (v := 0) hx hb d_Mo_goes_40 (by decide) ?_
      exact x_rz hE rfl (Or.inl rfl) hM hS ⟨(zBo_f c_33).symm, eM_1⟩ (by decide) (by decide) d_Mo_goes_41
    · refine lv_iconst (v := 1) hx hb d_Mo_goes_36 (by decide) ?_
      refine lv_goto (tgt := 41) hx hb d_Mo_goes_37 (by decide) ?_
      exact x_rz hE rfl (Or.inr rfl) hM hS ⟨(zBo_t c_33).symm, eM_1⟩ (by decide) (by decide) d_Mo_goes_41
  · refine lv_iload_n hx hb d_Mo_goes_1 rfl (lv_at hl 1 rfl) ?_
    refine lv_if_ne (tgt := 9) hx hb d_Mo_goes_2 (by decide) (fun c_2 => ?_) (fun c_2 => ?_)
    · refine lv_iload_n hx hb d_Mo_goes_9 rfl (lv_at hl 2 rfl) ?_
      refine lv_if_ne (tgt := 17) hx hb d_Mo_goes_10 (by decide) (fun c_10 => ?_) (fun c_10 => ?_)
      · refine lv_iload_n hx hb d_Mo_goes_17 rfl (lv_at hl 3 rfl) ?_
        refine lv_if_ne (tgt := 25) hx hb d_Mo_goes_18 (by decide) (fun c_18 => ?_) (fun c_18 => ?_)
        · refine lv_iconst (v := 0) hx hb d_Mo_goes_25 (by decide) ?_
          exact hj _ (by unfold zGo; rw [if_neg c_2, if_neg c_10, if_neg c_18])
        · refine lv_iconst (v := 3) hx hb d_Mo_goes_21 (by decide) ?_
          refine lv_goto (tgt := 26) hx hb d_Mo_goes_22 (by decide) ?_
          exact hj _ (by unfold zGo; rw [if_neg c_2, if_neg c_10, if_pos c_18])
      · refine lv_iconst (v := 2) hx hb d_Mo_goes_13 (by decide) ?_
        refine lv_goto (tgt := 26) hx hb d_Mo_goes_14 (by decide) ?_
        exact hj _ (by unfold zGo; rw [if_neg c_2, if_pos c_10])
    · refine lv_iconst (v := 1) hx hb d_Mo_goes_5 (by decide) ?_
      refine lv_goto (tgt := 26) hx hb d_Mo_goes_6 (by decide) ?_
      exact hj _ (by unfold zGo; rw [if_pos c_2])

set_option maxHeartbeats 4000000 in
set_option maxRecDepth 100000 in
theorem c_Mo_isSeries (l : Launch) (G : xG) (M : xM) (ad : Nat → Nat) (u : zS) (th : Int32) (q : z5) (ho : M (ad 100) = some (100, eMo ad u th q)) (hO : zOk u) (x : Int32) : Met l y_Mo_isSeries w_Mo_isSeries ({ frames := 1, cells := 0, slots := 0, locals := 40 }) (xP G [.ref (ad 100), .int x] M) (xQi G (fun v M' => v = zBo (zIn x (zrn u)) ∧ M' = M)) 0 0 (xF G) := by
  refine x_met (by decide) (Nat.le_of_ble_eq_true rfl) ?_
  intro p e s m below meth c ls hE hin hl hM hK hS
  obtain ⟨hx, hb, hr, hml, hown, hw, hlocks⟩ := id hE
  have hl : lv_has ls 2 [(0, .ref (ad 100)), (1, .int x)] := hl
  refine lv_iload_n hx hb d_Mo_isSeries_0 rfl (lv_at hl 1 rfl) ?_
  refine lv_iconst (v := 0) hx hb d_Mo_isSeries_1 (by decide) ?_
  refine lv_aload_n hx hb d_Mo_isSeries_2 rfl (lv_at hl 0 rfl) ?_
  refine x_get (C := R_Mo) (T := F_Mo) (N := 20) hx hb hw i_Mo hown hK.1 hM ho rfl 3 (by decide) (hw _ kw_526) rfl rfl d_Mo_isSeries_3 ?_
  refine lv_iconst (v := 1) hx hb d_Mo_isSeries_6 (by decide) ?_
  refine lv_isub hx hb d_Mo_isSeries_7 ?_
  refine x_ci (x_runS (As := [.int x, .int 0, .int ((nI (zrn u)) - 1)]) (rest := []) hE hK hM hl.1 (c_Mo_within l G M x 0 (nI (zrn u) - 1)) kw_592 kw_593 kw_4 kw_594 3 rfl rfl rfl (by decide +kernel) ⟨by decide, by decide⟩ rfl (Nat.le_of_ble_eq_true rfl) d_Mo_isSeries_8 ⟨by decide, by decide⟩) hS (fun r1 M1 H locs hp hM hS => ?_)
  obtain ⟨e_r, e_M⟩ := hp
  have hM : xh G M H := e_M ▸ hM
  have h_e : zBo (¬ x < 0 ∧ ¬ nI (zrn u) - 1 < x) = zBo (zIn x (zrn u)) := by unfold zBo; simp only [z_pred (n := zrn u) (by have := hO.2.2.1; omega)]
  exact x_rz hE rfl (by rw [e_r]; unfold zBo; split; exact Or.inr rfl; exact Or.inl rfl) hM hS ⟨e_r.trans h_e, rfl⟩ (by decide) (by decide) d_Mo_isSeries_11

set_option maxHeartbeats 4000000 in
set_option maxRecDepth 100000 in
theorem c_Mo_isMaster (l : Launch) (G : xG) (M : xM) (ad : Nat → Nat) (u : zS) (th : Int32) (q : z5) (ho : M (ad 100) = some (100, eMo ad u th q)) (hO : zOk u) (x : Int32) : Met l y_Mo_isMaster w_Mo_isMaster ({ frames := 1, cells := 0, slots := 0, locals := 40 }) (xP G [.ref (ad 100), .int x] M) (xQi G (fun v M' => v = zBo (zIn x (zmn u)) ∧ M' = M)) 0 0 (xF G) := by
  refine x_met (by decide) (Nat.le_of_ble_eq_true rfl) ?_
  intro p e s m below meth c ls hE hin hl hM hK hS
  obtain ⟨hx, hb, hr, hml, hown, hw, hlocks⟩ := id hE
  have hl : lv_has ls 2 [(0, .ref (ad 100)), (1, .int x)] := hl
  refine lv_iload_n hx hb d_Mo_isMaster_0 rfl (lv_at hl 1 rfl) ?_
  refine lv_iconst (v := 0) hx hb d_Mo_isMaster_1 (by decide) ?_
  refine lv_aload_n hx hb d_Mo_isMaster_2 rfl (lv_at hl 0 rfl) ?_
  refine x_get (C := R_Mo) (T := F_Mo) (N := 20) hx hb hw i_Mo hown hK.1 hM ho rfl 7 (by decide) (hw _ kw_530) rfl rfl d_Mo_isMaster_3 ?_
  refine lv_iconst (v := 1) hx hb d_Mo_isMaster_6 (by decide) ?_
  refine lv_isub hx hb d_Mo_isMaster_7 ?_
  refine x_ci (x_runS (As := [.int x, .int 0, .int ((nI (zmn u)) - 1)]) (rest := []) hE hK hM hl.1 (c_Mo_within l G M x 0 (nI (zmn u) - 1)) kw_592 kw_593 kw_4 kw_594 3 rfl rfl rfl (by decide +kernel) ⟨by decide, by decide⟩ rfl (Nat.le_of_ble_eq_true rfl) d_Mo_isMaster_8 ⟨by decide, by decide⟩) hS (fun r1 M1 H locs hp hM hS => ?_)
  obtain ⟨e_r, e_M⟩ := hp
  have hM : xh G M H := e_M ▸ hM
  have h_e : zBo (¬ x < 0 ∧ ¬ nI (zmn u) - 1 < x) = zBo (zIn x (zmn u)) := by unfold zBo; simp only [z_pred (n := zmn u) (by have := hO.2.2.2.2.1; omega)]
  exact x_rz hE rfl (by rw [e_r]; unfold zBo; split; exact Or.inr rfl; exact Or.inl rfl) hM hS ⟨e_r.trans h_e, rfl⟩ (by decide) (by decide) d_Mo_isMaster_11

set_option maxHeartbeats 4000000 in
set_option maxRecDepth 100000 in
theorem c_Mo_isLeast (l : Launch) (G : xG) (M : xM) (x : Int32) : Met l y_Mo_isLeast w_Mo_isLeast ({ frames := 1, cells := 0, slots := 0, locals := 40 }) (xP G [.int x] M) (xQi G (fun v M' => v = zBo (zLe x) ∧ M' = M)) 0 0 (xF G) := by
  refine x_met (by decide) (Nat.le_of_ble_eq_true rfl) ?_
  intro p e s m below meth c ls hE hin hl hM hK hS
  obtain ⟨hx, hb, hr, hml, hown, hw, hlocks⟩ := id hE
  have hl : lv_has ls 1 [(0, .int x)] := hl
  refine lv_iload_n hx hb d_Mo_isLeast_0 rfl (lv_at hl 0 rfl) ?_
  refine lv_iconst (v := 2) hx hb d_Mo_isLeast_1 (by decide) ?_
  refine lv_bipush (v := 30) hx hb d_Mo_isLeast_2 (by decide) ?_
  refine x_ci (x_runS (As := [.int x, .int 2, .int 30]) (rest := []) hE hK hM hl.1 (c_Mo_within l G M x 2 30) kw_592 kw_593 kw_4 kw_594 3 rfl rfl rfl (by decide +kernel) ⟨by decide, by decide⟩ rfl (Nat.le_of_ble_eq_true rfl) d_Mo_isLeast_4 ⟨by decide, by decide⟩) hS (fun r1 M1 H locs hp hM hS => ?_)
  obtain ⟨e_r, e_M⟩ := hp
  have hM : xh G M H := e_M ▸ hM
  exact x_rz hE rfl (by rw [e_r]; unfold zBo; split; exact Or.inr rfl; exact Or.inl rfl) hM hS ⟨e_r, rfl⟩ (by decide) (by decide) d_Mo_isLeast_7

set_option maxHeartbeats 4000000 in
set_option maxRecDepth 100000 in
theorem c_Mo_isLess (l : Launch) (G : xG) (M : xM) (sa na sb nb : Int32) : Met l y_Mo_isLess w_Mo_isLess ({ frames := 0, cells := 0, slots := 0, locals := 0 }) (xP G [.int sa, .int na, .int sb, .int nb] M) (xQi G (fun v M' => v = zBo (zLess sa na sb nb) ∧ M' = M)) 0 0 (xF G) := by
  refine x_met (by decide) (Nat.le_of_ble_eq_true rfl) ?_
  intro p e s m below meth c ls hE hin hl hM hK hS
  obtain ⟨hx, hb, hr, hml, hown, hw, hlocks⟩ := id hE
  have hl : lv_has ls 6 [(0, .int sa), (1, .int na), (2, .int sb), (3, .int nb)] := hl
  refine lv_iload_n hx hb d_Mo_isLess_0 rfl (lv_at hl 0 rfl) ?_
  refine lv_iload_n hx hb d_Mo_isLess_1 rfl (lv_at hl 3 rfl) ?_
  refine lv_imul hx hb d_Mo_isLess_2 ?_
  refine lv_istore (lv' := [(4, .int (sa * nb)), (0, .int sa), (1, .int na), (2, .int sb), (3, .int nb)]) hx hb d_Mo_isLess_3 hl (by decide) rfl (fun ls hl => ?_)
  refine lv_iload_n hx hb d_Mo_isLess_5 rfl (lv_at hl 3 rfl) ?_
  refine lv_iload_n hx hb d_Mo_isLess_6 rfl (lv_at hl 2 rfl) ?_
  refine lv_imul hx hb d_Mo_isLess_7 ?_
  refine lv_istore (lv' := [(5, .int (sb * na)), (4, .int (sa * nb)), (0, .int sa), (1, .int na), (2, .int sb), (3, .int nb)]) hx hb d_Mo_isLess_8 hl (by decide) rfl (fun ls hl => ?_)
  refine lv_iload hx hb d_Mo_isLess_10 (lv_at hl 1 rfl) ?_
  refine lv_iload hx hb d_Mo_isLess_12 (lv_at hl 0 rfl) ?_
  refine lv_icmp_eq (tgt := 32) hx hb d_Mo_isLess_14 (by decide) (fun c_14 => ?_) (fun c_14 => ?_)
  · refine lv_iload_n hx hb d_Mo_isLess_32 rfl (lv_at hl 3 rfl) ?_
    refine lv_iload_n hx hb d_Mo_isLess_33 rfl (lv_at hl 5 rfl) ?_
    refine lv_icmp_le (tgt := 41) hx hb d_Mo_isLess_34 (by decide) (fun c_34 => ?_) (fun c_34 => ?_)
    · refine lv_iconst (v := 0) hx hb d_Mo_isLess_41 (by decide) ?_
      exact x_rz hE rfl (Or.inl rfl) hM hS ⟨(zBo_f (fun h9 => h9.elim (fun h8 => by rw [c_14] at h8; exact Int32.lt_irrefl h8) (fun h8 => z_nlt c_34 h8.2))).symm, rfl⟩ (by decide) (by decide) d_Mo_isLess_42
    · refine lv_iconst (v := 1) hx hb d_Mo_isLess_37 (by decide) ?_
      refine lv_goto (tgt := 42) hx hb d_Mo_isLess_38 (by decide) ?_
      exact x_rz hE rfl (Or.inr rfl) hM hS ⟨(zBo_t (Or.inr ⟨c_14, Int32.not_le.mp c_34⟩)).symm, rfl⟩ (by decide) (by decide) d_Mo_isLess_42
  · refine lv_iload hx hb d_Mo_isLess_17 (lv_at hl 1 rfl) ?_
    refine lv_iload hx hb d_Mo_isLess_19 (lv_at hl 0 rfl) ?_
    refine lv_icmp_ge (tgt := 28) hx hb d_Mo_isLess_21 (by decide) (fun c_21 => ?_) (fun c_21 => ?_)
    · refine lv_iconst (v := 0) hx hb d_Mo_isLess_28 (by decide) ?_
      refine lv_goto (tgt := 42) hx hb d_Mo_isLess_29 (by decide) ?_
      exact x_rz hE rfl (Or.inl rfl) hM hS ⟨(zBo_f (fun h9 => h9.elim (z_nlt c_21) (fun h8 => c_14 h8.1))).symm, rfl⟩ (by decide) (by decide) d_Mo_isLess_42
    · refine lv_iconst (v := 1) hx hb d_Mo_isLess_24 (by decide) ?_
      refine lv_goto (tgt := 42) hx hb d_Mo_isLess_25 (by decide) ?_
      exact x_rz hE rfl (Or.inr rfl) hM hS ⟨(zBo_t (Or.inl (Int32.not_le.mp c_21))).symm, rfl⟩ (by decide) (by decide) d_Mo_isLess_42

set_option maxHeartbeats 4000000 in
set_option maxRecDepth 100000 in
theorem c_Mo_even (l : Launch) (G : xG) (M : xM) (ad : Nat → Nat) (u : zS) (th : Int32) (q : z5) (ho : M (ad 100) = some (100, eMo ad u th q)) (X : zX) (hA : MoA G M ad X) (hX : MoR u X) (hO : zOk u) (i : Nat) (hi : i < zrn u) (k : Nat) (hk : k < zln u i) : Met l y_Mo_even w_Mo_even ({ frames := 0, cells := 0, slots := 0, locals := 0 }) (xP G [.ref (ad 100), .int (nI i), .int (nI k)] M) (xQi G (fun v M' => v = zev u i k ∧ M' = M)) 0 0 (xF G) := by
  refine x_met (by decide) (Nat.le_of_ble_eq_true rfl) ?_
  intro p e s m below meth c ls hE hin hl hM hK hS
  obtain ⟨hx, hb, hr, hml, hown, hw, hlocks⟩ := id hE
  have hl : lv_has ls 3 [(0, .ref (ad 100)), (1, .int (nI i)), (2, .int (nI k))] := hl
  refine lv_aload_n hx hb d_Mo_even_0 rfl (lv_at hl 0 rfl) ?_
  refine x_get (C := R_Mo) (T := F_Mo) (N := 20) hx hb hw i_Mo hown hK.1 hM ho rfl 5 (by decide) (hw _ kw_528) rfl rfl d_Mo_even_1 ?_
  refine lv_bipush (v := 30) hx hb d_Mo_even_4 (by decide) ?_
  refine lv_iload_n hx hb d_Mo_even_6 rfl (lv_at hl 1 rfl) ?_
  refine lv_imul hx hb d_Mo_even_7 ?_
  refine lv_iload_n hx hb d_Mo_even_8 rfl (lv_at hl 2 rfl) ?_
  refine lv_iadd hx hb d_Mo_even_9 ?_
  refine x_iald hx hb hK.1 hM hA.2.2.1 0 rfl (z_i30 i k) (by have := (hO.2.2.2.1 i hi).2.1; have := hO.2.2.1; omega) (by decide) d_Mo_even_10 ?_
  exact x_ri hE rfl hM hS ⟨(hX.2.1 i hi).2.1 k hk, rfl⟩ (by omega) (by omega) d_Mo_even_11
