set_option maxHeartbeats 4000000 in
set_option maxRecDepth 100000 in
theorem c_Gap_clear (l : Launch) (G : xG) (M : xM) (g r : Nat) (s0 n0 : Int32) (hg : M g = some (r, .inr (0, [.int s0, .int n0]))) : Met l y_Gap_clear w_Gap_clear ({ frames := 0, cells := 0, slots := 0, locals := 0 }) (xP G [.ref g] M) (xQv G (fun M' => M' = va_up M g (some (r, .inr (0, [.int 0, .int 0]))))) 0 0 (xF G) := by
  refine x_met (by decide) (Nat.le_of_ble_eq_true rfl) ?_
  intro p e s m below meth c ls hE hin hl hM hK hS
  obtain ⟨hx, hb, hr, hml, hown, hw, hlocks⟩ := id hE
  have hl : lv_has ls 1 [(0, .ref g)] := hl
  refine lv_aload_n hx hb d_Gap_clear_0 rfl (lv_at hl 0 rfl) ?_
  refine lv_iconst (v := 0) hx hb d_Gap_clear_1 (by decide) ?_
  refine x_put (C := R_Gap) (T := F_Gap) (N := 2) (ty := .int) (v := .int 0) hx hb hw i_Gap t_Gap t_Gap_ok n_Gap hown hK.1 hM hS hg rfl 0 (by decide) (hw _ kw_55) rfl rfl (by decide +kernel) rfl rfl (Nat.le_of_ble_eq_true rfl) d_Gap_clear_2 (fun H locs hM hS hz => ?_)
  have hM : xh G (va_up M g (some (r, .inr (0, [.int 0, .int n0])))) H := hM
  obtain ⟨M_1, eM_1⟩ : ∃ z : xM, z = va_up M g (some (r, .inr (0, [.int 0, .int n0]))) := ⟨_, rfl⟩
  rw [← eM_1] at hM
  have hg := xw_atE eM_1
  refine lv_aload_n hx hb d_Gap_clear_5 rfl (lv_at hl 0 rfl) ?_
  refine lv_iconst (v := 0) hx hb d_Gap_clear_6 (by decide) ?_
  refine x_put (C := R_Gap) (T := F_Gap) (N := 2) (ty := .int) (v := .int 0) hx hb hw i_Gap t_Gap t_Gap_ok n_Gap hown hK.1 hM hS hg rfl 1 (by decide) (hw _ kw_57) rfl rfl (by decide +kernel) rfl rfl (Nat.le_of_ble_eq_true rfl) d_Gap_clear_7 (fun H locs hM hS hz => ?_)
  have hM : xh G (va_up M_1 g (some (r, .inr (0, [.int 0, .int 0])))) H := hM
  obtain ⟨M_2, eM_2⟩ : ∃ z : xM, z = va_up M_1 g (some (r, .inr (0, [.int 0, .int 0]))) := ⟨_, rfl⟩
  rw [← eM_2] at hM
  have hg := xw_atE eM_2
  exact x_rv hE rfl hM hS (by rw [eM_2, eM_1]; exact bx_uu _ _ _ _) (by omega) (by omega) d_Gap_clear_10

set_option maxHeartbeats 4000000 in
set_option maxRecDepth 100000 in
theorem c_Gap_init (l : Launch) (G : xG) (M : xM) (g : Nat) : Met l y_Gap_init w_Gap_init ({ frames := 1, cells := 0, slots := 0, locals := 12 }) (xP G [.ref g] M) (xQv G (fun M' => M' = M)) 0 0 (xF G) := by
  refine x_met (by decide) (Nat.le_of_ble_eq_true rfl) ?_
  intro p e s m below meth c ls hE hin hl hM hK hS
  obtain ⟨hx, hb, hr, hml, hown, hw, hlocks⟩ := id hE
  have hl : lv_has ls 1 [(0, .ref g)] := hl
  refine lv_aload_n hx hb d_Gap_init_0 rfl (lv_at hl 0 rfl) ?_
  refine W.objInit hx hb hown (hw _ kw_54) (hw _ kw_22) (hw _ kw_23) rfl (by rw [hml]; exact hl.1) rfl d_Gap_init_1 (Nat.le_of_ble_eq_true rfl) (Nat.le_of_ble_eq_true rfl) ?_
  refine W.eq (g2 := F0 m 4 ls []) rfl ?_
  exact x_rv hE rfl hM hS rfl (by omega) (by omega) d_Gap_init_4

set_option maxHeartbeats 4000000 in
set_option maxRecDepth 100000 in
theorem c_Rob_init (l : Launch) (G : xG) (M : xM) (g : Nat) : Met l y_Rob_init w_Rob_init ({ frames := 1, cells := 0, slots := 0, locals := 12 }) (xP G [.ref g] M) (xQv G (fun M' => M' = M)) 0 0 (xF G) := by
  refine x_met (by decide) (Nat.le_of_ble_eq_true rfl) ?_
  intro p e s m below meth c ls hE hin hl hM hK hS
  obtain ⟨hx, hb, hr, hml, hown, hw, hlocks⟩ := id hE
  have hl : lv_has ls 1 [(0, .ref g)] := hl
  refine lv_aload_n hx hb d_Rob_init_0 rfl (lv_at hl 0 rfl) ?_
  refine W.objInit hx hb hown (hw _ kw_33) (hw _ kw_22) (hw _ kw_23) rfl (by rw [hml]; exact hl.1) rfl d_Rob_init_1 (Nat.le_of_ble_eq_true rfl) (Nat.le_of_ble_eq_true rfl) ?_
  refine W.eq (g2 := F0 m 4 ls []) rfl ?_
  exact x_rv hE rfl hM hS rfl (by omega) (by omega) d_Rob_init_4

set_option maxHeartbeats 4000000 in
set_option maxRecDepth 100000 in
theorem c_Gap_add (l : Launch) (G : xG) (M : xM) (g r : Nat) (s0 n0 : Int32) (hg : M g = some (r, .inr (0, [.int s0, .int n0]))) (x1 x2 : Int32) : Met l y_Gap_add w_Gap_add ({ frames := 1, cells := 0, slots := 0, locals := 20 }) (xP G [.ref g, .int x1, .int x2] M) (xQv G (fun M' => M' = va_up M g (some (r, .inr (0, [.int (s0 + zAbs (x1 - x2)), .int (n0 + 1)]))))) 0 0 (xF G) := by
  refine x_met (by decide) (Nat.le_of_ble_eq_true rfl) ?_
  intro p e s m below meth c ls hE hin hl hM hK hS
  obtain ⟨hx, hb, hr, hml, hown, hw, hlocks⟩ := id hE
  have hl : lv_has ls 3 [(0, .ref g), (1, .int x1), (2, .int x2)] := hl
  refine lv_aload_n hx hb d_Gap_add_0 rfl (lv_at hl 0 rfl) ?_
  refine lv_dup hx hb d_Gap_add_1 rfl ?_
  refine x_get (C := R_Gap) (T := F_Gap) (N := 2) hx hb hw i_Gap hown hK.1 hM hg rfl 0 (by decide) (hw _ kw_55) rfl rfl d_Gap_add_2 ?_
  refine lv_iload_n hx hb d_Gap_add_5 rfl (lv_at hl 1 rfl) ?_
  refine lv_iload_n hx hb d_Gap_add_6 rfl (lv_at hl 2 rfl) ?_
  refine lv_isub hx hb d_Gap_add_7 ?_
  refine va_mabs hx hb (hml.trans hl.1.symm) hown (hw _ kw_412) (hw _ kJ_abs') (hw _ kJ_M) (hw _ kJ_abs) (by decide) (Nat.le_of_ble_eq_true rfl) (by omega) (by omega) d_Gap_add_8 ?_
  refine W.eq (g2 := F0 m 11 ls [.int (zAbs (x1 - x2)), .int s0, .ref g]) rfl ?_
  refine lv_iadd hx hb d_Gap_add_11 ?_
  refine x_put (C := R_Gap) (T := F_Gap) (N := 2) (ty := .int) (v := .int (s0 + (zAbs (x1 - x2)))) hx hb hw i_Gap t_Gap t_Gap_ok n_Gap hown hK.1 hM hS hg rfl 0 (by decide) (hw _ kw_55) rfl rfl (by decide +kernel) rfl rfl (Nat.le_of_ble_eq_true rfl) d_Gap_add_12 (fun H locs hM hS hz => ?_)
  have hM : xh G (va_up M g (some (r, .inr (0, [.int (s0 + (zAbs (x1 - x2))), .int n0])))) H := hM
  obtain ⟨M_1, eM_1⟩ : ∃ z : xM, z = va_up M g (some (r, .inr (0, [.int (s0 + (zAbs (x1 - x2))), .int n0]))) := ⟨_, rfl⟩
  rw [← eM_1] at hM
  have hg := xw_atE eM_1
  refine lv_aload_n hx hb d_Gap_add_15 rfl (lv_at hl 0 rfl) ?_
  refine lv_dup hx hb d_Gap_add_16 rfl ?_
  refine x_get (C := R_Gap) (T := F_Gap) (N := 2) hx hb hw i_Gap hown hK.1 hM hg rfl 1 (by decide) (hw _ kw_57) rfl rfl d_Gap_add_17 ?_
  refine lv_iconst (v := 1) hx hb d_Gap_add_20 (by decide) ?_
  refine lv_iadd hx hb d_Gap_add_21 ?_
  refine x_put (C := R_Gap) (T := F_Gap) (N := 2) (ty := .int) (v := .int (n0 + 1)) hx hb hw i_Gap t_Gap t_Gap_ok n_Gap hown hK.1 hM hS hg rfl 1 (by decide) (hw _ kw_57) rfl rfl (by decide +kernel) rfl rfl (Nat.le_of_ble_eq_true rfl) d_Gap_add_22 (fun H locs hM hS hz => ?_)
  have hM : xh G (va_up M_1 g (some (r, .inr (0, [.int (s0 + (zAbs (x1 - x2))), .int (n0 + 1)])))) H := hM
  obtain ⟨M_2, eM_2⟩ : ∃ z : xM, z = va_up M_1 g (some (r, .inr (0, [.int (s0 + (zAbs (x1 - x2))), .int (n0 + 1)]))) := ⟨_, rfl⟩
  rw [← eM_2] at hM
  have hg := xw_atE eM_2
  exact x_rv hE rfl hM hS (by rw [eM_2, eM_1]; exact bx_uu _ _ _ _) (by omega) (by omega) d_Gap_add_25

set_option maxHeartbeats 4000000 in
set_option maxRecDepth 100000 in
theorem c_Gap_become (l : Launch) (G : xG) (M : xM) (g r : Nat) (s0 n0 : Int32) (hg : M g = some (r, .inr (0, [.int s0, .int n0]))) (g2 r2 : Nat) (s2 n2 : Int32) (hg2 : M g2 = some (r2, .inr (0, [.int s2, .int n2]))) (hne : r2 ≠ r) : Met l y_Gap_become w_Gap_become ({ frames := 0, cells := 0, slots := 0, locals := 0 }) (xP G [.ref g, .ref g2] M) (xQv G (fun M' => M' = va_up M g (some (r, .inr (0, [.int s2, .int n2]))))) 0 0 (xF G) := by
  refine x_met (by decide) (Nat.le_of_ble_eq_true rfl) ?_
  intro p e s m below meth c ls hE hin hl hM hK hS
  obtain ⟨hx, hb, hr, hml, hown, hw, hlocks⟩ := id hE
  have hl : lv_has ls 2 [(0, .ref g), (1, .ref g2)] := hl
  refine lv_aload_n hx hb d_Gap_become_0 rfl (lv_at hl 0 rfl) ?_
  refine lv_aload_n hx hb d_Gap_become_1 rfl (lv_at hl 1 rfl) ?_
  refine x_get (C := R_Gap) (T := F_Gap) (N := 2) hx hb hw i_Gap hown hK.1 hM hg2 rfl 0 (by decide) (hw _ kw_55) rfl rfl d_Gap_become_2 ?_
  refine x_put (C := R_Gap) (T := F_Gap) (N := 2) (ty := .int) (v := .int s2) hx hb hw i_Gap t_Gap t_Gap_ok n_Gap hown hK.1 hM hS hg rfl 0 (by decide) (hw _ kw_55) rfl rfl (by decide +kernel) rfl rfl (Nat.le_of_ble_eq_true rfl) d_Gap_become_5 (fun H locs hM hS hz => ?_)
  have hM : xh G (va_up M g (some (r, .inr (0, [.int s2, .int n0])))) H := hM
  obtain ⟨M_1, eM_1⟩ : ∃ z : xM, z = va_up M g (some (r, .inr (0, [.int s2, .int n0]))) := ⟨_, rfl⟩
  rw [← eM_1] at hM
  have hg2 := xw_upE eM_1 hg2 hg (by omega)
  have hg := xw_atE eM_1
  refine lv_aload_n hx hb d_Gap_become_8 rfl (lv_at hl 0 rfl) ?_
  refine lv_aload_n hx hb d_Gap_become_9 rfl (lv_at hl 1 rfl) ?_
  refine x_get (C := R_Gap) (T := F_Gap) (N := 2) hx hb hw i_Gap hown hK.1 hM hg2 rfl 1 (by decide) (hw _ kw_57) rfl rfl d_Gap_become_10 ?_
  refine x_put (C := R_Gap) (T := F_Gap) (N := 2) (ty := .int) (v := .int n2) hx hb hw i_Gap t_Gap t_Gap_ok n_Gap hown hK.1 hM hS hg rfl 1 (by decide) (hw _ kw_57) rfl rfl (by decide +kernel) rfl rfl (Nat.le_of_ble_eq_true rfl) d_Gap_become_13 (fun H locs hM hS hz => ?_)
  have hM : xh G (va_up M_1 g (some (r, .inr (0, [.int s2, .int n2])))) H := hM
  obtain ⟨M_2, eM_2⟩ : ∃ z : xM, z = va_up M_1 g (some (r, .inr (0, [.int s2, .int n2]))) := ⟨_, rfl⟩
  rw [← eM_2] at hM
  have hg2 := xw_upE eM_2 hg2 hg (by omega)
  have hg := xw_atE eM_2
  exact x_rv hE rfl hM hS (by rw [eM_2, eM_1]; exact bx_uu _ _ _ _) (by omega) (by omega) d_Gap_become_16

set_option maxHeartbeats 4000000 in
set_option maxRecDepth 100000 in
theorem c_Gap_sumOrYears (l : Launch) (G : xG) (M : xM) (g r : Nat) (s0 n0 : Int32) (hg : M g = some (r, .inr (0, [.int s0, .int n0]))) (x1 : Int32) : Met l y_Gap_sumOrYears w_Gap_sumOrYears ({ frames := 0, cells := 0, slots := 0, locals := 0 }) (xP G [.ref g, .int x1] M) (xQi G (fun v M' => v = (if x1 = 0 then s0 else n0) ∧ M' = M)) 0 0 (xF G) := by
  refine x_met (by decide) (Nat.le_of_ble_eq_true rfl) ?_
  intro p e s m below meth c ls hE hin hl hM hK hS
  obtain ⟨hx, hb, hr, hml, hown, hw, hlocks⟩ := id hE
  have hl : lv_has ls 2 [(0, .ref g), (1, .int x1)] := hl
  refine lv_iload_n hx hb d_Gap_sumOrYears_0 rfl (lv_at hl 1 rfl) ?_
  refine lv_if_ne (tgt := 11) hx hb d_Gap_sumOrYears_1 (by decide) (fun c_1 => ?_) (fun c_1 => ?_)
  · refine lv_aload_n hx hb d_Gap_sumOrYears_11 rfl (lv_at hl 0 rfl) ?_
    refine x_get (C := R_Gap) (T := F_Gap) (N := 2) hx hb hw i_Gap hown hK.1 hM hg rfl 1 (by decide) (hw _ kw_57) rfl rfl d_Gap_sumOrYears_12 ?_
    exact x_ri hE rfl hM hS ⟨(if_neg c_1).symm, rfl⟩ (by omega) (by omega) d_Gap_sumOrYears_15
  · refine lv_aload_n hx hb d_Gap_sumOrYears_4 rfl (lv_at hl 0 rfl) ?_
    refine x_get (C := R_Gap) (T := F_Gap) (N := 2) hx hb hw i_Gap hown hK.1 hM hg rfl 0 (by decide) (hw _ kw_55) rfl rfl d_Gap_sumOrYears_5 ?_
    refine lv_goto (tgt := 15) hx hb d_Gap_sumOrYears_8 (by decide) ?_
    exact x_ri hE rfl hM hS ⟨(if_pos c_1).symm, rfl⟩ (by omega) (by omega) d_Gap_sumOrYears_15

set_option maxHeartbeats 4000000 in
set_option maxRecDepth 100000 in
theorem c_Gap_lessThan (l : Launch) (G : xG) (M : xM) (g r : Nat) (s0 n0 : Int32) (hg : M g = some (r, .inr (0, [.int s0, .int n0]))) (g2 r2 : Nat) (s2 n2 : Int32) (hg2 : M g2 = some (r2, .inr (0, [.int s2, .int n2]))) : Met l y_Gap_lessThan w_Gap_lessThan ({ frames := 0, cells := 0, slots := 0, locals := 0 }) (xP G [.ref g, .ref g2] M) (xQi G (fun v M' => v = (if zLess s0 n0 s2 n2 then 1 else 0) ∧ M' = M)) 0 0 (xF G) := by
  refine x_met (by decide) (Nat.le_of_ble_eq_true rfl) ?_
  intro p e s m below meth c ls hE hin hl hM hK hS
  obtain ⟨hx, hb, hr, hml, hown, hw, hlocks⟩ := id hE
  have hl : lv_has ls 4 [(0, .ref g), (1, .ref g2)] := hl
  refine lv_aload_n hx hb d_Gap_lessThan_0 rfl (lv_at hl 0 rfl) ?_
  refine x_get (C := R_Gap) (T := F_Gap) (N := 2) hx hb hw i_Gap hown hK.1 hM hg rfl 0 (by decide) (hw _ kw_55) rfl rfl d_Gap_lessThan_1 ?_
  refine lv_aload_n hx hb d_Gap_lessThan_4 rfl (lv_at hl 1 rfl) ?_
  refine x_get (C := R_Gap) (T := F_Gap) (N := 2) hx hb hw i_Gap hown hK.1 hM hg2 rfl 1 (by decide) (hw _ kw_57) rfl rfl d_Gap_lessThan_5 ?_
  refine lv_imul hx hb d_Gap_lessThan_8 ?_
  refine lv_istore_n (lv' := [(2, .int (s0 * n2)), (0, .ref g), (1, .ref g2)]) hx hb d_Gap_lessThan_9 rfl hl (by decide) rfl (fun ls hl => ?_)
  refine lv_aload_n hx hb d_Gap_lessThan_10 rfl (lv_at hl 2 rfl) ?_
  refine x_get (C := R_Gap) (T := F_Gap) (N := 2) hx hb hw i_Gap hown hK.1 hM hg2 rfl 0 (by decide) (hw _ kw_55) rfl rfl d_Gap_lessThan_11 ?_
  refine lv_aload_n hx hb d_Gap_lessThan_14 rfl (lv_at hl 1 rfl) ?_
  refine x_get (C := R_Gap) (T := F_Gap) (N := 2) hx hb hw i_Gap hown hK.1 hM hg rfl 1 (by decide) (hw _ kw_57) rfl rfl d_Gap_lessThan_15 ?_
  refine lv_imul hx hb d_Gap_lessThan_18 ?_
  refine lv_istore_n (lv' := [(3, .int (s2 * n0)), (2, .int (s0 * n2)), (0, .ref g), (1, .ref g2)]) hx hb d_Gap_lessThan_19 rfl hl (by decide) rfl (fun ls hl => ?_)
  refine lv_iload_n hx hb d_Gap_lessThan_20 rfl (lv_at hl 1 rfl) ?_
  refine lv_iload_n hx hb d_Gap_lessThan_21 rfl (lv_at hl 0 rfl) ?_
  refine lv_icmp_lt (tgt := 41) hx hb d_Gap_lessThan_22 (by decide) (fun c_22 => ?_) (fun c_22 => ?_)
  · refine lv_iconst (v := 1) hx hb d_Gap_lessThan_41 (by decide) ?_
    refine lv_goto (tgt := 46) hx hb d_Gap_lessThan_42 (by decide) ?_
    exact x_rz hE rfl (Or.inr rfl) hM hS ⟨(if_pos (Or.inl c_22)).symm, rfl⟩ (by omega) (by omega) d_Gap_lessThan_46
  · refine lv_iload_n hx hb d_Gap_lessThan_25 rfl (lv_at hl 1 rfl) ?_
    refine lv_iload_n hx hb d_Gap_lessThan_26 rfl (lv_at hl 0 rfl) ?_
    refine lv_icmp_ne (tgt := 45) hx hb d_Gap_lessThan_27 (by decide) (fun c_27 => ?_) (fun c_27 => ?_)
    · refine lv_iconst (v := 0) hx hb d_Gap_lessThan_45 (by decide) ?_
      exact x_rz hE rfl (Or.inl rfl) hM hS ⟨(if_neg (fun h9 => h9.elim c_22 (fun h8 => c_27 h8.1))).symm, rfl⟩ (by omega) (by omega) d_Gap_lessThan_46
    · refine lv_aload_n hx hb d_Gap_lessThan_30 rfl (lv_at hl 2 rfl) ?_
      refine x_get (C := R_Gap) (T := F_Gap) (N := 2) hx hb hw i_Gap hown hK.1 hM hg rfl 1 (by decide) (hw _ kw_57) rfl rfl d_Gap_lessThan_31 ?_
      refine lv_aload_n hx hb d_Gap_lessThan_34 rfl (lv_at hl 3 rfl) ?_
      refine x_get (C := R_Gap) (T := F_Gap) (N := 2) hx hb hw i_Gap hown hK.1 hM hg2 rfl 1 (by decide) (hw _ kw_57) rfl rfl d_Gap_lessThan_35 ?_
      refine lv_icmp_le (tgt := 45) hx hb d_Gap_lessThan_38 (by decide) (fun c_38 => ?_) (fun c_38 => ?_)
      · refine lv_iconst (v := 0) hx hb d_Gap_lessThan_45 (by decide) ?_
        exact x_rz hE rfl (Or.inl rfl) hM hS ⟨(if_neg (fun h9 => h9.elim c_22 (fun h8 => absurd h8.2 (by simp only [Int32.not_lt]; exact c_38)))).symm, rfl⟩ (by omega) (by omega) d_Gap_lessThan_46
      · refine lv_iconst (v := 1) hx hb d_Gap_lessThan_41 (by decide) ?_
        refine lv_goto (tgt := 46) hx hb d_Gap_lessThan_42 (by decide) ?_
        exact x_rz hE rfl (Or.inr rfl) hM hS ⟨(if_pos (Or.inr ⟨c_27, by have h9 := c_38; simp only [Int32.not_le] at h9; exact h9⟩)).symm, rfl⟩ (by omega) (by omega) d_Gap_lessThan_46

set_option maxHeartbeats 4000000 in
set_option maxRecDepth 100000 in
theorem c_Rob_clear (l : Launch) (G : xG) (M : xM) (g r : Nat) (t0 s0 lo hi : Int32) (hg : M g = some (r, .inr (1, [.int t0, .int s0, .int lo, .int hi]))) : Met l y_Rob_clear w_Rob_clear ({ frames := 0, cells := 0, slots := 0, locals := 0 }) (xP G [.ref g] M) (xQv G (fun M' => M' = va_up M g (some (r, .inr (1, [.int 0, .int 0, .int 0, .int 0]))))) 0 0 (xF G) := by
  refine x_met (by decide) (Nat.le_of_ble_eq_true rfl) ?_
  intro p e s m below meth c ls hE hin hl hM hK hS
  obtain ⟨hx, hb, hr, hml, hown, hw, hlocks⟩ := id hE
  have hl : lv_has ls 1 [(0, .ref g)] := hl
  refine lv_aload_n hx hb d_Rob_clear_0 rfl (lv_at hl 0 rfl) ?_
  refine lv_iconst (v := 0) hx hb d_Rob_clear_1 (by decide) ?_
  refine x_put (C := R_Rob) (T := F_Rob) (N := 4) (ty := .int) (v := .int 0) hx hb hw i_Rob t_Rob t_Rob_ok n_Rob hown hK.1 hM hS hg rfl 0 (by decide) (hw _ kw_34) rfl rfl (by decide +kernel) rfl rfl (Nat.le_of_ble_eq_true rfl) d_Rob_clear_2 (fun H locs hM hS hz => ?_)
  have hM : xh G (va_up M g (some (r, .inr (1, [.int 0, .int s0, .int lo, .int hi])))) H := hM
  obtain ⟨M_1, eM_1⟩ : ∃ z : xM, z = va_up M g (some (r, .inr (1, [.int 0, .int s0, .int lo, .int hi]))) := ⟨_, rfl⟩
  rw [← eM_1] at hM
  have hg := xw_atE eM_1
  refine lv_aload_n hx hb d_Rob_clear_5 rfl (lv_at hl 0 rfl) ?_
  refine lv_iconst (v := 0) hx hb d_Rob_clear_6 (by decide) ?_
  refine x_put (C := R_Rob) (T := F_Rob) (N := 4) (ty := .int) (v := .int 0) hx hb hw i_Rob t_Rob t_Rob_ok n_Rob hown hK.1 hM hS hg rfl 1 (by decide) (hw _ kw_36) rfl rfl (by decide +kernel) rfl rfl (Nat.le_of_ble_eq_true rfl) d_Rob_clear_7 (fun H locs hM hS hz => ?_)
  have hM : xh G (va_up M_1 g (some (r, .inr (1, [.int 0, .int 0, .int lo, .int hi])))) H := hM
  obtain ⟨M_2, eM_2⟩ : ∃ z : xM, z = va_up M_1 g (some (r, .inr (1, [.int 0, .int 0, .int lo, .int hi]))) := ⟨_, rfl⟩
  rw [← eM_2] at hM
  have hg := xw_atE eM_2
  refine lv_aload_n hx hb d_Rob_clear_10 rfl (lv_at hl 0 rfl) ?_
  refine lv_iconst (v := 0) hx hb d_Rob_clear_11 (by decide) ?_
  refine x_put (C := R_Rob) (T := F_Rob) (N := 4) (ty := .int) (v := .int 0) hx hb hw i_Rob t_Rob t_Rob_ok n_Rob hown hK.1 hM hS hg rfl 2 (by decide) (hw _ kw_37) rfl rfl (by decide +kernel) rfl rfl (Nat.le_of_ble_eq_true rfl) d_Rob_clear_12 (fun H locs hM hS hz => ?_)
  have hM : xh G (va_up M_2 g (some (r, .inr (1, [.int 0, .int 0, .int 0, .int hi])))) H := hM
  obtain ⟨M_3, eM_3⟩ : ∃ z : xM, z = va_up M_2 g (some (r, .inr (1, [.int 0, .int 0, .int 0, .int hi]))) := ⟨_, rfl⟩
  rw [← eM_3] at hM
  have hg := xw_atE eM_3
  refine lv_aload_n hx hb d_Rob_clear_15 rfl (lv_at hl 0 rfl) ?_
  refine lv_iconst (v := 0) hx hb d_Rob_clear_16 (by decide) ?_
  refine x_put (C := R_Rob) (T := F_Rob) (N := 4) (ty := .int) (v := .int 0) hx hb hw i_Rob t_Rob t_Rob_ok n_Rob hown hK.1 hM hS hg rfl 3 (by decide) (hw _ kw_38) rfl rfl (by decide +kernel) rfl rfl (Nat.le_of_ble_eq_true rfl) d_Rob_clear_17 (fun H locs hM hS hz => ?_)
  have hM : xh G (va_up M_3 g (some (r, .inr (1, [.int 0, .int 0, .int 0, .int 0])))) H := hM
  obtain ⟨M_4, eM_4⟩ : ∃ z : xM, z = va_up M_3 g (some (r, .inr (1, [.int 0, .int 0, .int 0, .int 0]))) := ⟨_, rfl⟩
  rw [← eM_4] at hM
  have hg := xw_atE eM_4
  exact x_rv hE rfl hM hS (by rw [eM_4, eM_3, eM_2, eM_1]; simp only [bx_uu]) (by omega) (by omega) d_Rob_clear_20

set_option maxHeartbeats 4000000 in
set_option maxRecDepth 100000 in
theorem c_Rob_take (l : Launch) (G : xG) (M : xM) (g r : Nat) (t0 s0 lo hi : Int32) (hg : M g = some (r, .inr (1, [.int t0, .int s0, .int lo, .int hi]))) (v : Int32) : Met l y_Rob_take w_Rob_take ({ frames := 1, cells := 0, slots := 0, locals := 20 }) (xP G [.ref g, .int v] M) (xQv G (fun M' => M' = va_up M g (some (r, .inr (1, [.int (t0 + 1), .int (s0 + v), .int (if t0 = 0 then v else zMin lo v), .int (if t0 = 0 then v else zMax hi v)]))))) 0 0 (xF G) := by
  refine x_met (by decide) (Nat.le_of_ble_eq_true rfl) ?_
  intro p e s m below meth c ls hE hin hl hM hK hS
  obtain ⟨hx, hb, hr, hml, hown, hw, hlocks⟩ := id hE
  have hl : lv_has ls 2 [(0, .ref g), (1, .int v)] := hl
  refine lv_aload_n hx hb d_Rob_take_0 rfl (lv_at hl 0 rfl) ?_
  refine lv_aload_n hx hb d_Rob_take_1 rfl (lv_at hl 0 rfl) ?_
  refine x_get (C := R_Rob) (T := F_Rob) (N := 4) hx hb hw i_Rob hown hK.1 hM hg rfl 0 (by decide) (hw _ kw_34) rfl rfl d_Rob_take_2 ?_
  refine lv_if_ne (tgt := 12) hx hb d_Rob_take_5 (by decide) (fun c_5 => ?_) (fun c_5 => ?_)
  · refine lv_aload_n hx hb d_Rob_take_12 rfl (lv_at hl 0 rfl) ?_
    refine x_get (C := R_Rob) (T := F_Rob) (N := 4) hx hb hw i_Rob hown hK.1 hM hg rfl 2 (by decide) (hw _ kw_37) rfl rfl d_Rob_take_13 ?_
    refine lv_iload_n hx hb d_Rob_take_16 rfl (lv_at hl 1 rfl) ?_
    refine va_mmin hx hb (hml.trans hl.1.symm) hown (hw _ kw_353) (hw _ kJ_min') (hw _ kJ_M) (hw _ kJ_min) (by decide) (Nat.le_of_ble_eq_true rfl) (by omega) (by omega) d_Rob_take_17 ?_
    refine W.eq (g2 := F0 m 20 ls [.int (zMin lo v), .ref g]) rfl ?_
    refine x_put (C := R_Rob) (T := F_Rob) (N := 4) (ty := .int) (v := .int (zMin lo v)) hx hb hw i_Rob t_Rob t_Rob_ok n_Rob hown hK.1 hM hS hg rfl 2 (by decide) (hw _ kw_37) rfl rfl (by decide +kernel) rfl rfl (Nat.le_of_ble_eq_true rfl) d_Rob_take_20 (fun H locs hM hS hz => ?_)
    have hM : xh G (va_up M g (some (r, .inr (1, [.int t0, .int s0, .int (zMin lo v), .int hi])))) H := hM
    obtain ⟨M_1, eM_1⟩ : ∃ z : xM, z = va_up M g (some (r, .inr (1, [.int t0, .int s0, .int (zMin lo v), .int hi]))) := ⟨_, rfl⟩
    rw [← eM_1] at hM
    have hg := xw_atE eM_1
    refine lv_aload_n hx hb d_Rob_take_23 rfl (lv_at hl 0 rfl) ?_
    refine lv_aload_n hx hb d_Rob_take_24 rfl (lv_at hl 0 rfl) ?_
    refine x_get (C := R_Rob) (T := F_Rob) (N := 4) hx hb hw i_Rob hown hK.1 hM hg rfl 0 (by decide) (hw _ kw_34) rfl rfl d_Rob_take_25 ?_
    refine lv_if_ne (tgt := 35) hx hb d_Rob_take_28 (by decide) (fun c_28 => ?_) (fun c_28 => ?_)
    · refine lv_aload_n hx hb d_Rob_take_35 rfl (lv_at hl 0 rfl) ?_
      refine x_get (C := R_Rob) (T := F_Rob) (N := 4) hx hb hw i_Rob hown hK.1 hM hg rfl 3 (by decide) (hw _ kw_38) rfl rfl d_Rob_take_36 ?_
      refine lv_iload_n hx hb d_Rob_take_39 rfl (lv_at hl 1 rfl) ?_
      refine va_mmax hx hb (hml.trans hl.1.symm) hown (hw _ kw_354) (hw _ kJ_max') (hw _ kJ_M) (hw _ kJ_max) (by decide) (Nat.le_of_ble_eq_true rfl) (by omega) (by omega) d_Rob_take_40 ?_
      refine W.eq (g2 := F0 m 43 ls [.int (zMax hi v), .ref g]) rfl ?_
      refine x_put (C := R_Rob) (T := F_Rob) (N := 4) (ty := .int) (v := .int (zMax hi v)) hx hb hw i_Rob t_Rob t_Rob_ok n_Rob hown hK.1 hM hS hg rfl 3 (by decide) (hw _ kw_38) rfl rfl (by decide +kernel) rfl rfl (Nat.le_of_ble_eq_true rfl) d_Rob_take_43 (fun H locs hM hS hz => ?_)
      have hM : xh G (va_up M_1 g (some (r, .inr (1, [.int t0, .int s0, .int (zMin lo v), .int (zMax hi v)])))) H := hM
      obtain ⟨M_2, eM_2⟩ : ∃ z : xM, z = va_up M_1 g (some (r, .inr (1, [.int t0, .int s0, .int (zMin lo v), .int (zMax hi v)]))) := ⟨_, rfl⟩
      rw [← eM_2] at hM
      have hg := xw_atE eM_2
      refine lv_aload_n hx hb d_Rob_take_46 rfl (lv_at hl 0 rfl) ?_
      refine lv_dup hx hb d_Rob_take_47 rfl ?_
      refine x_get (C := R_Rob) (T := F_Rob) (N := 4) hx hb hw i_Rob hown hK.1 hM hg rfl 1 (by decide) (hw _ kw_36) rfl rfl d_Rob_take_48 ?_
      refine lv_iload_n hx hb d_Rob_take_51 rfl (lv_at hl 1 rfl) ?_
      refine lv_iadd hx hb d_Rob_take_52 ?_
      refine x_put (C := R_Rob) (T := F_Rob) (N := 4) (ty := .int) (v := .int (s0 + v)) hx hb hw i_Rob t_Rob t_Rob_ok n_Rob hown hK.1 hM hS hg rfl 1 (by decide) (hw _ kw_36) rfl rfl (by decide +kernel) rfl rfl (Nat.le_of_ble_eq_true rfl) d_Rob_take_53 (fun H locs hM hS hz => ?_)
      have hM : xh G (va_up M_2 g (some (r, .inr (1, [.int t0, .int (s0 + v), .int (zMin lo v), .int (zMax hi v)])))) H := hM
      obtain ⟨M_3, eM_3⟩ : ∃ z : xM, z = va_up M_2 g (some (r, .inr (1, [.int t0, .int (s0 + v), .int (zMin lo v), .int (zMax hi v)]))) := ⟨_, rfl⟩
      rw [← eM_3] at hM
      have hg := xw_atE eM_3
      refine lv_aload_n hx hb d_Rob_take_56 rfl (lv_at hl 0 rfl) ?_
      refine lv_dup hx hb d_Rob_take_57 rfl ?_
      refine x_get (C := R_Rob) (T := F_Rob) (N := 4) hx hb hw i_Rob hown hK.1 hM hg rfl 0 (by decide) (hw _ kw_34) rfl rfl d_Rob_take_58 ?_
      refine lv_iconst (v := 1) hx hb d_Rob_take_61 (by decide) ?_
      refine lv_iadd hx hb d_Rob_take_62 ?_
      refine x_put (C := R_Rob) (T := F_Rob) (N := 4) (ty := .int) (v := .int (t0 + 1)) hx hb hw i_Rob t_Rob t_Rob_ok n_Rob hown hK.1 hM hS hg rfl 0 (by decide) (hw _ kw_34) rfl rfl (by decide +kernel) rfl rfl (Nat.le_of_ble_eq_true rfl) d_Rob_take_63 (fun H locs hM hS hz => ?_)
      have hM : xh G (va_up M_3 g (some (r, .inr (1, [.int (t0 + 1), .int (s0 + v), .int (zMin lo v), .int (zMax hi v)])))) H := hM
      obtain ⟨M_4, eM_4⟩ : ∃ z : xM, z = va_up M_3 g (some (r, .inr (1, [.int (t0 + 1), .int (s0 + v), .int (zMin lo v), .int (zMax hi v)]))) := ⟨_, rfl⟩
      rw [← eM_4] at hM
      have hg := xw_atE eM_4
      exact x_rv hE rfl hM hS (by rw [eM_4, eM_3, eM_2, eM_1]; simp only [bx_uu, if_neg c_5]) (by omega) (by omega) d_Rob_take_66
    · exact absurd c_28 c_5
  · refine lv_iload_n hx hb d_Rob_take_8 rfl (lv_at hl 1 rfl) ?_
    refine lv_goto (tgt := 20) hx hb d_Rob_take_9 (by decide) ?_
    refine x_put (C := R_Rob) (T := F_Rob) (N := 4) (ty := .int) (v := .int v) hx hb hw i_Rob t_Rob t_Rob_ok n_Rob hown hK.1 hM hS hg rfl 2 (by decide) (hw _ kw_37) rfl rfl (by decide +kernel) rfl rfl (Nat.le_of_ble_eq_true rfl) d_Rob_take_20 (fun H locs hM hS hz => ?_)
    have hM : xh G (va_up M g (some (r, .inr (1, [.int t0, .int s0, .int v, .int hi])))) H := hM
    obtain ⟨M_1, eM_1⟩ : ∃ z : xM, z = va_up M g (some (r, .inr (1, [.int t0, .int s0, .int v, .int hi]))) := ⟨_, rfl⟩
    rw [← eM_1] at hM
    have hg := xw_atE eM_1
    refine lv_aload_n hx hb d_Rob_take_23 rfl (lv_at hl 0 rfl) ?_
    refine lv_aload_n hx hb d_Rob_take_24 rfl (lv_at hl 0 rfl) ?_
    refine x_get (C := R_Rob) (T := F_Rob) (N := 4) hx hb hw i_Rob hown hK.1 hM hg rfl 0 (by decide) (hw _ kw_34) rfl rfl d_Rob_take_25 ?_
    refine lv_if_ne (tgt := 35) hx hb d_Rob_take_28 (by decide) (fun c_28 => ?_) (fun c_28 => ?_)
    · exact absurd c_5 c_28
    · refine lv_iload_n hx hb d_Rob_take_31 rfl (lv_at hl 1 rfl) ?_
      refine lv_goto (tgt := 43) hx hb d_Rob_take_32 (by decide) ?_
      refine x_put (C := R_Rob) (T := F_Rob) (N := 4) (ty := .int) (v := .int v) hx hb hw i_Rob t_Rob t_Rob_ok n_Rob hown hK.1 hM hS hg rfl 3 (by decide) (hw _ kw_38) rfl rfl (by decide +kernel) rfl rfl (Nat.le_of_ble_eq_true rfl) d_Rob_take_43 (fun H locs hM hS hz => ?_)
      have hM : xh G (va_up M_1 g (some (r, .inr (1, [.int t0, .int s0, .int v, .int v])))) H := hM
      obtain ⟨M_2, eM_2⟩ : ∃ z : xM, z = va_up M_1 g (some (r, .inr (1, [.int t0, .int s0, .int v, .int v]))) := ⟨_, rfl⟩
      rw [← eM_2] at hM
      have hg := xw_atE eM_2
      refine lv_aload_n hx hb d_Rob_take_46 rfl (lv_at hl 0 rfl) ?_
      refine lv_dup hx hb d_Rob_take_47 rfl ?_
      refine x_get (C := R_Rob) (T := F_Rob) (N := 4) hx hb hw i_Rob hown hK.1 hM hg rfl 1 (by decide) (hw _ kw_36) rfl rfl d_Rob_take_48 ?_
      refine lv_iload_n hx hb d_Rob_take_51 rfl (lv_at hl 1 rfl) ?_
      refine lv_iadd hx hb d_Rob_take_52 ?_
      refine x_put (C := R_Rob) (T := F_Rob) (N := 4) (ty := .int) (v := .int (s0 + v)) hx hb hw i_Rob t_Rob t_Rob_ok n_Rob hown hK.1 hM hS hg rfl 1 (by decide) (hw _ kw_36) rfl rfl (by decide +kernel) rfl rfl (Nat.le_of_ble_eq_true rfl) d_Rob_take_53 (fun H locs hM hS hz => ?_)
      have hM : xh G (va_up M_2 g (some (r, .inr (1, [.int t0, .int (s0 + v), .int v, .int v])))) H := hM
      obtain ⟨M_3, eM_3⟩ : ∃ z : xM, z = va_up M_2 g (some (r, .inr (1, [.int t0, .int (s0 + v), .int v, .int v]))) := ⟨_, rfl⟩
      rw [← eM_3] at hM
      have hg := xw_atE eM_3
      refine lv_aload_n hx hb d_Rob_take_56 rfl (lv_at hl 0 rfl) ?_
      refine lv_dup hx hb d_Rob_take_57 rfl ?_
      refine x_get (C := R_Rob) (T := F_Rob) (N := 4) hx hb hw i_Rob hown hK.1 hM hg rfl 0 (by decide) (hw _ kw_34) rfl rfl d_Rob_take_58 ?_
      refine lv_iconst (v := 1) hx hb d_Rob_take_61 (by decide) ?_
      refine lv_iadd hx hb d_Rob_take_62 ?_
      refine x_put (C := R_Rob) (T := F_Rob) (N := 4) (ty := .int) (v := .int (t0 + 1)) hx hb hw i_Rob t_Rob t_Rob_ok n_Rob hown hK.1 hM hS hg rfl 0 (by decide) (hw _ kw_34) rfl rfl (by decide +kernel) rfl rfl (Nat.le_of_ble_eq_true rfl) d_Rob_take_63 (fun H locs hM hS hz => ?_)
      have hM : xh G (va_up M_3 g (some (r, .inr (1, [.int (t0 + 1), .int (s0 + v), .int v, .int v])))) H := hM
      obtain ⟨M_4, eM_4⟩ : ∃ z : xM, z = va_up M_3 g (some (r, .inr (1, [.int (t0 + 1), .int (s0 + v), .int v, .int v]))) := ⟨_, rfl⟩
      rw [← eM_4] at hM
      have hg := xw_atE eM_4
      exact x_rv hE rfl hM hS (by rw [eM_4, eM_3, eM_2, eM_1]; simp only [bx_uu, if_pos c_5]) (by omega) (by omega) d_Rob_take_66

set_option maxHeartbeats 4000000 in
set_option maxRecDepth 100000 in
theorem c_Rob_answer (l : Launch) (G : xG) (M : xM) (g r : Nat) (t0 s0 lo hi : Int32) (hg : M g = some (r, .inr (1, [.int t0, .int s0, .int lo, .int hi]))) : Met l y_Rob_answer w_Rob_answer ({ frames := 0, cells := 0, slots := 0, locals := 0 }) (xP G [.ref g] M) (xQi G (fun v M' => v = zAns t0 s0 lo hi ∧ M' = M)) 0 0 (xF G) := by
  refine x_met (by decide) (Nat.le_of_ble_eq_true rfl) ?_
  intro p e s m below meth c ls hE hin hl hM hK hS
  obtain ⟨hx, hb, hr, hml, hown, hw, hlocks⟩ := id hE
  have hl : lv_has ls 1 [(0, .ref g)] := hl
  refine lv_aload_n hx hb d_Rob_answer_0 rfl (lv_at hl 0 rfl) ?_
  refine x_get (C := R_Rob) (T := F_Rob) (N := 4) hx hb hw i_Rob hown hK.1 hM hg rfl 0 (by decide) (hw _ kw_34) rfl rfl d_Rob_answer_1 ?_
  refine lv_if_gt (tgt := 9) hx hb d_Rob_answer_4 (by decide) (fun c_4 => ?_) (fun c_4 => ?_)
  · refine lv_aload_n hx hb d_Rob_answer_9 rfl (lv_at hl 0 rfl) ?_
    refine x_get (C := R_Rob) (T := F_Rob) (N := 4) hx hb hw i_Rob hown hK.1 hM hg rfl 0 (by decide) (hw _ kw_34) rfl rfl d_Rob_answer_10 ?_
    refine lv_iconst (v := 2) hx hb d_Rob_answer_13 (by decide) ?_
    refine lv_icmp_gt (tgt := 27) hx hb d_Rob_answer_14 (by decide) (fun c_14 => ?_) (fun c_14 => ?_)
    · refine lv_aload_n hx hb d_Rob_answer_27 rfl (lv_at hl 0 rfl) ?_
      refine x_get (C := R_Rob) (T := F_Rob) (N := 4) hx hb hw i_Rob hown hK.1 hM hg rfl 1 (by decide) (hw _ kw_36) rfl rfl d_Rob_answer_28 ?_
      refine lv_aload_n hx hb d_Rob_answer_31 rfl (lv_at hl 0 rfl) ?_
      refine x_get (C := R_Rob) (T := F_Rob) (N := 4) hx hb hw i_Rob hown hK.1 hM hg rfl 2 (by decide) (hw _ kw_37) rfl rfl d_Rob_answer_32 ?_
      refine lv_isub hx hb d_Rob_answer_35 ?_
      refine lv_aload_n hx hb d_Rob_answer_36 rfl (lv_at hl 0 rfl) ?_
      refine x_get (C := R_Rob) (T := F_Rob) (N := 4) hx hb hw i_Rob hown hK.1 hM hg rfl 3 (by decide) (hw _ kw_38) rfl rfl d_Rob_answer_37 ?_
      refine lv_isub hx hb d_Rob_answer_40 ?_
      refine lv_aload_n hx hb d_Rob_answer_41 rfl (lv_at hl 0 rfl) ?_
      refine x_get (C := R_Rob) (T := F_Rob) (N := 4) hx hb hw i_Rob hown hK.1 hM hg rfl 0 (by decide) (hw _ kw_34) rfl rfl d_Rob_answer_42 ?_
      refine lv_iconst (v := 2) hx hb d_Rob_answer_45 (by decide) ?_
      refine lv_isub hx hb d_Rob_answer_46 ?_
      refine lv_idiv hx hb d_Rob_answer_47 (fun h9 => absurd c_14 (by rw [z_m2 h9]; decide)) ?_
      exact x_ri hE rfl hM hS ⟨by unfold zAns; rw [if_neg (not_not_intro c_4), if_neg (not_not_intro c_14)], rfl⟩ (by omega) (by omega) d_Rob_answer_48
    · refine lv_aload_n hx hb d_Rob_answer_17 rfl (lv_at hl 0 rfl) ?_
      refine x_get (C := R_Rob) (T := F_Rob) (N := 4) hx hb hw i_Rob hown hK.1 hM hg rfl 1 (by decide) (hw _ kw_36) rfl rfl d_Rob_answer_18 ?_
      refine lv_aload_n hx hb d_Rob_answer_21 rfl (lv_at hl 0 rfl) ?_
      refine x_get (C := R_Rob) (T := F_Rob) (N := 4) hx hb hw i_Rob hown hK.1 hM hg rfl 0 (by decide) (hw _ kw_34) rfl rfl d_Rob_answer_22 ?_
      refine lv_idiv hx hb d_Rob_answer_25 (by intro h9; rw [h9] at c_4; exact absurd c_4 (by decide)) ?_
      exact x_ri hE rfl hM hS ⟨by unfold zAns; rw [if_neg (not_not_intro c_4), if_pos c_14], rfl⟩ (by omega) (by omega) d_Rob_answer_26
  · refine lv_iconst (v := (-1)) hx hb d_Rob_answer_7 (by decide) ?_
    exact x_ri hE rfl hM hS ⟨by unfold zAns; rw [if_pos c_4], rfl⟩ (by omega) (by omega) d_Rob_answer_8

set_option maxHeartbeats 4000000 in
set_option maxRecDepth 100000 in
theorem c_Row_lastYear (l : Launch) (G : xG) (M : xM) (g r : Nat) (a ra : Nat) (n : Nat) (f : Nat → Int32) (st : Int32) (hg : M g = some (r, .inr (2, [.ref a, .int st]))) (ha : M a = some (ra, .inl (gI G, n, .inl f))) : Met l y_Row_lastYear w_Row_lastYear ({ frames := 0, cells := 0, slots := 0, locals := 0 }) (xP G [.ref g] M) (xQi G (fun v M' => v = st + nI n - 1 ∧ M' = M)) 0 0 (xF G) := by
  refine x_met (by decide) (Nat.le_of_ble_eq_true rfl) ?_
  intro p e s m below meth c ls hE hin hl hM hK hS
  obtain ⟨hx, hb, hr, hml, hown, hw, hlocks⟩ := id hE
  have hl : lv_has ls 1 [(0, .ref g)] := hl
  refine lv_aload_n hx hb d_Row_lastYear_0 rfl (lv_at hl 0 rfl) ?_
  refine x_get (C := R_Row) (T := F_Row) (N := 2) hx hb hw i_Row hown hK.1 hM hg rfl 1 (by decide) (hw _ kw_217) rfl rfl d_Row_lastYear_1 ?_
  refine lv_aload_n hx hb d_Row_lastYear_4 rfl (lv_at hl 0 rfl) ?_
  refine x_get (C := R_Row) (T := F_Row) (N := 2) hx hb hw i_Row hown hK.1 hM hg rfl 0 (by decide) (hw _ kw_215) rfl rfl d_Row_lastYear_5 ?_
  refine x_alen (v := nI n) hx hb hK.1 hM ha 0 rfl rfl d_Row_lastYear_8 ?_
  refine lv_iadd hx hb d_Row_lastYear_9 ?_
  refine lv_iconst (v := 1) hx hb d_Row_lastYear_10 (by decide) ?_
  refine lv_isub hx hb d_Row_lastYear_11 ?_
  exact x_ri hE rfl hM hS ⟨rfl, rfl⟩ (by omega) (by omega) d_Row_lastYear_12

set_option maxHeartbeats 4000000 in
set_option maxRecDepth 100000 in
theorem c_Row_ringIn (l : Launch) (G : xG) (M : xM) (g r : Nat) (a ra : Nat) (n : Nat) (f : Nat → Int32) (st : Int32) (hg : M g = some (r, .inr (2, [.ref a, .int st]))) (ha : M a = some (ra, .inl (gI G, n, .inl f))) (hn : n < 2 ^ 31) (x1 x2 : Int32) : Met l y_Row_ringIn w_Row_ringIn ({ frames := 0, cells := 0, slots := 0, locals := 0 }) (xP G [.ref g, .int x1, .int x2] M) (xQi G (fun v M' => v = zRing n f (x1 - x2) ∧ M' = M)) 0 0 (xF G) := by
  refine x_met (by decide) (Nat.le_of_ble_eq_true rfl) ?_
  intro p e s m below meth c ls hE hin hl hM hK hS
  obtain ⟨hx, hb, hr, hml, hown, hw, hlocks⟩ := id hE
  have hl : lv_has ls 4 [(0, .ref g), (1, .int x1), (2, .int x2)] := hl
  refine lv_iload_n hx hb d_Row_ringIn_0 rfl (lv_at hl 1 rfl) ?_
  refine lv_iload_n hx hb d_Row_ringIn_1 rfl (lv_at hl 2 rfl) ?_
  refine lv_isub hx hb d_Row_ringIn_2 ?_
  refine lv_istore_n (lv' := [(3, .int (x1 - x2)), (0, .ref g), (1, .int x1), (2, .int x2)]) hx hb d_Row_ringIn_3 rfl hl (by decide) rfl (fun ls hl => ?_)
  refine lv_iload_n hx hb d_Row_ringIn_4 rfl (lv_at hl 0 rfl) ?_
  refine lv_if_lt (tgt := 26) hx hb d_Row_ringIn_5 (by decide) (fun c_5 => ?_) (fun c_5 => ?_)
  · refine lv_iconst (v := (-1)) hx hb d_Row_ringIn_26 (by decide) ?_
    exact x_ri hE rfl hM hS ⟨by unfold zRing; rw [if_pos c_5], rfl⟩ (by omega) (by omega) d_Row_ringIn_27
  · refine lv_iload_n hx hb d_Row_ringIn_8 rfl (lv_at hl 0 rfl) ?_
    refine lv_aload_n hx hb d_Row_ringIn_9 rfl (lv_at hl 1 rfl) ?_
    refine x_get (C := R_Row) (T := F_Row) (N := 2) hx hb hw i_Row hown hK.1 hM hg rfl 0 (by decide) (hw _ kw_215) rfl rfl d_Row_ringIn_10 ?_
    refine x_alen (v := nI n) hx hb hK.1 hM ha 0 rfl rfl d_Row_ringIn_13 ?_
    refine lv_icmp_ge (tgt := 26) hx hb d_Row_ringIn_14 (by decide) (fun c_14 => ?_) (fun c_14 => ?_)
    · refine lv_iconst (v := (-1)) hx hb d_Row_ringIn_26 (by decide) ?_
      exact x_ri hE rfl hM hS ⟨by unfold zRing; rw [if_neg c_5, if_pos c_14], rfl⟩ (by omega) (by omega) d_Row_ringIn_27
    · refine lv_aload_n hx hb d_Row_ringIn_17 rfl (lv_at hl 1 rfl) ?_
      refine x_get (C := R_Row) (T := F_Row) (N := 2) hx hb hw i_Row hown hK.1 hM hg rfl 0 (by decide) (hw _ kw_215) rfl rfl d_Row_ringIn_18 ?_
      refine lv_iload_n hx hb d_Row_ringIn_21 rfl (lv_at hl 0 rfl) ?_
      refine x_iald hx hb hK.1 hM ha 0 rfl (z_ix c_5 c_14 hn).2 (z_ix c_5 c_14 hn).1 hn d_Row_ringIn_22 ?_
      refine lv_goto (tgt := 27) hx hb d_Row_ringIn_23 (by decide) ?_
      exact x_ri hE rfl hM hS ⟨by unfold zRing; rw [if_neg c_5, if_neg c_14], rfl⟩ (by omega) (by omega) d_Row_ringIn_27
