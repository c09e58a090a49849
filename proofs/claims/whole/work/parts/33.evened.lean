set_option maxHeartbeats 4000000 in
set_option maxRecDepth 100000 in
theorem c_Row_init (l : Launch) (G : xG) (M : xM) (g r a : Nat) (hg : M g = some (r, .inr (2, [.null, .int 0]))) : Met l y_Row_init w_Row_init ({ frames := 1, cells := 0, slots := 0, locals := 12 }) (xP G [.ref g, .ref a] M) (xQv G (fun M' => M' = va_up M g (some (r, .inr (2, [.ref a, .int (-1)]))))) 0 0 (xF G) := by
  refine x_met (by decide) (Nat.le_of_ble_eq_true rfl) ?_
  intro p e s m below meth c ls hE hin hl hM hK hS
  obtain ⟨hx, hb, hr, hml, hown, hw, hlocks⟩ := id hE
  have hl : lv_has ls 2 [(0, .ref g), (1, .ref a)] := hl
  refine lv_aload_n hx hb d_Row_init_0 rfl (lv_at hl 0 rfl) ?_
  refine W.objInit hx hb hown (hw _ kw_214) (hw _ kw_22) (hw _ kw_23) rfl (by rw [hml]; exact hl.1) rfl d_Row_init_1 (Nat.le_of_ble_eq_true rfl) (Nat.le_of_ble_eq_true rfl) ?_
  refine W.eq (g2 := F0 m 4 ls []) rfl ?_
  refine lv_aload_n hx hb d_Row_init_4 rfl (lv_at hl 0 rfl) ?_
  refine lv_aload_n hx hb d_Row_init_5 rfl (lv_at hl 1 rfl) ?_
  refine x_putF (C := R_Row) (T := F_Row) (N := 2) (ty := .array (.int)) (v := .ref a) hx hb hw i_Row t_Row t_Row_ok n_Row hown hK.1 hM hS hg rfl 0 (by decide) (hw _ kw_215) rfl rfl hin rfl (by decide +kernel) rfl rfl (Nat.le_of_ble_eq_true rfl) d_Row_init_6 (fun H locs hM hS hz => ?_)
  have hM : xh G (va_up M g (some (r, .inr (2, [.ref a, .int 0])))) H := hM
  obtain ⟨M_1, eM_1⟩ : ∃ z : xM, z = va_up M g (some (r, .inr (2, [.ref a, .int 0]))) := ⟨_, rfl⟩
  rw [← eM_1] at hM
  have hg := xw_atE eM_1
  refine lv_aload_n hx hb d_Row_init_9 rfl (lv_at hl 0 rfl) ?_
  refine lv_iconst (v := (-1)) hx hb d_Row_init_10 (by decide) ?_
  refine x_put (C := R_Row) (T := F_Row) (N := 2) (ty := .int) (v := .int (-1)) hx hb hw i_Row t_Row t_Row_ok n_Row hown hK.1 hM hS hg rfl 1 (by decide) (hw _ kw_217) rfl rfl (by decide +kernel) rfl rfl (Nat.le_of_ble_eq_true rfl) d_Row_init_11 (fun H locs hM hS hz => ?_)
  have hM : xh G (va_up M_1 g (some (r, .inr (2, [.ref a, .int (-1)])))) H := hM
  obtain ⟨M_2, eM_2⟩ : ∃ z : xM, z = va_up M_1 g (some (r, .inr (2, [.ref a, .int (-1)]))) := ⟨_, rfl⟩
  rw [← eM_2] at hM
  have hg := xw_atE eM_2
  exact x_rv hE rfl hM hS (by rw [eM_2, eM_1]; exact bx_uu _ _ _ _) (by omega) (by omega) d_Row_init_14

set_option maxHeartbeats 4000000 in
set_option maxRecDepth 100000 in
theorem lp_Rm_evenedPad2 {p : Program} {l : Launch} {e : Env} {s : State} {m : MethodId} {below : List Frame} {meth : Method} {c : Code} {args : Array Value} {G : xG} {M : xM} (ad : Nat → Nat) (u : zS) (hC : Core G M ad u) (hO : zOk u) (h3 : 3 ≤ zpn u) (r0 q : Nat) (hqn : M q = none) (hE : xE p s m args meth c b_Rm_evenedPad (some (.array .int)) 4 R_Rm) (hK : KX G s) : ∀ (n k : Nat), k ≤ zpn u → zpn u + 1 ≤ k + n → ∀ (F : Nat → Int32), (∀ k', k' < k → F k' = zEvn (zpd u) (zpn u) k') → ∀ (H : Heap) (locs : List Loc) (ls : Array Slot), xh G (va_up M q (some (r0, eI G (zpn u) F))) H → va_S (xF G) s.heap H locs → lv_has ls 4 [(0, .ref (ad 0)), (1, .int (zTot (zpd u) (zpn u))), (2, .ref q), (3, .int (nI k))] → W p l e ({ frames := 1, cells := 1, slots := 30, locals := 40 }) s m args below meth c H locs 1 30 (MQ below (xQr G (fun a M' => M a = none ∧ ∃ F : Nat → Int32, (∀ k, k < zpn u → F k = zEvn (zpd u) (zpn u) k) ∧ M' = va_up M a (some (r0, eI G (zpn u) F)))) args s 1 30 (xF G)) (F0 m 36 ls []) := by
  obtain ⟨hx, hb, hr, hml, hown, hw, hlocks⟩ := id hE
  have hpn := hO.1
  obtain ⟨tt, e_t, ht1, ht2⟩ := zTot_in (zpn u) hO.2.1
  intro n
  induction n with
  | zero =>
    intro k h1 h2
    exact absurd h2 (by omega)
  | succ n ih =>
    intro k hk hin F hF H locs ls hM hS hl
    obtain ⟨Mi, eMi⟩ : ∃ z : xM, z = va_up M q (some (r0, eI G (zpn u) F)) := ⟨_, rfl⟩
    rw [← eMi] at hM
    have c_o : Mi (ad 0) = some (0, .inr (4, [.ref (ad 1), .int (nI (zpn u)), .ref (ad 2), .int (nI (zrn u)), .ref (ad 3), .int (nI (zmn u)), .ref (ad 4), .ref (ad 5), .ref (ad 6), .ref (ad 7), .ref (ad 8), .ref (ad 9)])) := xw_newE eMi hC.1 hqn
    have c_pad := xw_newE eMi hC.2.1 hqn
    have c_q := xw_atE eMi
    refine lv_iload_n hx hb d_Rm_evenedPad_36 rfl (lv_at hl 3 rfl) ?_
    refine lv_aload_n hx hb d_Rm_evenedPad_37 rfl (lv_at hl 2 rfl) ?_
    refine x_alen (v := nI (zpn u)) hx hb hK.1 hM c_q 0 rfl rfl d_Rm_evenedPad_38 ?_
    refine lv_icmp_ge (tgt := 75) hx hb d_Rm_evenedPad_39 (by decide) (fun c_39 => ?_) (fun c_39 => ?_)
    · have h39 : zpn u ≤ k := (nI_leI (by omega) (by omega)).mp c_39
      refine lv_aload_n hx hb d_Rm_evenedPad_75 rfl (lv_at hl 2 rfl) ?_
      exact x_rr hE rfl (Or.inr ⟨_, rfl⟩) hM hS ⟨hqn, F, fun k2 h2 => hF k2 (by omega), eMi⟩ (by decide) (by decide) d_Rm_evenedPad_76
    · have hkp : k < zpn u := Nat.not_le.mp (fun h9 => c_39 ((nI_leI (by omega) (by omega)).mpr h9))
      refine lv_iload_n hx hb d_Rm_evenedPad_42 rfl (lv_at hl 1 rfl) ?_
      refine lv_if_le (tgt := 75) hx hb d_Rm_evenedPad_43 (by decide) (fun c_43 => ?_) (fun c_43 => ?_)
      · exact absurd c_43 (by rw [e_t]; exact nI_nle (by omega) (by omega))
      · refine lv_aload_n hx hb d_Rm_evenedPad_46 rfl (lv_at hl 2 rfl) ?_
        refine lv_iload_n hx hb d_Rm_evenedPad_47 rfl (lv_at hl 3 rfl) ?_
        refine lv_sipush (v := 400) hx hb d_Rm_evenedPad_48 (by decide) ?_
        refine lv_bipush (v := 100) hx hb d_Rm_evenedPad_51 (by decide) ?_
        refine lv_aload_n hx hb d_Rm_evenedPad_53 rfl (lv_at hl 0 rfl) ?_
        refine x_get (C := R_Rm) (T := F_Rm) (N := 12) hx hb hw i_Rm hown hK.1 hM c_o rfl 0 (by decide) (hw _ kw_65) rfl rfl d_Rm_evenedPad_54 ?_
        refine lv_iload_n hx hb d_Rm_evenedPad_57 rfl (lv_at hl 3 rfl) ?_
        refine x_iald hx hb hK.1 hM c_pad 0 rfl rfl (by omega) (by decide) d_Rm_evenedPad_58 ?_
        refine lv_imul hx hb d_Rm_evenedPad_59 ?_
        refine lv_aload_n hx hb d_Rm_evenedPad_60 rfl (lv_at hl 2 rfl) ?_
        refine x_alen (v := nI (zpn u)) hx hb hK.1 hM c_q 0 rfl rfl d_Rm_evenedPad_61 ?_
        refine lv_imul hx hb d_Rm_evenedPad_62 ?_
        refine lv_iload_n hx hb d_Rm_evenedPad_63 rfl (lv_at hl 1 rfl) ?_
        refine lv_idiv hx hb d_Rm_evenedPad_64 (by rw [e_t]; exact nI_ne0 (by omega) (by omega)) ?_
        refine va_mmin hx hb (hml.trans hl.1.symm) hown (hw _ kw_208) (hw _ kJ_min') (hw _ kJ_M) (hw _ kJ_min) (by decide) (Nat.le_of_ble_eq_true rfl) (by decide) (by decide) d_Rm_evenedPad_65 ?_
        refine W.eq (g2 := F0 m 68 ls [.int (zMin 400 (((100 * ((zpd u) k)) * (nI (zpn u))) / (zTot (zpd u) (zpn u)))), .int (nI k), .ref q]) rfl ?_
        refine x_iast hx hb hK.1 hM hS c_q 0 rfl rfl hkp (by omega) d_Rm_evenedPad_68 (fun H locs hM hS hz => ?_)
        have hM : xh G (va_up Mi q (some (r0, .inl (gI G, (zpn u), .inl (upd F k (zMin 400 (((100 * ((zpd u) k)) * (nI (zpn u))) / (zTot (zpd u) (zpn u))))))))) H := hM
        obtain ⟨Mi_1, eMi_1⟩ : ∃ z : xM, z = va_up Mi q (some (r0, .inl (gI G, (zpn u), .inl (upd F k (zMin 400 (((100 * ((zpd u) k)) * (nI (zpn u))) / (zTot (zpd u) (zpn u)))))))) := ⟨_, rfl⟩
        rw [← eMi_1] at hM
        have c_q := xw_atE eMi_1
        refine lv_iinc (v := (nI (k + 1))) (lv' := [(3, .int (nI (k + 1))), (0, .ref (ad 0)), (1, .int (zTot (zpd u) (zpn u))), (2, .ref q)]) hx hb d_Rm_evenedPad_69 hl (k := 3) rfl (nI_1 k) (by decide) rfl (fun ls hl => ?_)
        refine lv_goto (tgt := 36) hx hb d_Rm_evenedPad_72 (by decide) ?_
        exact ih (k + 1) (by omega) (by omega) (upd F k (zEvn (zpd u) (zpn u) k)) (fun k' hk' => by
          by_cases h9 : k' = k
          · subst h9
            exact pk_us
          · rw [pk_un h9]
            exact hF k' (by omega)) _ _ _ (by rw [eMi_1, eMi, bx_uu] at hM; exact hM) hS (lv_sub hl [1, 2, 3, 0] rfl)

set_option maxHeartbeats 4000000 in
set_option maxRecDepth 100000 in
theorem lp_Rm_evenedPad1 {p : Program} {l : Launch} {e : Env} {s : State} {m : MethodId} {below : List Frame} {meth : Method} {c : Code} {args : Array Value} {G : xG} {M : xM} (ad : Nat → Nat) (u : zS) (hC : Core G M ad u) (hO : zOk u) (h3 : 3 ≤ zpn u) (r0 : Nat) (hE : xE p s m args meth c b_Rm_evenedPad (some (.array .int)) 4 R_Rm) (hK : KX G s) : ∀ (n k : Nat), k ≤ zpn u → zpn u + 1 ≤ k + n → ∀ (H : Heap) (locs : List Loc) (ls : Array Slot), xh G M H → va_S (xF G) s.heap H locs → lv_has ls 4 [(0, .ref (ad 0)), (1, .int (zTot (zpd u) k)), (2, .int (nI k))] → W p l e ({ frames := 1, cells := 1, slots := 30, locals := 40 }) s m args below meth c H locs 0 0 (MQ below (xQr G (fun a M' => M a = none ∧ ∃ F : Nat → Int32, (∀ k, k < zpn u → F k = zEvn (zpd u) (zpn u) k) ∧ M' = va_up M a (some (r0, eI G (zpn u) F)))) args s 1 30 (xF G)) (F0 m 4 ls []) := by
  obtain ⟨hx, hb, hr, hml, hown, hw, hlocks⟩ := id hE
  have hpn := hO.1
  intro n
  induction n with
  | zero =>
    intro k h1 h2
    exact absurd h2 (by omega)
  | succ n ih =>
    intro k hk hin H locs ls hM hS hl
    refine lv_iload_n hx hb d_Rm_evenedPad_4 rfl (lv_at hl 2 rfl) ?_
    refine lv_aload_n hx hb d_Rm_evenedPad_5 rfl (lv_at hl 0 rfl) ?_
    refine x_get (C := R_Rm) (T := F_Rm) (N := 12) hx hb hw i_Rm hown hK.1 hM hC.1 rfl 1 (by decide) (hw _ kw_66) rfl rfl d_Rm_evenedPad_6 ?_
    refine lv_icmp_ge (tgt := 27) hx hb d_Rm_evenedPad_9 (by decide) (fun c_9 => ?_) (fun c_9 => ?_)
    · have h9 : zpn u ≤ k := (nI_leI (by omega) (by omega)).mp c_9
      refine lv_aload_n hx hb d_Rm_evenedPad_27 rfl (lv_at hl 0 rfl) ?_
      refine x_get (C := R_Rm) (T := F_Rm) (N := 12) hx hb hw i_Rm hown hK.1 hM hC.1 rfl 1 (by decide) (hw _ kw_66) rfl rfl d_Rm_evenedPad_28 ?_
      refine x_newa (r0) (atype := .int) (a0 := ((zpn u), .inl (fun _ => 0))) (N' := (zpn u)) hx hb (hw _ kw_48) hK.1 hM hS 0 rfl (vp_cell_i _ _ _) rfl (by omega) (show (zpn u) * 4 ≤ _ by omega) (by decide) (show 0 + zpn u ≤ 30 by omega) d_Rm_evenedPad_31 (fun q H hn_q hM hS => ?_)
      refine W.widen (k := 1) (n := 30) (by omega) (by omega) ?_
      have hM : xh G (va_up M q (some (r0, .inl (gI G, (zpn u), .inl (fun _ => 0))))) H := hM
      obtain ⟨M_1, eM_1⟩ : ∃ z : xM, z = va_up M q (some (r0, .inl (gI G, (zpn u), .inl (fun _ => 0)))) := ⟨_, rfl⟩
      rw [← eM_1] at hM
      have k_ad0 := xw_newE eM_1 hC.1 hn_q
      have k_ad1 := xw_newE eM_1 hC.2.1 hn_q
      have c_q := xw_atE eM_1
      refine lv_astore_n (lv' := [(2, .ref q), (0, .ref (ad 0)), (1, .int (zTot (zpd u) k))]) hx hb d_Rm_evenedPad_33 rfl hl (by decide) rfl (fun ls hl => ?_)
      refine lv_iconst (v := 0) hx hb d_Rm_evenedPad_34 (by decide) ?_
      refine lv_istore_n (lv' := [(3, .int 0), (2, .ref q), (0, .ref (ad 0)), (1, .int (zTot (zpd u) k))]) hx hb d_Rm_evenedPad_35 rfl hl (by decide) rfl (fun ls hl => ?_)
      have hM : xh G (va_up M q (some (r0, eI G (zpn u) (fun _ => 0)))) H := by rw [← eM_1]; exact hM
      exact lp_Rm_evenedPad2 ad u hC hO h3 r0 q hn_q hE hK (zpn u + 1) 0 (by omega) (by omega) _ (fun k' hk' => absurd hk' (by omega)) _ _ _ hM hS (by rw [← show k = zpn u by omega]; exact lv_sub hl [2, 3, 1, 0] rfl)
    · have hkp : k < zpn u := Nat.not_le.mp (fun h9 => c_9 ((nI_leI (by omega) (by omega)).mpr h9))
      refine lv_iload_n hx hb d_Rm_evenedPad_12 rfl (lv_at hl 1 rfl) ?_
      refine lv_aload_n hx hb d_Rm_evenedPad_13 rfl (lv_at hl 0 rfl) ?_
      refine x_get (C := R_Rm) (T := F_Rm) (N := 12) hx hb hw i_Rm hown hK.1 hM hC.1 rfl 0 (by decide) (hw _ kw_65) rfl rfl d_Rm_evenedPad_14 ?_
      refine lv_iload_n hx hb d_Rm_evenedPad_17 rfl (lv_at hl 2 rfl) ?_
      refine x_iald hx hb hK.1 hM hC.2.1 0 rfl rfl (by omega) (by decide) d_Rm_evenedPad_18 ?_
      refine lv_iadd hx hb d_Rm_evenedPad_19 ?_
      refine lv_istore_n (lv' := [(1, .int ((zTot (zpd u) k) + ((zpd u) k))), (0, .ref (ad 0)), (2, .int (nI k))]) hx hb d_Rm_evenedPad_20 rfl hl (by decide) rfl (fun ls hl => ?_)
      refine lv_iinc (v := (nI (k + 1))) (lv' := [(2, .int (nI (k + 1))), (1, .int ((zTot (zpd u) k) + ((zpd u) k))), (0, .ref (ad 0))]) hx hb d_Rm_evenedPad_21 hl (k := 2) rfl (nI_1 k) (by decide) rfl (fun ls hl => ?_)
      refine lv_goto (tgt := 4) hx hb d_Rm_evenedPad_24 (by decide) ?_
      exact ih (k + 1) (by omega) (by omega) _ _ _ hM hS (lv_sub hl [2, 1, 0] rfl)

set_option maxHeartbeats 4000000 in
set_option maxRecDepth 100000 in
theorem c_Rm_evenedPad (l : Launch) (G : xG) (M : xM) (ad : Nat → Nat) (u : zS) (hC : Core G M ad u) (hO : zOk u) (h3 : 3 ≤ zpn u) (r0 : Nat) : Met l y_Rm_evenedPad w_Rm_evenedPad ({ frames := 1, cells := 1, slots := 30, locals := 40 }) (xP G [.ref (ad 0)] M) (xQr G (fun a M' => M a = none ∧ ∃ F : Nat → Int32, (∀ k, k < zpn u → F k = zEvn (zpd u) (zpn u) k) ∧ M' = va_up M a (some (r0, eI G (zpn u) F)))) 1 30 (xF G) := by
  refine x_met (by decide) (Nat.le_of_ble_eq_true rfl) ?_
  intro p e s m below meth c ls hE hin hl hM hK hS
  obtain ⟨hx, hb, hr, hml, hown, hw, hlocks⟩ := id hE
  have hl : lv_has ls 4 [(0, .ref (ad 0))] := hl
  refine lv_iconst (v := 0) hx hb d_Rm_evenedPad_0 (by decide) ?_
  refine lv_istore_n (lv' := [(1, .int 0), (0, .ref (ad 0))]) hx hb d_Rm_evenedPad_1 rfl hl (by decide) rfl (fun ls hl => ?_)
  refine lv_iconst (v := 0) hx hb d_Rm_evenedPad_2 (by decide) ?_
  refine lv_istore_n (lv' := [(2, .int 0), (1, .int 0), (0, .ref (ad 0))]) hx hb d_Rm_evenedPad_3 rfl hl (by decide) rfl (fun ls hl => ?_)
  exact lp_Rm_evenedPad1 ad u hC hO h3 r0 hE hK (zpn u + 1) 0 (by omega) (by omega) _ _ _ hM hS (lv_sub hl [2, 1, 0] rfl)
