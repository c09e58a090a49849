set_option maxHeartbeats 4000000 in
set_option maxRecDepth 100000 in
theorem lp_Rm_startsOf {p : Program} {l : Launch} {e : Env} {s : State} {m : MethodId} {below : List Frame} {meth : Method} {c : Code} {args : Array Value} {G : xG} {M : xM} (ad : Nat → Nat) (u : zS) (hC : Core G M ad u) (hO : zOk u) (b : Nat → Int32) (hb9 : ∀ i, i < zrn u → b i = -1 ∨ b i = zst u i) (hge : ∀ k, zrn u ≤ k → b k = -1) (r0 q : Nat) (hqn : M q = none) (hE : xE p s m args meth c b_Rm_startsOf (some (.array .int)) 4 R_Rm) (hK : KX G s) : ∀ (n i : Nat), i ≤ zrn u → zrn u + 1 ≤ i + n → ∀ (F : Nat → Int32), (∀ k, k < 10 → F k = if k < i then b k else -1) → ∀ (H : Heap) (locs : List Loc) (ls : Array Slot), xh G (va_up M q (some (r0, eI G 10 F))) H → va_S (xF G) s.heap H locs → lv_has ls 4 [(0, .ref (ad 0)), (1, .int (nI (zMk b (zrn u)))), (2, .ref q), (3, .int (nI i))] → W p l e ({ frames := 1, cells := 1, slots := 10, locals := 40 }) s m args below meth c H locs 1 10 (MQ below (xQr G (fun a M' => M a = none ∧ ∃ F : Nat → Int32, (∀ k, k < 10 → F k = b k) ∧ M' = va_up M a (some (r0, eI G 10 F)))) args s 1 10 (xF G)) (F0 m 12 ls []) := by
  obtain ⟨hx, hb, hr, hml, hown, hw, hlocks⟩ := id hE
  have hrn : zrn u ≤ 10 := hO.2.2.1
  have hbit : ∀ i, i < zrn u → (((nI (zMk b (zrn u)) >>> (nI i &&& 31)) &&& 1) = 1 ↔ b i ≠ -1) := fun i hi => by
    have hlt : zMk b (zrn u) < 1024 := Nat.lt_of_lt_of_le (zMk_lt b _) (Nat.pow_le_pow_right (by decide) hrn : 2 ^ zrn u ≤ 2 ^ 10)
    rw [z_bit i (by omega) _ hlt, zMk_bit b _ i hi]
    by_cases h9 : b i = -1
    · rw [if_pos h9]
      exact ⟨fun h8 => absurd h8 (by decide), fun h8 => absurd h9 h8⟩
    · rw [if_neg h9]
      exact ⟨fun _ => h9, fun _ => rfl⟩
  intro n
  induction n with
  | zero =>
    intro i h1 h2
    exact absurd h2 (by omega)
  | succ n ih =>
    intro i hi hin F hF H locs ls hM hS hl
    obtain ⟨Mi, eMi⟩ : ∃ z : xM, z = va_up M q (some (r0, eI G 10 F)) := ⟨_, rfl⟩
    rw [← eMi] at hM
    have c_o : Mi (ad 0) = some (0, .inr (4, [.ref (ad 1), .int (nI (zpn u)), .ref (ad 2), .int (nI (zrn u)), .ref (ad 3), .int (nI (zmn u)), .ref (ad 4), .ref (ad 5), .ref (ad 6), .ref (ad 7), .ref (ad 8), .ref (ad 9)])) := xw_newE eMi hC.1 hqn
    have c_rows := xw_newE eMi hC.2.2.1 hqn
    have c_q := xw_atE eMi
    refine lv_iload_n hx hb d_Rm_startsOf_12 rfl (lv_at hl 3 rfl) ?_
    refine lv_aload_n hx hb d_Rm_startsOf_13 rfl (lv_at hl 0 rfl) ?_
    refine x_get (C := R_Rm) (T := F_Rm) (N := 12) hx hb hw i_Rm hown hK.1 hM c_o rfl 3 (by decide) (hw _ kw_68) rfl rfl d_Rm_startsOf_14 ?_
    refine lv_icmp_ge (tgt := 47) hx hb d_Rm_startsOf_17 (by decide) (fun c_17 => ?_) (fun c_17 => ?_)
    · have h9 : zrn u ≤ i := (nI_leI (by omega) (by omega)).mp c_17
      refine lv_aload_n hx hb d_Rm_startsOf_47 rfl (lv_at hl 2 rfl) ?_
      exact x_rr hE rfl (Or.inr ⟨_, rfl⟩) hM hS ⟨hqn, F, fun k hk2 => by
        rw [hF k hk2]
        by_cases h8 : k < i
        · rw [if_pos h8]
        · rw [if_neg h8, hge k (by omega)], eMi⟩ (by decide) (by decide) d_Rm_startsOf_48
    · have hir : i < zrn u := Nat.not_le.mp (fun h9 => c_17 ((nI_leI (by omega) (by omega)).mpr h9))
      refine lv_iload_n hx hb d_Rm_startsOf_20 rfl (lv_at hl 1 rfl) ?_
      refine lv_iload_n hx hb d_Rm_startsOf_21 rfl (lv_at hl 3 rfl) ?_
      refine lv_ishr hx hb d_Rm_startsOf_22 ?_
      refine lv_iconst (v := 1) hx hb d_Rm_startsOf_23 (by decide) ?_
      refine lv_iand hx hb d_Rm_startsOf_24 ?_
      refine lv_iconst (v := 1) hx hb d_Rm_startsOf_25 (by decide) ?_
      refine lv_icmp_ne (tgt := 41) hx hb d_Rm_startsOf_26 (by decide) (fun c_26 => ?_) (fun c_26 => ?_)
      · refine lv_iinc (v := (nI (i + 1))) (lv' := [(3, .int (nI (i + 1))), (0, .ref (ad 0)), (1, .int (nI (zMk b (zrn u)))), (2, .ref q)]) hx hb d_Rm_startsOf_41 hl (k := 3) rfl (nI_1 i) (by decide) rfl (fun ls hl => ?_)
        refine lv_goto (tgt := 12) hx hb d_Rm_startsOf_44 (by decide) ?_
        have hbi : b i = -1 := Classical.byContradiction fun h9 => c_26 ((hbit i hir).mpr h9)
        exact ih (i + 1) hir (by omega) F (fun k hk2 => by
          rw [hF k hk2]
          by_cases h9 : k < i
          · rw [if_pos h9, if_pos (by omega)]
          · rw [if_neg h9]
            by_cases h8 : k = i
            · subst h8
              rw [if_pos (by omega), hbi]
            · rw [if_neg (by omega)]) _ _ _ (by rw [← eMi]; exact hM) hS (lv_sub hl [1, 2, 3, 0] rfl)
      · refine lv_aload_n hx hb d_Rm_startsOf_29 rfl (lv_at hl 2 rfl) ?_
        refine lv_iload_n hx hb d_Rm_startsOf_30 rfl (lv_at hl 3 rfl) ?_
        refine lv_aload_n hx hb d_Rm_startsOf_31 rfl (lv_at hl 0 rfl) ?_
        refine x_get (C := R_Rm) (T := F_Rm) (N := 12) hx hb hw i_Rm hown hK.1 hM c_o rfl 2 (by decide) (hw _ kw_67) rfl rfl d_Rm_startsOf_32 ?_
        refine lv_iload_n hx hb d_Rm_startsOf_35 rfl (lv_at hl 3 rfl) ?_
        have hRi := hC.2.2.2.2.2.2.1 i hir
        have c_row := xw_newE eMi hRi.1 hqn
        refine x_aldq (v := .ref (ad (20 + i))) hx hb hK.1 hM c_rows 2 rfl rfl (by omega) (by omega) (zrw_lt hir) d_Rm_startsOf_36 ?_
        refine x_getN (C := R_Row) (T := F_Row) (N := 2) (host := R_Rm) hx hb hw i_Row hown hK.1 hM c_row rfl 1 (by decide) (va_Nw.use rfl (hK.2.1.1 (97, R_Row, "start", "I") (by decide))) rfl rfl d_Rm_startsOf_37 ?_
        refine x_iast hx hb hK.1 hM hS c_q 0 rfl rfl (by omega) (by omega) d_Rm_startsOf_40 (fun H locs hM hS hz => ?_)
        have hM : xh G (va_up Mi q (some (r0, .inl (gI G, 10, .inl (upd F i (zst u i)))))) H := hM
        obtain ⟨Mi_1, eMi_1⟩ : ∃ z : xM, z = va_up Mi q (some (r0, .inl (gI G, 10, .inl (upd F i (zst u i))))) := ⟨_, rfl⟩
        rw [← eMi_1] at hM
        have c_q := xw_atE eMi_1
        refine lv_iinc (v := (nI (i + 1))) (lv' := [(3, .int (nI (i + 1))), (0, .ref (ad 0)), (1, .int (nI (zMk b (zrn u)))), (2, .ref q)]) hx hb d_Rm_startsOf_41 hl (k := 3) rfl (nI_1 i) (by decide) rfl (fun ls hl => ?_)
        refine lv_goto (tgt := 12) hx hb d_Rm_startsOf_44 (by decide) ?_
        have hst := (hb9 i hir).resolve_left ((hbit i hir).mp c_26)
        exact ih (i + 1) hir (by omega) (upd F i (zst u i)) (fun k hk2 => by
          by_cases h8 : k = i
          · subst h8
            rw [pk_us, if_pos (by omega), hst]
          · rw [pk_un h8, hF k hk2]
            by_cases h9 : k < i
            · rw [if_pos h9, if_pos (by omega)]
            · rw [if_neg h9, if_neg (by omega)]) _ _ _ (by rw [eMi_1, eMi, bx_uu] at hM; exact hM) hS (lv_sub hl [1, 2, 3, 0] rfl)

set_option maxHeartbeats 4000000 in
set_option maxRecDepth 100000 in
theorem c_Rm_startsOf (l : Launch) (G : xG) (M : xM) (ad : Nat → Nat) (u : zS) (hC : Core G M ad u) (hO : zOk u) (b : Nat → Int32) (hb9 : ∀ i, i < zrn u → b i = -1 ∨ b i = zst u i) (hge : ∀ k, zrn u ≤ k → b k = -1) (r0 : Nat) : Met l y_Rm_startsOf w_Rm_startsOf ({ frames := 1, cells := 1, slots := 10, locals := 40 }) (xP G [.ref (ad 0), .int (nI (zMk b (zrn u)))] M) (xQr G (fun a M' => M a = none ∧ ∃ F : Nat → Int32, (∀ k, k < 10 → F k = b k) ∧ M' = va_up M a (some (r0, eI G 10 F)))) 1 10 (xF G) := by
  refine x_met (by decide) (Nat.le_of_ble_eq_true rfl) ?_
  intro p e s m below meth c ls hE hin hl hM hK hS
  obtain ⟨hx, hb, hr, hml, hown, hw, hlocks⟩ := id hE
  have hl : lv_has ls 4 [(0, .ref (ad 0)), (1, .int (nI (zMk b (zrn u))))] := hl
  refine lv_bipush (v := 10) hx hb d_Rm_startsOf_0 (by decide) ?_
  refine x_newa (r0) (atype := .int) (a0 := (10, .inl (fun _ => 0))) (N' := 10) hx hb (hw _ kw_48) hK.1 hM hS 0 rfl (vp_cell_i _ _ _) rfl (by decide) (show 10 * 4 ≤ _ by omega) (by decide) (by decide) d_Rm_startsOf_2 (fun q H hn_q hM hS => ?_)
  have hM : xh G (va_up M q (some (r0, .inl (gI G, 10, .inl (fun _ => 0))))) H := hM
  obtain ⟨M_1, eM_1⟩ : ∃ z : xM, z = va_up M q (some (r0, .inl (gI G, 10, .inl (fun _ => 0)))) := ⟨_, rfl⟩
  rw [← eM_1] at hM
  have k_ad0 := xw_newE eM_1 hC.1 hn_q
  have c_q := xw_atE eM_1
  refine lv_astore_n (lv' := [(2, .ref q), (0, .ref (ad 0)), (1, .int (nI (zMk b (zrn u))))]) hx hb d_Rm_startsOf_4 rfl hl (by decide) rfl (fun ls hl => ?_)
  refine lv_aload_n hx hb d_Rm_startsOf_5 rfl (lv_at hl 0 rfl) ?_
  refine lv_iconst (v := (-1)) hx hb d_Rm_startsOf_6 (by decide) ?_
  refine x_cv (x_runS (As := [.ref q, .int (-1)]) (rest := []) hE hK hM hl.1 (c_JA_fill l G M_1 q r0 10 (by decide) (-1) (fun _ => 0) c_q) kw_279 kw_280 kw_14 kw_281 2 rfl rfl rfl (by decide +kernel) ⟨by decide, by decide⟩ rfl (Nat.le_of_ble_eq_true rfl) d_Rm_startsOf_7 ⟨by decide, by decide⟩) hS (fun M1 H locs hp hM hS => ?_)
  obtain ⟨F, hF, e_M⟩ := hp
  have hM : xh G (va_up M q (some (r0, eI G 10 F))) H := by rw [e_M, eM_1, bx_uu] at hM; exact hM
  refine lv_iconst (v := 0) hx hb d_Rm_startsOf_10 (by decide) ?_
  refine lv_istore_n (lv' := [(3, .int 0), (2, .ref q), (0, .ref (ad 0)), (1, .int (nI (zMk b (zrn u))))]) hx hb d_Rm_startsOf_11 rfl hl (by decide) rfl (fun ls hl => ?_)
  exact lp_Rm_startsOf ad u hC hO b hb9 hge r0 q hn_q hE hK (zrn u + 1) 0 (by omega) (by omega) F (fun k hk2 => by rw [hF k hk2, if_neg (by omega)]) _ _ _ hM hS (lv_sub hl [2, 3, 1, 0] rfl)

set_option maxHeartbeats 4000000 in
set_option maxRecDepth 100000 in
theorem c_Men_init (l : Launch) (G : xG) (M : xM) (g r sa rv rd : Nat) (f l0 nn : Int32) (h1 : rv ≠ r) (h2 : rd ≠ r) (h3 : rv ≠ rd) (hY : (l0 - f + 1).toNatClampNeg ≤ 530) (hg : M g = some (r, .inr (3, [.null, .int 0, .int 0, .int 0, .null, .null]))) : Met l y_Men_init w_Men_init ({ frames := 1, cells := 2, slots := 1060, locals := 40 }) (xP G [.ref g, .ref sa, .int f, .int l0, .int nn] M) (xQv G (fun M' => xOff r M M' ∧ ∃ va da, M' g = some (r, .inr (3, [.ref sa, .int f, .int l0, .int nn, .ref va, .ref da])) ∧ M' va = some (rv, eI G (l0 - f + 1).toNatClampNeg (fun _ => 0)) ∧ M' da = some (rd, eI G (l0 - f + 1).toNatClampNeg (fun _ => 0)))) 2 1060 (xF G) := by
  refine x_met (by decide) (Nat.le_of_ble_eq_true rfl) ?_
  intro p e s m below meth c ls hE hin hl hM hK hS
  obtain ⟨hx, hb, hr, hml, hown, hw, hlocks⟩ := id hE
  have hl : lv_has ls 6 [(0, .ref g), (1, .ref sa), (2, .int f), (3, .int l0), (4, .int nn)] := hl
  refine lv_aload_n hx hb d_Men_init_0 rfl (lv_at hl 0 rfl) ?_
  refine W.objInit hx hb hown (hw _ kw_306) (hw _ kw_22) (hw _ kw_23) rfl (by rw [hml]; exact hl.1) rfl d_Men_init_1 (Nat.le_of_ble_eq_true rfl) (Nat.le_of_ble_eq_true rfl) ?_
  refine W.eq (g2 := F0 m 4 ls []) rfl ?_
  have hof : xOff r M M := xOff.refl
  refine lv_aload_n hx hb d_Men_init_4 rfl (lv_at hl 0 rfl) ?_
  refine lv_aload_n hx hb d_Men_init_5 rfl (lv_at hl 1 rfl) ?_
  refine x_putF (C := R_Men) (T := F_Men) (N := 6) (ty := .array (.int)) (v := .ref sa) hx hb hw i_Men t_Men t_Men_ok n_Men hown hK.1 hM hS hg rfl 0 (by decide) (hw _ kw_308) rfl rfl hin rfl (by decide +kernel) rfl rfl (Nat.le_of_ble_eq_true rfl) d_Men_init_6 (fun H locs hM hS hz => ?_)
  have hM : xh G (va_up M g (some (r, .inr (3, [.ref sa, .int 0, .int 0, .int 0, .null, .null])))) H := hM
  obtain ⟨M_1, eM_1⟩ : ∃ z : xM, z = va_up M g (some (r, .inr (3, [.ref sa, .int 0, .int 0, .int 0, .null, .null]))) := ⟨_, rfl⟩
  rw [← eM_1] at hM
  have hof := hof.put hg eM_1
  have hg := xw_atE eM_1
  refine lv_aload_n hx hb d_Men_init_9 rfl (lv_at hl 0 rfl) ?_
  refine lv_iload_n hx hb d_Men_init_10 rfl (lv_at hl 2 rfl) ?_
  refine x_putF (C := R_Men) (T := F_Men) (N := 6) (ty := .int) (v := .int f) hx hb hw i_Men t_Men t_Men_ok n_Men hown hK.1 hM hS hg rfl 1 (by decide) (hw _ kw_310) rfl rfl hin rfl (by decide +kernel) rfl rfl (Nat.le_of_ble_eq_true rfl) d_Men_init_11 (fun H locs hM hS hz => ?_)
  have hM : xh G (va_up M_1 g (some (r, .inr (3, [.ref sa, .int f, .int 0, .int 0, .null, .null])))) H := hM
  obtain ⟨M_2, eM_2⟩ : ∃ z : xM, z = va_up M_1 g (some (r, .inr (3, [.ref sa, .int f, .int 0, .int 0, .null, .null]))) := ⟨_, rfl⟩
  rw [← eM_2] at hM
  have hof := hof.put hg eM_2
  have hg := xw_atE eM_2
  refine lv_aload_n hx hb d_Men_init_14 rfl (lv_at hl 0 rfl) ?_
  refine lv_iload_n hx hb d_Men_init_15 rfl (lv_at hl 3 rfl) ?_
  refine x_putF (C := R_Men) (T := F_Men) (N := 6) (ty := .int) (v := .int l0) hx hb hw i_Men t_Men t_Men_ok n_Men hown hK.1 hM hS hg rfl 2 (by decide) (hw _ kw_312) rfl rfl hin rfl (by decide +kernel) rfl rfl (Nat.le_of_ble_eq_true rfl) d_Men_init_16 (fun H locs hM hS hz => ?_)
  have hM : xh G (va_up M_2 g (some (r, .inr (3, [.ref sa, .int f, .int l0, .int 0, .null, .null])))) H := hM
  obtain ⟨M_3, eM_3⟩ : ∃ z : xM, z = va_up M_2 g (some (r, .inr (3, [.ref sa, .int f, .int l0, .int 0, .null, .null]))) := ⟨_, rfl⟩
  rw [← eM_3] at hM
  have hof := hof.put hg eM_3
  have hg := xw_atE eM_3
  refine lv_aload_n hx hb d_Men_init_19 rfl (lv_at hl 0 rfl) ?_
  refine lv_iload hx hb d_Men_init_20 (lv_at hl 4 rfl) ?_
  refine x_putF (C := R_Men) (T := F_Men) (N := 6) (ty := .int) (v := .int nn) hx hb hw i_Men t_Men t_Men_ok n_Men hown hK.1 hM hS hg rfl 3 (by decide) (hw _ kw_314) rfl rfl hin rfl (by decide +kernel) rfl rfl (Nat.le_of_ble_eq_true rfl) d_Men_init_22 (fun H locs hM hS hz => ?_)
  have hM : xh G (va_up M_3 g (some (r, .inr (3, [.ref sa, .int f, .int l0, .int nn, .null, .null])))) H := hM
  obtain ⟨M_4, eM_4⟩ : ∃ z : xM, z = va_up M_3 g (some (r, .inr (3, [.ref sa, .int f, .int l0, .int nn, .null, .null]))) := ⟨_, rfl⟩
  rw [← eM_4] at hM
  have hof := hof.put hg eM_4
  have hg := xw_atE eM_4
  refine lv_iconst (v := 0) hx hb d_Men_init_25 (by decide) ?_
  refine lv_iload_n hx hb d_Men_init_26 rfl (lv_at hl 3 rfl) ?_
  refine lv_iload_n hx hb d_Men_init_27 rfl (lv_at hl 2 rfl) ?_
  refine lv_isub hx hb d_Men_init_28 ?_
  refine lv_iconst (v := 1) hx hb d_Men_init_29 (by decide) ?_
  refine lv_iadd hx hb d_Men_init_30 ?_
  refine va_mmax hx hb (hml.trans hl.1.symm) hown (hw _ kw_307) (hw _ kJ_max') (hw _ kJ_M) (hw _ kJ_max) (by decide) (Nat.le_of_ble_eq_true rfl) (by decide) (by decide) d_Men_init_31 ?_
  refine W.eq (g2 := F0 m 34 ls [.int (zMax 0 ((l0 - f) + 1))]) rfl ?_
  refine lv_topi (fun tv etv => ?_)
  have etv : tv = nI (l0 - f + 1).toNatClampNeg := by rw [etv]; exact z_max0 _
  subst etv
  refine lv_istore (lv' := [(5, .int (nI (l0 - f + 1).toNatClampNeg)), (0, .ref g), (1, .ref sa), (2, .int f), (3, .int l0), (4, .int nn)]) hx hb d_Men_init_34 hl (by decide) rfl (fun ls hl => ?_)
  refine lv_aload_n hx hb d_Men_init_36 rfl (lv_at hl 1 rfl) ?_
  refine lv_iload hx hb d_Men_init_37 (lv_at hl 0 rfl) ?_
  refine x_newa (rv) (atype := .int) (a0 := ((l0 - f + 1).toNatClampNeg, .inl (fun _ => 0))) (N' := (l0 - f + 1).toNatClampNeg) hx hb (hw _ kw_48) hK.1 hM hS 0 rfl (vp_cell_i _ _ _) rfl (by omega) (show (l0 - f + 1).toNatClampNeg * 4 ≤ _ by omega) (by decide) (show 0 + (l0 - f + 1).toNatClampNeg ≤ 1060 by omega) d_Men_init_39 (fun va H hn_va hM hS => ?_)
  refine W.widen (k := 1) (n := 530) (by omega) (by omega) ?_
  have hM : xh G (va_up M_4 va (some (rv, .inl (gI G, (l0 - f + 1).toNatClampNeg, .inl (fun _ => 0))))) H := hM
  obtain ⟨M_5, eM_5⟩ : ∃ z : xM, z = va_up M_4 va (some (rv, .inl (gI G, (l0 - f + 1).toNatClampNeg, .inl (fun _ => 0)))) := ⟨_, rfl⟩
  rw [← eM_5] at hM
  have hof := hof.new hn_va eM_5
  have hg := xw_newE eM_5 hg hn_va
  have c_va := xw_atE eM_5
  refine x_putF (C := R_Men) (T := F_Men) (N := 6) (ty := .array (.int)) (v := .ref va) hx hb hw i_Men t_Men t_Men_ok n_Men hown hK.1 hM hS hg rfl 4 (by decide) (hw _ kw_316) rfl rfl hin rfl (by decide +kernel) rfl rfl (Nat.le_of_ble_eq_true rfl) d_Men_init_41 (fun H locs hM hS hz => ?_)
  have hM : xh G (va_up M_5 g (some (r, .inr (3, [.ref sa, .int f, .int l0, .int nn, .ref va, .null])))) H := hM
  obtain ⟨M_6, eM_6⟩ : ∃ z : xM, z = va_up M_5 g (some (r, .inr (3, [.ref sa, .int f, .int l0, .int nn, .ref va, .null]))) := ⟨_, rfl⟩
  rw [← eM_6] at hM
  have hof := hof.put hg eM_6
  have c_va := xw_upE eM_6 c_va hg (by omega)
  have hg := xw_atE eM_6
  refine lv_aload_n hx hb d_Men_init_44 rfl (lv_at hl 1 rfl) ?_
  refine lv_iload hx hb d_Men_init_45 (lv_at hl 0 rfl) ?_
  refine x_newa (rd) (atype := .int) (a0 := ((l0 - f + 1).toNatClampNeg, .inl (fun _ => 0))) (N' := (l0 - f + 1).toNatClampNeg) hx hb (hw _ kw_48) hK.1 hM hS 0 rfl (vp_cell_i _ _ _) rfl (by omega) (show (l0 - f + 1).toNatClampNeg * 4 ≤ _ by omega) (by decide) (show 530 + (l0 - f + 1).toNatClampNeg ≤ 1060 by omega) d_Men_init_47 (fun da H hn_da hM hS => ?_)
  refine W.widen (k := 2) (n := 1060) (by omega) (by omega) ?_
  have hM : xh G (va_up M_6 da (some (rd, .inl (gI G, (l0 - f + 1).toNatClampNeg, .inl (fun _ => 0))))) H := hM
  obtain ⟨M_7, eM_7⟩ : ∃ z : xM, z = va_up M_6 da (some (rd, .inl (gI G, (l0 - f + 1).toNatClampNeg, .inl (fun _ => 0)))) := ⟨_, rfl⟩
  rw [← eM_7] at hM
  have hof := hof.new hn_da eM_7
  have hg := xw_newE eM_7 hg hn_da
  have c_va := xw_newE eM_7 c_va hn_da
  have c_da := xw_atE eM_7
  refine x_putF (C := R_Men) (T := F_Men) (N := 6) (ty := .array (.int)) (v := .ref da) hx hb hw i_Men t_Men t_Men_ok n_Men hown hK.1 hM hS hg rfl 5 (by decide) (hw _ kw_318) rfl rfl hin rfl (by decide +kernel) rfl rfl (Nat.le_of_ble_eq_true rfl) d_Men_init_49 (fun H locs hM hS hz => ?_)
  have hM : xh G (va_up M_7 g (some (r, .inr (3, [.ref sa, .int f, .int l0, .int nn, .ref va, .ref da])))) H := hM
  obtain ⟨M_8, eM_8⟩ : ∃ z : xM, z = va_up M_7 g (some (r, .inr (3, [.ref sa, .int f, .int l0, .int nn, .ref va, .ref da]))) := ⟨_, rfl⟩
  rw [← eM_8] at hM
  have hof := hof.put hg eM_8
  have c_va := xw_upE eM_8 c_va hg (by omega)
  have c_da := xw_upE eM_8 c_da hg (by omega)
  have hg := xw_atE eM_8
  exact x_rv hE rfl hM hS ⟨hof, va, da, hg, c_va, c_da⟩ (by omega) (by omega) d_Men_init_52

set_option maxHeartbeats 4000000 in
set_option maxRecDepth 100000 in
theorem lp_Rm_fillValues {p : Program} {l : Launch} {e : Env} {s : State} {m : MethodId} {below : List Frame} {meth : Method} {c : Code} {args : Array Value} {G : xG} {M : xM} (ad : Nat → Nat) (u : zS) (hC : Core G M ad u) (hO : zOk u) (hm8 : zmn u < 8) (q sa va da : Nat) (B : Nat → Int32) (f l0 nn : Int32) (Y : Nat) (hY : Y ≤ 530) (hsa : M sa = some (50 + zmn u, eI G 10 B)) (hq : M q = some (40 + zmn u, .inr (3, [.ref sa, .int f, .int l0, .int nn, .ref va, .ref da]))) (hE : xE p s m args meth c b_Rm_fillValues none 3 R_Rm) (hK : KX G s) : ∀ (n k : Nat), k ≤ Y → Y + 1 ≤ k + n → ∀ (Mk : xM) (z5 : zQ) (V D : Nat → Int32), xOff3 5 (60 + zmn u) (70 + zmn u) M Mk → Mk (ad 5) = some (5, eRob z5) → Mk va = some (60 + zmn u, eI G Y V) → Mk da = some (70 + zmn u, eI G Y D) → (∀ k', k' < k → V k' = zAq (zGat (zln u) (zev u) B (f + nI k') (-1) (zrn u)) ∧ D k' = (zGat (zln u) (zev u) B (f + nI k') (-1) (zrn u)).1) → ∀ (H : Heap) (locs : List Loc) (ls : Array Slot), xh G Mk H → va_S (xF G) s.heap H locs → lv_has ls 3 [(0, .ref (ad 0)), (1, .ref q), (2, .int (nI k))] → W p l e ({ frames := 3, cells := 0, slots := 0, locals := 70 }) s m args below meth c H locs 0 0 (MQ below (xQv G (fun M' => xOff3 5 (60 + zmn u) (70 + zmn u) M M' ∧ (∃ z : zQ, M' (ad 5) = some (5, eRob z)) ∧ ∃ V D : Nat → Int32, M' va = some (60 + zmn u, eI G Y V) ∧ M' da = some (70 + zmn u, eI G Y D) ∧ ∀ k, k < Y → V k = zAq (zGat (zln u) (zev u) B (f + nI k) (-1) (zrn u)) ∧ D k = (zGat (zln u) (zev u) B (f + nI k) (-1) (zrn u)).1)) args s 0 0 (xF G)) (F0 m 2 ls []) := by
  obtain ⟨hx, hb, hr, hml, hown, hw, hlocks⟩ := id hE
  intro n
  induction n with
  | zero =>
    intro k h1 h2
    exact absurd h2 (by omega)
  | succ n ih =>
    intro k hk hin Mk z5 V D hof c_rob c_va c_da hVD H locs ls hM hS hl
    have hCk : Core G Mk ad u := hC.keepM hO.2.2.1 hm8 hof
    have c_o : Mk (ad 0) = some (0, .inr (4, [.ref (ad 1), .int (nI (zpn u)), .ref (ad 2), .int (nI (zrn u)), .ref (ad 3), .int (nI (zmn u)), .ref (ad 4), .ref (ad 5), .ref (ad 6), .ref (ad 7), .ref (ad 8), .ref (ad 9)])) := hCk.1
    have c_q := hof _ _ _ hq (by omega) (by omega) (by omega)
    have c_sa := hof _ _ _ hsa (by omega) (by omega) (by omega)
    refine lv_iload_n hx hb d_Rm_fillValues_2 rfl (lv_at hl 2 rfl) ?_
    refine lv_aload_n hx hb d_Rm_fillValues_3 rfl (lv_at hl 1 rfl) ?_
    refine x_getN (C := R_Men) (T := F_Men) (N := 6) (host := R_Rm) hx hb hw i_Men hown hK.1 hM c_q rfl 4 (by decide) (va_Nw.use rfl (hK.2.1.1 (145, R_Men, "values", "[I") (by decide))) rfl rfl d_Rm_fillValues_4 ?_
    refine x_alen (v := nI Y) hx hb hK.1 hM c_va 0 rfl rfl d_Rm_fillValues_7 ?_
    refine lv_icmp_ge (tgt := 58) hx hb d_Rm_fillValues_8 (by decide) (fun c_8 => ?_) (fun c_8 => ?_)
    · have h8 : Y ≤ k := (nI_leI (by omega) (by omega)).mp c_8
      exact x_rv hE rfl hM hS ⟨hof, ⟨z5, c_rob⟩, V, D, c_va, c_da, fun k2 h2 => hVD k2 (by omega)⟩ (by omega) (by omega) d_Rm_fillValues_58
    · have hkY : k < Y := Nat.not_le.mp (fun h9 => c_8 ((nI_leI (by omega) (by omega)).mpr h9))
      refine lv_aload_n hx hb d_Rm_fillValues_11 rfl (lv_at hl 0 rfl) ?_
      refine lv_aload_n hx hb d_Rm_fillValues_12 rfl (lv_at hl 1 rfl) ?_
      refine x_getN (C := R_Men) (T := F_Men) (N := 6) (host := R_Rm) hx hb hw i_Men hown hK.1 hM c_q rfl 0 (by decide) (va_Nw.use rfl (hK.2.1.1 (159, R_Men, "starts", "[I") (by decide))) rfl rfl d_Rm_fillValues_13 ?_
      refine lv_aload_n hx hb d_Rm_fillValues_16 rfl (lv_at hl 1 rfl) ?_
      refine x_getN (C := R_Men) (T := F_Men) (N := 6) (host := R_Rm) hx hb hw i_Men hown hK.1 hM c_q rfl 1 (by decide) (va_Nw.use rfl (hK.2.1.1 (134, R_Men, "first", "I") (by decide))) rfl rfl d_Rm_fillValues_17 ?_
      refine lv_iload_n hx hb d_Rm_fillValues_20 rfl (lv_at hl 2 rfl) ?_
      refine lv_iadd hx hb d_Rm_fillValues_21 ?_
      refine lv_iconst (v := (-1)) hx hb d_Rm_fillValues_22 (by decide) ?_
      refine x_cv (x_runV (As := [.ref sa, .int (f + (nI k)), .int (-1)]) (rest := []) hE hK hM hl.1 (c_Rm_gather l G Mk ad u hCk hO sa (50 + zmn u) B (f + nI k) (-1) c_sa (by omega) z5 c_rob) c_o rfl kw_337 kw_339 ks_8 kw_1 kw_340 3 rfl rfl rfl (by decide +kernel) ⟨by decide, by decide⟩ rfl (Nat.le_of_ble_eq_true rfl) d_Rm_fillValues_23 ⟨by decide, by decide⟩) hS (fun M1 H locs hp hM hS => ?_)
      obtain ⟨g, eg⟩ : ∃ z : zQ, z = zGat (zln u) (zev u) B (f + nI k) (-1) (zrn u) := ⟨_, rfl⟩
      rw [← eg] at hp
      have hof := hof.put c_rob hp (Or.inl rfl)
      have c_o := xw_upE hp c_o c_rob (by decide)
      have c_q := xw_upE hp c_q c_rob (by omega)
      have c_sa := xw_upE hp c_sa c_rob (by omega)
      have c_va := xw_upE hp c_va c_rob (by omega)
      have c_da := xw_upE hp c_da c_rob (by omega)
      have c_rob := xw_atE hp
      obtain ⟨Ma, eMa⟩ : ∃ z : xM, z = M1 := ⟨_, rfl⟩
      subst eMa
      refine lv_aload_n hx hb d_Rm_fillValues_26 rfl (lv_at hl 1 rfl) ?_
      refine x_getN (C := R_Men) (T := F_Men) (N := 6) (host := R_Rm) hx hb hw i_Men hown hK.1 hM c_q rfl 4 (by decide) (va_Nw.use rfl (hK.2.1.1 (145, R_Men, "values", "[I") (by decide))) rfl rfl d_Rm_fillValues_27 ?_
      refine lv_iload_n hx hb d_Rm_fillValues_30 rfl (lv_at hl 2 rfl) ?_
      refine lv_aload_n hx hb d_Rm_fillValues_31 rfl (lv_at hl 0 rfl) ?_
      refine x_get (C := R_Rm) (T := F_Rm) (N := 12) hx hb hw i_Rm hown hK.1 hM c_o rfl 7 (by decide) (hw _ kw_72) rfl rfl d_Rm_fillValues_32 ?_
      refine x_ci (x_runV (As := []) (rest := [.int (nI k), .ref va]) hE hK hM hl.1 (c_Rob_answer l G Ma (ad 5) 5 g.1 g.2.1 g.2.2.1 g.2.2.2 c_rob) c_rob rfl kw_355 kw_356 kw_357 kw_2 kw_358 0 rfl rfl rfl (by decide +kernel) ⟨by decide, by decide⟩ rfl (Nat.le_of_ble_eq_true rfl) d_Rm_fillValues_35 ⟨by decide, by decide⟩) hS (fun r2 M1 H locs hp hM hS => ?_)
      obtain ⟨e_r, e_M⟩ := hp
      have hM : xh G Ma H := e_M ▸ hM
      refine x_iast hx hb hK.1 hM hS c_va 0 rfl rfl hkY (by omega) d_Rm_fillValues_38 (fun H locs hM hS hz => ?_)
      have hM : xh G (va_up Ma va (some (60 + zmn u, .inl (gI G, Y, .inl (upd V k r2))))) H := hM
      obtain ⟨Ma_1, eMa_1⟩ : ∃ z : xM, z = va_up Ma va (some (60 + zmn u, .inl (gI G, Y, .inl (upd V k r2)))) := ⟨_, rfl⟩
      rw [← eMa_1] at hM
      have hof := hof.put c_va eMa_1 (by omega)
      have c_o := xw_upE eMa_1 c_o c_va (by omega)
      have c_q := xw_upE eMa_1 c_q c_va (by omega)
      have c_sa := xw_upE eMa_1 c_sa c_va (by omega)
      have c_da := xw_upE eMa_1 c_da c_va (by omega)
      have c_rob := xw_upE eMa_1 c_rob c_va (by omega)
      have c_va := xw_atE eMa_1
      refine lv_aload_n hx hb d_Rm_fillValues_39 rfl (lv_at hl 1 rfl) ?_
      refine x_getN (C := R_Men) (T := F_Men) (N := 6) (host := R_Rm) hx hb hw i_Men hown hK.1 hM c_q rfl 5 (by decide) (va_Nw.use rfl (hK.2.1.1 (152, R_Men, "depths", "[I") (by decide))) rfl rfl d_Rm_fillValues_40 ?_
      refine lv_iload_n hx hb d_Rm_fillValues_43 rfl (lv_at hl 2 rfl) ?_
      refine lv_aload_n hx hb d_Rm_fillValues_44 rfl (lv_at hl 0 rfl) ?_
      refine x_get (C := R_Rm) (T := F_Rm) (N := 12) hx hb hw i_Rm hown hK.1 hM c_o rfl 7 (by decide) (hw _ kw_72) rfl rfl d_Rm_fillValues_45 ?_
      refine x_getN (C := R_Rob) (T := F_Rob) (N := 4) (host := R_Rm) hx hb hw i_Rob hown hK.1 hM c_rob rfl 0 (by decide) (va_Nw.use rfl (hK.2.1.1 (256, R_Rob, "taken", "I") (by decide))) rfl rfl d_Rm_fillValues_48 ?_
      refine x_iast hx hb hK.1 hM hS c_da 0 rfl rfl hkY (by omega) d_Rm_fillValues_51 (fun H locs hM hS hz => ?_)
      have hM : xh G (va_up Ma_1 da (some (70 + zmn u, .inl (gI G, Y, .inl (upd D k g.1))))) H := hM
      obtain ⟨Ma_2, eMa_2⟩ : ∃ z : xM, z = va_up Ma_1 da (some (70 + zmn u, .inl (gI G, Y, .inl (upd D k g.1)))) := ⟨_, rfl⟩
      rw [← eMa_2] at hM
      have hof := hof.put c_da eMa_2 (by omega)
      have c_o := xw_upE eMa_2 c_o c_da (by omega)
      have c_q := xw_upE eMa_2 c_q c_da (by omega)
      have c_sa := xw_upE eMa_2 c_sa c_da (by omega)
      have c_va := xw_upE eMa_2 c_va c_da (by omega)
      have c_rob := xw_upE eMa_2 c_rob c_da (by omega)
      have c_da := xw_atE eMa_2
      refine lv_iinc (v := (nI (k + 1))) (lv' := [(2, .int (nI (k + 1))), (0, .ref (ad 0)), (1, .ref q)]) hx hb d_Rm_fillValues_52 hl (k := 2) rfl (nI_1 k) (by decide) rfl (fun ls hl => ?_)
      refine lv_goto (tgt := 2) hx hb d_Rm_fillValues_55 (by decide) ?_
      exact ih (k + 1) (by omega) (by omega) _ _ _ _ hof c_rob c_va c_da (fun k' hk' => by
        by_cases h9 : k' = k
        · subst h9
          rw [pk_us, pk_us, ← eg]
          exact ⟨e_r, rfl⟩
        · rw [pk_un h9, pk_un h9]
          exact hVD k' (by omega)) _ _ _ hM hS (lv_sub hl [1, 2, 0] rfl)

set_option maxHeartbeats 4000000 in
set_option maxRecDepth 100000 in
theorem c_Rm_fillValues (l : Launch) (G : xG) (M : xM) (ad : Nat → Nat) (u : zS) (hC : Core G M ad u) (hO : zOk u) (hm8 : zmn u < 8) (q sa va da : Nat) (B : Nat → Int32) (f l0 nn : Int32) (Y : Nat) (hY : Y ≤ 530) (hsa : M sa = some (50 + zmn u, eI G 10 B)) (hq : M q = some (40 + zmn u, .inr (3, [.ref sa, .int f, .int l0, .int nn, .ref va, .ref da]))) (z5 : zQ) (h5 : M (ad 5) = some (5, eRob z5)) (V0 D0 : Nat → Int32) (hva : M va = some (60 + zmn u, eI G Y V0)) (hda : M da = some (70 + zmn u, eI G Y D0)) : Met l y_Rm_fillValues w_Rm_fillValues ({ frames := 3, cells := 0, slots := 0, locals := 70 }) (xP G [.ref (ad 0), .ref q] M) (xQv G (fun M' => xOff3 5 (60 + zmn u) (70 + zmn u) M M' ∧ (∃ z : zQ, M' (ad 5) = some (5, eRob z)) ∧ ∃ V D : Nat → Int32, M' va = some (60 + zmn u, eI G Y V) ∧ M' da = some (70 + zmn u, eI G Y D) ∧ ∀ k, k < Y → V k = zAq (zGat (zln u) (zev u) B (f + nI k) (-1) (zrn u)) ∧ D k = (zGat (zln u) (zev u) B (f + nI k) (-1) (zrn u)).1)) 0 0 (xF G) := by
  refine x_met (by decide) (Nat.le_of_ble_eq_true rfl) ?_
  intro p e s m below meth c ls hE hin hl hM hK hS
  obtain ⟨hx, hb, hr, hml, hown, hw, hlocks⟩ := id hE
  have hl : lv_has ls 3 [(0, .ref (ad 0)), (1, .ref q)] := hl
  refine lv_iconst (v := 0) hx hb d_Rm_fillValues_0 (by decide) ?_
  refine lv_istore_n (lv' := [(2, .int 0), (0, .ref (ad 0)), (1, .ref q)]) hx hb d_Rm_fillValues_1 rfl hl (by decide) rfl (fun ls hl => ?_)
  exact lp_Rm_fillValues ad u hC hO hm8 q sa va da B f l0 nn Y hY hsa hq hE hK (Y + 1) 0 (by omega) (by omega) M z5 V0 D0 xOff3.refl h5 hva hda (fun k' hk' => absurd hk' (by omega)) _ _ _ hM hS (lv_sub hl [1, 2, 0] rfl)
