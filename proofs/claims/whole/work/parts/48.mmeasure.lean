set_option maxHeartbeats 4000000 in
set_option maxRecDepth 100000 in
theorem lp_Mo_measure {p : Program} {l : Launch} {e : Env} {s : State} {m : MethodId} {below : List Frame} {meth : Method} {c : Code} {args : Array Value} {G : xG} {M : xM} (ad : Nat → Nat) (u : zS) (th : Int32) (q : z5) (ho : M (ad 100) = some (100, eMo ad u th q)) (X : zX) (hA : MoA G M ad X) (hX : MoR u X) (hO : zOk u) (i : Nat) (hi : i < zrn u) (j : Nat) (hj : j < zmn u) (y wo : Int32) (hE : xE p s m args meth c b_Mo_measure none 9 R_Mo) (hK : KX G s) : ∀ (n k : Nat), k ≤ zln u i → zln u i + 1 ≤ k + n → ∀ (H : Heap) (locs : List Loc) (ls : Array Slot), xh G (va_up M (ad 100) (some (100, eMo ad u th ((zDist (zev u i) (zMmf u j y wo) k).1, (zDist (zev u i) (zMmf u j y wo) k).2, q.2.2)))) H → va_S (xF G) s.heap H locs → lv_has ls 9 [(0, .ref (ad 100)), (1, .int (nI i)), (2, .int (nI j)), (3, .int y), (4, .int wo), (5, .int (nI k))] → W p l e ({ frames := 2, cells := 0, slots := 0, locals := 75 }) s m args below meth c H locs 0 0 (MQ below (xQv G (fun M' => M' = va_up M (ad 100) (some (100, eMo ad u th ((zMm u i j y wo).1, (zMm u i j y wo).2, q.2.2))))) args s 0 0 (xF G)) (F0 m 13 ls []) := by
  obtain ⟨hx, hb, hr, hml, hown, hw, hlocks⟩ := id hE
  have hZ := hO.2.2.2.1 i hi
  have hrn := hO.2.2.1
  intro n
  induction n with
  | zero =>
    intro k h1 h2
    exact absurd h2 (by omega)
  | succ n ih =>
    intro k hk hin H locs ls hM hS hl
    obtain ⟨Mi, eMi⟩ : ∃ z : xM, z = va_up M (ad 100) (some (100, eMo ad u th ((zDist (zev u i) (zMmf u j y wo) k).1, (zDist (zev u i) (zMmf u j y wo) k).2, q.2.2))) := ⟨_, rfl⟩
    rw [← eMi] at hM
    obtain ⟨d, ed⟩ : ∃ z : Int32 × Int32, z = zDist (zev u i) (zMmf u j y wo) k := ⟨_, rfl⟩
    rw [← ed] at eMi
    have hoi : Mi (ad 100) = some (100, eMo ad u th (d.1, d.2, q.2.2)) := xw_atE eMi
    have hAi := hA.up ho eMi
    refine lv_iload hx hb d_Mo_measure_13 (lv_at hl 5 rfl) ?_
    refine lv_aload_n hx hb d_Mo_measure_15 rfl (lv_at hl 0 rfl) ?_
    refine x_get (C := R_Mo) (T := F_Mo) (N := 20) hx hb hw i_Mo hown hK.1 hM hoi rfl 4 (by decide) (hw _ kw_527) rfl rfl d_Mo_measure_16 ?_
    refine lv_iload_n hx hb d_Mo_measure_19 rfl (lv_at hl 1 rfl) ?_
    refine x_iald hx hb hK.1 hM hAi.2.1 0 rfl rfl (by omega) (by decide) d_Mo_measure_20 ?_
    refine lv_topi (fun tv etv => ?_)
    have etv : tv = nI (zln u i) := by rw [etv]; exact (hX.2.1 i hi).1
    subst etv
    refine lv_icmp_ge (tgt := 126) hx hb d_Mo_measure_21 (by decide) (fun c_21 => ?_) (fun c_21 => ?_)
    · have h21 : zln u i ≤ k := (nI_leI (by omega) (by omega)).mp c_21
      exact x_rv hE rfl hM hS (by rw [eMi, ed, show k = zln u i by omega]; rfl) (by omega) (by omega) d_Mo_measure_126
    · have hkl : k < zln u i := Nat.not_le.mp (fun h9 => c_21 ((nI_leI (by omega) (by omega)).mpr h9))
      refine x_cut (ls := ls) 42 [] (fun v => v = zBo (¬ y < -100 ∧ ¬ 600 < y)) (fun nr h_nr => ?_) (fun hj => ?_)
      · refine lv_istore (lv' := [(6, .int nr), (0, .ref (ad 100)), (1, .int (nI i)), (2, .int (nI j)), (3, .int y), (4, .int wo), (5, .int (nI k))]) hx hb d_Mo_measure_42 hl (by decide) rfl (fun ls hl => ?_)
        refine lv_iload hx hb d_Mo_measure_44 (lv_at hl 0 rfl) ?_
        refine lv_if_eq (tgt := 63) hx hb d_Mo_measure_46 (by decide) (fun c_46 => ?_) (fun c_46 => ?_)
        · have h_nn : ¬ (¬ y < -100 ∧ ¬ 600 < y) := fun h9 => by rw [h_nr, zBo_t h9] at c_46; exact absurd c_46 (by decide)
          have h_f : zMmf u j y wo k = -1 := by unfold zMmf; rw [if_pos (Classical.byContradiction fun h9 => h_nn ⟨fun h8 => h9 (Or.inl h8), fun h8 => h9 (Or.inr h8)⟩)]
          refine lv_iconst (v := (-1)) hx hb d_Mo_measure_63 (by decide) ?_
          refine lv_istore (lv' := [(7, .int (-1)), (6, .int nr), (0, .ref (ad 100)), (1, .int (nI i)), (2, .int (nI j)), (3, .int y), (4, .int wo), (5, .int (nI k))]) hx hb d_Mo_measure_64 hl (by decide) rfl (fun ls hl => ?_)
          refine lv_iload hx hb d_Mo_measure_66 (lv_at hl 0 rfl) ?_
          refine lv_iconst (v := (-1)) hx hb d_Mo_measure_68 (by decide) ?_
          refine lv_icmp_eq (tgt := 120) hx hb d_Mo_measure_69 (by decide) (fun c_69 => ?_) (fun c_69 => ?_)
          · refine lv_iinc (v := (nI (k + 1))) (lv' := [(5, .int (nI (k + 1))), (7, .int (-1)), (6, .int nr), (0, .ref (ad 100)), (1, .int (nI i)), (2, .int (nI j)), (3, .int y), (4, .int wo)]) hx hb d_Mo_measure_120 hl (k := 7) rfl (nI_1 k) (by decide) rfl (fun ls hl => ?_)
            refine lv_goto (tgt := 13) hx hb d_Mo_measure_123 (by decide) ?_
            have hz : zDist (zev u i) (zMmf u j y wo) (k + 1) = d := by show (if zMmf u j y wo k = -1 then _ else _) = _; rw [if_pos (h_f), ← ed]
            exact ih (k + 1) (by omega) (by omega) _ _ _ (by rw [hz, ← eMi]; exact hM) hS (lv_sub hl [3, 4, 5, 6, 7, 0] rfl)
          · exact absurd rfl c_69
        · have h_ne : ¬ y < -100 ∧ ¬ 600 < y := zBo_ne.mp (fun h9 => c_46 (h_nr.trans h9))
          have h_yr : inR y (-100) 600 := ⟨z_le0.mp (Int32.not_lt.mp h_ne.1), z_le0.mp (Int32.not_lt.mp h_ne.2)⟩
          have h_y2 : inR (y + nI k) (-2000) 2000 := by have h9 := z_ya h_yr (show k ≤ 30 by omega); have h7 := h_yr.1; have h8 := h_yr.2; unfold inR; rw [h9]; exact ⟨by omega, by omega⟩
          refine lv_aload_n hx hb d_Mo_measure_49 rfl (lv_at hl 1 rfl) ?_
          refine lv_iload_n hx hb d_Mo_measure_50 rfl (lv_at hl 3 rfl) ?_
          refine lv_iload_n hx hb d_Mo_measure_51 rfl (lv_at hl 4 rfl) ?_
          refine lv_iload hx hb d_Mo_measure_52 (lv_at hl 6 rfl) ?_
          refine lv_iadd hx hb d_Mo_measure_54 ?_
          refine lv_iload hx hb d_Mo_measure_55 (lv_at hl 5 rfl) ?_
          refine x_ci (x_runV (As := [.int (nI j), .int (y + (nI k)), .int wo]) (rest := []) hE hK hM hl.1 (c_Mo_valueOf l G Mi ad u th (d.1, d.2, q.2.2) hoi X hAi hX hO j hj (y + nI k) wo h_y2) hoi rfl kw_639 kw_641 ks_22 kw_4 kw_642 3 rfl rfl rfl (by decide +kernel) ⟨by decide, by decide⟩ rfl (Nat.le_of_ble_eq_true rfl) d_Mo_measure_57 ⟨by decide, by decide⟩) hS (fun r1 M1 H locs hp hM hS => ?_)
          obtain ⟨e_v, e_M⟩ := hp
          have hM : xh G Mi H := e_M ▸ hM
          have h_f : zMmf u j y wo k = r1 := by unfold zMmf; rw [if_neg (fun h9 => h9.elim h_ne.1 h_ne.2), e_v]
          refine lv_goto (tgt := 64) hx hb d_Mo_measure_60 (by decide) ?_
          refine lv_istore (lv' := [(7, .int r1), (6, .int nr), (0, .ref (ad 100)), (1, .int (nI i)), (2, .int (nI j)), (3, .int y), (4, .int wo), (5, .int (nI k))]) hx hb d_Mo_measure_64 hl (by decide) rfl (fun ls hl => ?_)
          refine lv_iload hx hb d_Mo_measure_66 (lv_at hl 0 rfl) ?_
          refine lv_iconst (v := (-1)) hx hb d_Mo_measure_68 (by decide) ?_
          refine lv_icmp_eq (tgt := 120) hx hb d_Mo_measure_69 (by decide) (fun c_69 => ?_) (fun c_69 => ?_)
          · refine lv_iinc (v := (nI (k + 1))) (lv' := [(5, .int (nI (k + 1))), (7, .int r1), (6, .int nr), (0, .ref (ad 100)), (1, .int (nI i)), (2, .int (nI j)), (3, .int y), (4, .int wo)]) hx hb d_Mo_measure_120 hl (k := 7) rfl (nI_1 k) (by decide) rfl (fun ls hl => ?_)
            refine lv_goto (tgt := 13) hx hb d_Mo_measure_123 (by decide) ?_
            have hz : zDist (zev u i) (zMmf u j y wo) (k + 1) = d := by show (if zMmf u j y wo k = -1 then _ else _) = _; rw [if_pos (h_f.trans c_69), ← ed]
            exact ih (k + 1) (by omega) (by omega) _ _ _ (by rw [hz, ← eMi]; exact hM) hS (lv_sub hl [3, 4, 5, 6, 7, 0] rfl)
          · refine lv_iload hx hb d_Mo_measure_72 (lv_at hl 0 rfl) ?_
            refine lv_aload_n hx hb d_Mo_measure_74 rfl (lv_at hl 2 rfl) ?_
            refine lv_iload_n hx hb d_Mo_measure_75 rfl (lv_at hl 3 rfl) ?_
            refine lv_iload hx hb d_Mo_measure_76 (lv_at hl 7 rfl) ?_
            refine x_ci (x_runV (As := [.int (nI i), .int (nI k)]) (rest := [.int r1]) hE hK hM hl.1 (c_Mo_even l G Mi ad u th (d.1, d.2, q.2.2) hoi X hAi hX hO i hi k hkl) hoi rfl kw_611 kw_613 ks_19 kw_4 kw_614 2 rfl rfl rfl (by decide +kernel) ⟨by decide, by decide⟩ rfl (Nat.le_of_ble_eq_true rfl) d_Mo_measure_78 ⟨by decide, by decide⟩) hS (fun r2 M1 H locs hp hM hS => ?_)
            obtain ⟨e_e, e_M⟩ := hp
            have hM : xh G Mi H := e_M ▸ hM
            refine lv_isub hx hb d_Mo_measure_81 ?_
            refine lv_istore (lv' := [(8, .int (r1 - r2)), (7, .int r1), (6, .int nr), (0, .ref (ad 100)), (1, .int (nI i)), (2, .int (nI j)), (3, .int y), (4, .int wo), (5, .int (nI k))]) hx hb d_Mo_measure_82 hl (by decide) rfl (fun ls hl => ?_)
            refine lv_aload_n hx hb d_Mo_measure_84 rfl (lv_at hl 3 rfl) ?_
            refine lv_iload hx hb d_Mo_measure_85 (lv_at hl 0 rfl) ?_
            refine lv_if_ge (tgt := 100) hx hb d_Mo_measure_87 (by decide) (fun c_87 => ?_) (fun c_87 => ?_)
            · refine lv_aload_n hx hb d_Mo_measure_100 rfl (lv_at hl 3 rfl) ?_
              refine x_get (C := R_Mo) (T := F_Mo) (N := 20) hx hb hw i_Mo hown hK.1 hM hoi rfl 12 (by decide) (hw _ kw_535) rfl rfl d_Mo_measure_101 ?_
              refine lv_iload hx hb d_Mo_measure_104 (lv_at hl 0 rfl) ?_
              refine lv_iadd hx hb d_Mo_measure_106 ?_
              refine x_put (C := R_Mo) (T := F_Mo) (N := 20) (ty := .int) (v := .int (d.1 + (r1 - r2))) hx hb hw i_Mo t_Mo t_Mo_ok n_Mo hown hK.1 hM hS hoi rfl 12 (by decide) (hw _ kw_535) rfl rfl (by decide +kernel) rfl rfl (Nat.le_of_ble_eq_true rfl) d_Mo_measure_107 (fun H locs hM hS hz => ?_)
              have hM : xh G (va_up Mi (ad 100) (some (100, .inr (5, [.int th, .int (nI (zpn u)), .ref (ad 101), .int (nI (zrn u)), .ref (ad 102), .ref (ad 103), .ref (ad 104), .int (nI (zmn u)), .ref (ad 105), .ref (ad 106), .ref (ad 107), .ref (ad 108), .int (d.1 + (r1 - r2)), .int d.2, .int q.2.2.1, .int q.2.2.2.1, .int q.2.2.2.2, .ref (ad 109), .ref (ad 110), .ref (ad 111)])))) H := hM
              obtain ⟨Mi_1, eMi_1⟩ : ∃ z : xM, z = va_up Mi (ad 100) (some (100, .inr (5, [.int th, .int (nI (zpn u)), .ref (ad 101), .int (nI (zrn u)), .ref (ad 102), .ref (ad 103), .ref (ad 104), .int (nI (zmn u)), .ref (ad 105), .ref (ad 106), .ref (ad 107), .ref (ad 108), .int (d.1 + (r1 - r2)), .int d.2, .int q.2.2.1, .int q.2.2.2.1, .int q.2.2.2.2, .ref (ad 109), .ref (ad 110), .ref (ad 111)]))) := ⟨_, rfl⟩
              rw [← eMi_1] at hM
              have hoi := xw_atE eMi_1
              refine lv_aload_n hx hb d_Mo_measure_110 rfl (lv_at hl 3 rfl) ?_
              refine lv_dup hx hb d_Mo_measure_111 rfl ?_
              refine x_get (C := R_Mo) (T := F_Mo) (N := 20) hx hb hw i_Mo hown hK.1 hM hoi rfl 13 (by decide) (hw _ kw_536) rfl rfl d_Mo_measure_112 ?_
              refine lv_iconst (v := 1) hx hb d_Mo_measure_115 (by decide) ?_
              refine lv_iadd hx hb d_Mo_measure_116 ?_
              refine x_put (C := R_Mo) (T := F_Mo) (N := 20) (ty := .int) (v := .int (d.2 + 1)) hx hb hw i_Mo t_Mo t_Mo_ok n_Mo hown hK.1 hM hS hoi rfl 13 (by decide) (hw _ kw_536) rfl rfl (by decide +kernel) rfl rfl (Nat.le_of_ble_eq_true rfl) d_Mo_measure_117 (fun H locs hM hS hz => ?_)
              have hM : xh G (va_up Mi_1 (ad 100) (some (100, .inr (5, [.int th, .int (nI (zpn u)), .ref (ad 101), .int (nI (zrn u)), .ref (ad 102), .ref (ad 103), .ref (ad 104), .int (nI (zmn u)), .ref (ad 105), .ref (ad 106), .ref (ad 107), .ref (ad 108), .int (d.1 + (r1 - r2)), .int (d.2 + 1), .int q.2.2.1, .int q.2.2.2.1, .int q.2.2.2.2, .ref (ad 109), .ref (ad 110), .ref (ad 111)])))) H := hM
              obtain ⟨Mi_2, eMi_2⟩ : ∃ z : xM, z = va_up Mi_1 (ad 100) (some (100, .inr (5, [.int th, .int (nI (zpn u)), .ref (ad 101), .int (nI (zrn u)), .ref (ad 102), .ref (ad 103), .ref (ad 104), .int (nI (zmn u)), .ref (ad 105), .ref (ad 106), .ref (ad 107), .ref (ad 108), .int (d.1 + (r1 - r2)), .int (d.2 + 1), .int q.2.2.1, .int q.2.2.2.1, .int q.2.2.2.2, .ref (ad 109), .ref (ad 110), .ref (ad 111)]))) := ⟨_, rfl⟩
              rw [← eMi_2] at hM
              have hoi := xw_atE eMi_2
              refine lv_iinc (v := (nI (k + 1))) (lv' := [(5, .int (nI (k + 1))), (8, .int (r1 - r2)), (7, .int r1), (6, .int nr), (0, .ref (ad 100)), (1, .int (nI i)), (2, .int (nI j)), (3, .int y), (4, .int wo)]) hx hb d_Mo_measure_120 hl (k := 8) rfl (nI_1 k) (by decide) rfl (fun ls hl => ?_)
              refine lv_goto (tgt := 13) hx hb d_Mo_measure_123 (by decide) ?_
              have hz : zDist (zev u i) (zMmf u j y wo) (k + 1) = (d.1 + (r1 - r2), d.2 + 1) := by
                show (if zMmf u j y wo k = -1 then _ else ((zDist (zev u i) (zMmf u j y wo) k).1 + zAbs (zev u i k - zMmf u j y wo k), (zDist (zev u i) (zMmf u j y wo) k).2 + 1)) = _
                rw [if_neg (fun h9 => c_69 (h_f.symm.trans h9)), ← ed, h_f, ← e_e, ← z_absd, if_neg (z_nlt c_87)]
              exact ih (k + 1) (by omega) (by omega) _ _ _ (by rw [hz]; rw [eMi_2, eMi_1, eMi, bx_uu, bx_uu] at hM; exact hM) hS (lv_sub hl [4, 5, 6, 7, 8, 0] rfl)
            · refine lv_aload_n hx hb d_Mo_measure_90 rfl (lv_at hl 3 rfl) ?_
              refine x_get (C := R_Mo) (T := F_Mo) (N := 20) hx hb hw i_Mo hown hK.1 hM hoi rfl 12 (by decide) (hw _ kw_535) rfl rfl d_Mo_measure_91 ?_
              refine lv_iload hx hb d_Mo_measure_94 (lv_at hl 0 rfl) ?_
              refine lv_isub hx hb d_Mo_measure_96 ?_
              refine lv_goto (tgt := 107) hx hb d_Mo_measure_97 (by decide) ?_
              refine x_put (C := R_Mo) (T := F_Mo) (N := 20) (ty := .int) (v := .int (d.1 - (r1 - r2))) hx hb hw i_Mo t_Mo t_Mo_ok n_Mo hown hK.1 hM hS hoi rfl 12 (by decide) (hw _ kw_535) rfl rfl (by decide +kernel) rfl rfl (Nat.le_of_ble_eq_true rfl) d_Mo_measure_107 (fun H locs hM hS hz => ?_)
              have hM : xh G (va_up Mi (ad 100) (some (100, .inr (5, [.int th, .int (nI (zpn u)), .ref (ad 101), .int (nI (zrn u)), .ref (ad 102), .ref (ad 103), .ref (ad 104), .int (nI (zmn u)), .ref (ad 105), .ref (ad 106), .ref (ad 107), .ref (ad 108), .int (d.1 - (r1 - r2)), .int d.2, .int q.2.2.1, .int q.2.2.2.1, .int q.2.2.2.2, .ref (ad 109), .ref (ad 110), .ref (ad 111)])))) H := hM
              obtain ⟨Mi_1, eMi_1⟩ : ∃ z : xM, z = va_up Mi (ad 100) (some (100, .inr (5, [.int th, .int (nI (zpn u)), .ref (ad 101), .int (nI (zrn u)), .ref (ad 102), .ref (ad 103), .ref (ad 104), .int (nI (zmn u)), .ref (ad 105), .ref (ad 106), .ref (ad 107), .ref (ad 108), .int (d.1 - (r1 - r2)), .int d.2, .int q.2.2.1, .int q.2.2.2.1, .int q.2.2.2.2, .ref (ad 109), .ref (ad 110), .ref (ad 111)]))) := ⟨_, rfl⟩
              rw [← eMi_1] at hM
              have hoi := xw_atE eMi_1
              refine lv_aload_n hx hb d_Mo_measure_110 rfl (lv_at hl 3 rfl) ?_
              refine lv_dup hx hb d_Mo_measure_111 rfl ?_
              refine x_get (C := R_Mo) (T := F_Mo) (N := 20) hx hb hw i_Mo hown hK.1 hM hoi rfl 13 (by decide) (hw _ kw_536) rfl rfl d_Mo_measure_112 ?_
              refine lv_iconst (v := 1) hx hb d_Mo_measure_115 (by decide) ?_
              refine lv_iadd hx hb d_Mo_measure_116 ?_
              refine x_put (C := R_Mo) (T := F_Mo) (N := 20) (ty := .int) (v := .int (d.2 + 1)) hx hb hw i_Mo t_Mo t_Mo_ok n_Mo hown hK.1 hM hS hoi rfl 13 (by decide) (hw _ kw_536) rfl rfl (by decide +kernel) rfl rfl (Nat.le_of_ble_eq_true rfl) d_Mo_measure_117 (fun H locs hM hS hz => ?_)
              have hM : xh G (va_up Mi_1 (ad 100) (some (100, .inr (5, [.int th, .int (nI (zpn u)), .ref (ad 101), .int (nI (zrn u)), .ref (ad 102), .ref (ad 103), .ref (ad 104), .int (nI (zmn u)), .ref (ad 105), .ref (ad 106), .ref (ad 107), .ref (ad 108), .int (d.1 - (r1 - r2)), .int (d.2 + 1), .int q.2.2.1, .int q.2.2.2.1, .int q.2.2.2.2, .ref (ad 109), .ref (ad 110), .ref (ad 111)])))) H := hM
              obtain ⟨Mi_2, eMi_2⟩ : ∃ z : xM, z = va_up Mi_1 (ad 100) (some (100, .inr (5, [.int th, .int (nI (zpn u)), .ref (ad 101), .int (nI (zrn u)), .ref (ad 102), .ref (ad 103), .ref (ad 104), .int (nI (zmn u)), .ref (ad 105), .ref (ad 106), .ref (ad 107), .ref (ad 108), .int (d.1 - (r1 - r2)), .int (d.2 + 1), .int q.2.2.1, .int q.2.2.2.1, .int q.2.2.2.2, .ref (ad 109), .ref (ad 110), .ref (ad 111)]))) := ⟨_, rfl⟩
              rw [← eMi_2] at hM
              have hoi := xw_atE eMi_2
              refine lv_iinc (v := (nI (k + 1))) (lv' := [(5, .int (nI (k + 1))), (8, .int (r1 - r2)), (7, .int r1), (6, .int nr), (0, .ref (ad 100)), (1, .int (nI i)), (2, .int (nI j)), (3, .int y), (4, .int wo)]) hx hb d_Mo_measure_120 hl (k := 8) rfl (nI_1 k) (by decide) rfl (fun ls hl => ?_)
              refine lv_goto (tgt := 13) hx hb d_Mo_measure_123 (by decide) ?_
              have hz : zDist (zev u i) (zMmf u j y wo) (k + 1) = (d.1 - (r1 - r2), d.2 + 1) := by
                show (if zMmf u j y wo k = -1 then _ else ((zDist (zev u i) (zMmf u j y wo) k).1 + zAbs (zev u i k - zMmf u j y wo k), (zDist (zev u i) (zMmf u j y wo) k).2 + 1)) = _
                rw [if_neg (fun h9 => c_69 (h_f.symm.trans h9)), ← ed, h_f, ← e_e, ← z_absd, if_pos (Int32.not_le.mp c_87)]
              exact ih (k + 1) (by omega) (by omega) _ _ _ (by rw [hz]; rw [eMi_2, eMi_1, eMi, bx_uu, bx_uu] at hM; exact hM) hS (lv_sub hl [4, 5, 6, 7, 8, 0] rfl)
      · refine lv_iload_n hx hb d_Mo_measure_24 rfl (lv_at hl 3 rfl) ?_
        refine lv_bipush (v := (-100)) hx hb d_Mo_measure_25 (by decide) ?_
        refine lv_icmp_lt (tgt := 41) hx hb d_Mo_measure_27 (by decide) (fun c_27 => ?_) (fun c_27 => ?_)
        · refine lv_iconst (v := 0) hx hb d_Mo_measure_41 (by decide) ?_
          exact hj _ (zBo_f (fun h9 => h9.1 c_27)).symm
        · refine lv_iload_n hx hb d_Mo_measure_30 rfl (lv_at hl 3 rfl) ?_
          refine lv_sipush (v := 600) hx hb d_Mo_measure_31 (by decide) ?_
          refine lv_icmp_gt (tgt := 41) hx hb d_Mo_measure_34 (by decide) (fun c_34 => ?_) (fun c_34 => ?_)
          · refine lv_iconst (v := 0) hx hb d_Mo_measure_41 (by decide) ?_
            exact hj _ (zBo_f (fun h9 => h9.2 c_34)).symm
          · refine lv_iconst (v := 1) hx hb d_Mo_measure_37 (by decide) ?_
            refine lv_goto (tgt := 42) hx hb d_Mo_measure_38 (by decide) ?_
            exact hj _ (zBo_t ⟨c_27, c_34⟩).symm

set_option maxHeartbeats 4000000 in
set_option maxRecDepth 100000 in
theorem c_Mo_measure (l : Launch) (G : xG) (M : xM) (ad : Nat → Nat) (u : zS) (th : Int32) (q : z5) (ho : M (ad 100) = some (100, eMo ad u th q)) (X : zX) (hA : MoA G M ad X) (hX : MoR u X) (hO : zOk u) (i : Nat) (hi : i < zrn u) (j : Nat) (hj : j < zmn u) (y wo : Int32)  : Met l y_Mo_measure w_Mo_measure ({ frames := 2, cells := 0, slots := 0, locals := 75 }) (xP G [.ref (ad 100), .int (nI i), .int (nI j), .int y, .int wo] M) (xQv G (fun M' => M' = va_up M (ad 100) (some (100, eMo ad u th ((zMm u i j y wo).1, (zMm u i j y wo).2, q.2.2))))) 0 0 (xF G) := by
  refine x_met (by decide) (Nat.le_of_ble_eq_true rfl) ?_
  intro p e s m below meth c ls hE hin hl hM hK hS
  obtain ⟨hx, hb, hr, hml, hown, hw, hlocks⟩ := id hE
  have hl : lv_has ls 9 [(0, .ref (ad 100)), (1, .int (nI i)), (2, .int (nI j)), (3, .int y), (4, .int wo)] := hl
  refine lv_aload_n hx hb d_Mo_measure_0 rfl (lv_at hl 0 rfl) ?_
  refine lv_iconst (v := 0) hx hb d_Mo_measure_1 (by decide) ?_
  refine x_put (C := R_Mo) (T := F_Mo) (N := 20) (ty := .int) (v := .int 0) hx hb hw i_Mo t_Mo t_Mo_ok n_Mo hown hK.1 hM hS (id ho) rfl 12 (by decide) (hw _ kw_535) rfl rfl (by decide +kernel) rfl rfl (Nat.le_of_ble_eq_true rfl) d_Mo_measure_2 (fun H locs hM hS hz => ?_)
  have hM : xh G (va_up M (ad 100) (some (100, .inr (5, [.int th, .int (nI (zpn u)), .ref (ad 101), .int (nI (zrn u)), .ref (ad 102), .ref (ad 103), .ref (ad 104), .int (nI (zmn u)), .ref (ad 105), .ref (ad 106), .ref (ad 107), .ref (ad 108), .int 0, .int q.2.1, .int q.2.2.1, .int q.2.2.2.1, .int q.2.2.2.2, .ref (ad 109), .ref (ad 110), .ref (ad 111)])))) H := hM
  obtain ⟨M_1, eM_1⟩ : ∃ z : xM, z = va_up M (ad 100) (some (100, .inr (5, [.int th, .int (nI (zpn u)), .ref (ad 101), .int (nI (zrn u)), .ref (ad 102), .ref (ad 103), .ref (ad 104), .int (nI (zmn u)), .ref (ad 105), .ref (ad 106), .ref (ad 107), .ref (ad 108), .int 0, .int q.2.1, .int q.2.2.1, .int q.2.2.2.1, .int q.2.2.2.2, .ref (ad 109), .ref (ad 110), .ref (ad 111)]))) := ⟨_, rfl⟩
  rw [← eM_1] at hM
  have k_ad100 := xw_atE eM_1
  refine lv_aload_n hx hb d_Mo_measure_5 rfl (lv_at hl 0 rfl) ?_
  refine lv_iconst (v := 0) hx hb d_Mo_measure_6 (by decide) ?_
  refine x_put (C := R_Mo) (T := F_Mo) (N := 20) (ty := .int) (v := .int 0) hx hb hw i_Mo t_Mo t_Mo_ok n_Mo hown hK.1 hM hS k_ad100 rfl 13 (by decide) (hw _ kw_536) rfl rfl (by decide +kernel) rfl rfl (Nat.le_of_ble_eq_true rfl) d_Mo_measure_7 (fun H locs hM hS hz => ?_)
  have hM : xh G (va_up M_1 (ad 100) (some (100, .inr (5, [.int th, .int (nI (zpn u)), .ref (ad 101), .int (nI (zrn u)), .ref (ad 102), .ref (ad 103), .ref (ad 104), .int (nI (zmn u)), .ref (ad 105), .ref (ad 106), .ref (ad 107), .ref (ad 108), .int 0, .int 0, .int q.2.2.1, .int q.2.2.2.1, .int q.2.2.2.2, .ref (ad 109), .ref (ad 110), .ref (ad 111)])))) H := hM
  obtain ⟨M_2, eM_2⟩ : ∃ z : xM, z = va_up M_1 (ad 100) (some (100, .inr (5, [.int th, .int (nI (zpn u)), .ref (ad 101), .int (nI (zrn u)), .ref (ad 102), .ref (ad 103), .ref (ad 104), .int (nI (zmn u)), .ref (ad 105), .ref (ad 106), .ref (ad 107), .ref (ad 108), .int 0, .int 0, .int q.2.2.1, .int q.2.2.2.1, .int q.2.2.2.2, .ref (ad 109), .ref (ad 110), .ref (ad 111)]))) := ⟨_, rfl⟩
  rw [← eM_2] at hM
  have k_ad100 := xw_atE eM_2
  refine lv_iconst (v := 0) hx hb d_Mo_measure_10 (by decide) ?_
  refine lv_istore (lv' := [(5, .int 0), (0, .ref (ad 100)), (1, .int (nI i)), (2, .int (nI j)), (3, .int y), (4, .int wo)]) hx hb d_Mo_measure_11 hl (by decide) rfl (fun ls hl => ?_)
  have hM : xh G (va_up M (ad 100) (some (100, eMo ad u th ((zDist (zev u i) (zMmf u j y wo) 0).1, (zDist (zev u i) (zMmf u j y wo) 0).2, q.2.2)))) H := by rw [eM_2, eM_1, bx_uu] at hM; exact hM
  exact lp_Mo_measure ad u th q ho X hA hX hO i hi j hj y wo hE hK (zln u i + 1) 0 (by omega) (by omega) _ _ _ hM hS (lv_sub hl [1, 2, 3, 4, 5, 0] rfl)
