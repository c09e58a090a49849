set_option maxHeartbeats 4000000 in
set_option maxRecDepth 100000 in
theorem lp_Mo_seek {p : Program} {l : Launch} {e : Env} {s : State} {m : MethodId} {below : List Frame} {meth : Method} {c : Code} {args : Array Value} {G : xG} {M : xM} (ad : Nat → Nat) (u : zS) (th : Int32) (q : z5) (ho : M (ad 100) = some (100, eMo ad u th q)) (X : zX) (hA : MoA G M ad X) (hX : MoR u X) (hO : zOk u) (i : Nat) (hi : i < zrn u) (j : Nat) (hj : j < zmn u) (w : Int32) (hE : xE p s m args meth c b_Mo_seek none 5 R_Mo) (hK : KX G s) : ∀ (n k : Nat) (yv : Int32), k ≤ (((zLst (zln u) (zms u j) 10).toInt - ((zFst (zms u j) 10).toInt - 30) + 1).toNat) → (((zLst (zln u) (zms u j) 10).toInt - ((zFst (zms u j) 10).toInt - 30) + 1).toNat) + 1 ≤ k + n → yv.toInt = ((zFst (zms u j) 10).toInt - 30) + k → ∀ (a b : Int32) (H : Heap) (locs : List Loc) (ls : Array Slot), xh G (va_up M (ad 100) (some (100, eMo ad u th (a, b, zSk u i j w (-1000, q.2.2.2) ((zFst (zms u j) 10).toInt - 30) k)))) H → va_S (xF G) s.heap H locs → lv_has ls 5 [(0, .ref (ad 100)), (1, .int (nI i)), (2, .int (nI j)), (3, .int w), (4, .int yv)] → W p l e ({ frames := 3, cells := 0, slots := 0, locals := 105 }) s m args below meth c H locs 0 0 (MQ below (xQv G (fun M' => ∃ q' : z5, M' = va_up M (ad 100) (some (100, eMo ad u th q')) ∧ q'.2.2 = zSk u i j w (-1000, q.2.2.2) ((zFst (zms u j) 10).toInt - 30) (((zLst (zln u) (zms u j) 10).toInt - ((zFst (zms u j) 10).toInt - 30) + 1).toNat))) args s 0 0 (xF G)) (F0 m 18 ls []) := by
  obtain ⟨hx, hb, hr, hml, hown, hw, hlocks⟩ := id hE
  obtain ⟨hf, hls⟩ := hO.mas hj
  have f1 := hf.1
  have f2 := hf.2
  have l1 := hls.1
  have l2 := hls.2
  have hm8 := hO.2.2.2.2.1
  intro n
  induction n with
  | zero =>
    intro k yv h1 h2
    exact absurd h2 (by omega)
  | succ n ih =>
    intro k yv hk hin hy a b H locs ls hM hS hl
    obtain ⟨Mi, eMi⟩ : ∃ z : xM, z = va_up M (ad 100) (some (100, eMo ad u th (a, b, zSk u i j w (-1000, q.2.2.2) ((zFst (zms u j) 10).toInt - 30) k))) := ⟨_, rfl⟩
    rw [← eMi] at hM
    obtain ⟨zt, ez⟩ : ∃ x : zN3, x = zSk u i j w (-1000, q.2.2.2) ((zFst (zms u j) 10).toInt - 30) k := ⟨_, rfl⟩
    rw [← ez] at eMi
    have hoi : Mi (ad 100) = some (100, eMo ad u th (a, b, zt)) := xw_atE eMi
    have hAi := hA.up ho eMi
    refine lv_iload hx hb d_Mo_seek_18 (lv_at hl 4 rfl) ?_
    refine lv_aload_n hx hb d_Mo_seek_20 rfl (lv_at hl 0 rfl) ?_
    refine x_get (C := R_Mo) (T := F_Mo) (N := 20) hx hb hw i_Mo hown hK.1 hM hoi rfl 10 (by decide) (hw _ kw_533) rfl rfl d_Mo_seek_21 ?_
    refine lv_iload_n hx hb d_Mo_seek_24 rfl (lv_at hl 2 rfl) ?_
    refine x_iald hx hb hK.1 hM hAi.2.2.2.2.2.2.1 0 rfl rfl (by omega) (by decide) d_Mo_seek_25 ?_
    refine lv_topi (fun tv etv => ?_)
    have etv : tv = zLst (zln u) (zms u j) 10 := by rw [etv]; exact (hX.2.2.2.1 j hj).2.2
    subst etv
    refine lv_icmp_gt (tgt := 106) hx hb d_Mo_seek_26 (by decide) (fun c_26 => ?_) (fun c_26 => ?_)
    · have hkN : k = (((zLst (zln u) (zms u j) 10).toInt - ((zFst (zms u j) 10).toInt - 30) + 1).toNat) := by have h7 := z_lt0.mp c_26; omega
      exact x_rv hE rfl hM hS ⟨(a, b, zt), eMi, by rw [ez, hkN]⟩ (by decide) (by decide) d_Mo_seek_106
    · refine lv_aload_n hx hb d_Mo_seek_29 rfl (lv_at hl 0 rfl) ?_
      refine lv_iload_n hx hb d_Mo_seek_30 rfl (lv_at hl 1 rfl) ?_
      refine lv_iload_n hx hb d_Mo_seek_31 rfl (lv_at hl 2 rfl) ?_
      refine lv_iload hx hb d_Mo_seek_32 (lv_at hl 4 rfl) ?_
      refine lv_iconst (v := (-1)) hx hb d_Mo_seek_34 (by decide) ?_
      refine x_cv (x_runV (As := [.int (nI i), .int (nI j), .int yv, .int (-1)]) (rest := []) hE hK hM hl.1 (c_Mo_measure l G Mi ad u th (a, b, zt) hoi X hAi hX hO i hi j hj yv (-1)) hoi rfl kw_659 kw_661 ks_25 kw_4 kw_662 4 rfl rfl rfl (by decide +kernel) ⟨by decide, by decide⟩ rfl (Nat.le_of_ble_eq_true rfl) d_Mo_seek_35 ⟨by decide, by decide⟩) hS (fun M1 H locs hp hM hS => ?_)
      rw [zMm_mea hO hi hj] at hp
      obtain ⟨d, ed⟩ : ∃ x : Int32 × Int32, x = zMea u i j yv.toInt := ⟨_, rfl⟩
      rw [← ed] at hp
      obtain ⟨Ma, eMa⟩ : ∃ z : xM, z = M1 := ⟨_, rfl⟩
      subst eMa
      have hoa := xw_atE hp
      refine lv_aload_n hx hb d_Mo_seek_38 rfl (lv_at hl 0 rfl) ?_
      refine x_get (C := R_Mo) (T := F_Mo) (N := 20) hx hb hw i_Mo hown hK.1 hM hoa rfl 13 (by decide) (hw _ kw_536) rfl rfl d_Mo_seek_39 ?_
      refine lv_iload_n hx hb d_Mo_seek_42 rfl (lv_at hl 3 rfl) ?_
      refine lv_icmp_lt (tgt := 100) hx hb d_Mo_seek_43 (by decide) (fun c_43 => ?_) (fun c_43 => ?_)
      · refine lv_iinc (v := (yv + 1)) (lv' := [(4, .int (yv + 1)), (0, .ref (ad 100)), (1, .int (nI i)), (2, .int (nI j)), (3, .int w)]) hx hb d_Mo_seek_100 hl (k := 4) rfl rfl (by decide) rfl (fun ls hl => ?_)
        refine lv_goto (tgt := 18) hx hb d_Mo_seek_103 (by decide) ?_
        have hz : zSk u i j w (-1000, q.2.2.2) ((zFst (zms u j) 10).toInt - 30) (k + 1) = zt := by
          show zNst _ _ _ _ = _
          rw [← ez, ← hy, Int32.ofInt_toInt, ← ed]
          unfold zNst
          rw [if_pos c_43]
        exact ih (k + 1) (yv + 1) (by have h7 := z_le0.mp (Int32.not_lt.mp c_26); omega) (by omega) (by rw [z_inc (by omega) (by omega), hy]; omega) d.1 d.2 _ _ _ (by rw [hz]; rw [hp, eMi, bx_uu] at hM; exact hM) hS (lv_sub hl [1, 2, 3, 4, 0] rfl)
      · refine lv_aload_n hx hb d_Mo_seek_46 rfl (lv_at hl 0 rfl) ?_
        refine x_get (C := R_Mo) (T := F_Mo) (N := 20) hx hb hw i_Mo hown hK.1 hM hoa rfl 14 (by decide) (hw _ kw_537) rfl rfl d_Mo_seek_47 ?_
        refine lv_sipush (v := (-1000)) hx hb d_Mo_seek_50 (by decide) ?_
        refine lv_icmp_eq (tgt := 78) hx hb d_Mo_seek_53 (by decide) (fun c_53 => ?_) (fun c_53 => ?_)
        · refine lv_aload_n hx hb d_Mo_seek_78 rfl (lv_at hl 0 rfl) ?_
          refine lv_iload hx hb d_Mo_seek_79 (lv_at hl 4 rfl) ?_
          refine x_put (C := R_Mo) (T := F_Mo) (N := 20) (ty := .int) (v := .int yv) hx hb hw i_Mo t_Mo t_Mo_ok n_Mo hown hK.1 hM hS hoa rfl 14 (by decide) (hw _ kw_537) rfl rfl (by decide +kernel) rfl rfl (Nat.le_of_ble_eq_true rfl) d_Mo_seek_81 (fun H locs hM hS hz => ?_)
          have hM : xh G (va_up Ma (ad 100) (some (100, .inr (5, [.int th, .int (nI (zpn u)), .ref (ad 101), .int (nI (zrn u)), .ref (ad 102), .ref (ad 103), .ref (ad 104), .int (nI (zmn u)), .ref (ad 105), .ref (ad 106), .ref (ad 107), .ref (ad 108), .int d.1, .int d.2, .int yv, .int zt.2.1, .int zt.2.2, .ref (ad 109), .ref (ad 110), .ref (ad 111)])))) H := hM
          obtain ⟨Ma_1, eMa_1⟩ : ∃ z : xM, z = va_up Ma (ad 100) (some (100, .inr (5, [.int th, .int (nI (zpn u)), .ref (ad 101), .int (nI (zrn u)), .ref (ad 102), .ref (ad 103), .ref (ad 104), .int (nI (zmn u)), .ref (ad 105), .ref (ad 106), .ref (ad 107), .ref (ad 108), .int d.1, .int d.2, .int yv, .int zt.2.1, .int zt.2.2, .ref (ad 109), .ref (ad 110), .ref (ad 111)]))) := ⟨_, rfl⟩
          rw [← eMa_1] at hM
          have hoa := xw_atE eMa_1
          refine lv_aload_n hx hb d_Mo_seek_84 rfl (lv_at hl 0 rfl) ?_
          refine lv_aload_n hx hb d_Mo_seek_85 rfl (lv_at hl 0 rfl) ?_
          refine x_get (C := R_Mo) (T := F_Mo) (N := 20) hx hb hw i_Mo hown hK.1 hM hoa rfl 12 (by decide) (hw _ kw_535) rfl rfl d_Mo_seek_86 ?_
          refine x_put (C := R_Mo) (T := F_Mo) (N := 20) (ty := .int) (v := .int d.1) hx hb hw i_Mo t_Mo t_Mo_ok n_Mo hown hK.1 hM hS hoa rfl 15 (by decide) (hw _ kw_538) rfl rfl (by decide +kernel) rfl rfl (Nat.le_of_ble_eq_true rfl) d_Mo_seek_89 (fun H locs hM hS hz => ?_)
          have hM : xh G (va_up Ma_1 (ad 100) (some (100, .inr (5, [.int th, .int (nI (zpn u)), .ref (ad 101), .int (nI (zrn u)), .ref (ad 102), .ref (ad 103), .ref (ad 104), .int (nI (zmn u)), .ref (ad 105), .ref (ad 106), .ref (ad 107), .ref (ad 108), .int d.1, .int d.2, .int yv, .int d.1, .int zt.2.2, .ref (ad 109), .ref (ad 110), .ref (ad 111)])))) H := hM
          obtain ⟨Ma_2, eMa_2⟩ : ∃ z : xM, z = va_up Ma_1 (ad 100) (some (100, .inr (5, [.int th, .int (nI (zpn u)), .ref (ad 101), .int (nI (zrn u)), .ref (ad 102), .ref (ad 103), .ref (ad 104), .int (nI (zmn u)), .ref (ad 105), .ref (ad 106), .ref (ad 107), .ref (ad 108), .int d.1, .int d.2, .int yv, .int d.1, .int zt.2.2, .ref (ad 109), .ref (ad 110), .ref (ad 111)]))) := ⟨_, rfl⟩
          rw [← eMa_2] at hM
          have hoa := xw_atE eMa_2
          refine lv_aload_n hx hb d_Mo_seek_92 rfl (lv_at hl 0 rfl) ?_
          refine lv_aload_n hx hb d_Mo_seek_93 rfl (lv_at hl 0 rfl) ?_
          refine x_get (C := R_Mo) (T := F_Mo) (N := 20) hx hb hw i_Mo hown hK.1 hM hoa rfl 13 (by decide) (hw _ kw_536) rfl rfl d_Mo_seek_94 ?_
          refine x_put (C := R_Mo) (T := F_Mo) (N := 20) (ty := .int) (v := .int d.2) hx hb hw i_Mo t_Mo t_Mo_ok n_Mo hown hK.1 hM hS hoa rfl 16 (by decide) (hw _ kw_539) rfl rfl (by decide +kernel) rfl rfl (Nat.le_of_ble_eq_true rfl) d_Mo_seek_97 (fun H locs hM hS hz => ?_)
          have hM : xh G (va_up Ma_2 (ad 100) (some (100, .inr (5, [.int th, .int (nI (zpn u)), .ref (ad 101), .int (nI (zrn u)), .ref (ad 102), .ref (ad 103), .ref (ad 104), .int (nI (zmn u)), .ref (ad 105), .ref (ad 106), .ref (ad 107), .ref (ad 108), .int d.1, .int d.2, .int yv, .int d.1, .int d.2, .ref (ad 109), .ref (ad 110), .ref (ad 111)])))) H := hM
          obtain ⟨Ma_3, eMa_3⟩ : ∃ z : xM, z = va_up Ma_2 (ad 100) (some (100, .inr (5, [.int th, .int (nI (zpn u)), .ref (ad 101), .int (nI (zrn u)), .ref (ad 102), .ref (ad 103), .ref (ad 104), .int (nI (zmn u)), .ref (ad 105), .ref (ad 106), .ref (ad 107), .ref (ad 108), .int d.1, .int d.2, .int yv, .int d.1, .int d.2, .ref (ad 109), .ref (ad 110), .ref (ad 111)]))) := ⟨_, rfl⟩
          rw [← eMa_3] at hM
          have hoa := xw_atE eMa_3
          refine lv_iinc (v := (yv + 1)) (lv' := [(4, .int (yv + 1)), (0, .ref (ad 100)), (1, .int (nI i)), (2, .int (nI j)), (3, .int w)]) hx hb d_Mo_seek_100 hl (k := 4) rfl rfl (by decide) rfl (fun ls hl => ?_)
          refine lv_goto (tgt := 18) hx hb d_Mo_seek_103 (by decide) ?_
          have hz : zSk u i j w (-1000, q.2.2.2) ((zFst (zms u j) 10).toInt - 30) (k + 1) = (yv, d.1, d.2) := by
            show zNst _ _ _ _ = _
            rw [← ez, ← hy, Int32.ofInt_toInt, ← ed]
            unfold zNst
            rw [if_neg c_43, if_pos (Or.inl c_53)]
          exact ih (k + 1) (yv + 1) (by have h7 := z_le0.mp (Int32.not_lt.mp c_26); omega) (by omega) (by rw [z_inc (by omega) (by omega), hy]; omega) d.1 d.2 _ _ _ (by rw [hz]; rw [eMa_3, eMa_2, eMa_1, hp, eMi, bx_uu, bx_uu, bx_uu, bx_uu] at hM; exact hM) hS (lv_sub hl [1, 2, 3, 4, 0] rfl)
        · refine lv_aload_n hx hb d_Mo_seek_56 rfl (lv_at hl 0 rfl) ?_
          refine x_get (C := R_Mo) (T := F_Mo) (N := 20) hx hb hw i_Mo hown hK.1 hM hoa rfl 12 (by decide) (hw _ kw_535) rfl rfl d_Mo_seek_57 ?_
          refine lv_aload_n hx hb d_Mo_seek_60 rfl (lv_at hl 0 rfl) ?_
          refine x_get (C := R_Mo) (T := F_Mo) (N := 20) hx hb hw i_Mo hown hK.1 hM hoa rfl 13 (by decide) (hw _ kw_536) rfl rfl d_Mo_seek_61 ?_
          refine lv_aload_n hx hb d_Mo_seek_64 rfl (lv_at hl 0 rfl) ?_
          refine x_get (C := R_Mo) (T := F_Mo) (N := 20) hx hb hw i_Mo hown hK.1 hM hoa rfl 15 (by decide) (hw _ kw_538) rfl rfl d_Mo_seek_65 ?_
          refine lv_aload_n hx hb d_Mo_seek_68 rfl (lv_at hl 0 rfl) ?_
          refine x_get (C := R_Mo) (T := F_Mo) (N := 20) hx hb hw i_Mo hown hK.1 hM hoa rfl 16 (by decide) (hw _ kw_539) rfl rfl d_Mo_seek_69 ?_
          have hpm := hp
          refine x_ci (x_runS (As := [.int d.1, .int d.2, .int zt.2.1, .int zt.2.2]) (rest := []) hE hK hM hl.1 (c_Mo_isLess l G Ma d.1 d.2 zt.2.1 zt.2.2) kw_678 kw_679 kw_4 kw_680 4 rfl rfl rfl (by decide +kernel) ⟨by decide, by decide⟩ rfl (Nat.le_of_ble_eq_true rfl) d_Mo_seek_72 ⟨by decide, by decide⟩) hS (fun r2 M1 H locs hp hM hS => ?_)
          obtain ⟨e_r, e_M⟩ := hp
          have hM : xh G Ma H := e_M ▸ hM
          refine lv_if_eq (tgt := 100) hx hb d_Mo_seek_75 (by decide) (fun c_75 => ?_) (fun c_75 => ?_)
          · refine lv_iinc (v := (yv + 1)) (lv' := [(4, .int (yv + 1)), (0, .ref (ad 100)), (1, .int (nI i)), (2, .int (nI j)), (3, .int w)]) hx hb d_Mo_seek_100 hl (k := 4) rfl rfl (by decide) rfl (fun ls hl => ?_)
            refine lv_goto (tgt := 18) hx hb d_Mo_seek_103 (by decide) ?_
            have hz : zSk u i j w (-1000, q.2.2.2) ((zFst (zms u j) 10).toInt - 30) (k + 1) = zt := by
              show zNst _ _ _ _ = _
              rw [← ez, ← hy, Int32.ofInt_toInt, ← ed]
              unfold zNst
              rw [if_neg c_43, if_neg (fun h9 => h9.elim c_53 (fun h8 => by rw [zBo_t h8] at e_r; rw [e_r] at c_75; exact absurd c_75 (by decide)))]
            exact ih (k + 1) (yv + 1) (by have h7 := z_le0.mp (Int32.not_lt.mp c_26); omega) (by omega) (by rw [z_inc (by omega) (by omega), hy]; omega) d.1 d.2 _ _ _ (by rw [hz]; rw [hpm, eMi, bx_uu] at hM; exact hM) hS (lv_sub hl [1, 2, 3, 4, 0] rfl)
          · refine lv_aload_n hx hb d_Mo_seek_78 rfl (lv_at hl 0 rfl) ?_
            refine lv_iload hx hb d_Mo_seek_79 (lv_at hl 4 rfl) ?_
            refine x_put (C := R_Mo) (T := F_Mo) (N := 20) (ty := .int) (v := .int yv) hx hb hw i_Mo t_Mo t_Mo_ok n_Mo hown hK.1 hM hS hoa rfl 14 (by decide) (hw _ kw_537) rfl rfl (by decide +kernel) rfl rfl (Nat.le_of_ble_eq_true rfl) d_Mo_seek_81 (fun H locs hM hS hz => ?_)
            have hM : xh G (va_up Ma (ad 100) (some (100, .inr (5, [.int th, .int (nI (zpn u)), .ref (ad 101), .int (nI (zrn u)), .ref (ad 102), .ref (ad 103), .ref (ad 104), .int (nI (zmn u)), .ref (ad 105), .ref (ad 106), .ref (ad 107), .ref (ad 108), .int d.1, .int d.2, .int yv, .int zt.2.1, .int zt.2.2, .ref (ad 109), .ref (ad 110), .ref (ad 111)])))) H := hM
            obtain ⟨Ma_1, eMa_1⟩ : ∃ z : xM, z = va_up Ma (ad 100) (some (100, .inr (5, [.int th, .int (nI (zpn u)), .ref (ad 101), .int (nI (zrn u)), .ref (ad 102), .ref (ad 103), .ref (ad 104), .int (nI (zmn u)), .ref (ad 105), .ref (ad 106), .ref (ad 107), .ref (ad 108), .int d.1, .int d.2, .int yv, .int zt.2.1, .int zt.2.2, .ref (ad 109), .ref (ad 110), .ref (ad 111)]))) := ⟨_, rfl⟩
            rw [← eMa_1] at hM
            have hoa := xw_atE eMa_1
            refine lv_aload_n hx hb d_Mo_seek_84 rfl (lv_at hl 0 rfl) ?_
            refine lv_aload_n hx hb d_Mo_seek_85 rfl (lv_at hl 0 rfl) ?_
            refine x_get (C := R_Mo) (T := F_Mo) (N := 20) hx hb hw i_Mo hown hK.1 hM hoa rfl 12 (by decide) (hw _ kw_535) rfl rfl d_Mo_seek_86 ?_
            refine x_put (C := R_Mo) (T := F_Mo) (N := 20) (ty := .int) (v := .int d.1) hx hb hw i_Mo t_Mo t_Mo_ok n_Mo hown hK.1 hM hS hoa rfl 15 (by decide) (hw _ kw_538) rfl rfl (by decide +kernel) rfl rfl (Nat.le_of_ble_eq_true rfl) d_Mo_seek_89 (fun H locs hM hS hz => ?_)
            have hM : xh G (va_up Ma_1 (ad 100) (some (100, .inr (5, [.int th, .int (nI (zpn u)), .ref (ad 101), .int (nI (zrn u)), .ref (ad 102), .ref (ad 103), .ref (ad 104), .int (nI (zmn u)), .ref (ad 105), .ref (ad 106), .ref (ad 107), .ref (ad 108), .int d.1, .int d.2, .int yv, .int d.1, .int zt.2.2, .ref (ad 109), .ref (ad 110), .ref (ad 111)])))) H := hM
            obtain ⟨Ma_2, eMa_2⟩ : ∃ z : xM, z = va_up Ma_1 (ad 100) (some (100, .inr (5, [.int th, .int (nI (zpn u)), .ref (ad 101), .int (nI (zrn u)), .ref (ad 102), .ref (ad 103), .ref (ad 104), .int (nI (zmn u)), .ref (ad 105), .ref (ad 106), .ref (ad 107), .ref (ad 108), .int d.1, .int d.2, .int yv, .int d.1, .int zt.2.2, .ref (ad 109), .ref (ad 110), .ref (ad 111)]))) := ⟨_, rfl⟩
            rw [← eMa_2] at hM
            have hoa := xw_atE eMa_2
            refine lv_aload_n hx hb d_Mo_seek_92 rfl (lv_at hl 0 rfl) ?_
            refine lv_aload_n hx hb d_Mo_seek_93 rfl (lv_at hl 0 rfl) ?_
            refine x_get (C := R_Mo) (T := F_Mo) (N := 20) hx hb hw i_Mo hown hK.1 hM hoa rfl 13 (by decide) (hw _ kw_536) rfl rfl d_Mo_seek_94 ?_
            refine x_put (C := R_Mo) (T := F_Mo) (N := 20) (ty := .int) (v := .int d.2) hx hb hw i_Mo t_Mo t_Mo_ok n_Mo hown hK.1 hM hS hoa rfl 16 (by decide) (hw _ kw_539) rfl rfl (by decide +kernel) rfl rfl (Nat.le_of_ble_eq_true rfl) d_Mo_seek_97 (fun H locs hM hS hz => ?_)
            have hM : xh G (va_up Ma_2 (ad 100) (some (100, .inr (5, [.int th, .int (nI (zpn u)), .ref (ad 101), .int (nI (zrn u)), .ref (ad 102), .ref (ad 103), .ref (ad 104), .int (nI (zmn u)), .ref (ad 105), .ref (ad 106), .ref (ad 107), .ref (ad 108), .int d.1, .int d.2, .int yv, .int d.1, .int d.2, .ref (ad 109), .ref (ad 110), .ref (ad 111)])))) H := hM
            obtain ⟨Ma_3, eMa_3⟩ : ∃ z : xM, z = va_up Ma_2 (ad 100) (some (100, .inr (5, [.int th, .int (nI (zpn u)), .ref (ad 101), .int (nI (zrn u)), .ref (ad 102), .ref (ad 103), .ref (ad 104), .int (nI (zmn u)), .ref (ad 105), .ref (ad 106), .ref (ad 107), .ref (ad 108), .int d.1, .int d.2, .int yv, .int d.1, .int d.2, .ref (ad 109), .ref (ad 110), .ref (ad 111)]))) := ⟨_, rfl⟩
            rw [← eMa_3] at hM
            have hoa := xw_atE eMa_3
            refine lv_iinc (v := (yv + 1)) (lv' := [(4, .int (yv + 1)), (0, .ref (ad 100)), (1, .int (nI i)), (2, .int (nI j)), (3, .int w)]) hx hb d_Mo_seek_100 hl (k := 4) rfl rfl (by decide) rfl (fun ls hl => ?_)
            refine lv_goto (tgt := 18) hx hb d_Mo_seek_103 (by decide) ?_
            have hz : zSk u i j w (-1000, q.2.2.2) ((zFst (zms u j) 10).toInt - 30) (k + 1) = (yv, d.1, d.2) := by
              show zNst _ _ _ _ = _
              rw [← ez, ← hy, Int32.ofInt_toInt, ← ed]
              unfold zNst
              rw [if_neg c_43, if_pos (Or.inr (zBo_ne.mp (fun h9 => c_75 (e_r.trans h9))))]
            exact ih (k + 1) (yv + 1) (by have h7 := z_le0.mp (Int32.not_lt.mp c_26); omega) (by omega) (by rw [z_inc (by omega) (by omega), hy]; omega) d.1 d.2 _ _ _ (by rw [hz]; rw [eMa_3, eMa_2, eMa_1, hpm, eMi, bx_uu, bx_uu, bx_uu, bx_uu] at hM; exact hM) hS (lv_sub hl [1, 2, 3, 4, 0] rfl)

set_option maxHeartbeats 4000000 in
set_option maxRecDepth 100000 in
theorem c_Mo_seek (l : Launch) (G : xG) (M : xM) (ad : Nat → Nat) (u : zS) (th : Int32) (q : z5) (ho : M (ad 100) = some (100, eMo ad u th q)) (X : zX) (hA : MoA G M ad X) (hX : MoR u X) (hO : zOk u) (i : Nat) (hi : i < zrn u) (j : Nat) (hj : j < zmn u) (w : Int32)  : Met l y_Mo_seek w_Mo_seek ({ frames := 3, cells := 0, slots := 0, locals := 105 }) (xP G [.ref (ad 100), .int (nI i), .int (nI j), .int w] M) (xQv G (fun M' => ∃ q' : z5, M' = va_up M (ad 100) (some (100, eMo ad u th q')) ∧ q'.2.2 = zSk u i j w (-1000, q.2.2.2) ((zFst (zms u j) 10).toInt - 30) (((zLst (zln u) (zms u j) 10).toInt - ((zFst (zms u j) 10).toInt - 30) + 1).toNat))) 0 0 (xF G) := by
  refine x_met (by decide) (Nat.le_of_ble_eq_true rfl) ?_
  intro p e s m below meth c ls hE hin hl hM hK hS
  obtain ⟨hx, hb, hr, hml, hown, hw, hlocks⟩ := id hE
  have hl : lv_has ls 5 [(0, .ref (ad 100)), (1, .int (nI i)), (2, .int (nI j)), (3, .int w)] := hl
  refine lv_aload_n hx hb d_Mo_seek_0 rfl (lv_at hl 0 rfl) ?_
  refine lv_sipush (v := (-1000)) hx hb d_Mo_seek_1 (by decide) ?_
  refine x_put (C := R_Mo) (T := F_Mo) (N := 20) (ty := .int) (v := .int (-1000)) hx hb hw i_Mo t_Mo t_Mo_ok n_Mo hown hK.1 hM hS (id ho) rfl 14 (by decide) (hw _ kw_537) rfl rfl (by decide +kernel) rfl rfl (Nat.le_of_ble_eq_true rfl) d_Mo_seek_4 (fun H locs hM hS hz => ?_)
  have hM : xh G (va_up M (ad 100) (some (100, .inr (5, [.int th, .int (nI (zpn u)), .ref (ad 101), .int (nI (zrn u)), .ref (ad 102), .ref (ad 103), .ref (ad 104), .int (nI (zmn u)), .ref (ad 105), .ref (ad 106), .ref (ad 107), .ref (ad 108), .int q.1, .int q.2.1, .int (-1000), .int q.2.2.2.1, .int q.2.2.2.2, .ref (ad 109), .ref (ad 110), .ref (ad 111)])))) H := hM
  obtain ⟨M_1, eM_1⟩ : ∃ z : xM, z = va_up M (ad 100) (some (100, .inr (5, [.int th, .int (nI (zpn u)), .ref (ad 101), .int (nI (zrn u)), .ref (ad 102), .ref (ad 103), .ref (ad 104), .int (nI (zmn u)), .ref (ad 105), .ref (ad 106), .ref (ad 107), .ref (ad 108), .int q.1, .int q.2.1, .int (-1000), .int q.2.2.2.1, .int q.2.2.2.2, .ref (ad 109), .ref (ad 110), .ref (ad 111)]))) := ⟨_, rfl⟩
  rw [← eM_1] at hM
  have k_ad101 := xw_upE eM_1 hA.1 (id ho) (by decide)
  have k_ad102 := xw_upE eM_1 hA.2.1 (id ho) (by decide)
  have k_ad103 := xw_upE eM_1 hA.2.2.1 (id ho) (by decide)
  have k_ad104 := xw_upE eM_1 hA.2.2.2.1 (id ho) (by decide)
  have k_ad105 := xw_upE eM_1 hA.2.2.2.2.1 (id ho) (by decide)
  have k_ad106 := xw_upE eM_1 hA.2.2.2.2.2.1 (id ho) (by decide)
  have k_ad107 := xw_upE eM_1 hA.2.2.2.2.2.2.1 (id ho) (by decide)
  have k_ad108 := xw_upE eM_1 hA.2.2.2.2.2.2.2 (id ho) (by decide)
  have k_ad100 := xw_atE eM_1
  refine lv_aload_n hx hb d_Mo_seek_7 rfl (lv_at hl 0 rfl) ?_
  refine x_get (C := R_Mo) (T := F_Mo) (N := 20) hx hb hw i_Mo hown hK.1 hM k_ad100 rfl 9 (by decide) (hw _ kw_532) rfl rfl d_Mo_seek_8 ?_
  refine lv_iload_n hx hb d_Mo_seek_11 rfl (lv_at hl 2 rfl) ?_
  refine x_iald hx hb hK.1 hM k_ad106 0 rfl rfl (by have := hO.2.2.2.2.1; omega) (by decide) d_Mo_seek_12 ?_
  refine lv_topi (fun tv etv => ?_)
  have etv : tv = zFst (zms u j) 10 := by rw [etv]; exact (hX.2.2.2.1 j hj).2.1
  subst etv
  refine lv_bipush (v := 30) hx hb d_Mo_seek_13 (by decide) ?_
  refine lv_isub hx hb d_Mo_seek_15 ?_
  refine lv_istore (lv' := [(4, .int ((zFst (zms u j) 10) - 30)), (0, .ref (ad 100)), (1, .int (nI i)), (2, .int (nI j)), (3, .int w)]) hx hb d_Mo_seek_16 hl (by decide) rfl (fun ls hl => ?_)
  have hM : xh G (va_up M (ad 100) (some (100, eMo ad u th (q.1, q.2.1, zSk u i j w (-1000, q.2.2.2) ((zFst (zms u j) 10).toInt - 30) 0)))) H := by rw [eM_1] at hM; exact hM
  exact lp_Mo_seek ad u th q ho X hA hX hO i hi j hj w hE hK ((((zLst (zln u) (zms u j) 10).toInt - ((zFst (zms u j) 10).toInt - 30) + 1).toNat) + 1) 0 _ (by omega) (by omega) (by rw [z_m30 (hO.mas hj).1]; omega) q.1 q.2.1 _ _ _ hM hS (lv_sub hl [1, 2, 3, 4, 0] rfl)
