set_option maxHeartbeats 4000000 in
set_option maxRecDepth 100000 in
theorem lp_Mo_master {p : Program} {l : Launch} {e : Env} {s : State} {m : MethodId} {below : List Frame} {meth : Method} {c : Code} {args : Array Value} {G : xG} {M : xM} (ad : Nat → Nat) (u : zS) (th : Int32) (q : z5) (ho : M (ad 100) = some (100, eMo ad u th q)) (X : zX) (hA : MoA G M ad X) (hX : MoR u X) (hO : zOk u) (st : Int32) (Post : Int32 → xM → Prop) (hm8 : zmn u < 8) (hP1 : ∀ (M' : xM) (L : Nat → Int32), (∀ t, t < 10 * zmn u → L t = mLy X t) → zMk (zB u st) (zrn u) = 0 → xN M M' → M' (ad 100) = some (100, eMo ad u th q) → MoA G M' ad (mPd X, mSz X, mEv X, mPl X, L, X.2.2.2.2.2) → Post (-1) M') (hP2 : ∀ (M' : xM) (L : Nat → Int32), (∀ t, t < 10 * zmn u → L t = mLy X t) → (∀ i, i < 10 → L (10 * zmn u + i) = zB u st i) → ¬ zMk (zB u st) (zrn u) = 0 → xN M M' → M' (ad 100) = some (100, eMo ad (uMas u (fun _ => 0)) th q) → MoA G M' ad (mPd X, mSz X, mEv X, mPl X, L, upd (mFi X) (zmn u) (zFi (zB u st) 10), upd (mLa X) (zmn u) (zLa (zln u) (zB u st) 10), mWt X) → Post (nI (zmn u)) M') (hE : xE p s m args meth c b_Mo_master (some .int) 6 R_Mo) (hK : KX G s) : ∀ (n k : Nat), k ≤ 10 → 10 + 1 ≤ k + n → ∀ (L : Nat → Int32), (∀ t, t < 10 * zmn u → L t = mLy X t) → (∀ t, t < k → L (10 * zmn u + t) = zB u st t) → ∀ (H : Heap) (locs : List Loc) (ls : Array Slot), xh G (va_up M (ad 105) (some (105, eI G 80 L))) H → va_S (xF G) s.heap H locs → lv_has ls 6 [(0, .ref (ad 100)), (1, .int st), (2, .int (zFi (zB u st) k)), (3, .int (zLa (zln u) (zB u st) k)), (4, .int (nI k))] → W p l e ({ frames := 2, cells := 0, slots := 0, locals := 75 }) s m args below meth c H locs 0 0 (MQ below (xQi G Post) args s 0 0 (xF G)) (F0 m 41 ls []) := by
  obtain ⟨hx, hb, hr, hml, hown, hw, hlocks⟩ := id hE
  have hrn : zrn u ≤ 10 := hO.2.2.1
  intro n
  induction n with
  | zero =>
    intro k h1 h2
    exact absurd h2 (by omega)
  | succ n ih =>
    intro k hk9 hin L hL1 hL2 H locs ls hM hS hl
    obtain ⟨Mi, eMi⟩ : ∃ zz9 : xM, zz9 = va_up M (ad 105) (some (105, eI G 80 L)) := ⟨_, rfl⟩
    rw [← eMi] at hM
    have hoi := xw_upE eMi ho hA.2.2.2.2.1 (by decide)
    have k101 := xw_upE eMi hA.1 hA.2.2.2.2.1 (by decide)
    have k102 := xw_upE eMi hA.2.1 hA.2.2.2.2.1 (by decide)
    have k103 := xw_upE eMi hA.2.2.1 hA.2.2.2.2.1 (by decide)
    have k104 := xw_upE eMi hA.2.2.2.1 hA.2.2.2.2.1 (by decide)
    have k105 := xw_atE eMi
    have k106 := xw_upE eMi hA.2.2.2.2.2.1 hA.2.2.2.2.1 (by decide)
    have k107 := xw_upE eMi hA.2.2.2.2.2.2.1 hA.2.2.2.2.1 (by decide)
    have k108 := xw_upE eMi hA.2.2.2.2.2.2.2 hA.2.2.2.2.1 (by decide)
    refine lv_iload hx hb d_Mo_master_41 (lv_at hl 4 rfl) ?_
    refine lv_bipush (v := 10) hx hb d_Mo_master_43 (by decide) ?_
    refine lv_icmp_ge (tgt := 198) hx hb d_Mo_master_45 (by decide) (fun c_45 => ?_) (fun c_45 => ?_)
    · have h_ge : 10 ≤ k := (nI_leI (a := 10) (by decide) (by omega)).mp c_45
      have hk10 : k = 10 := by omega
      refine lv_iload_n hx hb d_Mo_master_198 rfl (lv_at hl 3 rfl) ?_
      refine lv_iconst (v := (-1)) hx hb d_Mo_master_199 (by decide) ?_
      refine lv_icmp_ne (tgt := 205) hx hb d_Mo_master_200 (by decide) (fun c_200 => ?_) (fun c_200 => ?_)
      · refine lv_aload_n hx hb d_Mo_master_205 rfl (lv_at hl 0 rfl) ?_
        refine x_get (C := R_Mo) (T := F_Mo) (N := 20) hx hb hw i_Mo hown hK.1 hM hoi rfl 9 (by decide) (hw _ kw_532) rfl rfl d_Mo_master_206 ?_
        refine lv_aload_n hx hb d_Mo_master_209 rfl (lv_at hl 0 rfl) ?_
        refine x_get (C := R_Mo) (T := F_Mo) (N := 20) hx hb hw i_Mo hown hK.1 hM hoi rfl 7 (by decide) (hw _ kw_530) rfl rfl d_Mo_master_210 ?_
        refine lv_iload_n hx hb d_Mo_master_213 rfl (lv_at hl 2 rfl) ?_
        have k106b := k106
        refine x_iast hx hb hK.1 hM hS k106 0 rfl rfl (by omega) (by decide) d_Mo_master_214 (fun H locs hM hS hz => ?_)
        have hM : xh G (va_up Mi (ad 106) (some (106, .inl (gI G, 8, .inl (upd (mFi X) (zmn u) (zFi (zB u st) k)))))) H := hM
        obtain ⟨Mi_1, eMi_1⟩ : ∃ z : xM, z = va_up Mi (ad 106) (some (106, .inl (gI G, 8, .inl (upd (mFi X) (zmn u) (zFi (zB u st) k))))) := ⟨_, rfl⟩
        rw [← eMi_1] at hM
        have hoi := xw_upE eMi_1 hoi k106 (by decide)
        have k101 := xw_upE eMi_1 k101 k106 (by decide)
        have k102 := xw_upE eMi_1 k102 k106 (by decide)
        have k103 := xw_upE eMi_1 k103 k106 (by decide)
        have k104 := xw_upE eMi_1 k104 k106 (by decide)
        have k105 := xw_upE eMi_1 k105 k106 (by decide)
        have k107 := xw_upE eMi_1 k107 k106 (by decide)
        have k108 := xw_upE eMi_1 k108 k106 (by decide)
        have k106 := xw_atE eMi_1
        refine lv_aload_n hx hb d_Mo_master_215 rfl (lv_at hl 0 rfl) ?_
        refine x_get (C := R_Mo) (T := F_Mo) (N := 20) hx hb hw i_Mo hown hK.1 hM hoi rfl 10 (by decide) (hw _ kw_533) rfl rfl d_Mo_master_216 ?_
        refine lv_aload_n hx hb d_Mo_master_219 rfl (lv_at hl 0 rfl) ?_
        refine x_get (C := R_Mo) (T := F_Mo) (N := 20) hx hb hw i_Mo hown hK.1 hM hoi rfl 7 (by decide) (hw _ kw_530) rfl rfl d_Mo_master_220 ?_
        refine lv_iload_n hx hb d_Mo_master_223 rfl (lv_at hl 3 rfl) ?_
        have k107b := k107
        refine x_iast hx hb hK.1 hM hS k107 0 rfl rfl (by omega) (by decide) d_Mo_master_224 (fun H locs hM hS hz => ?_)
        have hM : xh G (va_up Mi_1 (ad 107) (some (107, .inl (gI G, 8, .inl (upd (mLa X) (zmn u) (zLa (zln u) (zB u st) k)))))) H := hM
        obtain ⟨Mi_2, eMi_2⟩ : ∃ z : xM, z = va_up Mi_1 (ad 107) (some (107, .inl (gI G, 8, .inl (upd (mLa X) (zmn u) (zLa (zln u) (zB u st) k))))) := ⟨_, rfl⟩
        rw [← eMi_2] at hM
        have hoi := xw_upE eMi_2 hoi k107 (by decide)
        have k101 := xw_upE eMi_2 k101 k107 (by decide)
        have k102 := xw_upE eMi_2 k102 k107 (by decide)
        have k103 := xw_upE eMi_2 k103 k107 (by decide)
        have k104 := xw_upE eMi_2 k104 k107 (by decide)
        have k105 := xw_upE eMi_2 k105 k107 (by decide)
        have k106 := xw_upE eMi_2 k106 k107 (by decide)
        have k108 := xw_upE eMi_2 k108 k107 (by decide)
        have k107 := xw_atE eMi_2
        refine lv_aload_n hx hb d_Mo_master_225 rfl (lv_at hl 0 rfl) ?_
        refine lv_dup hx hb d_Mo_master_226 rfl ?_
        refine x_get (C := R_Mo) (T := F_Mo) (N := 20) hx hb hw i_Mo hown hK.1 hM hoi rfl 7 (by decide) (hw _ kw_530) rfl rfl d_Mo_master_227 ?_
        refine lv_iconst (v := 1) hx hb d_Mo_master_230 (by decide) ?_
        refine lv_iadd hx hb d_Mo_master_231 ?_
        refine lv_topi (fun tv etv => ?_)
        have etv : tv = nI (zmn u + 1) := by rw [etv]; exact nI_1 _
        subst etv
        have hoib := hoi
        refine x_put (C := R_Mo) (T := F_Mo) (N := 20) (ty := .int) (v := .int (nI (zmn u + 1))) hx hb hw i_Mo t_Mo t_Mo_ok n_Mo hown hK.1 hM hS hoi rfl 7 (by decide) (hw _ kw_530) rfl rfl (by decide +kernel) rfl rfl (Nat.le_of_ble_eq_true rfl) d_Mo_master_232 (fun H locs hM hS hz => ?_)
        have hM : xh G (va_up Mi_2 (ad 100) (some (100, .inr (5, [.int th, .int (nI (zpn u)), .ref (ad 101), .int (nI (zrn u)), .ref (ad 102), .ref (ad 103), .ref (ad 104), .int (nI (zmn u + 1)), .ref (ad 105), .ref (ad 106), .ref (ad 107), .ref (ad 108), .int q.1, .int q.2.1, .int q.2.2.1, .int q.2.2.2.1, .int q.2.2.2.2, .ref (ad 109), .ref (ad 110), .ref (ad 111)])))) H := hM
        obtain ⟨Mi_3, eMi_3⟩ : ∃ z : xM, z = va_up Mi_2 (ad 100) (some (100, .inr (5, [.int th, .int (nI (zpn u)), .ref (ad 101), .int (nI (zrn u)), .ref (ad 102), .ref (ad 103), .ref (ad 104), .int (nI (zmn u + 1)), .ref (ad 105), .ref (ad 106), .ref (ad 107), .ref (ad 108), .int q.1, .int q.2.1, .int q.2.2.1, .int q.2.2.2.1, .int q.2.2.2.2, .ref (ad 109), .ref (ad 110), .ref (ad 111)]))) := ⟨_, rfl⟩
        rw [← eMi_3] at hM
        have k101 := xw_upE eMi_3 k101 hoi (by decide)
        have k102 := xw_upE eMi_3 k102 hoi (by decide)
        have k103 := xw_upE eMi_3 k103 hoi (by decide)
        have k104 := xw_upE eMi_3 k104 hoi (by decide)
        have k105 := xw_upE eMi_3 k105 hoi (by decide)
        have k106 := xw_upE eMi_3 k106 hoi (by decide)
        have k107 := xw_upE eMi_3 k107 hoi (by decide)
        have k108 := xw_upE eMi_3 k108 hoi (by decide)
        have hoi := xw_atE eMi_3
        refine lv_aload_n hx hb d_Mo_master_235 rfl (lv_at hl 0 rfl) ?_
        refine x_get (C := R_Mo) (T := F_Mo) (N := 20) hx hb hw i_Mo hown hK.1 hM hoi rfl 7 (by decide) (hw _ kw_530) rfl rfl d_Mo_master_236 ?_
        refine lv_iconst (v := 1) hx hb d_Mo_master_239 (by decide) ?_
        refine lv_isub hx hb d_Mo_master_240 ?_
        refine lv_topi (fun tv etv => ?_)
        have etv : tv = nI (zmn u) := by rw [etv]; exact nI_pred _
        subst etv
        exact x_ri hE rfl hM hS (hP2 _ L hL1 (fun i hi => hL2 i (by omega)) (fun h9 => c_200 (by rw [hk10]; exact (zLa_no hO st).mpr h9)) ((((xN.refl.put hA.2.2.2.2.1 eMi (by omega) (by omega)).put k106b eMi_1 (by omega) (by omega)).put k107b eMi_2 (by omega) (by omega)).put hoib eMi_3 (by omega) (by omega)) hoi (by rw [hk10] at k106 k107; exact ⟨k101, k102, k103, k104, k105, k106, k107, k108⟩)) (by decide) (by decide) d_Mo_master_241
      · refine lv_iconst (v := (-1)) hx hb d_Mo_master_203 (by decide) ?_
        exact x_ri hE rfl hM hS (hP1 _ L hL1 ((zLa_no hO st).mp (by rw [← hk10]; exact c_200)) (xN.refl.put hA.2.2.2.2.1 eMi (by omega) (by omega)) hoi ⟨k101, k102, k103, k104, k105, k106, k107, k108⟩) (by decide) (by decide) d_Mo_master_204
    · have h_lt : k < 10 := Nat.not_le.mp (fun h9 => c_45 ((nI_leI (a := 10) (by decide) (by omega)).mpr h9))
      refine x_cutH (G := G) (M := Mi) (ls := ls) 83 [] (fun v => v = zBo (¬ zB u st k = -1)) (fun is H locs h_is hM hS => ?_) (fun hjn => ?_)
      · subst h_is
        refine lv_istore (lv' := [(5, .int (zBo (¬ zB u st k = -1))), (0, .ref (ad 100)), (1, .int st), (2, .int (zFi (zB u st) k)), (3, .int (zLa (zln u) (zB u st) k)), (4, .int (nI k))]) hx hb d_Mo_master_83 hl (by decide) rfl (fun ls hl => ?_)
        refine lv_aload_n hx hb d_Mo_master_85 rfl (lv_at hl 1 rfl) ?_
        refine x_get (C := R_Mo) (T := F_Mo) (N := 20) hx hb hw i_Mo hown hK.1 hM hoi rfl 8 (by decide) (hw _ kw_531) rfl rfl d_Mo_master_86 ?_
        refine lv_bipush (v := 10) hx hb d_Mo_master_89 (by decide) ?_
        refine lv_aload_n hx hb d_Mo_master_91 rfl (lv_at hl 1 rfl) ?_
        refine x_get (C := R_Mo) (T := F_Mo) (N := 20) hx hb hw i_Mo hown hK.1 hM hoi rfl 7 (by decide) (hw _ kw_530) rfl rfl d_Mo_master_92 ?_
        refine lv_imul hx hb d_Mo_master_95 ?_
        refine lv_iload hx hb d_Mo_master_96 (lv_at hl 5 rfl) ?_
        refine lv_iadd hx hb d_Mo_master_98 ?_
        refine lv_iload hx hb d_Mo_master_99 (lv_at hl 0 rfl) ?_
        refine lv_if_eq (tgt := 114) hx hb d_Mo_master_101 (by decide) (fun c_101 => ?_) (fun c_101 => ?_)
        · have h_is : zB u st k = -1 := Classical.byContradiction fun h9 => zBo_ne.mpr h9 c_101
          refine lv_iconst (v := (-1)) hx hb d_Mo_master_114 (by decide) ?_
          refine lv_topi (fun tv etv => ?_)
          have etv : tv = zB u st k := by rw [etv]; exact h_is.symm
          subst etv
          refine x_iast hx hb hK.1 hM hS k105 0 rfl (z_i10 _ _) (by omega) (by decide) d_Mo_master_115 (fun H locs hM hS hz => ?_)
          have hM : xh G (va_up Mi (ad 105) (some (105, .inl (gI G, 80, .inl (upd L (10 * zmn u + k) (zB u st k)))))) H := hM
          obtain ⟨Mi_1, eMi_1⟩ : ∃ z : xM, z = va_up Mi (ad 105) (some (105, .inl (gI G, 80, .inl (upd L (10 * zmn u + k) (zB u st k))))) := ⟨_, rfl⟩
          rw [← eMi_1] at hM
          have hoi := xw_upE eMi_1 hoi k105 (by decide)
          have k101 := xw_upE eMi_1 k101 k105 (by decide)
          have k102 := xw_upE eMi_1 k102 k105 (by decide)
          have k103 := xw_upE eMi_1 k103 k105 (by decide)
          have k104 := xw_upE eMi_1 k104 k105 (by decide)
          have k106 := xw_upE eMi_1 k106 k105 (by decide)
          have k107 := xw_upE eMi_1 k107 k105 (by decide)
          have k108 := xw_upE eMi_1 k108 k105 (by decide)
          have k105 := xw_atE eMi_1
          refine lv_iload hx hb d_Mo_master_116 (lv_at hl 0 rfl) ?_
          refine lv_if_eq (tgt := 142) hx hb d_Mo_master_118 (by decide) (fun c_118 => ?_) (fun c_118 => ?_)
          · refine lv_iload_n hx hb d_Mo_master_142 rfl (lv_at hl 3 rfl) ?_
            refine lv_topi (fun tv etv => ?_)
            have etv : tv = zFi (zB u st) (k + 1) := by rw [etv]; exact (zFi_skip h_is).symm
            subst etv
            refine lv_istore_n (lv' := [(2, .int (zFi (zB u st) (k + 1))), (5, .int (zBo (¬ zB u st k = -1))), (0, .ref (ad 100)), (1, .int st), (3, .int (zLa (zln u) (zB u st) k)), (4, .int (nI k))]) hx hb d_Mo_master_143 rfl hl (by decide) rfl (fun ls hl => ?_)
            refine lv_iload hx hb d_Mo_master_144 (lv_at hl 1 rfl) ?_
            refine lv_if_eq (tgt := 190) hx hb d_Mo_master_146 (by decide) (fun c_146 => ?_) (fun c_146 => ?_)
            · refine lv_iload_n hx hb d_Mo_master_190 rfl (lv_at hl 4 rfl) ?_
              refine lv_topi (fun tv etv => ?_)
              have etv : tv = zLa (zln u) (zB u st) (k + 1) := by rw [etv]; exact (zLa_skip h_is).symm
              subst etv
              refine lv_istore_n (lv' := [(3, .int (zLa (zln u) (zB u st) (k + 1))), (2, .int (zFi (zB u st) (k + 1))), (5, .int (zBo (¬ zB u st k = -1))), (0, .ref (ad 100)), (1, .int st), (4, .int (nI k))]) hx hb d_Mo_master_191 rfl hl (by decide) rfl (fun ls hl => ?_)
              refine lv_iinc (v := (nI (k + 1))) (lv' := [(4, .int (nI (k + 1))), (3, .int (zLa (zln u) (zB u st) (k + 1))), (2, .int (zFi (zB u st) (k + 1))), (5, .int (zBo (¬ zB u st k = -1))), (0, .ref (ad 100)), (1, .int st)]) hx hb d_Mo_master_192 hl (k := 5) rfl (nI_1 k) (by decide) rfl (fun ls hl => ?_)
              refine lv_goto (tgt := 41) hx hb d_Mo_master_195 (by decide) ?_
              exact ih (k + 1) h_lt (by omega) (upd L (10 * zmn u + k) (zB u st k)) (fun t ht => (pk_un (by omega)).trans (hL1 t ht)) (fun t ht => by
                by_cases h9 : t = k
                · rw [h9, pk_us]
                · rw [pk_un (by omega)]; exact hL2 t (by omega)) _ _ _ (by rw [eMi_1, eMi, bx_uu] at hM; exact hM) hS (lv_sub hl [4, 5, 2, 1, 0] rfl)
            · exact absurd c_101 c_146
          · exact absurd c_101 c_118
        · have h_is : ¬ zB u st k = -1 := zBo_ne.mp c_101
          obtain ⟨h_kr, h_b⟩ := (zB_in hO st k).2 h_is
          have h_br := z_ne1 (zB_in hO st k).1 h_is
          have h_ln := hO.2.2.2.1 k h_kr
          refine lv_aload_n hx hb d_Mo_master_104 rfl (lv_at hl 1 rfl) ?_
          refine x_get (C := R_Mo) (T := F_Mo) (N := 20) hx hb hw i_Mo hown hK.1 hM hoi rfl 6 (by decide) (hw _ kw_529) rfl rfl d_Mo_master_105 ?_
          refine lv_iload hx hb d_Mo_master_108 (lv_at hl 5 rfl) ?_
          refine x_iald hx hb hK.1 hM k104 0 rfl rfl h_lt (by decide) d_Mo_master_110 ?_
          refine lv_topi (fun tv etv => ?_)
          have etv : tv = zB u st k := by rw [etv]; rw [h_b]; exact (hX.2.1 k h_kr).2.2
          subst etv
          refine lv_goto (tgt := 115) hx hb d_Mo_master_111 (by decide) ?_
          refine x_iast hx hb hK.1 hM hS k105 0 rfl (z_i10 _ _) (by omega) (by decide) d_Mo_master_115 (fun H locs hM hS hz => ?_)
          have hM : xh G (va_up Mi (ad 105) (some (105, .inl (gI G, 80, .inl (upd L (10 * zmn u + k) (zB u st k)))))) H := hM
          obtain ⟨Mi_1, eMi_1⟩ : ∃ z : xM, z = va_up Mi (ad 105) (some (105, .inl (gI G, 80, .inl (upd L (10 * zmn u + k) (zB u st k))))) := ⟨_, rfl⟩
          rw [← eMi_1] at hM
          have hoi := xw_upE eMi_1 hoi k105 (by decide)
          have k101 := xw_upE eMi_1 k101 k105 (by decide)
          have k102 := xw_upE eMi_1 k102 k105 (by decide)
          have k103 := xw_upE eMi_1 k103 k105 (by decide)
          have k104 := xw_upE eMi_1 k104 k105 (by decide)
          have k106 := xw_upE eMi_1 k106 k105 (by decide)
          have k107 := xw_upE eMi_1 k107 k105 (by decide)
          have k108 := xw_upE eMi_1 k108 k105 (by decide)
          have k105 := xw_atE eMi_1
          refine lv_iload hx hb d_Mo_master_116 (lv_at hl 0 rfl) ?_
          refine lv_if_eq (tgt := 142) hx hb d_Mo_master_118 (by decide) (fun c_118 => ?_) (fun c_118 => ?_)
          · exact absurd c_118 c_101
          · refine lv_aload_n hx hb d_Mo_master_121 rfl (lv_at hl 1 rfl) ?_
            refine x_get (C := R_Mo) (T := F_Mo) (N := 20) hx hb hw i_Mo hown hK.1 hM hoi rfl 6 (by decide) (hw _ kw_529) rfl rfl d_Mo_master_122 ?_
            refine lv_iload hx hb d_Mo_master_125 (lv_at hl 5 rfl) ?_
            refine x_iald hx hb hK.1 hM k104 0 rfl rfl h_lt (by decide) d_Mo_master_127 ?_
            refine lv_topi (fun tv etv => ?_)
            have etv : tv = zB u st k := by rw [etv]; rw [h_b]; exact (hX.2.1 k h_kr).2.2
            subst etv
            refine lv_iload_n hx hb d_Mo_master_128 rfl (lv_at hl 3 rfl) ?_
            refine lv_icmp_ge (tgt := 142) hx hb d_Mo_master_129 (by decide) (fun c_129 => ?_) (fun c_129 => ?_)
            · refine lv_iload_n hx hb d_Mo_master_142 rfl (lv_at hl 3 rfl) ?_
              refine lv_topi (fun tv etv => ?_)
              have etv : tv = zFi (zB u st) (k + 1) := by rw [etv]; rw [zFi_take h_is h_br, if_pos c_129]
              subst etv
              refine lv_istore_n (lv' := [(2, .int (zFi (zB u st) (k + 1))), (5, .int (zBo (¬ zB u st k = -1))), (0, .ref (ad 100)), (1, .int st), (3, .int (zLa (zln u) (zB u st) k)), (4, .int (nI k))]) hx hb d_Mo_master_143 rfl hl (by decide) rfl (fun ls hl => ?_)
              refine lv_iload hx hb d_Mo_master_144 (lv_at hl 1 rfl) ?_
              refine lv_if_eq (tgt := 190) hx hb d_Mo_master_146 (by decide) (fun c_146 => ?_) (fun c_146 => ?_)
              · exact absurd c_146 c_101
              · refine lv_aload_n hx hb d_Mo_master_149 rfl (lv_at hl 2 rfl) ?_
                refine x_get (C := R_Mo) (T := F_Mo) (N := 20) hx hb hw i_Mo hown hK.1 hM hoi rfl 6 (by decide) (hw _ kw_529) rfl rfl d_Mo_master_150 ?_
                refine lv_iload hx hb d_Mo_master_153 (lv_at hl 5 rfl) ?_
                refine x_iald hx hb hK.1 hM k104 0 rfl rfl h_lt (by decide) d_Mo_master_155 ?_
                refine lv_topi (fun tv etv => ?_)
                have etv : tv = zB u st k := by rw [etv]; rw [h_b]; exact (hX.2.1 k h_kr).2.2
                subst etv
                refine lv_aload_n hx hb d_Mo_master_156 rfl (lv_at hl 2 rfl) ?_
                refine x_get (C := R_Mo) (T := F_Mo) (N := 20) hx hb hw i_Mo hown hK.1 hM hoi rfl 4 (by decide) (hw _ kw_527) rfl rfl d_Mo_master_157 ?_
                refine lv_iload hx hb d_Mo_master_160 (lv_at hl 5 rfl) ?_
                refine x_iald hx hb hK.1 hM k102 0 rfl rfl h_lt (by decide) d_Mo_master_162 ?_
                refine lv_topi (fun tv etv => ?_)
                have etv : tv = nI (zln u k) := by rw [etv]; exact (hX.2.1 k h_kr).1
                subst etv
                refine lv_iadd hx hb d_Mo_master_163 ?_
                refine lv_iconst (v := 1) hx hb d_Mo_master_164 (by decide) ?_
                refine lv_isub hx hb d_Mo_master_165 ?_
                refine lv_iload_n hx hb d_Mo_master_166 rfl (lv_at hl 4 rfl) ?_
                refine lv_icmp_le (tgt := 190) hx hb d_Mo_master_167 (by decide) (fun c_167 => ?_) (fun c_167 => ?_)
                · refine lv_iload_n hx hb d_Mo_master_190 rfl (lv_at hl 4 rfl) ?_
                  refine lv_topi (fun tv etv => ?_)
                  have etv : tv = zLa (zln u) (zB u st) (k + 1) := by rw [etv]; rw [zLa_take h_is h_br h_ln.1 h_ln.2.1, if_pos c_167]
                  subst etv
                  refine lv_istore_n (lv' := [(3, .int (zLa (zln u) (zB u st) (k + 1))), (2, .int (zFi (zB u st) (k + 1))), (5, .int (zBo (¬ zB u st k = -1))), (0, .ref (ad 100)), (1, .int st), (4, .int (nI k))]) hx hb d_Mo_master_191 rfl hl (by decide) rfl (fun ls hl => ?_)
                  refine lv_iinc (v := (nI (k + 1))) (lv' := [(4, .int (nI (k + 1))), (3, .int (zLa (zln u) (zB u st) (k + 1))), (2, .int (zFi (zB u st) (k + 1))), (5, .int (zBo (¬ zB u st k = -1))), (0, .ref (ad 100)), (1, .int st)]) hx hb d_Mo_master_192 hl (k := 5) rfl (nI_1 k) (by decide) rfl (fun ls hl => ?_)
                  refine lv_goto (tgt := 41) hx hb d_Mo_master_195 (by decide) ?_
                  exact ih (k + 1) h_lt (by omega) (upd L (10 * zmn u + k) (zB u st k)) (fun t ht => (pk_un (by omega)).trans (hL1 t ht)) (fun t ht => by
                    by_cases h9 : t = k
                    · rw [h9, pk_us]
                    · rw [pk_un (by omega)]; exact hL2 t (by omega)) _ _ _ (by rw [eMi_1, eMi, bx_uu] at hM; exact hM) hS (lv_sub hl [4, 5, 2, 1, 0] rfl)
                · refine lv_aload_n hx hb d_Mo_master_170 rfl (lv_at hl 2 rfl) ?_
                  refine x_get (C := R_Mo) (T := F_Mo) (N := 20) hx hb hw i_Mo hown hK.1 hM hoi rfl 6 (by decide) (hw _ kw_529) rfl rfl d_Mo_master_171 ?_
                  refine lv_iload hx hb d_Mo_master_174 (lv_at hl 5 rfl) ?_
                  refine x_iald hx hb hK.1 hM k104 0 rfl rfl h_lt (by decide) d_Mo_master_176 ?_
                  refine lv_topi (fun tv etv => ?_)
                  have etv : tv = zB u st k := by rw [etv]; rw [h_b]; exact (hX.2.1 k h_kr).2.2
                  subst etv
                  refine lv_aload_n hx hb d_Mo_master_177 rfl (lv_at hl 2 rfl) ?_
                  refine x_get (C := R_Mo) (T := F_Mo) (N := 20) hx hb hw i_Mo hown hK.1 hM hoi rfl 4 (by decide) (hw _ kw_527) rfl rfl d_Mo_master_178 ?_
                  refine lv_iload hx hb d_Mo_master_181 (lv_at hl 5 rfl) ?_
                  refine x_iald hx hb hK.1 hM k102 0 rfl rfl h_lt (by decide) d_Mo_master_183 ?_
                  refine lv_topi (fun tv etv => ?_)
                  have etv : tv = nI (zln u k) := by rw [etv]; exact (hX.2.1 k h_kr).1
                  subst etv
                  refine lv_iadd hx hb d_Mo_master_184 ?_
                  refine lv_iconst (v := 1) hx hb d_Mo_master_185 (by decide) ?_
                  refine lv_isub hx hb d_Mo_master_186 ?_
                  refine lv_goto (tgt := 191) hx hb d_Mo_master_187 (by decide) ?_
                  refine lv_topi (fun tv etv => ?_)
                  have etv : tv = zLa (zln u) (zB u st) (k + 1) := by rw [etv]; rw [zLa_take h_is h_br h_ln.1 h_ln.2.1, if_neg c_167]
                  subst etv
                  refine lv_istore_n (lv' := [(3, .int (zLa (zln u) (zB u st) (k + 1))), (2, .int (zFi (zB u st) (k + 1))), (5, .int (zBo (¬ zB u st k = -1))), (0, .ref (ad 100)), (1, .int st), (4, .int (nI k))]) hx hb d_Mo_master_191 rfl hl (by decide) rfl (fun ls hl => ?_)
                  refine lv_iinc (v := (nI (k + 1))) (lv' := [(4, .int (nI (k + 1))), (3, .int (zLa (zln u) (zB u st) (k + 1))), (2, .int (zFi (zB u st) (k + 1))), (5, .int (zBo (¬ zB u st k = -1))), (0, .ref (ad 100)), (1, .int st)]) hx hb d_Mo_master_192 hl (k := 5) rfl (nI_1 k) (by decide) rfl (fun ls hl => ?_)
                  refine lv_goto (tgt := 41) hx hb d_Mo_master_195 (by decide) ?_
                  exact ih (k + 1) h_lt (by omega) (upd L (10 * zmn u + k) (zB u st k)) (fun t ht => (pk_un (by omega)).trans (hL1 t ht)) (fun t ht => by
                    by_cases h9 : t = k
                    · rw [h9, pk_us]
                    · rw [pk_un (by omega)]; exact hL2 t (by omega)) _ _ _ (by rw [eMi_1, eMi, bx_uu] at hM; exact hM) hS (lv_sub hl [4, 5, 2, 1, 0] rfl)
            · refine lv_aload_n hx hb d_Mo_master_132 rfl (lv_at hl 1 rfl) ?_
              refine x_get (C := R_Mo) (T := F_Mo) (N := 20) hx hb hw i_Mo hown hK.1 hM hoi rfl 6 (by decide) (hw _ kw_529) rfl rfl d_Mo_master_133 ?_
              refine lv_iload hx hb d_Mo_master_136 (lv_at hl 5 rfl) ?_
              refine x_iald hx hb hK.1 hM k104 0 rfl rfl h_lt (by decide) d_Mo_master_138 ?_
              refine lv_topi (fun tv etv => ?_)
              have etv : tv = zB u st k := by rw [etv]; rw [h_b]; exact (hX.2.1 k h_kr).2.2
              subst etv
              refine lv_goto (tgt := 143) hx hb d_Mo_master_139 (by decide) ?_
              refine lv_topi (fun tv etv => ?_)
              have etv : tv = zFi (zB u st) (k + 1) := by rw [etv]; rw [zFi_take h_is h_br, if_neg c_129]
              subst etv
              refine lv_istore_n (lv' := [(2, .int (zFi (zB u st) (k + 1))), (5, .int (zBo (¬ zB u st k = -1))), (0, .ref (ad 100)), (1, .int st), (3, .int (zLa (zln u) (zB u st) k)), (4, .int (nI k))]) hx hb d_Mo_master_143 rfl hl (by decide) rfl (fun ls hl => ?_)
              refine lv_iload hx hb d_Mo_master_144 (lv_at hl 1 rfl) ?_
              refine lv_if_eq (tgt := 190) hx hb d_Mo_master_146 (by decide) (fun c_146 => ?_) (fun c_146 => ?_)
              · exact absurd c_146 c_101
              · refine lv_aload_n hx hb d_Mo_master_149 rfl (lv_at hl 2 rfl) ?_
                refine x_get (C := R_Mo) (T := F_Mo) (N := 20) hx hb hw i_Mo hown hK.1 hM hoi rfl 6 (by decide) (hw _ kw_529) rfl rfl d_Mo_master_150 ?_
                refine lv_iload hx hb d_Mo_master_153 (lv_at hl 5 rfl) ?_
                refine x_iald hx hb hK.1 hM k104 0 rfl rfl h_lt (by decide) d_Mo_master_155 ?_
                refine lv_topi (fun tv etv => ?_)
                have etv : tv = zB u st k := by rw [etv]; rw [h_b]; exact (hX.2.1 k h_kr).2.2
                subst etv
                refine lv_aload_n hx hb d_Mo_master_156 rfl (lv_at hl 2 rfl) ?_
                refine x_get (C := R_Mo) (T := F_Mo) (N := 20) hx hb hw i_Mo hown hK.1 hM hoi rfl 4 (by decide) (hw _ kw_527) rfl rfl d_Mo_master_157 ?_
                refine lv_iload hx hb d_Mo_master_160 (lv_at hl 5 rfl) ?_
                refine x_iald hx hb hK.1 hM k102 0 rfl rfl h_lt (by decide) d_Mo_master_162 ?_
                refine lv_topi (fun tv etv => ?_)
                have etv : tv = nI (zln u k) := by rw [etv]; exact (hX.2.1 k h_kr).1
                subst etv
                refine lv_iadd hx hb d_Mo_master_163 ?_
                refine lv_iconst (v := 1) hx hb d_Mo_master_164 (by decide) ?_
                refine lv_isub hx hb d_Mo_master_165 ?_
                refine lv_iload_n hx hb d_Mo_master_166 rfl (lv_at hl 4 rfl) ?_
                refine lv_icmp_le (tgt := 190) hx hb d_Mo_master_167 (by decide) (fun c_167 => ?_) (fun c_167 => ?_)
                · refine lv_iload_n hx hb d_Mo_master_190 rfl (lv_at hl 4 rfl) ?_
                  refine lv_topi (fun tv etv => ?_)
                  have etv : tv = zLa (zln u) (zB u st) (k + 1) := by rw [etv]; rw [zLa_take h_is h_br h_ln.1 h_ln.2.1, if_pos c_167]
                  subst etv
                  refine lv_istore_n (lv' := [(3, .int (zLa (zln u) (zB u st) (k + 1))), (2, .int (zFi (zB u st) (k + 1))), (5, .int (zBo (¬ zB u st k = -1))), (0, .ref (ad 100)), (1, .int st), (4, .int (nI k))]) hx hb d_Mo_master_191 rfl hl (by decide) rfl (fun ls hl => ?_)
                  refine lv_iinc (v := (nI (k + 1))) (lv' := [(4, .int (nI (k + 1))), (3, .int (zLa (zln u) (zB u st) (k + 1))), (2, .int (zFi (zB u st) (k + 1))), (5, .int (zBo (¬ zB u st k = -1))), (0, .ref (ad 100)), (1, .int st)]) hx hb d_Mo_master_192 hl (k := 5) rfl (nI_1 k) (by decide) rfl (fun ls hl => ?_)
                  refine lv_goto (tgt := 41) hx hb d_Mo_master_195 (by decide) ?_
                  exact ih (k + 1) h_lt (by omega) (upd L (10 * zmn u + k) (zB u st k)) (fun t ht => (pk_un (by omega)).trans (hL1 t ht)) (fun t ht => by
                    by_cases h9 : t = k
                    · rw [h9, pk_us]
                    · rw [pk_un (by omega)]; exact hL2 t (by omega)) _ _ _ (by rw [eMi_1, eMi, bx_uu] at hM; exact hM) hS (lv_sub hl [4, 5, 2, 1, 0] rfl)
                · refine lv_aload_n hx hb d_Mo_master_170 rfl (lv_at hl 2 rfl) ?_
                  refine x_get (C := R_Mo) (T := F_Mo) (N := 20) hx hb hw i_Mo hown hK.1 hM hoi rfl 6 (by decide) (hw _ kw_529) rfl rfl d_Mo_master_171 ?_
                  refine lv_iload hx hb d_Mo_master_174 (lv_at hl 5 rfl) ?_
                  refine x_iald hx hb hK.1 hM k104 0 rfl rfl h_lt (by decide) d_Mo_master_176 ?_
                  refine lv_topi (fun tv etv => ?_)
                  have etv : tv = zB u st k := by rw [etv]; rw [h_b]; exact (hX.2.1 k h_kr).2.2
                  subst etv
                  refine lv_aload_n hx hb d_Mo_master_177 rfl (lv_at hl 2 rfl) ?_
                  refine x_get (C := R_Mo) (T := F_Mo) (N := 20) hx hb hw i_Mo hown hK.1 hM hoi rfl 4 (by decide) (hw _ kw_527) rfl rfl d_Mo_master_178 ?_
                  refine lv_iload hx hb d_Mo_master_181 (lv_at hl 5 rfl) ?_
                  refine x_iald hx hb hK.1 hM k102 0 rfl rfl h_lt (by decide) d_Mo_master_183 ?_
                  refine lv_topi (fun tv etv => ?_)
                  have etv : tv = nI (zln u k) := by rw [etv]; exact (hX.2.1 k h_kr).1
                  subst etv
                  refine lv_iadd hx hb d_Mo_master_184 ?_
                  refine lv_iconst (v := 1) hx hb d_Mo_master_185 (by decide) ?_
                  refine lv_isub hx hb d_Mo_master_186 ?_
                  refine lv_goto (tgt := 191) hx hb d_Mo_master_187 (by decide) ?_
                  refine lv_topi (fun tv etv => ?_)
                  have etv : tv = zLa (zln u) (zB u st) (k + 1) := by rw [etv]; rw [zLa_take h_is h_br h_ln.1 h_ln.2.1, if_neg c_167]
                  subst etv
                  refine lv_istore_n (lv' := [(3, .int (zLa (zln u) (zB u st) (k + 1))), (2, .int (zFi (zB u st) (k + 1))), (5, .int (zBo (¬ zB u st k = -1))), (0, .ref (ad 100)), (1, .int st), (4, .int (nI k))]) hx hb d_Mo_master_191 rfl hl (by decide) rfl (fun ls hl => ?_)
                  refine lv_iinc (v := (nI (k + 1))) (lv' := [(4, .int (nI (k + 1))), (3, .int (zLa (zln u) (zB u st) (k + 1))), (2, .int (zFi (zB u st) (k + 1))), (5, .int (zBo (¬ zB u st k = -1))), (0, .ref (ad 100)), (1, .int st)]) hx hb d_Mo_master_192 hl (k := 5) rfl (nI_1 k) (by decide) rfl (fun ls hl => ?_)
                  refine lv_goto (tgt := 41) hx hb d_Mo_master_195 (by decide) ?_
                  exact ih (k + 1) h_lt (by omega) (upd L (10 * zmn u + k) (zB u st k)) (fun t ht => (pk_un (by omega)).trans (hL1 t ht)) (fun t ht => by
                    by_cases h9 : t = k
                    · rw [h9, pk_us]
                    · rw [pk_un (by omega)]; exact hL2 t (by omega)) _ _ _ (by rw [eMi_1, eMi, bx_uu] at hM; exact hM) hS (lv_sub hl [4, 5, 2, 1, 0] rfl)
      · refine lv_iload_n hx hb d_Mo_master_48 rfl (lv_at hl 1 rfl) ?_
        refine lv_iload hx hb d_Mo_master_49 (lv_at hl 4 rfl) ?_
        refine lv_ishr hx hb d_Mo_master_51 ?_
        refine lv_iconst (v := 1) hx hb d_Mo_master_52 (by decide) ?_
        refine lv_iand hx hb d_Mo_master_53 ?_
        refine lv_iconst (v := 1) hx hb d_Mo_master_54 (by decide) ?_
        refine lv_icmp_ne (tgt := 82) hx hb d_Mo_master_55 (by decide) (fun c_55 => ?_) (fun c_55 => ?_)
        · refine lv_iconst (v := 0) hx hb d_Mo_master_82 (by decide) ?_
          exact hjn _ _ _ (zBo_f (fun h9 => h9 (by unfold zB; rw [if_neg (fun h8 => c_55 h8.2)]))).symm hM hS
        · refine lv_iload hx hb d_Mo_master_58 (lv_at hl 4 rfl) ?_
          refine lv_aload_n hx hb d_Mo_master_60 rfl (lv_at hl 0 rfl) ?_
          refine x_get (C := R_Mo) (T := F_Mo) (N := 20) hx hb hw i_Mo hown hK.1 hM hoi rfl 3 (by decide) (hw _ kw_526) rfl rfl d_Mo_master_61 ?_
          refine lv_icmp_ge (tgt := 82) hx hb d_Mo_master_64 (by decide) (fun c_64 => ?_) (fun c_64 => ?_)
          · have h_kr : zrn u ≤ k := (nI_leI (by omega) (by omega)).mp c_64
            refine lv_iconst (v := 0) hx hb d_Mo_master_82 (by decide) ?_
            exact hjn _ _ _ (zBo_f (fun h9 => h9 (by unfold zB; rw [if_neg (fun h8 => absurd h8.1 (by omega))]))).symm hM hS
          · have h_kr : k < zrn u := Nat.not_le.mp (fun h9 => c_64 ((nI_leI (by omega) (by omega)).mpr h9))
            refine lv_aload_n hx hb d_Mo_master_67 rfl (lv_at hl 0 rfl) ?_
            refine x_get (C := R_Mo) (T := F_Mo) (N := 20) hx hb hw i_Mo hown hK.1 hM hoi rfl 6 (by decide) (hw _ kw_529) rfl rfl d_Mo_master_68 ?_
            refine lv_iload hx hb d_Mo_master_71 (lv_at hl 4 rfl) ?_
            refine x_iald hx hb hK.1 hM k104 0 rfl rfl h_lt (by decide) d_Mo_master_73 ?_
            refine lv_topi (fun tv etv => ?_)
            have etv : tv = zst u k := by rw [etv]; exact (hX.2.1 k h_kr).2.2
            subst etv
            refine lv_iconst (v := (-1)) hx hb d_Mo_master_74 (by decide) ?_
            refine lv_icmp_eq (tgt := 82) hx hb d_Mo_master_75 (by decide) (fun c_75 => ?_) (fun c_75 => ?_)
            · refine lv_iconst (v := 0) hx hb d_Mo_master_82 (by decide) ?_
              exact hjn _ _ _ (zBo_f (fun h9 => h9 (by unfold zB; rw [if_pos ⟨h_kr, c_55⟩]; exact c_75))).symm hM hS
            · refine lv_iconst (v := 1) hx hb d_Mo_master_78 (by decide) ?_
              refine lv_goto (tgt := 83) hx hb d_Mo_master_79 (by decide) ?_
              exact hjn _ _ _ (zBo_t (show ¬ zB u st k = -1 from fun h9 => c_75 ((show zst u k = zB u st k by unfold zB; rw [if_pos ⟨h_kr, c_55⟩]).trans h9))).symm hM hS

set_option maxHeartbeats 4000000 in
set_option maxRecDepth 100000 in
theorem c_Mo_master (l : Launch) (G : xG) (M : xM) (ad : Nat → Nat) (u : zS) (th : Int32) (q : z5) (ho : M (ad 100) = some (100, eMo ad u th q)) (X : zX) (hA : MoA G M ad X) (hX : MoR u X) (hO : zOk u) (st : Int32) : Met l y_Mo_master w_Mo_master ({ frames := 2, cells := 0, slots := 0, locals := 75 }) (xP G [.ref (ad 100), .int st] M) (xQi G (fun v M' => ((fMas u st).1 = 0 → zMk (zB u st) (zrn u) = 0 → MoU G M ad u (fMas u st) v M') ∧ ((fMas u st).1 = 0 → ¬ zMk (zB u st) (zrn u) = 0 → ∀ B : Nat → Int32, (∀ i, i < 10 → B i = zB u st i) → MoU G M ad (uMas u B) (fMas u st) v M') ∧ (¬ (fMas u st).1 = 0 → MoU G M ad u (fMas u st) v M'))) 0 0 (xF G) := by
  refine x_met (by decide) (Nat.le_of_ble_eq_true rfl) ?_
  intro p e s m below meth c ls hE hin hl hM hK hS
  obtain ⟨hx, hb, hr, hml, hown, hw, hlocks⟩ := id hE
  have hlt : (fMas u st).1 < 2 ^ 31 := by
    unfold fMas
    repeat' split
    all_goals exact Nat.le_of_ble_eq_true rfl
  have hl : lv_has ls 6 [(0, .ref (ad 100)), (1, .int st)] := hl
  refine lv_aload_n hx hb d_Mo_master_0 rfl (lv_at hl 0 rfl) ?_
  refine x_cutH (G := G) (M := M) (ls := ls) 15 [.ref (ad 100)] (fun v => v = zBo (zmn u < 8)) (fun o1 H locs h_o1 hM hS => ?_) (fun hjn => ?_)
  · subst h_o1
    refine lv_iload_n hx hb d_Mo_master_15 rfl (lv_at hl 1 rfl) ?_
    refine lv_iconst (v := 0) hx hb d_Mo_master_16 (by decide) ?_
    refine lv_sipush (v := 1023) hx hb d_Mo_master_17 (by decide) ?_
    refine x_ci (x_runS (As := [.int st, .int 0, .int 1023]) (rest := [.int (zBo (zmn u < 8)), .ref (ad 100)]) hE hK hM hl.1 (c_Mo_within l G M st 0 1023) kw_592 kw_593 kw_4 kw_594 3 rfl rfl rfl (by decide +kernel) ⟨by decide, by decide⟩ rfl (Nat.le_of_ble_eq_true rfl) d_Mo_master_20 ⟨by decide, by decide⟩) hS (fun r1 M1 H locs hp hM hS => ?_)
    obtain ⟨e_w, e_M0⟩ := hp
    have hM : xh G M H := e_M0 ▸ hM
    subst e_w
    refine lv_iconst (v := 1) hx hb d_Mo_master_23 (by decide) ?_
    refine x_ci (x_runV (As := [.int (zBo (zmn u < 8)), .int (zBo (¬ st < 0 ∧ ¬ 1023 < st)), .int 1]) (rest := []) hE hK hM hl.1 (c_Mo_goes l G M ad u th q ho (zBo (zmn u < 8)) (zBo (¬ st < 0 ∧ ¬ 1023 < st)) 1) (id ho) rfl kw_595 kw_597 ks_17 kw_4 kw_598 3 rfl rfl rfl (by decide +kernel) ⟨by decide, by decide⟩ rfl (Nat.le_of_ble_eq_true rfl) d_Mo_master_24 ⟨by decide, by decide⟩) hS (fun r2 M1 H locs hp hM hS => ?_)
    have hgb := g_mas u st
    obtain ⟨e_g, e_M⟩ := hp
    rw [hgb] at e_M e_g
    obtain ⟨Ma, eMa⟩ : ∃ zz9 : xM, zz9 = M1 := ⟨_, rfl⟩
    subst eMa
    have hog := xw_atE e_M
    have hAg := hA.up ho e_M
    refine lv_if_ne (tgt := 32) hx hb d_Mo_master_27 (by decide) (fun c_27 => ?_) (fun c_27 => ?_)
    · have hc0 : (fMas u st).1 = 0 := (nI_eq (b := 0) (by exact hlt) (by decide)).mp (zBo_ne.mp (fun h9 => c_27 (e_g.trans h9)))
      have hcd := g_cd hgb hc0
      have h_a := zBo_ne.mp hcd.1
      have h_b := zBo_ne.mp hcd.2.1
      refine lv_sipush (v := 9999) hx hb d_Mo_master_32 (by decide) ?_
      refine lv_istore_n (lv' := [(2, .int 9999), (0, .ref (ad 100)), (1, .int st)]) hx hb d_Mo_master_35 rfl hl (by decide) rfl (fun ls hl => ?_)
      refine lv_iconst (v := (-1)) hx hb d_Mo_master_36 (by decide) ?_
      refine lv_istore_n (lv' := [(3, .int (-1)), (2, .int 9999), (0, .ref (ad 100)), (1, .int st)]) hx hb d_Mo_master_37 rfl hl (by decide) rfl (fun ls hl => ?_)
      refine lv_iconst (v := 0) hx hb d_Mo_master_38 (by decide) ?_
      refine lv_istore (lv' := [(4, .int 0), (3, .int (-1)), (2, .int 9999), (0, .ref (ad 100)), (1, .int st)]) hx hb d_Mo_master_39 hl (by decide) rfl (fun ls hl => ?_)
      exact lp_Mo_master ad u _ q hog X hAg hX hO st _ h_a (fun M' L h1 h2 h3 h4 h5 => ⟨fun _ _ => ⟨⟨q, _, h4, h5, hX.lay h1⟩, (xN.refl.put ho e_M (by omega) (by omega)).trans h3, fun _ => by unfold fMas; rw [if_neg (by omega), if_neg (fun h9 => h9.elim h_b.1 h_b.2), if_pos h2]⟩, fun _ h9 => absurd h2 h9, fun h9 => absurd hc0 h9⟩) (fun M' L h1 h2 h2n h3 h4 h5 => ⟨fun _ h9 => absurd h9 h2n, fun _ _ B hB => ⟨⟨q, _, h4, h5, hX.mas h1 h2 hB (by rw [zMk_B hO]; exact h2n)⟩, (xN.refl.put ho e_M (by omega) (by omega)).trans h3, fun _ => by unfold fMas; rw [if_neg (by omega), if_neg (fun h9 => h9.elim h_b.1 h_b.2), if_neg h2n]⟩, fun h9 => absurd hc0 h9⟩) hE hK 11 0 (by omega) (by omega) (mLy X) (fun t ht => rfl) (fun t ht => absurd ht (by omega)) _ _ _ (by rw [show va_up Ma (ad 105) (some (105, eI G 80 (mLy X))) = Ma from by rw [← hAg.2.2.2.2.1]; exact va_up_id]; exact hM) hS (lv_sub hl [3, 4, 2, 1, 0] rfl)
    · have hc1 : ¬ (fMas u st).1 = 0 := fun h9 => by rw [e_g, zBo_t (by rw [h9]; rfl)] at c_27; exact absurd c_27 (by decide)
      refine lv_iconst (v := 0) hx hb d_Mo_master_30 (by decide) ?_
      exact x_ri hE rfl hM hS ⟨fun h9 => absurd h9 hc1, fun h9 => absurd h9 hc1, fun _ => MoPost.U ⟨⟨_, e_M⟩, fun h9 => absurd h9 hc1⟩ ho hA hX⟩ (by decide) (by decide) d_Mo_master_31
  · refine lv_aload_n hx hb d_Mo_master_1 rfl (lv_at hl 0 rfl) ?_
    refine x_get (C := R_Mo) (T := F_Mo) (N := 20) hx hb hw i_Mo hown hK.1 hM (id ho) rfl 7 (by decide) (hw _ kw_530) rfl rfl d_Mo_master_2 ?_
    refine lv_bipush (v := 8) hx hb d_Mo_master_5 (by decide) ?_
    refine lv_icmp_ge (tgt := 14) hx hb d_Mo_master_7 (by decide) (fun c_7 => ?_) (fun c_7 => ?_)
    · have h7 : ¬ zmn u < 8 := fun h9 => absurd c_7 (z_nle ((nI_ltI (b := 8) (by omega) (by decide)).mpr h9))
      refine lv_iconst (v := 0) hx hb d_Mo_master_14 (by decide) ?_
      exact hjn _ _ _ (zBo_f h7).symm hM hS
    · have h7 : zmn u < 8 := (nI_ltI (b := 8) (by have := hO.2.2.2.2.1; omega) (by decide)).mp (Int32.not_le.mp c_7)
      refine lv_iconst (v := 1) hx hb d_Mo_master_10 (by decide) ?_
      refine lv_goto (tgt := 15) hx hb d_Mo_master_11 (by decide) ?_
      exact hjn _ _ _ (zBo_t h7).symm hM hS
