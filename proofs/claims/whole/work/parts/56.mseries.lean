theorem va_up_id {α : Type} {f : Nat → α} {a : Nat} : va_up f a (f a) = f := by
  funext i
  by_cases h : i = a
  · rw [h, va_up_self]
  · rw [va_up_ne _ _ h]
set_option maxHeartbeats 4000000 in
set_option maxRecDepth 100000 in
theorem lp_Mo_series1 {p : Program} {l : Launch} {e : Env} {s : State} {m : MethodId} {below : List Frame} {meth : Method} {c : Code} {args : Array Value} {G : xG} {M : xM} (ad : Nat → Nat) (u : zS) (th : Int32) (q : z5) (ho : M (ad 100) = some (100, eMo ad u th q)) (X : zX) (hA : MoA G M ad X) (hX : MoR u X) (hO : zOk u) {Q : State → Prop} (hE : xE p s m args meth c b_Mo_series (some .int) 4 R_Mo) (hK : KX G s) (kk : ∀ (H : Heap) (locs : List Loc) (ls : Array Slot), xh G M H → va_S (xF G) s.heap H locs → lv_has ls 4 [(0, .ref (ad 100)), (1, .int (zTot (zpd u) (zpn u)))] → W p l e ({ frames := 2, cells := 0, slots := 0, locals := 75 }) s m args below meth c H locs 0 0 Q (F0 m 62 ls [])) : ∀ (n k : Nat), k ≤ zpn u → zpn u + 1 ≤ k + n → ∀ (H : Heap) (locs : List Loc) (ls : Array Slot), xh G M H → va_S (xF G) s.heap H locs → lv_has ls 4 [(0, .ref (ad 100)), (1, .int (zTot (zpd u) k)), (2, .int (nI k))] → W p l e ({ frames := 2, cells := 0, slots := 0, locals := 75 }) s m args below meth c H locs 0 0 Q (F0 m 39 ls []) := by
  obtain ⟨hx, hb, hr, hml, hown, hw, hlocks⟩ := id hE
  have hpn : zpn u ≤ 30 := hO.1
  intro n
  induction n with
  | zero =>
    intro k h1 h2
    exact absurd h2 (by omega)
  | succ n ih =>
    intro k hk9 hin H locs ls hM hS hl
    refine lv_iload_n hx hb d_Mo_series_39 rfl (lv_at hl 2 rfl) ?_
    refine lv_aload_n hx hb d_Mo_series_40 rfl (lv_at hl 0 rfl) ?_
    refine x_get (C := R_Mo) (T := F_Mo) (N := 20) hx hb hw i_Mo hown hK.1 hM (id ho) rfl 1 (by decide) (hw _ kw_524) rfl rfl d_Mo_series_41 ?_
    refine lv_icmp_ge (tgt := 62) hx hb d_Mo_series_44 (by decide) (fun c_44 => ?_) (fun c_44 => ?_)
    · have h_ge : zpn u ≤ k := (nI_leI (by omega) (by omega)).mp c_44
      exact kk _ _ _ hM hS (by rw [show zpn u = k by omega]; exact lv_sub hl [0, 1] rfl)
    · have h_lt : k < zpn u := Nat.not_le.mp (fun h9 => c_44 ((nI_leI (by omega) (by omega)).mpr h9))
      refine lv_iload_n hx hb d_Mo_series_47 rfl (lv_at hl 1 rfl) ?_
      refine lv_aload_n hx hb d_Mo_series_48 rfl (lv_at hl 0 rfl) ?_
      refine x_get (C := R_Mo) (T := F_Mo) (N := 20) hx hb hw i_Mo hown hK.1 hM (id ho) rfl 2 (by decide) (hw _ kw_525) rfl rfl d_Mo_series_49 ?_
      refine lv_iload_n hx hb d_Mo_series_52 rfl (lv_at hl 2 rfl) ?_
      refine x_iald hx hb hK.1 hM hA.1 0 rfl rfl (by omega) (by decide) d_Mo_series_53 ?_
      refine lv_topi (fun tv etv => ?_)
      have etv : tv = zpd u k := by rw [etv]; exact hX.1 k h_lt
      subst etv
      refine lv_iadd hx hb d_Mo_series_54 ?_
      refine lv_topi (fun tv etv => ?_)
      have etv : tv = zTot (zpd u) (k + 1) := by rw [etv]; rfl
      subst etv
      refine lv_istore_n (lv' := [(1, .int (zTot (zpd u) (k + 1))), (0, .ref (ad 100)), (2, .int (nI k))]) hx hb d_Mo_series_55 rfl hl (by decide) rfl (fun ls hl => ?_)
      refine lv_iinc (v := (nI (k + 1))) (lv' := [(2, .int (nI (k + 1))), (1, .int (zTot (zpd u) (k + 1))), (0, .ref (ad 100))]) hx hb d_Mo_series_56 hl (k := 2) rfl (nI_1 k) (by decide) rfl (fun ls hl => ?_)
      refine lv_goto (tgt := 39) hx hb d_Mo_series_59 (by decide) ?_
      exact ih (k + 1) h_lt (by omega) _ _ _ hM hS (lv_sub hl [2, 1, 0] rfl)

set_option maxHeartbeats 4000000 in
set_option maxRecDepth 100000 in
theorem lp_Mo_series2 {p : Program} {l : Launch} {e : Env} {s : State} {m : MethodId} {below : List Frame} {meth : Method} {c : Code} {args : Array Value} {G : xG} {M : xM} (ad : Nat → Nat) (u : zS) (th : Int32) (q : z5) (ho : M (ad 100) = some (100, eMo ad u th q)) (X : zX) (hA : MoA G M ad X) (hX : MoR u X) (hO : zOk u) (Post : Int32 → xM → Prop) (hr10 : zrn u < 10) (hp3 : 3 ≤ zpn u) (hP : ∀ (M' : xM) (E : Nat → Int32), (∀ t, t < 30 * zrn u → E t = mEv X t) → (∀ k, k < zpn u → E (30 * zrn u + k) = zEvn (zpd u) (zpn u) k) → xN M M' → M' (ad 100) = some (100, eMo ad (uSer u (fun _ => 0)) th q) → MoA G M' ad (mPd X, upd (mSz X) (zrn u) (nI (zpn u)), E, X.2.2.2) → Post (nI (zrn u)) M') (hE : xE p s m args meth c b_Mo_series (some .int) 4 R_Mo) (hK : KX G s) : ∀ (n k : Nat), k ≤ zpn u → zpn u + 1 ≤ k + n → ∀ (E : Nat → Int32), (∀ t, t < 30 * zrn u → E t = mEv X t) → (∀ t, t < k → E (30 * zrn u + t) = zEvn (zpd u) (zpn u) t) → ∀ (H : Heap) (locs : List Loc) (ls : Array Slot), xh G (va_up M (ad 103) (some (103, eI G 300 E))) H → va_S (xF G) s.heap H locs → lv_has ls 4 [(0, .ref (ad 100)), (1, .int (zTot (zpd u) (zpn u))), (2, .int (nI k))] → W p l e ({ frames := 2, cells := 0, slots := 0, locals := 75 }) s m args below meth c H locs 0 0 (MQ below (xQi G Post) args s 0 0 (xF G)) (F0 m 64 ls []) := by
  obtain ⟨hx, hb, hr, hml, hown, hw, hlocks⟩ := id hE
  have hpn : zpn u ≤ 30 := hO.1
  have h_t0 : ¬ zTot (zpd u) (zpn u) = 0 := fun h9 => by
    obtain ⟨t, h1, h2, h3⟩ := zTot_in (zpn u) hO.2.1
    rw [h1] at h9
    have h8 := (nI_eq (b := 0) (by omega) (by decide)).mp h9
    omega
  intro n
  induction n with
  | zero =>
    intro k h1 h2
    exact absurd h2 (by omega)
  | succ n ih =>
    intro k hk9 hin E hE1 hE2 H locs ls hM hS hl
    obtain ⟨Mi, eMi⟩ : ∃ zz9 : xM, zz9 = va_up M (ad 103) (some (103, eI G 300 E)) := ⟨_, rfl⟩
    rw [← eMi] at hM
    have hoi := xw_upE eMi ho hA.2.2.1 (by decide)
    have k101 := xw_upE eMi hA.1 hA.2.2.1 (by decide)
    have k102 := xw_upE eMi hA.2.1 hA.2.2.1 (by decide)
    have k103 := xw_atE eMi
    have k104 := xw_upE eMi hA.2.2.2.1 hA.2.2.1 (by decide)
    have k105 := xw_upE eMi hA.2.2.2.2.1 hA.2.2.1 (by decide)
    have k106 := xw_upE eMi hA.2.2.2.2.2.1 hA.2.2.1 (by decide)
    have k107 := xw_upE eMi hA.2.2.2.2.2.2.1 hA.2.2.1 (by decide)
    have k108 := xw_upE eMi hA.2.2.2.2.2.2.2 hA.2.2.1 (by decide)
    refine lv_iload_n hx hb d_Mo_series_64 rfl (lv_at hl 2 rfl) ?_
    refine lv_aload_n hx hb d_Mo_series_65 rfl (lv_at hl 0 rfl) ?_
    refine x_get (C := R_Mo) (T := F_Mo) (N := 20) hx hb hw i_Mo hown hK.1 hM hoi rfl 1 (by decide) (hw _ kw_524) rfl rfl d_Mo_series_66 ?_
    refine lv_icmp_ge (tgt := 123) hx hb d_Mo_series_69 (by decide) (fun c_69 => ?_) (fun c_69 => ?_)
    · have h_ge : zpn u ≤ k := (nI_leI (by omega) (by omega)).mp c_69
      refine lv_aload_n hx hb d_Mo_series_123 rfl (lv_at hl 0 rfl) ?_
      refine x_get (C := R_Mo) (T := F_Mo) (N := 20) hx hb hw i_Mo hown hK.1 hM hoi rfl 4 (by decide) (hw _ kw_527) rfl rfl d_Mo_series_124 ?_
      refine lv_aload_n hx hb d_Mo_series_127 rfl (lv_at hl 0 rfl) ?_
      refine x_get (C := R_Mo) (T := F_Mo) (N := 20) hx hb hw i_Mo hown hK.1 hM hoi rfl 3 (by decide) (hw _ kw_526) rfl rfl d_Mo_series_128 ?_
      refine lv_aload_n hx hb d_Mo_series_131 rfl (lv_at hl 0 rfl) ?_
      refine x_get (C := R_Mo) (T := F_Mo) (N := 20) hx hb hw i_Mo hown hK.1 hM hoi rfl 1 (by decide) (hw _ kw_524) rfl rfl d_Mo_series_132 ?_
      have k102b := k102
      refine x_iast hx hb hK.1 hM hS k102 0 rfl rfl (by omega) (by decide) d_Mo_series_135 (fun H locs hM hS hz => ?_)
      have hM : xh G (va_up Mi (ad 102) (some (102, .inl (gI G, 10, .inl (upd (mSz X) (zrn u) (nI (zpn u))))))) H := hM
      obtain ⟨Mi_1, eMi_1⟩ : ∃ z : xM, z = va_up Mi (ad 102) (some (102, .inl (gI G, 10, .inl (upd (mSz X) (zrn u) (nI (zpn u)))))) := ⟨_, rfl⟩
      rw [← eMi_1] at hM
      have hoi := xw_upE eMi_1 hoi k102 (by decide)
      have k101 := xw_upE eMi_1 k101 k102 (by decide)
      have k103 := xw_upE eMi_1 k103 k102 (by decide)
      have k104 := xw_upE eMi_1 k104 k102 (by decide)
      have k105 := xw_upE eMi_1 k105 k102 (by decide)
      have k106 := xw_upE eMi_1 k106 k102 (by decide)
      have k107 := xw_upE eMi_1 k107 k102 (by decide)
      have k108 := xw_upE eMi_1 k108 k102 (by decide)
      have k102 := xw_atE eMi_1
      refine lv_aload_n hx hb d_Mo_series_136 rfl (lv_at hl 0 rfl) ?_
      refine lv_iconst (v := 0) hx hb d_Mo_series_137 (by decide) ?_
      have hoib := hoi
      refine x_put (C := R_Mo) (T := F_Mo) (N := 20) (ty := .int) (v := .int 0) hx hb hw i_Mo t_Mo t_Mo_ok n_Mo hown hK.1 hM hS hoi rfl 1 (by decide) (hw _ kw_524) rfl rfl (by decide +kernel) rfl rfl (Nat.le_of_ble_eq_true rfl) d_Mo_series_138 (fun H locs hM hS hz => ?_)
      have hM : xh G (va_up Mi_1 (ad 100) (some (100, .inr (5, [.int th, .int 0, .ref (ad 101), .int (nI (zrn u)), .ref (ad 102), .ref (ad 103), .ref (ad 104), .int (nI (zmn u)), .ref (ad 105), .ref (ad 106), .ref (ad 107), .ref (ad 108), .int q.1, .int q.2.1, .int q.2.2.1, .int q.2.2.2.1, .int q.2.2.2.2, .ref (ad 109), .ref (ad 110), .ref (ad 111)])))) H := hM
      obtain ⟨Mi_2, eMi_2⟩ : ∃ z : xM, z = va_up Mi_1 (ad 100) (some (100, .inr (5, [.int th, .int 0, .ref (ad 101), .int (nI (zrn u)), .ref (ad 102), .ref (ad 103), .ref (ad 104), .int (nI (zmn u)), .ref (ad 105), .ref (ad 106), .ref (ad 107), .ref (ad 108), .int q.1, .int q.2.1, .int q.2.2.1, .int q.2.2.2.1, .int q.2.2.2.2, .ref (ad 109), .ref (ad 110), .ref (ad 111)]))) := ⟨_, rfl⟩
      rw [← eMi_2] at hM
      have k101 := xw_upE eMi_2 k101 hoi (by decide)
      have k102 := xw_upE eMi_2 k102 hoi (by decide)
      have k103 := xw_upE eMi_2 k103 hoi (by decide)
      have k104 := xw_upE eMi_2 k104 hoi (by decide)
      have k105 := xw_upE eMi_2 k105 hoi (by decide)
      have k106 := xw_upE eMi_2 k106 hoi (by decide)
      have k107 := xw_upE eMi_2 k107 hoi (by decide)
      have k108 := xw_upE eMi_2 k108 hoi (by decide)
      have hoi := xw_atE eMi_2
      refine lv_aload_n hx hb d_Mo_series_141 rfl (lv_at hl 0 rfl) ?_
      refine lv_dup hx hb d_Mo_series_142 rfl ?_
      refine x_get (C := R_Mo) (T := F_Mo) (N := 20) hx hb hw i_Mo hown hK.1 hM hoi rfl 3 (by decide) (hw _ kw_526) rfl rfl d_Mo_series_143 ?_
      refine lv_iconst (v := 1) hx hb d_Mo_series_146 (by decide) ?_
      refine lv_iadd hx hb d_Mo_series_147 ?_
      refine lv_topi (fun tv etv => ?_)
      have etv : tv = nI (zrn u + 1) := by rw [etv]; exact nI_1 _
      subst etv
      have hoic := hoi
      refine x_put (C := R_Mo) (T := F_Mo) (N := 20) (ty := .int) (v := .int (nI (zrn u + 1))) hx hb hw i_Mo t_Mo t_Mo_ok n_Mo hown hK.1 hM hS hoi rfl 3 (by decide) (hw _ kw_526) rfl rfl (by decide +kernel) rfl rfl (Nat.le_of_ble_eq_true rfl) d_Mo_series_148 (fun H locs hM hS hz => ?_)
      have hM : xh G (va_up Mi_2 (ad 100) (some (100, .inr (5, [.int th, .int 0, .ref (ad 101), .int (nI (zrn u + 1)), .ref (ad 102), .ref (ad 103), .ref (ad 104), .int (nI (zmn u)), .ref (ad 105), .ref (ad 106), .ref (ad 107), .ref (ad 108), .int q.1, .int q.2.1, .int q.2.2.1, .int q.2.2.2.1, .int q.2.2.2.2, .ref (ad 109), .ref (ad 110), .ref (ad 111)])))) H := hM
      obtain ⟨Mi_3, eMi_3⟩ : ∃ z : xM, z = va_up Mi_2 (ad 100) (some (100, .inr (5, [.int th, .int 0, .ref (ad 101), .int (nI (zrn u + 1)), .ref (ad 102), .ref (ad 103), .ref (ad 104), .int (nI (zmn u)), .ref (ad 105), .ref (ad 106), .ref (ad 107), .ref (ad 108), .int q.1, .int q.2.1, .int q.2.2.1, .int q.2.2.2.1, .int q.2.2.2.2, .ref (ad 109), .ref (ad 110), .ref (ad 111)]))) := ⟨_, rfl⟩
      rw [← eMi_3] at hM
      have k101 := xw_upE eMi_3 k101 hoi (by decide)
      have k102 := xw_upE eMi_3 k102 hoi (by decide)
      have k103 := xw_upE eMi_3 k103 hoi (by decide)
      have k104 := xw_upE eMi_3 k104 hoi (by decide)
      have k105 := xw_upE eMi_3 k105 hoi (by decide)
      have k106 := xw_upE eMi_3 k106 hoi (by decide)
      have k107 := xw_upE eMi_3 k107 hoi (by decide)
      have k108 := xw_upE eMi_3 k108 hoi (by decide)
      have hoi := xw_atE eMi_3
      refine lv_aload_n hx hb d_Mo_series_151 rfl (lv_at hl 0 rfl) ?_
      refine x_get (C := R_Mo) (T := F_Mo) (N := 20) hx hb hw i_Mo hown hK.1 hM hoi rfl 3 (by decide) (hw _ kw_526) rfl rfl d_Mo_series_152 ?_
      refine lv_iconst (v := 1) hx hb d_Mo_series_155 (by decide) ?_
      refine lv_isub hx hb d_Mo_series_156 ?_
      refine lv_topi (fun tv etv => ?_)
      have etv : tv = nI (zrn u) := by rw [etv]; exact nI_pred _
      subst etv
      exact x_ri hE rfl hM hS (hP _ E (fun t ht => hE1 t ht) (fun t ht => hE2 t (by omega)) (((((xN.refl.put hA.2.2.1 eMi (by omega) (by omega)).put k102b eMi_1 (by omega) (by omega)).put hoib eMi_2 (by omega) (by omega)).put hoic eMi_3 (by omega) (by omega))) hoi ⟨k101, k102, k103, k104, k105, k106, k107, k108⟩) (by decide) (by decide) d_Mo_series_157
    · have h_lt : k < zpn u := Nat.not_le.mp (fun h9 => c_69 ((nI_leI (by omega) (by omega)).mpr h9))
      refine lv_bipush (v := 100) hx hb d_Mo_series_72 (by decide) ?_
      refine lv_aload_n hx hb d_Mo_series_74 rfl (lv_at hl 0 rfl) ?_
      refine x_get (C := R_Mo) (T := F_Mo) (N := 20) hx hb hw i_Mo hown hK.1 hM hoi rfl 2 (by decide) (hw _ kw_525) rfl rfl d_Mo_series_75 ?_
      refine lv_iload_n hx hb d_Mo_series_78 rfl (lv_at hl 2 rfl) ?_
      refine x_iald hx hb hK.1 hM k101 0 rfl rfl (by omega) (by decide) d_Mo_series_79 ?_
      refine lv_topi (fun tv etv => ?_)
      have etv : tv = zpd u k := by rw [etv]; exact hX.1 k h_lt
      subst etv
      refine lv_imul hx hb d_Mo_series_80 ?_
      refine lv_aload_n hx hb d_Mo_series_81 rfl (lv_at hl 0 rfl) ?_
      refine x_get (C := R_Mo) (T := F_Mo) (N := 20) hx hb hw i_Mo hown hK.1 hM hoi rfl 1 (by decide) (hw _ kw_524) rfl rfl d_Mo_series_82 ?_
      refine lv_imul hx hb d_Mo_series_85 ?_
      refine lv_iload_n hx hb d_Mo_series_86 rfl (lv_at hl 1 rfl) ?_
      refine lv_idiv hx hb d_Mo_series_87 h_t0 ?_
      refine lv_istore_n (lv' := [(3, .int (((100 * (zpd u k)) * (nI (zpn u))) / (zTot (zpd u) (zpn u)))), (0, .ref (ad 100)), (1, .int (zTot (zpd u) (zpn u))), (2, .int (nI k))]) hx hb d_Mo_series_88 rfl hl (by decide) rfl (fun ls hl => ?_)
      refine lv_aload_n hx hb d_Mo_series_89 rfl (lv_at hl 1 rfl) ?_
      refine x_get (C := R_Mo) (T := F_Mo) (N := 20) hx hb hw i_Mo hown hK.1 hM hoi rfl 5 (by decide) (hw _ kw_528) rfl rfl d_Mo_series_90 ?_
      refine lv_bipush (v := 30) hx hb d_Mo_series_93 (by decide) ?_
      refine lv_aload_n hx hb d_Mo_series_95 rfl (lv_at hl 1 rfl) ?_
      refine x_get (C := R_Mo) (T := F_Mo) (N := 20) hx hb hw i_Mo hown hK.1 hM hoi rfl 3 (by decide) (hw _ kw_526) rfl rfl d_Mo_series_96 ?_
      refine lv_imul hx hb d_Mo_series_99 ?_
      refine lv_iload_n hx hb d_Mo_series_100 rfl (lv_at hl 3 rfl) ?_
      refine lv_iadd hx hb d_Mo_series_101 ?_
      refine lv_iload_n hx hb d_Mo_series_102 rfl (lv_at hl 0 rfl) ?_
      refine lv_sipush (v := 400) hx hb d_Mo_series_103 (by decide) ?_
      refine lv_icmp_le (tgt := 115) hx hb d_Mo_series_106 (by decide) (fun c_106 => ?_) (fun c_106 => ?_)
      · refine lv_iload_n hx hb d_Mo_series_115 rfl (lv_at hl 0 rfl) ?_
        have h_v : (((100 * (zpd u k)) * (nI (zpn u))) / (zTot (zpd u) (zpn u))) = zEvn (zpd u) (zpn u) k := ((z_min400 _).1 c_106).symm
        refine x_iast hx hb hK.1 hM hS k103 0 rfl (z_i30 _ _) (by omega) (by decide) d_Mo_series_116 (fun H locs hM hS hz => ?_)
        have hM : xh G (va_up Mi (ad 103) (some (103, .inl (gI G, 300, .inl (upd E (30 * zrn u + k) (((100 * (zpd u k)) * (nI (zpn u))) / (zTot (zpd u) (zpn u)))))))) H := hM
        obtain ⟨Mi_1, eMi_1⟩ : ∃ z : xM, z = va_up Mi (ad 103) (some (103, .inl (gI G, 300, .inl (upd E (30 * zrn u + k) (((100 * (zpd u k)) * (nI (zpn u))) / (zTot (zpd u) (zpn u))))))) := ⟨_, rfl⟩
        rw [← eMi_1] at hM
        have hoi := xw_upE eMi_1 hoi k103 (by decide)
        have k101 := xw_upE eMi_1 k101 k103 (by decide)
        have k102 := xw_upE eMi_1 k102 k103 (by decide)
        have k104 := xw_upE eMi_1 k104 k103 (by decide)
        have k105 := xw_upE eMi_1 k105 k103 (by decide)
        have k106 := xw_upE eMi_1 k106 k103 (by decide)
        have k107 := xw_upE eMi_1 k107 k103 (by decide)
        have k108 := xw_upE eMi_1 k108 k103 (by decide)
        have k103 := xw_atE eMi_1
        refine lv_iinc (v := (nI (k + 1))) (lv' := [(2, .int (nI (k + 1))), (3, .int (((100 * (zpd u k)) * (nI (zpn u))) / (zTot (zpd u) (zpn u)))), (0, .ref (ad 100)), (1, .int (zTot (zpd u) (zpn u)))]) hx hb d_Mo_series_117 hl (k := 3) rfl (nI_1 k) (by decide) rfl (fun ls hl => ?_)
        refine lv_goto (tgt := 64) hx hb d_Mo_series_120 (by decide) ?_
        exact ih (k + 1) h_lt (by omega) (upd E (30 * zrn u + k) (((100 * (zpd u k)) * (nI (zpn u))) / (zTot (zpd u) (zpn u)))) (fun t ht => (pk_un (by omega)).trans (hE1 t ht)) (fun t ht => by
          by_cases h9 : t = k
          · rw [h9, pk_us]; exact h_v
          · rw [pk_un (by omega)]; exact hE2 t (by omega)) _ _ _ (by rw [eMi_1, eMi, bx_uu] at hM; exact hM) hS (lv_sub hl [2, 3, 0] rfl)
      · refine lv_sipush (v := 400) hx hb d_Mo_series_109 (by decide) ?_
        refine lv_goto (tgt := 116) hx hb d_Mo_series_112 (by decide) ?_
        have h_v : 400 = zEvn (zpd u) (zpn u) k := ((z_min400 _).2 c_106).symm
        refine x_iast hx hb hK.1 hM hS k103 0 rfl (z_i30 _ _) (by omega) (by decide) d_Mo_series_116 (fun H locs hM hS hz => ?_)
        have hM : xh G (va_up Mi (ad 103) (some (103, .inl (gI G, 300, .inl (upd E (30 * zrn u + k) 400))))) H := hM
        obtain ⟨Mi_1, eMi_1⟩ : ∃ z : xM, z = va_up Mi (ad 103) (some (103, .inl (gI G, 300, .inl (upd E (30 * zrn u + k) 400)))) := ⟨_, rfl⟩
        rw [← eMi_1] at hM
        have hoi := xw_upE eMi_1 hoi k103 (by decide)
        have k101 := xw_upE eMi_1 k101 k103 (by decide)
        have k102 := xw_upE eMi_1 k102 k103 (by decide)
        have k104 := xw_upE eMi_1 k104 k103 (by decide)
        have k105 := xw_upE eMi_1 k105 k103 (by decide)
        have k106 := xw_upE eMi_1 k106 k103 (by decide)
        have k107 := xw_upE eMi_1 k107 k103 (by decide)
        have k108 := xw_upE eMi_1 k108 k103 (by decide)
        have k103 := xw_atE eMi_1
        refine lv_iinc (v := (nI (k + 1))) (lv' := [(2, .int (nI (k + 1))), (3, .int (((100 * (zpd u k)) * (nI (zpn u))) / (zTot (zpd u) (zpn u)))), (0, .ref (ad 100)), (1, .int (zTot (zpd u) (zpn u)))]) hx hb d_Mo_series_117 hl (k := 3) rfl (nI_1 k) (by decide) rfl (fun ls hl => ?_)
        refine lv_goto (tgt := 64) hx hb d_Mo_series_120 (by decide) ?_
        exact ih (k + 1) h_lt (by omega) (upd E (30 * zrn u + k) 400) (fun t ht => (pk_un (by omega)).trans (hE1 t ht)) (fun t ht => by
          by_cases h9 : t = k
          · rw [h9, pk_us]; exact h_v
          · rw [pk_un (by omega)]; exact hE2 t (by omega)) _ _ _ (by rw [eMi_1, eMi, bx_uu] at hM; exact hM) hS (lv_sub hl [2, 3, 0] rfl)

set_option maxHeartbeats 4000000 in
set_option maxRecDepth 100000 in
theorem c_Mo_series (l : Launch) (G : xG) (M : xM) (ad : Nat → Nat) (u : zS) (th : Int32) (q : z5) (ho : M (ad 100) = some (100, eMo ad u th q)) (X : zX) (hA : MoA G M ad X) (hX : MoR u X) (hO : zOk u)  : Met l y_Mo_series w_Mo_series ({ frames := 2, cells := 0, slots := 0, locals := 75 }) (xP G [.ref (ad 100)] M) (xQi G (fun v M' => ((fSer u).1 = 0 → zpn u < 3 → MoU G M ad u (fSer u) v M') ∧ ((fSer u).1 = 0 → 3 ≤ zpn u → ∀ F : Nat → Int32, (∀ k, k < zpn u → F k = zEvn (zpd u) (zpn u) k) → MoU G M ad (uSer u F) (fSer u) v M') ∧ (¬ (fSer u).1 = 0 → MoU G M ad u (fSer u) v M'))) 0 0 (xF G) := by
  refine x_met (by decide) (Nat.le_of_ble_eq_true rfl) ?_
  intro p e s m below meth c ls hE hin hl hM hK hS
  obtain ⟨hx, hb, hr, hml, hown, hw, hlocks⟩ := id hE
  have hlt : (fSer u).1 < 2 ^ 31 := by
    unfold fSer
    repeat' split
    all_goals exact Nat.le_of_ble_eq_true rfl
  have hl : lv_has ls 4 [(0, .ref (ad 100))] := hl
  refine lv_aload_n hx hb d_Mo_series_0 rfl (lv_at hl 0 rfl) ?_
  refine x_cutH (G := G) (M := M) (ls := ls) 15 [.ref (ad 100)] (fun v => v = zBo (zrn u < 10)) (fun o1 H locs h_o1 hM hS => ?_) (fun hjn => ?_)
  · subst h_o1
    refine lv_iconst (v := 1) hx hb d_Mo_series_15 (by decide) ?_
    refine lv_iconst (v := 1) hx hb d_Mo_series_16 (by decide) ?_
    refine x_ci (x_runV (As := [.int (zBo (zrn u < 10)), .int 1, .int 1]) (rest := []) hE hK hM hl.1 (c_Mo_goes l G M ad u th q ho (zBo (zrn u < 10)) 1 1) (id ho) rfl kw_595 kw_597 ks_17 kw_4 kw_598 3 rfl rfl rfl (by decide +kernel) ⟨by decide, by decide⟩ rfl (Nat.le_of_ble_eq_true rfl) d_Mo_series_17 ⟨by decide, by decide⟩) hS (fun r1 M1 H locs hp hM hS => ?_)
    have hgb := g_ser u
    obtain ⟨e_g, e_M⟩ := hp
    rw [hgb] at e_M e_g
    obtain ⟨Ma, eMa⟩ : ∃ zz9 : xM, zz9 = M1 := ⟨_, rfl⟩
    subst eMa
    have hog := xw_atE e_M
    have hAg := hA.up ho e_M
    refine lv_if_ne (tgt := 25) hx hb d_Mo_series_20 (by decide) (fun c_20 => ?_) (fun c_20 => ?_)
    · have hc0 : (fSer u).1 = 0 := (nI_eq (b := 0) (by exact hlt) (by decide)).mp (zBo_ne.mp (fun h9 => c_20 (e_g.trans h9)))
      have hcd := g_cd hgb hc0
      have h_a := zBo_ne.mp hcd.1
      refine lv_aload_n hx hb d_Mo_series_25 rfl (lv_at hl 0 rfl) ?_
      refine x_get (C := R_Mo) (T := F_Mo) (N := 20) hx hb hw i_Mo hown hK.1 hM hog rfl 1 (by decide) (hw _ kw_524) rfl rfl d_Mo_series_26 ?_
      refine lv_iconst (v := 3) hx hb d_Mo_series_29 (by decide) ?_
      refine lv_icmp_ge (tgt := 35) hx hb d_Mo_series_30 (by decide) (fun c_30 => ?_) (fun c_30 => ?_)
      · have h30 : 3 ≤ zpn u := (nI_leI (a := 3) (by decide) (by have := hO.1; omega)).mp c_30
        refine lv_iconst (v := 0) hx hb d_Mo_series_35 (by decide) ?_
        refine lv_istore_n (lv' := [(1, .int 0), (0, .ref (ad 100))]) hx hb d_Mo_series_36 rfl hl (by decide) rfl (fun ls hl => ?_)
        refine lv_iconst (v := 0) hx hb d_Mo_series_37 (by decide) ?_
        refine lv_istore_n (lv' := [(2, .int 0), (1, .int 0), (0, .ref (ad 100))]) hx hb d_Mo_series_38 rfl hl (by decide) rfl (fun ls hl => ?_)
        refine lp_Mo_series1 ad u _ q hog X hAg hX hO hE hK (fun H locs ls hM hS hl => ?_) (zpn u + 1) 0 (by omega) (by omega) _ _ _ hM hS (lv_sub hl [2, 1, 0] rfl)
        refine lv_iconst (v := 0) hx hb d_Mo_series_62 (by decide) ?_
        refine lv_istore_n (lv' := [(2, .int 0), (0, .ref (ad 100)), (1, .int (zTot (zpd u) (zpn u)))]) hx hb d_Mo_series_63 rfl hl (by decide) rfl (fun ls hl => ?_)
        exact lp_Mo_series2 ad u _ q hog X hAg hX hO _ h_a h30 (fun M' E h1 h2 h3 h4 h5 => ⟨fun _ h9 => absurd h9 (by omega), fun _ _ F hF => ⟨⟨q, _, h4, h5, hX.ser hO h_a h1 h2 hF⟩, (xN.refl.put ho e_M (by omega) (by omega)).trans h3, fun _ => by unfold fSer; rw [if_neg (by omega), if_neg (by omega)]⟩, fun h9 => absurd hc0 h9⟩) hE hK (zpn u + 1) 0 (by omega) (by omega) (mEv X) (fun t ht => rfl) (fun t ht => absurd ht (by omega)) _ _ _ (by rw [show va_up Ma (ad 103) (some (103, eI G 300 (mEv X))) = Ma from by rw [← hAg.2.2.1]; exact va_up_id]; exact hM) hS (lv_sub hl [1, 2, 0] rfl)
      · have h30 : zpn u < 3 := Nat.not_le.mp (fun h9 => c_30 ((nI_leI (a := 3) (by decide) (by have := hO.1; omega)).mpr h9))
        refine lv_iconst (v := (-1)) hx hb d_Mo_series_33 (by decide) ?_
        exact x_ri hE rfl hM hS ⟨fun _ _ => MoPost.U ⟨⟨_, e_M⟩, fun _ => by unfold fSer; rw [if_neg (by omega), if_pos h30]⟩ ho hA hX, fun _ h9 => absurd h9 (by omega), fun h9 => absurd hc0 h9⟩ (by decide) (by decide) d_Mo_series_34
    · have hc1 : ¬ (fSer u).1 = 0 := fun h9 => by rw [e_g, zBo_t (by rw [h9]; rfl)] at c_20; exact absurd c_20 (by decide)
      refine lv_iconst (v := 0) hx hb d_Mo_series_23 (by decide) ?_
      exact x_ri hE rfl hM hS ⟨fun h9 => absurd h9 hc1, fun h9 => absurd h9 hc1, fun _ => MoPost.U ⟨⟨_, e_M⟩, fun h9 => absurd h9 hc1⟩ ho hA hX⟩ (by decide) (by decide) d_Mo_series_24
  · refine lv_aload_n hx hb d_Mo_series_1 rfl (lv_at hl 0 rfl) ?_
    refine x_get (C := R_Mo) (T := F_Mo) (N := 20) hx hb hw i_Mo hown hK.1 hM (id ho) rfl 3 (by decide) (hw _ kw_526) rfl rfl d_Mo_series_2 ?_
    refine lv_bipush (v := 10) hx hb d_Mo_series_5 (by decide) ?_
    refine lv_icmp_ge (tgt := 14) hx hb d_Mo_series_7 (by decide) (fun c_7 => ?_) (fun c_7 => ?_)
    · have h7 : ¬ zrn u < 10 := fun h9 => absurd c_7 (z_nle ((nI_ltI (b := 10) (by omega) (by decide)).mpr h9))
      refine lv_iconst (v := 0) hx hb d_Mo_series_14 (by decide) ?_
      exact hjn _ _ _ (zBo_f h7).symm hM hS
    · have h7 : zrn u < 10 := (nI_ltI (b := 10) (by have := hO.2.2.1; omega) (by decide)).mp (Int32.not_le.mp c_7)
      refine lv_iconst (v := 1) hx hb d_Mo_series_10 (by decide) ?_
      refine lv_goto (tgt := 15) hx hb d_Mo_series_11 (by decide) ?_
      exact hjn _ _ _ (zBo_t h7).symm hM hS
