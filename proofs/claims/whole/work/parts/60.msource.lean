def xS (M M' : xM) : Prop := ∀ (a r : Nat) (e : va_E), M a = some (r, e) → r ≠ 100 → (r < 109 ∨ 112 ≤ r) → M' a = some (r, e)
theorem xS.refl {M : xM} : xS M M := fun _ _ _ h _ _ => h
theorem xS.put {M M1 M2 : xM} {a r : Nat} {e : va_E} {x : Option (Nat × va_E)} (h : xS M M1) (ha : M1 a = some (r, e)) (hm : M2 = va_up M1 a x) (h1 : r = 100 ∨ (109 ≤ r ∧ r < 112)) : xS M M2 := fun b r9 e9 hb n1 n2 => xw_upE hm (h b r9 e9 hb n1 n2) ha (by omega)
theorem xS.L {M M1 : xM} (h : xS M M1) : xL M M1 := fun b r9 e9 hb n1 => h b r9 e9 hb (by omega) (by omega)
theorem MoA.s {G : xG} {M M' : xM} {ad : Nat → Nat} {X : zX} (h : MoA G M ad X) (hs : xS M M') : MoA G M' ad X := by
  obtain ⟨h1, h2, h3, h4, h5, h6, h7, h8⟩ := h
  exact ⟨hs _ _ _ h1 (by decide) (by decide), hs _ _ _ h2 (by decide) (by decide), hs _ _ _ h3 (by decide) (by decide), hs _ _ _ h4 (by decide) (by decide), hs _ _ _ h5 (by decide) (by decide), hs _ _ _ h6 (by decide) (by decide), hs _ _ _ h7 (by decide) (by decide), hs _ _ _ h8 (by decide) (by decide)⟩
abbrev DSC (T : Nat → zN3) (D S C : Nat → Int32) (n : Nat) : Prop := ∀ o, o < n → D o = (T o).1 ∧ ((T o).1 ≠ -1000 → S o = (T o).2.1 ∧ C o = (T o).2.2)
abbrev cSrc (u : zS) (x k : Int32) : Prop := zIn x (zrn u) ∧ ¬ k < 0
theorem g_src (u : zS) (x w k : Int32) : zGo (zBo (cSrc u x k)) (zBo (zLe w)) 1 = nI (fSrc u x w k).1 := by
  unfold fSrc
  by_cases h1 : zIn x (zrn u)
  · rw [if_pos h1]
    by_cases h2 : k < 0
    · rw [if_pos h2, zBo_f (fun h => h.2 h2)]; rfl
    · rw [if_neg h2, zBo_t ⟨h1, h2⟩]
      by_cases h3 : zLe w
      · rw [zBo_t h3, if_pos h3]; rfl
      · rw [zBo_f h3, if_neg h3]; rfl
  · rw [zBo_f (fun h => h1 h.1), if_neg h1]; rfl

set_option maxHeartbeats 4000000 in
set_option maxRecDepth 100000 in
theorem lp_Mo_src1 {p : Program} {l : Launch} {e : Env} {s : State} {m : MethodId} {below : List Frame} {meth : Method} {c : Code} {args : Array Value} {G : xG} {M : xM} (ad : Nat → Nat) (u : zS) (th : Int32) (q : z5) (ho : M (ad 100) = some (100, eMo ad u th q)) (X : zX) (hA : MoA G M ad X) (hX : MoR u X) (hO : zOk u) (th2 : Int32) (i : Nat) (hi : i < zrn u) (w k : Int32) (h_le : zLe w) {Q : State → Prop} (hE : xE p s m args meth c b_Mo_source (some .int) 10 R_Mo) (hK : KX G s) (kk : ∀ (Mi : xM) (qi : z5) (D S C : Nat → Int32), xS M Mi → Mi (ad 100) = some (100, eMo ad u th2 qi) → Mi (ad 109) = some (109, eI G 8 D) → Mi (ad 110) = some (110, eI G 8 S) → Mi (ad 111) = some (111, eI G 8 C) → DSC (fun j => zDat u i j w) D S C (zmn u) → ∀ (H : Heap) (locs : List Loc) (ls : Array Slot), xh G Mi H → va_S (xF G) s.heap H locs → lv_has ls 10 [(0, .ref (ad 100)), (3, .int k)] → W p l e ({ frames := 4, cells := 0, slots := 0, locals := 160 }) s m args below meth c H locs 0 0 Q (F0 m 90 ls [])) : ∀ (n j : Nat), j ≤ zmn u → zmn u + 1 ≤ j + n → ∀ (Mi : xM) (qi : z5) (D S C : Nat → Int32), xS M Mi → Mi (ad 100) = some (100, eMo ad u th2 qi) → Mi (ad 109) = some (109, eI G 8 D) → Mi (ad 110) = some (110, eI G 8 S) → Mi (ad 111) = some (111, eI G 8 C) → DSC (fun j => zDat u i j w) D S C j → ∀ (H : Heap) (locs : List Loc) (ls : Array Slot), xh G Mi H → va_S (xF G) s.heap H locs → lv_has ls 10 [(0, .ref (ad 100)), (1, .int (nI i)), (2, .int w), (3, .int k), (4, .int (nI j))] → W p l e ({ frames := 4, cells := 0, slots := 0, locals := 160 }) s m args below meth c H locs 0 0 Q (F0 m 34 ls []) := by
  obtain ⟨hx, hb, hr, hml, hown, hw, hlocks⟩ := id hE
  have hmn := hO.2.2.2.2.1
  intro n
  induction n with
  | zero =>
    intro j h1 h2
    exact absurd h2 (by omega)
  | succ n ih =>
    intro j hj9 hin Mi qi D S C hxs hoi k109 k110 k111 hT H locs ls hM hS hl
    have hAi := hA.s hxs
    refine lv_iload hx hb d_Mo_source_34 (lv_at hl 4 rfl) ?_
    refine lv_aload_n hx hb d_Mo_source_36 rfl (lv_at hl 0 rfl) ?_
    refine x_get (C := R_Mo) (T := F_Mo) (N := 20) hx hb hw i_Mo hown hK.1 hM hoi rfl 7 (by decide) (hw _ kw_530) rfl rfl d_Mo_source_37 ?_
    refine lv_icmp_ge (tgt := 90) hx hb d_Mo_source_40 (by decide) (fun c_40 => ?_) (fun c_40 => ?_)
    · have h_ge : zmn u ≤ j := (nI_leI (by omega) (by omega)).mp c_40
      exact kk Mi qi D S C hxs hoi k109 k110 k111 (fun o ho9 => hT o (by omega)) _ _ _ hM hS (lv_sub hl [0, 3] rfl)
    · have h_lt : j < zmn u := Nat.not_le.mp (fun h9 => c_40 ((nI_leI (by omega) (by omega)).mpr h9))
      refine lv_aload_n hx hb d_Mo_source_43 rfl (lv_at hl 0 rfl) ?_
      refine lv_iload_n hx hb d_Mo_source_44 rfl (lv_at hl 1 rfl) ?_
      refine lv_iload hx hb d_Mo_source_45 (lv_at hl 4 rfl) ?_
      refine lv_iload_n hx hb d_Mo_source_47 rfl (lv_at hl 2 rfl) ?_
      refine x_cv (x_runV (As := [.int (nI i), .int (nI j), .int w]) (rest := []) hE hK hM hl.1 (c_Mo_seek l G Mi ad u th2 qi hoi X hAi hX hO i hi j h_lt w) hoi rfl kw_674 kw_676 ks_26 kw_4 kw_677 3 rfl rfl rfl (by decide +kernel) ⟨by decide, by decide⟩ rfl (Nat.le_of_ble_eq_true rfl) d_Mo_source_48 ⟨by decide, by decide⟩) hS (fun M1 H locs hp hM hS => ?_)
      obtain ⟨q2, e_Mb, e_q⟩ := hp
      obtain ⟨Mb, eMb⟩ : ∃ zz9 : xM, zz9 = M1 := ⟨_, rfl⟩
      subst eMb
      have hxs := hxs.put hoi e_Mb (Or.inl rfl)
      have k109 := xw_upE e_Mb k109 hoi (by decide)
      have k110 := xw_upE e_Mb k110 hoi (by decide)
      have k111 := xw_upE e_Mb k111 hoi (by decide)
      have hob := xw_atE e_Mb
      have e_d := zSk_dat hO hi h_lt h_le (-1000, qi.2.2.2) rfl
      rw [← e_q] at e_d
      refine lv_aload_n hx hb d_Mo_source_51 rfl (lv_at hl 0 rfl) ?_
      refine x_get (C := R_Mo) (T := F_Mo) (N := 20) hx hb hw i_Mo hown hK.1 hM hob rfl 17 (by decide) (hw _ kw_540) rfl rfl d_Mo_source_52 ?_
      refine lv_iload hx hb d_Mo_source_55 (lv_at hl 4 rfl) ?_
      refine lv_aload_n hx hb d_Mo_source_57 rfl (lv_at hl 0 rfl) ?_
      refine x_get (C := R_Mo) (T := F_Mo) (N := 20) hx hb hw i_Mo hown hK.1 hM hob rfl 14 (by decide) (hw _ kw_537) rfl rfl d_Mo_source_58 ?_
      have k109b := k109
      refine x_iast hx hb hK.1 hM hS k109 0 rfl rfl (by omega) (by decide) d_Mo_source_61 (fun H locs hM hS hz => ?_)
      have hM : xh G (va_up Mb (ad 109) (some (109, .inl (gI G, 8, .inl (upd D j q2.2.2.1))))) H := hM
      obtain ⟨Mb_1, eMb_1⟩ : ∃ z : xM, z = va_up Mb (ad 109) (some (109, .inl (gI G, 8, .inl (upd D j q2.2.2.1)))) := ⟨_, rfl⟩
      rw [← eMb_1] at hM
      have hob := xw_upE eMb_1 hob k109 (by decide)
      have k110 := xw_upE eMb_1 k110 k109 (by decide)
      have k111 := xw_upE eMb_1 k111 k109 (by decide)
      have k109 := xw_atE eMb_1
      refine lv_aload_n hx hb d_Mo_source_62 rfl (lv_at hl 0 rfl) ?_
      refine x_get (C := R_Mo) (T := F_Mo) (N := 20) hx hb hw i_Mo hown hK.1 hM hob rfl 18 (by decide) (hw _ kw_541) rfl rfl d_Mo_source_63 ?_
      refine lv_iload hx hb d_Mo_source_66 (lv_at hl 4 rfl) ?_
      refine lv_aload_n hx hb d_Mo_source_68 rfl (lv_at hl 0 rfl) ?_
      refine x_get (C := R_Mo) (T := F_Mo) (N := 20) hx hb hw i_Mo hown hK.1 hM hob rfl 15 (by decide) (hw _ kw_538) rfl rfl d_Mo_source_69 ?_
      have k110b := k110
      refine x_iast hx hb hK.1 hM hS k110 0 rfl rfl (by omega) (by decide) d_Mo_source_72 (fun H locs hM hS hz => ?_)
      have hM : xh G (va_up Mb_1 (ad 110) (some (110, .inl (gI G, 8, .inl (upd S j q2.2.2.2.1))))) H := hM
      obtain ⟨Mb_2, eMb_2⟩ : ∃ z : xM, z = va_up Mb_1 (ad 110) (some (110, .inl (gI G, 8, .inl (upd S j q2.2.2.2.1)))) := ⟨_, rfl⟩
      rw [← eMb_2] at hM
      have hob := xw_upE eMb_2 hob k110 (by decide)
      have k109 := xw_upE eMb_2 k109 k110 (by decide)
      have k111 := xw_upE eMb_2 k111 k110 (by decide)
      have k110 := xw_atE eMb_2
      refine lv_aload_n hx hb d_Mo_source_73 rfl (lv_at hl 0 rfl) ?_
      refine x_get (C := R_Mo) (T := F_Mo) (N := 20) hx hb hw i_Mo hown hK.1 hM hob rfl 19 (by decide) (hw _ kw_542) rfl rfl d_Mo_source_74 ?_
      refine lv_iload hx hb d_Mo_source_77 (lv_at hl 4 rfl) ?_
      refine lv_aload_n hx hb d_Mo_source_79 rfl (lv_at hl 0 rfl) ?_
      refine x_get (C := R_Mo) (T := F_Mo) (N := 20) hx hb hw i_Mo hown hK.1 hM hob rfl 16 (by decide) (hw _ kw_539) rfl rfl d_Mo_source_80 ?_
      have k111b := k111
      refine x_iast hx hb hK.1 hM hS k111 0 rfl rfl (by omega) (by decide) d_Mo_source_83 (fun H locs hM hS hz => ?_)
      have hM : xh G (va_up Mb_2 (ad 111) (some (111, .inl (gI G, 8, .inl (upd C j q2.2.2.2.2))))) H := hM
      obtain ⟨Mb_3, eMb_3⟩ : ∃ z : xM, z = va_up Mb_2 (ad 111) (some (111, .inl (gI G, 8, .inl (upd C j q2.2.2.2.2)))) := ⟨_, rfl⟩
      rw [← eMb_3] at hM
      have hob := xw_upE eMb_3 hob k111 (by decide)
      have k109 := xw_upE eMb_3 k109 k111 (by decide)
      have k110 := xw_upE eMb_3 k110 k111 (by decide)
      have k111 := xw_atE eMb_3
      refine lv_iinc (v := (nI (j + 1))) (lv' := [(4, .int (nI (j + 1))), (0, .ref (ad 100)), (1, .int (nI i)), (2, .int w), (3, .int k)]) hx hb d_Mo_source_84 hl (k := 4) rfl (nI_1 j) (by decide) rfl (fun ls hl => ?_)
      refine lv_goto (tgt := 34) hx hb d_Mo_source_87 (by decide) ?_
      have hxs := ((hxs.put k109b eMb_1 (Or.inr (by omega))).put k110b eMb_2 (Or.inr (by omega))).put k111b eMb_3 (Or.inr (by omega))
      exact ih (j + 1) h_lt (by omega) _ q2 _ _ _ hxs hob k109 k110 k111 (fun o ho9 => by
        by_cases h9 : o = j
        · rw [h9, pk_us, pk_us, pk_us]
          exact ⟨e_d.1, fun h8 => by have h7 := e_d.2 h8; exact ⟨congrArg Prod.fst h7, congrArg Prod.snd h7⟩⟩
        · rw [pk_un h9, pk_un h9, pk_un h9]
          exact hT o (by omega)) _ _ _ hM hS (lv_sub hl [1, 2, 3, 4, 0] rfl)

set_option maxHeartbeats 4000000 in
set_option maxRecDepth 100000 in
theorem lp_Mo_src3 {p : Program} {l : Launch} {e : Env} {s : State} {m : MethodId} {below : List Frame} {meth : Method} {c : Code} {args : Array Value} {G : xG} {M : xM} (ad : Nat → Nat) (u : zS) (hO : zOk u) (th : Int32) (q : z5) (ho : M (ad 100) = some (100, eMo ad u th q)) (D S C : Nat → Int32) (k109 : M (ad 109) = some (109, eI G 8 D)) (k110 : M (ad 110) = some (110, eI G 8 S)) (k111 : M (ad 111) = some (111, eI G 8 C)) (k : Int32) (fo : Int32) (n0 : Nat) (hn0 : n0 < zmn u) {Q : State → Prop} (hE : xE p s m args meth c b_Mo_source (some .int) 10 R_Mo) (hK : KX G s) (kk : ∀ (H : Heap) (locs : List Loc) (ls : Array Slot), xh G M H → va_S (xF G) s.heap H locs → lv_has ls 10 [(0, .ref (ad 100)), (3, .int k), (4, .int fo), (5, .int (nI n0)), (6, .int (nI (zAh D S C n0 (zmn u))))] → W p l e ({ frames := 4, cells := 0, slots := 0, locals := 160 }) s m args below meth c H locs 0 0 Q (F0 m 233 ls [])) : ∀ (n o : Nat), o ≤ zmn u → zmn u + 1 ≤ o + n → ∀ (H : Heap) (locs : List Loc) (ls : Array Slot), xh G M H → va_S (xF G) s.heap H locs → lv_has ls 10 [(0, .ref (ad 100)), (3, .int k), (4, .int fo), (5, .int (nI n0)), (6, .int (nI (zAh D S C n0 o))), (7, .int (nI o))] → W p l e ({ frames := 4, cells := 0, slots := 0, locals := 160 }) s m args below meth c H locs 0 0 Q (F0 m 111 ls []) := by
  obtain ⟨hx, hb, hr, hml, hown, hw, hlocks⟩ := id hE
  have hmn := hO.2.2.2.2.1
  intro n
  induction n with
  | zero =>
    intro o h1 h2
    exact absurd h2 (by omega)
  | succ n ih =>
    intro o ho9 hin H locs ls hM hS hl
    refine lv_iload hx hb d_Mo_source_111 (lv_at hl 5 rfl) ?_
    refine lv_aload_n hx hb d_Mo_source_113 rfl (lv_at hl 0 rfl) ?_
    refine x_get (C := R_Mo) (T := F_Mo) (N := 20) hx hb hw i_Mo hown hK.1 hM ho rfl 7 (by decide) (hw _ kw_530) rfl rfl d_Mo_source_114 ?_
    refine lv_icmp_ge (tgt := 233) hx hb d_Mo_source_117 (by decide) (fun c_117 => ?_) (fun c_117 => ?_)
    · have h_ge : zmn u ≤ o := (nI_leI (by omega) (by omega)).mp c_117
      exact kk _ _ _ hM hS (by rw [show zmn u = o by omega]; exact lv_sub hl [0, 1, 2, 3, 4] rfl)
    · have h_lt : o < zmn u := Nat.not_le.mp (fun h9 => c_117 ((nI_leI (by omega) (by omega)).mpr h9))
      refine lv_aload_n hx hb d_Mo_source_120 rfl (lv_at hl 0 rfl) ?_
      refine x_get (C := R_Mo) (T := F_Mo) (N := 20) hx hb hw i_Mo hown hK.1 hM ho rfl 18 (by decide) (hw _ kw_541) rfl rfl d_Mo_source_121 ?_
      refine lv_iload hx hb d_Mo_source_124 (lv_at hl 5 rfl) ?_
      refine x_iald hx hb hK.1 hM k110 0 rfl rfl (by omega) (by decide) d_Mo_source_126 ?_
      refine lv_aload_n hx hb d_Mo_source_127 rfl (lv_at hl 0 rfl) ?_
      refine x_get (C := R_Mo) (T := F_Mo) (N := 20) hx hb hw i_Mo hown hK.1 hM ho rfl 19 (by decide) (hw _ kw_542) rfl rfl d_Mo_source_128 ?_
      refine lv_iload hx hb d_Mo_source_131 (lv_at hl 5 rfl) ?_
      refine x_iald hx hb hK.1 hM k111 0 rfl rfl (by omega) (by decide) d_Mo_source_133 ?_
      refine lv_aload_n hx hb d_Mo_source_134 rfl (lv_at hl 0 rfl) ?_
      refine x_get (C := R_Mo) (T := F_Mo) (N := 20) hx hb hw i_Mo hown hK.1 hM ho rfl 18 (by decide) (hw _ kw_541) rfl rfl d_Mo_source_135 ?_
      refine lv_iload hx hb d_Mo_source_138 (lv_at hl 3 rfl) ?_
      refine x_iald hx hb hK.1 hM k110 0 rfl rfl (by omega) (by decide) d_Mo_source_140 ?_
      refine lv_aload_n hx hb d_Mo_source_141 rfl (lv_at hl 0 rfl) ?_
      refine x_get (C := R_Mo) (T := F_Mo) (N := 20) hx hb hw i_Mo hown hK.1 hM ho rfl 19 (by decide) (hw _ kw_542) rfl rfl d_Mo_source_142 ?_
      refine lv_iload hx hb d_Mo_source_145 (lv_at hl 3 rfl) ?_
      refine x_iald hx hb hK.1 hM k111 0 rfl rfl (by omega) (by decide) d_Mo_source_147 ?_
      refine x_ci (x_runS (As := [.int (S o), .int (C o), .int (S n0), .int (C n0)]) (rest := []) hE hK hM hl.1 (c_Mo_isLess l G M (S o) (C o) (S n0) (C n0)) kw_678 kw_679 kw_4 kw_680 4 rfl rfl rfl (by decide +kernel) ⟨by decide, by decide⟩ rfl (Nat.le_of_ble_eq_true rfl) d_Mo_source_148 ⟨by decide, by decide⟩) hS (fun r1 M1 H locs hp hM hS => ?_)
      obtain ⟨e_w, e_M0⟩ := hp
      have hM : xh G M H := e_M0 ▸ hM
      subst e_w
      refine lv_istore (lv' := [(8, .int (zBo (zLess (S o) (C o) (S n0) (C n0)))), (0, .ref (ad 100)), (3, .int k), (4, .int fo), (5, .int (nI n0)), (6, .int (nI (zAh D S C n0 o))), (7, .int (nI o))]) hx hb d_Mo_source_151 hl (by decide) rfl (fun ls hl => ?_)
      refine lv_aload_n hx hb d_Mo_source_153 rfl (lv_at hl 1 rfl) ?_
      refine x_get (C := R_Mo) (T := F_Mo) (N := 20) hx hb hw i_Mo hown hK.1 hM ho rfl 18 (by decide) (hw _ kw_541) rfl rfl d_Mo_source_154 ?_
      refine lv_iload hx hb d_Mo_source_157 (lv_at hl 4 rfl) ?_
      refine x_iald hx hb hK.1 hM k110 0 rfl rfl (by omega) (by decide) d_Mo_source_159 ?_
      refine lv_aload_n hx hb d_Mo_source_160 rfl (lv_at hl 1 rfl) ?_
      refine x_get (C := R_Mo) (T := F_Mo) (N := 20) hx hb hw i_Mo hown hK.1 hM ho rfl 19 (by decide) (hw _ kw_542) rfl rfl d_Mo_source_161 ?_
      refine lv_iload hx hb d_Mo_source_164 (lv_at hl 4 rfl) ?_
      refine x_iald hx hb hK.1 hM k111 0 rfl rfl (by omega) (by decide) d_Mo_source_166 ?_
      refine lv_aload_n hx hb d_Mo_source_167 rfl (lv_at hl 1 rfl) ?_
      refine x_get (C := R_Mo) (T := F_Mo) (N := 20) hx hb hw i_Mo hown hK.1 hM ho rfl 18 (by decide) (hw _ kw_541) rfl rfl d_Mo_source_168 ?_
      refine lv_iload hx hb d_Mo_source_171 (lv_at hl 6 rfl) ?_
      refine x_iald hx hb hK.1 hM k110 0 rfl rfl (by omega) (by decide) d_Mo_source_173 ?_
      refine lv_aload_n hx hb d_Mo_source_174 rfl (lv_at hl 1 rfl) ?_
      refine x_get (C := R_Mo) (T := F_Mo) (N := 20) hx hb hw i_Mo hown hK.1 hM ho rfl 19 (by decide) (hw _ kw_542) rfl rfl d_Mo_source_175 ?_
      refine lv_iload hx hb d_Mo_source_178 (lv_at hl 6 rfl) ?_
      refine x_iald hx hb hK.1 hM k111 0 rfl rfl (by omega) (by decide) d_Mo_source_180 ?_
      refine x_ci (x_runS (As := [.int (S n0), .int (C n0), .int (S o), .int (C o)]) (rest := []) hE hK hM hl.1 (c_Mo_isLess l G M (S n0) (C n0) (S o) (C o)) kw_678 kw_679 kw_4 kw_680 4 rfl rfl rfl (by decide +kernel) ⟨by decide, by decide⟩ rfl (Nat.le_of_ble_eq_true rfl) d_Mo_source_181 ⟨by decide, by decide⟩) hS (fun r2 M1 H locs hp hM hS => ?_)
      obtain ⟨e_w, e_M0⟩ := hp
      have hM : xh G M H := e_M0 ▸ hM
      subst e_w
      refine lv_istore (lv' := [(9, .int (zBo (zLess (S n0) (C n0) (S o) (C o)))), (8, .int (zBo (zLess (S o) (C o) (S n0) (C n0)))), (0, .ref (ad 100)), (3, .int k), (4, .int fo), (5, .int (nI n0)), (6, .int (nI (zAh D S C n0 o))), (7, .int (nI o))]) hx hb d_Mo_source_184 hl (by decide) rfl (fun ls hl => ?_)
      refine lv_aload_n hx hb d_Mo_source_186 rfl (lv_at hl 2 rfl) ?_
      refine x_get (C := R_Mo) (T := F_Mo) (N := 20) hx hb hw i_Mo hown hK.1 hM ho rfl 17 (by decide) (hw _ kw_540) rfl rfl d_Mo_source_187 ?_
      refine lv_iload hx hb d_Mo_source_190 (lv_at hl 7 rfl) ?_
      refine x_iald hx hb hK.1 hM k109 0 rfl rfl (by omega) (by decide) d_Mo_source_192 ?_
      refine lv_sipush (v := (-1000)) hx hb d_Mo_source_193 (by decide) ?_
      refine lv_icmp_eq (tgt := 223) hx hb d_Mo_source_196 (by decide) (fun c_196 => ?_) (fun c_196 => ?_)
      · refine lv_iload hx hb d_Mo_source_223 (lv_at hl 6 rfl) ?_
        refine lv_topi (fun tv etv => ?_)
        have etv : tv = nI (zAh D S C n0 (o + 1)) := by rw [etv]; show _ = nI (if ¬ D o = -1000 ∧ _ then _ else _); rw [if_neg (fun h9 => h9.1 c_196)]
        subst etv
        refine lv_istore (lv' := [(6, .int (nI (zAh D S C n0 (o + 1)))), (9, .int (zBo (zLess (S n0) (C n0) (S o) (C o)))), (8, .int (zBo (zLess (S o) (C o) (S n0) (C n0)))), (0, .ref (ad 100)), (3, .int k), (4, .int fo), (5, .int (nI n0)), (7, .int (nI o))]) hx hb d_Mo_source_225 hl (by decide) rfl (fun ls hl => ?_)
        refine lv_iinc (v := (nI (o + 1))) (lv' := [(7, .int (nI (o + 1))), (6, .int (nI (zAh D S C n0 (o + 1)))), (9, .int (zBo (zLess (S n0) (C n0) (S o) (C o)))), (8, .int (zBo (zLess (S o) (C o) (S n0) (C n0)))), (0, .ref (ad 100)), (3, .int k), (4, .int fo), (5, .int (nI n0))]) hx hb d_Mo_source_227 hl (k := 7) rfl (nI_1 o) (by decide) rfl (fun ls hl => ?_)
        refine lv_goto (tgt := 111) hx hb d_Mo_source_230 (by decide) ?_
        exact ih (o + 1) h_lt (by omega) _ _ _ hM hS (lv_sub hl [4, 5, 6, 7, 1, 0] rfl)
      · refine lv_iload hx hb d_Mo_source_199 (lv_at hl 1 rfl) ?_
        refine lv_if_ne (tgt := 216) hx hb d_Mo_source_201 (by decide) (fun c_201 => ?_) (fun c_201 => ?_)
        · refine lv_iload hx hb d_Mo_source_216 (lv_at hl 6 rfl) ?_
          refine lv_iconst (v := 1) hx hb d_Mo_source_218 (by decide) ?_
          refine lv_iadd hx hb d_Mo_source_219 ?_
          refine lv_goto (tgt := 225) hx hb d_Mo_source_220 (by decide) ?_
          refine lv_topi (fun tv etv => ?_)
          have etv : tv = nI (zAh D S C n0 (o + 1)) := by rw [etv]; show nI _ + 1 = nI (if ¬ D o = -1000 ∧ _ then _ else _); rw [if_pos ⟨c_196, Or.inl (zBo_ne.mp c_201)⟩, nI_1]
          subst etv
          refine lv_istore (lv' := [(6, .int (nI (zAh D S C n0 (o + 1)))), (9, .int (zBo (zLess (S n0) (C n0) (S o) (C o)))), (8, .int (zBo (zLess (S o) (C o) (S n0) (C n0)))), (0, .ref (ad 100)), (3, .int k), (4, .int fo), (5, .int (nI n0)), (7, .int (nI o))]) hx hb d_Mo_source_225 hl (by decide) rfl (fun ls hl => ?_)
          refine lv_iinc (v := (nI (o + 1))) (lv' := [(7, .int (nI (o + 1))), (6, .int (nI (zAh D S C n0 (o + 1)))), (9, .int (zBo (zLess (S n0) (C n0) (S o) (C o)))), (8, .int (zBo (zLess (S o) (C o) (S n0) (C n0)))), (0, .ref (ad 100)), (3, .int k), (4, .int fo), (5, .int (nI n0))]) hx hb d_Mo_source_227 hl (k := 7) rfl (nI_1 o) (by decide) rfl (fun ls hl => ?_)
          refine lv_goto (tgt := 111) hx hb d_Mo_source_230 (by decide) ?_
          exact ih (o + 1) h_lt (by omega) _ _ _ hM hS (lv_sub hl [4, 5, 6, 7, 1, 0] rfl)
        · refine lv_iload hx hb d_Mo_source_204 (lv_at hl 0 rfl) ?_
          refine lv_if_ne (tgt := 223) hx hb d_Mo_source_206 (by decide) (fun c_206 => ?_) (fun c_206 => ?_)
          · refine lv_iload hx hb d_Mo_source_223 (lv_at hl 6 rfl) ?_
            refine lv_topi (fun tv etv => ?_)
            have etv : tv = nI (zAh D S C n0 (o + 1)) := by rw [etv]; show _ = nI (if ¬ D o = -1000 ∧ _ then _ else _); rw [if_neg (fun h9 => h9.2.elim (fun h8 => zBo_ne.mpr h8 c_201) (fun h8 => h8.1 (zBo_ne.mp c_206)))]
            subst etv
            refine lv_istore (lv' := [(6, .int (nI (zAh D S C n0 (o + 1)))), (9, .int (zBo (zLess (S n0) (C n0) (S o) (C o)))), (8, .int (zBo (zLess (S o) (C o) (S n0) (C n0)))), (0, .ref (ad 100)), (3, .int k), (4, .int fo), (5, .int (nI n0)), (7, .int (nI o))]) hx hb d_Mo_source_225 hl (by decide) rfl (fun ls hl => ?_)
            refine lv_iinc (v := (nI (o + 1))) (lv' := [(7, .int (nI (o + 1))), (6, .int (nI (zAh D S C n0 (o + 1)))), (9, .int (zBo (zLess (S n0) (C n0) (S o) (C o)))), (8, .int (zBo (zLess (S o) (C o) (S n0) (C n0)))), (0, .ref (ad 100)), (3, .int k), (4, .int fo), (5, .int (nI n0))]) hx hb d_Mo_source_227 hl (k := 7) rfl (nI_1 o) (by decide) rfl (fun ls hl => ?_)
            refine lv_goto (tgt := 111) hx hb d_Mo_source_230 (by decide) ?_
            exact ih (o + 1) h_lt (by omega) _ _ _ hM hS (lv_sub hl [4, 5, 6, 7, 1, 0] rfl)
          · refine lv_iload hx hb d_Mo_source_209 (lv_at hl 7 rfl) ?_
            refine lv_iload hx hb d_Mo_source_211 (lv_at hl 5 rfl) ?_
            refine lv_icmp_ge (tgt := 223) hx hb d_Mo_source_213 (by decide) (fun c_213 => ?_) (fun c_213 => ?_)
            · refine lv_iload hx hb d_Mo_source_223 (lv_at hl 6 rfl) ?_
              refine lv_topi (fun tv etv => ?_)
              have etv : tv = nI (zAh D S C n0 (o + 1)) := by rw [etv]; show _ = nI (if ¬ D o = -1000 ∧ _ then _ else _); rw [if_neg (fun h9 => h9.2.elim (fun h8 => zBo_ne.mpr h8 c_201) (fun h8 => absurd ((nI_leI (by omega) (by omega)).mp c_213) (by have := h8.2; omega)))]
              subst etv
              refine lv_istore (lv' := [(6, .int (nI (zAh D S C n0 (o + 1)))), (9, .int (zBo (zLess (S n0) (C n0) (S o) (C o)))), (8, .int (zBo (zLess (S o) (C o) (S n0) (C n0)))), (0, .ref (ad 100)), (3, .int k), (4, .int fo), (5, .int (nI n0)), (7, .int (nI o))]) hx hb d_Mo_source_225 hl (by decide) rfl (fun ls hl => ?_)
              refine lv_iinc (v := (nI (o + 1))) (lv' := [(7, .int (nI (o + 1))), (6, .int (nI (zAh D S C n0 (o + 1)))), (9, .int (zBo (zLess (S n0) (C n0) (S o) (C o)))), (8, .int (zBo (zLess (S o) (C o) (S n0) (C n0)))), (0, .ref (ad 100)), (3, .int k), (4, .int fo), (5, .int (nI n0))]) hx hb d_Mo_source_227 hl (k := 7) rfl (nI_1 o) (by decide) rfl (fun ls hl => ?_)
              refine lv_goto (tgt := 111) hx hb d_Mo_source_230 (by decide) ?_
              exact ih (o + 1) h_lt (by omega) _ _ _ hM hS (lv_sub hl [4, 5, 6, 7, 1, 0] rfl)
            · refine lv_iload hx hb d_Mo_source_216 (lv_at hl 6 rfl) ?_
              refine lv_iconst (v := 1) hx hb d_Mo_source_218 (by decide) ?_
              refine lv_iadd hx hb d_Mo_source_219 ?_
              refine lv_goto (tgt := 225) hx hb d_Mo_source_220 (by decide) ?_
              refine lv_topi (fun tv etv => ?_)
              have etv : tv = nI (zAh D S C n0 (o + 1)) := by rw [etv]; show nI _ + 1 = nI (if ¬ D o = -1000 ∧ _ then _ else _); rw [if_pos ⟨c_196, Or.inr ⟨fun h9 => zBo_ne.mpr h9 c_206, Nat.not_le.mp (fun h9 => c_213 ((nI_leI (by omega) (by omega)).mpr h9))⟩⟩, nI_1]
              subst etv
              refine lv_istore (lv' := [(6, .int (nI (zAh D S C n0 (o + 1)))), (9, .int (zBo (zLess (S n0) (C n0) (S o) (C o)))), (8, .int (zBo (zLess (S o) (C o) (S n0) (C n0)))), (0, .ref (ad 100)), (3, .int k), (4, .int fo), (5, .int (nI n0)), (7, .int (nI o))]) hx hb d_Mo_source_225 hl (by decide) rfl (fun ls hl => ?_)
              refine lv_iinc (v := (nI (o + 1))) (lv' := [(7, .int (nI (o + 1))), (6, .int (nI (zAh D S C n0 (o + 1)))), (9, .int (zBo (zLess (S n0) (C n0) (S o) (C o)))), (8, .int (zBo (zLess (S o) (C o) (S n0) (C n0)))), (0, .ref (ad 100)), (3, .int k), (4, .int fo), (5, .int (nI n0))]) hx hb d_Mo_source_227 hl (k := 7) rfl (nI_1 o) (by decide) rfl (fun ls hl => ?_)
              refine lv_goto (tgt := 111) hx hb d_Mo_source_230 (by decide) ?_
              exact ih (o + 1) h_lt (by omega) _ _ _ hM hS (lv_sub hl [4, 5, 6, 7, 1, 0] rfl)

set_option maxHeartbeats 4000000 in
set_option maxRecDepth 100000 in
theorem lp_Mo_src2 {p : Program} {l : Launch} {e : Env} {s : State} {m : MethodId} {below : List Frame} {meth : Method} {c : Code} {args : Array Value} {G : xG} {M : xM} (ad : Nat → Nat) (u : zS) (hO : zOk u) (th : Int32) (q : z5) (ho : M (ad 100) = some (100, eMo ad u th q)) (D S C : Nat → Int32) (k109 : M (ad 109) = some (109, eI G 8 D)) (k110 : M (ad 110) = some (110, eI G 8 S)) (k111 : M (ad 111) = some (111, eI G 8 C)) (k : Int32) (T : Nat → zN3) (hT : DSC T D S C (zmn u)) (Post : Int32 → xM → Prop) (hP : Post (zFo T (zmn u) k (zmn u)) M) (hE : xE p s m args meth c b_Mo_source (some .int) 10 R_Mo) (hK : KX G s) : ∀ (n n0 : Nat), n0 ≤ zmn u → zmn u + 1 ≤ n0 + n → ∀ (H : Heap) (locs : List Loc) (ls : Array Slot), xh G M H → va_S (xF G) s.heap H locs → lv_has ls 10 [(0, .ref (ad 100)), (3, .int k), (4, .int (zFo T (zmn u) k n0)), (5, .int (nI n0))] → W p l e ({ frames := 4, cells := 0, slots := 0, locals := 160 }) s m args below meth c H locs 0 0 (MQ below (xQi G Post) args s 0 0 (xF G)) (F0 m 96 ls []) := by
  obtain ⟨hx, hb, hr, hml, hown, hw, hlocks⟩ := id hE
  have hmn := hO.2.2.2.2.1
  intro n
  induction n with
  | zero =>
    intro n0 h1 h2
    exact absurd h2 (by omega)
  | succ n ih =>
    intro n0 hn9 hin H locs ls hM hS hl
    refine lv_iload hx hb d_Mo_source_96 (lv_at hl 3 rfl) ?_
    refine lv_aload_n hx hb d_Mo_source_98 rfl (lv_at hl 0 rfl) ?_
    refine x_get (C := R_Mo) (T := F_Mo) (N := 20) hx hb hw i_Mo hown hK.1 hM ho rfl 7 (by decide) (hw _ kw_530) rfl rfl d_Mo_source_99 ?_
    refine lv_icmp_ge (tgt := 267) hx hb d_Mo_source_102 (by decide) (fun c_102 => ?_) (fun c_102 => ?_)
    · have h_ge : zmn u ≤ n0 := (nI_leI (by omega) (by omega)).mp c_102
      refine lv_iload hx hb d_Mo_source_267 (lv_at hl 2 rfl) ?_
      exact x_ri hE rfl hM hS (by rw [show n0 = zmn u by omega]; exact hP) (by decide) (by decide) d_Mo_source_269
    · have h_lt : n0 < zmn u := Nat.not_le.mp (fun h9 => c_102 ((nI_leI (by omega) (by omega)).mpr h9))
      refine lv_iconst (v := 0) hx hb d_Mo_source_105 (by decide) ?_
      refine lv_istore (lv' := [(6, .int 0), (0, .ref (ad 100)), (3, .int k), (4, .int (zFo T (zmn u) k n0)), (5, .int (nI n0))]) hx hb d_Mo_source_106 hl (by decide) rfl (fun ls hl => ?_)
      refine lv_iconst (v := 0) hx hb d_Mo_source_108 (by decide) ?_
      refine lv_istore (lv' := [(7, .int 0), (6, .int 0), (0, .ref (ad 100)), (3, .int k), (4, .int (zFo T (zmn u) k n0)), (5, .int (nI n0))]) hx hb d_Mo_source_109 hl (by decide) rfl (fun ls hl => ?_)
      refine lp_Mo_src3 ad u hO th q ho D S C k109 k110 k111 k (zFo T (zmn u) k n0) n0 h_lt hE hK (fun H locs ls hM hS hl => ?_) (zmn u + 1) 0 (by omega) (by omega) _ _ _ hM hS (lv_sub hl [2, 3, 4, 5, 1, 0] rfl)
      refine lv_aload_n hx hb d_Mo_source_233 rfl (lv_at hl 0 rfl) ?_
      refine x_get (C := R_Mo) (T := F_Mo) (N := 20) hx hb hw i_Mo hown hK.1 hM ho rfl 17 (by decide) (hw _ kw_540) rfl rfl d_Mo_source_234 ?_
      refine lv_iload hx hb d_Mo_source_237 (lv_at hl 3 rfl) ?_
      refine x_iald hx hb hK.1 hM k109 0 rfl rfl (by omega) (by decide) d_Mo_source_239 ?_
      refine lv_sipush (v := (-1000)) hx hb d_Mo_source_240 (by decide) ?_
      refine lv_icmp_eq (tgt := 257) hx hb d_Mo_source_243 (by decide) (fun c_243 => ?_) (fun c_243 => ?_)
      · refine lv_iload hx hb d_Mo_source_257 (lv_at hl 2 rfl) ?_
        refine lv_topi (fun tv etv => ?_)
        have etv : tv = zFo T (zmn u) k (n0 + 1) := by rw [etv]; show _ = (if (T n0).1 ≠ -1000 ∧ _ then _ else _); rw [if_neg (fun h9 => h9.1 ((hT n0 h_lt).1.symm.trans c_243))]
        subst etv
        refine lv_istore (lv' := [(4, .int (zFo T (zmn u) k (n0 + 1))), (0, .ref (ad 100)), (3, .int k), (5, .int (nI n0)), (6, .int (nI (zAh D S C n0 (zmn u))))]) hx hb d_Mo_source_259 hl (by decide) rfl (fun ls hl => ?_)
        refine lv_iinc (v := (nI (n0 + 1))) (lv' := [(5, .int (nI (n0 + 1))), (4, .int (zFo T (zmn u) k (n0 + 1))), (0, .ref (ad 100)), (3, .int k), (6, .int (nI (zAh D S C n0 (zmn u))))]) hx hb d_Mo_source_261 hl (k := 3) rfl (nI_1 n0) (by decide) rfl (fun ls hl => ?_)
        refine lv_goto (tgt := 96) hx hb d_Mo_source_264 (by decide) ?_
        exact ih (n0 + 1) h_lt (by omega) _ _ _ hM hS (lv_sub hl [2, 3, 1, 0] rfl)
      · refine lv_iload hx hb d_Mo_source_246 (lv_at hl 4 rfl) ?_
        refine lv_iload_n hx hb d_Mo_source_248 rfl (lv_at hl 1 rfl) ?_
        refine lv_icmp_ne (tgt := 257) hx hb d_Mo_source_249 (by decide) (fun c_249 => ?_) (fun c_249 => ?_)
        · refine lv_iload hx hb d_Mo_source_257 (lv_at hl 2 rfl) ?_
          have h_d : (T n0).1 ≠ -1000 := fun h9 => c_243 ((hT n0 h_lt).1.trans h9)
          rw [zAh_nr hT h_lt h_d (zmn u) (Nat.le_refl _)] at c_249
          refine lv_topi (fun tv etv => ?_)
          have etv : tv = zFo T (zmn u) k (n0 + 1) := by rw [etv]; show _ = (if (T n0).1 ≠ -1000 ∧ _ then _ else _); rw [if_neg (fun h9 => c_249 h9.2)]
          subst etv
          refine lv_istore (lv' := [(4, .int (zFo T (zmn u) k (n0 + 1))), (0, .ref (ad 100)), (3, .int k), (5, .int (nI n0)), (6, .int (nI (zAh D S C n0 (zmn u))))]) hx hb d_Mo_source_259 hl (by decide) rfl (fun ls hl => ?_)
          refine lv_iinc (v := (nI (n0 + 1))) (lv' := [(5, .int (nI (n0 + 1))), (4, .int (zFo T (zmn u) k (n0 + 1))), (0, .ref (ad 100)), (3, .int k), (6, .int (nI (zAh D S C n0 (zmn u))))]) hx hb d_Mo_source_261 hl (k := 3) rfl (nI_1 n0) (by decide) rfl (fun ls hl => ?_)
          refine lv_goto (tgt := 96) hx hb d_Mo_source_264 (by decide) ?_
          exact ih (n0 + 1) h_lt (by omega) _ _ _ hM hS (lv_sub hl [2, 3, 1, 0] rfl)
        · refine lv_iload hx hb d_Mo_source_252 (lv_at hl 3 rfl) ?_
          refine lv_goto (tgt := 259) hx hb d_Mo_source_254 (by decide) ?_
          have h_d : (T n0).1 ≠ -1000 := fun h9 => c_243 ((hT n0 h_lt).1.trans h9)
          rw [zAh_nr hT h_lt h_d (zmn u) (Nat.le_refl _)] at c_249
          refine lv_topi (fun tv etv => ?_)
          have etv : tv = zFo T (zmn u) k (n0 + 1) := by rw [etv]; show _ = (if (T n0).1 ≠ -1000 ∧ _ then _ else _); rw [if_pos ⟨h_d, c_249⟩]
          subst etv
          refine lv_istore (lv' := [(4, .int (zFo T (zmn u) k (n0 + 1))), (0, .ref (ad 100)), (3, .int k), (5, .int (nI n0)), (6, .int (nI (zAh D S C n0 (zmn u))))]) hx hb d_Mo_source_259 hl (by decide) rfl (fun ls hl => ?_)
          refine lv_iinc (v := (nI (n0 + 1))) (lv' := [(5, .int (nI (n0 + 1))), (4, .int (zFo T (zmn u) k (n0 + 1))), (0, .ref (ad 100)), (3, .int k), (6, .int (nI (zAh D S C n0 (zmn u))))]) hx hb d_Mo_source_261 hl (k := 3) rfl (nI_1 n0) (by decide) rfl (fun ls hl => ?_)
          refine lv_goto (tgt := 96) hx hb d_Mo_source_264 (by decide) ?_
          exact ih (n0 + 1) h_lt (by omega) _ _ _ hM hS (lv_sub hl [2, 3, 1, 0] rfl)

set_option maxHeartbeats 4000000 in
set_option maxRecDepth 100000 in
theorem c_Mo_source (l : Launch) (G : xG) (M : xM) (ad : Nat → Nat) (u : zS) (th : Int32) (q : z5) (ho : M (ad 100) = some (100, eMo ad u th q)) (X : zX) (hA : MoA G M ad X) (hX : MoR u X) (hO : zOk u) (hms : MoS G M ad) (x w k : Int32) : Met l y_Mo_source w_Mo_source ({ frames := 4, cells := 0, slots := 0, locals := 160 }) (xP G [.ref (ad 100), .int x, .int w, .int k] M) (xQi G (fun v M' => MoD G M' ad u (nI (fSrc u x w k).1) ∧ xL M M' ∧ ((fSrc u x w k).1 = 0 → v = (fSrc u x w k).2))) 0 0 (xF G) := by
  refine x_met (by decide) (Nat.le_of_ble_eq_true rfl) ?_
  intro p e s m below meth c ls hE hin hl hM hK hS
  obtain ⟨hx, hb, hr, hml, hown, hw, hlocks⟩ := id hE
  have hlt : (fSrc u x w k).1 < 2 ^ 31 := by
    unfold fSrc
    repeat' split
    all_goals exact Nat.le_of_ble_eq_true rfl
  have hl : lv_has ls 10 [(0, .ref (ad 100)), (1, .int x), (2, .int w), (3, .int k)] := hl
  refine lv_aload_n hx hb d_Mo_source_0 rfl (lv_at hl 0 rfl) ?_
  refine x_cutH (G := G) (M := M) (ls := ls) 18 [.ref (ad 100)] (fun v => v = zBo (cSrc u x k)) (fun o1 H locs h_o1 hM hS => ?_) (fun hjn => ?_)
  · subst h_o1
    refine lv_iload_n hx hb d_Mo_source_18 rfl (lv_at hl 2 rfl) ?_
    refine x_ci (x_runS (As := [.int w]) (rest := [.int (zBo (cSrc u x k)), .ref (ad 100)]) hE hK hM hl.1 (c_Mo_isLeast l G M w) kw_671 kw_672 kw_4 kw_673 1 rfl rfl rfl (by decide +kernel) ⟨by decide, by decide⟩ rfl (Nat.le_of_ble_eq_true rfl) d_Mo_source_19 ⟨by decide, by decide⟩) hS (fun r1 M1 H locs hp hM hS => ?_)
    obtain ⟨e_w, e_M0⟩ := hp
    have hM : xh G M H := e_M0 ▸ hM
    subst e_w
    refine lv_iconst (v := 1) hx hb d_Mo_source_22 (by decide) ?_
    refine x_ci (x_runV (As := [.int (zBo (cSrc u x k)), .int (zBo (zLe w)), .int 1]) (rest := []) hE hK hM hl.1 (c_Mo_goes l G M ad u th q ho (zBo (cSrc u x k)) (zBo (zLe w)) 1) (id ho) rfl kw_595 kw_597 ks_17 kw_4 kw_598 3 rfl rfl rfl (by decide +kernel) ⟨by decide, by decide⟩ rfl (Nat.le_of_ble_eq_true rfl) d_Mo_source_23 ⟨by decide, by decide⟩) hS (fun r2 M1 H locs hp hM hS => ?_)
    have hgb := g_src u x w k
    obtain ⟨e_g, e_M⟩ := hp
    rw [hgb] at e_M e_g
    obtain ⟨Ma, eMa⟩ : ∃ zz9 : xM, zz9 = M1 := ⟨_, rfl⟩
    subst eMa
    have hog := xw_atE e_M
    have hAg := hA.up ho e_M
    refine lv_if_ne (tgt := 31) hx hb d_Mo_source_26 (by decide) (fun c_26 => ?_) (fun c_26 => ?_)
    · have hc0 : (fSrc u x w k).1 = 0 := (nI_eq (b := 0) (by exact hlt) (by decide)).mp (zBo_ne.mp (fun h9 => c_26 (e_g.trans h9)))
      have hcd := g_cd hgb hc0
      have h_a := zBo_ne.mp hcd.1
      have h_le := zBo_ne.mp hcd.2.1
      obtain ⟨i, ei, hi, exi⟩ := z_in (h_a.1) (by have := hO.2.2.1; omega)
      refine lv_iconst (v := 0) hx hb d_Mo_source_31 (by decide) ?_
      refine lv_istore (lv' := [(4, .int 0), (0, .ref (ad 100)), (1, .int x), (2, .int w), (3, .int k)]) hx hb d_Mo_source_32 hl (by decide) rfl (fun ls hl => ?_)
      obtain ⟨⟨D0, m109⟩, ⟨S0, m110⟩, C0, m111⟩ := hms.n (xN.refl.put ho e_M (by omega) (by omega))
      refine lp_Mo_src1 ad u th q ho X hA hX hO (nI (fSrc u x w k).1) i hi w k h_le hE hK (fun Mi qi D S C hxs hoi k109 k110 k111 hT H locs ls hM hS hl => ?_) (zmn u + 1) 0 (by omega) (by omega) Ma q D0 S0 C0 (xS.refl.put ho e_M (Or.inl rfl)) hog m109 m110 m111 (fun o ho9 => absurd ho9 (by omega)) _ _ _ hM hS (by have h9 : lv_has ls 10 [(0, .ref (ad 100)), (1, .int x), (2, .int w), (3, .int k), (4, .int 0)] := lv_sub hl [1, 2, 3, 4, 0] rfl; rw [exi] at h9; exact h9)
      refine lv_iconst (v := (-1)) hx hb d_Mo_source_90 (by decide) ?_
      refine lv_istore (lv' := [(4, .int (-1)), (0, .ref (ad 100)), (3, .int k)]) hx hb d_Mo_source_91 hl (by decide) rfl (fun ls hl => ?_)
      refine lv_iconst (v := 0) hx hb d_Mo_source_93 (by decide) ?_
      refine lv_istore (lv' := [(5, .int 0), (4, .int (-1)), (0, .ref (ad 100)), (3, .int k)]) hx hb d_Mo_source_94 hl (by decide) rfl (fun ls hl => ?_)
      exact lp_Mo_src2 ad u hO (nI (fSrc u x w k).1) qi hoi D S C k109 k110 k111 k (fun j => zDat u i j w) hT _ ⟨⟨qi, X, hoi, hA.s hxs, hX, ⟨D, k109⟩, ⟨S, k110⟩, C, k111⟩, hxs.L, fun _ => by unfold fSrc; rw [if_pos h_a.1, if_neg h_a.2, if_pos h_le, ← ei]; exact zFo_src (fun o ho9 hd9 => zDat_gd hO hi ho9 h_le hd9) hO.2.2.2.2.1 _ (Nat.le_refl _)⟩ hE hK (zmn u + 1) 0 (by omega) (by omega) _ _ _ hM hS (lv_sub hl [2, 3, 1, 0] rfl)
    · have hc1 : ¬ (fSrc u x w k).1 = 0 := fun h9 => by rw [e_g, zBo_t (by rw [h9]; rfl)] at c_26; exact absurd c_26 (by decide)
      refine lv_iconst (v := 0) hx hb d_Mo_source_29 (by decide) ?_
      exact x_ri hE rfl hM hS ((MoPost.U ⟨⟨_, e_M⟩, fun h9 => absurd h9 hc1⟩ ho hA hX).D hms) (by decide) (by decide) d_Mo_source_30
  · refine lv_aload_n hx hb d_Mo_source_1 rfl (lv_at hl 0 rfl) ?_
    refine lv_iload_n hx hb d_Mo_source_2 rfl (lv_at hl 1 rfl) ?_
    refine x_ci (x_runV (As := [.int x]) (rest := [.ref (ad 100)]) hE hK hM hl.1 (c_Mo_isSeries l G M ad u th q ho hO x) (id ho) rfl kw_607 kw_609 ks_18 kw_4 kw_610 1 rfl rfl rfl (by decide +kernel) ⟨by decide, by decide⟩ rfl (Nat.le_of_ble_eq_true rfl) d_Mo_source_3 ⟨by decide, by decide⟩) hS (fun r1 M1 H locs hp hM hS => ?_)
    obtain ⟨e_i, e_M0⟩ := hp
    have hM : xh G M H := e_M0 ▸ hM
    subst e_i
    refine lv_if_eq (tgt := 17) hx hb d_Mo_source_6 (by decide) (fun c_6 => ?_) (fun c_6 => ?_)
    · refine lv_iconst (v := 0) hx hb d_Mo_source_17 (by decide) ?_
      exact hjn _ _ _ (zBo_f (fun h9 => zBo_ne.mpr h9.1 c_6)).symm hM hS
    · refine lv_iload_n hx hb d_Mo_source_9 rfl (lv_at hl 3 rfl) ?_
      refine lv_if_lt (tgt := 17) hx hb d_Mo_source_10 (by decide) (fun c_10 => ?_) (fun c_10 => ?_)
      · refine lv_iconst (v := 0) hx hb d_Mo_source_17 (by decide) ?_
        exact hjn _ _ _ (zBo_f (fun h9 => h9.2 c_10)).symm hM hS
      · refine lv_iconst (v := 1) hx hb d_Mo_source_13 (by decide) ?_
        refine lv_goto (tgt := 18) hx hb d_Mo_source_14 (by decide) ?_
        exact hjn _ _ _ (zBo_t ⟨zBo_ne.mp c_6, c_10⟩).symm hM hS
