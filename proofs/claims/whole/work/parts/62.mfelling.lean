set_option maxHeartbeats 4000000 in
set_option maxRecDepth 100000 in
theorem lp_Mo_fell1 {p : Program} {l : Launch} {e : Env} {s : State} {m : MethodId} {below : List Frame} {meth : Method} {c : Code} {args : Array Value} {G : xG} {M : xM} (ad : Nat → Nat) (u : zS) (th : Int32) (q : z5) (ho : M (ad 100) = some (100, eMo ad u th q)) (X : zX) (hA : MoA G M ad X) (hX : MoR u X) (hO : zOk u) (i ab be : Nat) (g : Nat → Nat) (hg : zWg (zwt u) g) (a : Nat) (ha : a ≤ 30) {Q : State → Prop} (hE : xE p s m args meth c b_Mo_felling (some .int) 13 R_Mo) (hK : KX G s) (kk : ∀ (H : Heap) (locs : List Loc) (ls : Array Slot), xh G M H → va_S (xF G) s.heap H locs → lv_has ls 13 [(0, .ref (ad 100)), (1, .int (nI i)), (2, .int (nI a)), (3, .int (nI ab)), (4, .int (nI be)), (7, .int (nI (zSm g a (61 - a))))] → W p l e ({ frames := 2, cells := 0, slots := 0, locals := 75 }) s m args below meth c H locs 0 0 Q (F0 m 134 ls [])) : ∀ (n r : Nat), a ≤ r → r ≤ 61 → 62 ≤ r + n → ∀ (H : Heap) (locs : List Loc) (ls : Array Slot), xh G M H → va_S (xF G) s.heap H locs → lv_has ls 13 [(0, .ref (ad 100)), (1, .int (nI i)), (2, .int (nI a)), (3, .int (nI ab)), (4, .int (nI be)), (7, .int (nI (zSm g a (r - a)))), (8, .int (nI r))] → W p l e ({ frames := 2, cells := 0, slots := 0, locals := 75 }) s m args below meth c H locs 0 0 Q (F0 m 109 ls []) := by
  obtain ⟨hx, hb, hr, hml, hown, hw, hlocks⟩ := id hE
  intro n
  induction n with
  | zero =>
    intro r h1 h2 h3
    exact absurd h3 (by omega)
  | succ n ih =>
    intro r har hr9 hin H locs ls hM hS hl
    refine lv_iload hx hb d_Mo_felling_109 (lv_at hl 6 rfl) ?_
    refine lv_bipush (v := 60) hx hb d_Mo_felling_111 (by decide) ?_
    refine lv_icmp_gt (tgt := 134) hx hb d_Mo_felling_113 (by decide) (fun c_113 => ?_) (fun c_113 => ?_)
    · have h_ge : 61 ≤ r := by have h9 := (nI_ltI (a := 60) (by decide) (by omega)).mp c_113; omega
      exact kk _ _ _ hM hS (by rw [show 61 - a = r - a by omega]; exact lv_sub hl [0, 1, 2, 3, 4, 5] rfl)
    · have h_lt : r < 61 := Nat.not_le.mp (fun h9 => c_113 ((nI_ltI (a := 60) (by decide) (by omega)).mpr (by omega)))
      refine lv_iload hx hb d_Mo_felling_116 (lv_at hl 5 rfl) ?_
      refine lv_aload_n hx hb d_Mo_felling_118 rfl (lv_at hl 0 rfl) ?_
      refine x_get (C := R_Mo) (T := F_Mo) (N := 20) hx hb hw i_Mo hown hK.1 hM (id ho) rfl 11 (by decide) (hw _ kw_534) rfl rfl d_Mo_felling_119 ?_
      refine lv_iload hx hb d_Mo_felling_122 (lv_at hl 6 rfl) ?_
      refine x_iald hx hb hK.1 hM hA.2.2.2.2.2.2.2 0 rfl rfl (by omega) (by decide) d_Mo_felling_124 ?_
      refine lv_topi (fun tv etv => ?_)
      have etv : tv = nI (g r) := by rw [etv]; rw [hX.2.2.2.2 r (by omega)]; exact (hg r (by omega)).1
      subst etv
      refine lv_iadd hx hb d_Mo_felling_125 ?_
      refine lv_topi (fun tv etv => ?_)
      have etv : tv = nI (zSm g a (r - a + 1)) := by rw [etv]; show _ = nI (zSm g a (r - a) + g (a + (r - a))); rw [nI_add, show a + (r - a) = r by omega]
      subst etv
      refine lv_istore (lv' := [(7, .int (nI (zSm g a (r - a + 1)))), (0, .ref (ad 100)), (1, .int (nI i)), (2, .int (nI a)), (3, .int (nI ab)), (4, .int (nI be)), (8, .int (nI r))]) hx hb d_Mo_felling_126 hl (by decide) rfl (fun ls hl => ?_)
      refine lv_iinc (v := (nI (r + 1))) (lv' := [(8, .int (nI (r + 1))), (7, .int (nI (zSm g a (r - a + 1)))), (0, .ref (ad 100)), (1, .int (nI i)), (2, .int (nI a)), (3, .int (nI ab)), (4, .int (nI be))]) hx hb d_Mo_felling_128 hl (k := 6) rfl (nI_1 r) (by decide) rfl (fun ls hl => ?_)
      refine lv_goto (tgt := 109) hx hb d_Mo_felling_131 (by decide) ?_
      exact ih (r + 1) (by omega) (by omega) (by omega) _ _ _ hM hS (by rw [show r + 1 - a = (r - a) + 1 by omega]; exact lv_sub hl [2, 3, 4, 5, 6, 1, 0] rfl)

set_option maxHeartbeats 4000000 in
set_option maxRecDepth 100000 in
theorem lp_Mo_fell4 {p : Program} {l : Launch} {e : Env} {s : State} {m : MethodId} {below : List Frame} {meth : Method} {c : Code} {args : Array Value} {G : xG} {M : xM} (ad : Nat → Nat) (u : zS) (th : Int32) (q : z5) (ho : M (ad 100) = some (100, eMo ad u th q)) (X : zX) (hA : MoA G M ad X) (hX : MoR u X) (hO : zOk u) (ab be : Nat) (g : Nat → Nat) (hg : zWg (zwt u) g) (a : Nat) (ha : a ≤ 30) (la : Int32) (nn fr : Nat) (hfn : fr + nn ≤ 61) {Q : State → Prop} (hE : xE p s m args meth c b_Mo_felling (some .int) 13 R_Mo) (hK : KX G s) (kk : ∀ (H : Heap) (locs : List Loc) (ls : Array Slot), xh G M H → va_S (xF G) s.heap H locs → lv_has ls 13 [(0, .ref (ad 100)), (2, .int (nI a)), (3, .int (nI ab)), (4, .int (nI be)), (7, .int (nI (zSm g a (61 - a)))), (8, .int la), (9, .int (nI nn)), (10, .int (nI fr)), (11, .int (nI (zSm g fr nn)))] → W p l e ({ frames := 2, cells := 0, slots := 0, locals := 75 }) s m args below meth c H locs 0 0 Q (F0 m 218 ls [])) : ∀ (n k : Nat), k ≤ nn → nn + 1 ≤ k + n → ∀ (H : Heap) (locs : List Loc) (ls : Array Slot), xh G M H → va_S (xF G) s.heap H locs → lv_has ls 13 [(0, .ref (ad 100)), (2, .int (nI a)), (3, .int (nI ab)), (4, .int (nI be)), (7, .int (nI (zSm g a (61 - a)))), (8, .int la), (9, .int (nI nn)), (10, .int (nI fr)), (11, .int (nI (zSm g fr k))), (12, .int (nI (fr + k)))] → W p l e ({ frames := 2, cells := 0, slots := 0, locals := 75 }) s m args below meth c H locs 0 0 Q (F0 m 190 ls []) := by
  obtain ⟨hx, hb, hr, hml, hown, hw, hlocks⟩ := id hE
  intro n
  induction n with
  | zero =>
    intro k h1 h2
    exact absurd h2 (by omega)
  | succ n ih =>
    intro k hk9 hin H locs ls hM hS hl
    refine lv_iload hx hb d_Mo_felling_190 (lv_at hl 9 rfl) ?_
    refine lv_iload hx hb d_Mo_felling_192 (lv_at hl 7 rfl) ?_
    refine lv_iload hx hb d_Mo_felling_194 (lv_at hl 6 rfl) ?_
    refine lv_iadd hx hb d_Mo_felling_196 ?_
    refine lv_topi (fun tv etv => ?_)
    have etv : tv = nI (fr + nn) := by rw [etv]; exact nI_add _ _
    subst etv
    refine lv_icmp_ge (tgt := 218) hx hb d_Mo_felling_197 (by decide) (fun c_197 => ?_) (fun c_197 => ?_)
    · have h_ge : nn ≤ k := by have h9 := (nI_leI (by omega) (by omega)).mp c_197; omega
      have hk8 : k = nn := by omega
      rw [hk8] at hl
      exact kk _ _ _ hM hS (lv_sub hl [0, 1, 2, 3, 4, 5, 6, 7, 8] rfl)
    · have h_lt : k < nn := Nat.not_le.mp (fun h9 => c_197 ((nI_leI (by omega) (by omega)).mpr (by omega)))
      refine lv_iload hx hb d_Mo_felling_200 (lv_at hl 8 rfl) ?_
      refine lv_aload_n hx hb d_Mo_felling_202 rfl (lv_at hl 0 rfl) ?_
      refine x_get (C := R_Mo) (T := F_Mo) (N := 20) hx hb hw i_Mo hown hK.1 hM (id ho) rfl 11 (by decide) (hw _ kw_534) rfl rfl d_Mo_felling_203 ?_
      refine lv_iload hx hb d_Mo_felling_206 (lv_at hl 9 rfl) ?_
      refine x_iald hx hb hK.1 hM hA.2.2.2.2.2.2.2 0 rfl rfl (by omega) (by decide) d_Mo_felling_208 ?_
      refine lv_topi (fun tv etv => ?_)
      have etv : tv = nI (g (fr + k)) := by rw [etv]; rw [hX.2.2.2.2 (fr + k) (by omega)]; exact (hg (fr + k) (by omega)).1
      subst etv
      refine lv_iadd hx hb d_Mo_felling_209 ?_
      refine lv_topi (fun tv etv => ?_)
      have etv : tv = nI (zSm g fr (k + 1)) := by rw [etv]; show _ = nI (zSm g fr k + g (fr + k)); rw [nI_add]
      subst etv
      refine lv_istore (lv' := [(11, .int (nI (zSm g fr (k + 1)))), (0, .ref (ad 100)), (2, .int (nI a)), (3, .int (nI ab)), (4, .int (nI be)), (7, .int (nI (zSm g a (61 - a)))), (8, .int la), (9, .int (nI nn)), (10, .int (nI fr)), (12, .int (nI (fr + k)))]) hx hb d_Mo_felling_210 hl (by decide) rfl (fun ls hl => ?_)
      refine lv_iinc (v := (nI (fr + (k + 1)))) (lv' := [(12, .int (nI (fr + (k + 1)))), (11, .int (nI (zSm g fr (k + 1)))), (0, .ref (ad 100)), (2, .int (nI a)), (3, .int (nI ab)), (4, .int (nI be)), (7, .int (nI (zSm g a (61 - a)))), (8, .int la), (9, .int (nI nn)), (10, .int (nI fr))]) hx hb d_Mo_felling_212 hl (k := 9) rfl (nI_1 _) (by decide) rfl (fun ls hl => ?_)
      refine lv_goto (tgt := 190) hx hb d_Mo_felling_215 (by decide) ?_
      exact ih (k + 1) (by omega) (by omega) _ _ _ hM hS (lv_sub hl [2, 3, 4, 5, 6, 7, 8, 9, 1, 0] rfl)

set_option maxHeartbeats 4000000 in
set_option maxRecDepth 100000 in
theorem lp_Mo_fell3 {p : Program} {l : Launch} {e : Env} {s : State} {m : MethodId} {below : List Frame} {meth : Method} {c : Code} {args : Array Value} {G : xG} {M : xM} (ad : Nat → Nat) (u : zS) (th : Int32) (q : z5) (ho : M (ad 100) = some (100, eMo ad u th q)) (X : zX) (hA : MoA G M ad X) (hX : MoR u X) (hO : zOk u) (ab be : Nat) (g : Nat → Nat) (hg : zWg (zwt u) g) (a : Nat) (ha : a ≤ 30) (la : Int32) (hab : 1 ≤ ab) (hbe : ab ≤ be) (hb9 : be ≤ 1000) (F T : Nat) (hF : zFi9 g ((zSm g a (61 - a)) * ab) be a F T) (hT : zMi9 g ((zSm g a (61 - a)) * ab) be a 61 F T) (nn : Nat) (hn1 : 1 ≤ nn) (hnL : nn ≤ T - F + 1) (Post : Int32 → xM → Prop) (hP : Post (1000 * (la + nI F) + la + nI T) M) (hE : xE p s m args meth c b_Mo_felling (some .int) 13 R_Mo) (hK : KX G s) (kk : nn < T - F + 1 → ∀ (H : Heap) (locs : List Loc) (ls : Array Slot), xh G M H → va_S (xF G) s.heap H locs → lv_has ls 13 [(0, .ref (ad 100)), (2, .int (nI a)), (3, .int (nI ab)), (4, .int (nI be)), (7, .int (nI (zSm g a (61 - a)))), (8, .int la), (9, .int (nI nn))] → W p l e ({ frames := 2, cells := 0, slots := 0, locals := 75 }) s m args below meth c H locs 0 0 (MQ below (xQi G Post) args s 0 0 (xF G)) (F0 m 262 ls [])) : ∀ (n fr : Nat), a ≤ fr → fr ≤ 61 → 62 ≤ fr + n → (nn = T - F + 1 → fr ≤ F) → ∀ (H : Heap) (locs : List Loc) (ls : Array Slot), xh G M H → va_S (xF G) s.heap H locs → lv_has ls 13 [(0, .ref (ad 100)), (2, .int (nI a)), (3, .int (nI ab)), (4, .int (nI be)), (7, .int (nI (zSm g a (61 - a)))), (8, .int la), (9, .int (nI nn)), (10, .int (nI fr))] → W p l e ({ frames := 2, cells := 0, slots := 0, locals := 75 }) s m args below meth c H locs 0 0 (MQ below (xQi G Post) args s 0 0 (xF G)) (F0 m 173 ls []) := by
  obtain ⟨hx, hb, hr, hml, hown, hw, hlocks⟩ := id hE
  have hF2 := hF.2.2.1
  intro n
  induction n with
  | zero =>
    intro fr h1 h2 h3
    exact absurd h3 (by omega)
  | succ n ih =>
    intro fr haf hf61 hin hfr H locs ls hM hS hl
    refine lv_iload hx hb d_Mo_felling_173 (lv_at hl 7 rfl) ?_
    refine lv_iload hx hb d_Mo_felling_175 (lv_at hl 6 rfl) ?_
    refine lv_iadd hx hb d_Mo_felling_177 ?_
    refine lv_topi (fun tv etv => ?_)
    have etv : tv = nI (fr + nn) := by rw [etv]; exact nI_add _ _
    subst etv
    refine lv_bipush (v := 61) hx hb d_Mo_felling_178 (by decide) ?_
    refine lv_icmp_gt (tgt := 262) hx hb d_Mo_felling_180 (by decide) (fun c_180 => ?_) (fun c_180 => ?_)
    · have h_gt : 61 < fr + nn := (nI_ltI (a := 61) (by decide) (by omega)).mp c_180
      exact kk (by by_cases h9 : nn = T - F + 1; have h8 := hfr h9; have := hF.2.1; have := hF.2.2.1; omega; omega) _ _ _ hM hS (lv_sub hl [0, 1, 2, 3, 4, 5, 6] rfl)
    · have h_le : fr + nn ≤ 61 := Nat.not_lt.mp (fun h9 => c_180 ((nI_ltI (a := 61) (by decide) (by omega)).mpr h9))
      refine lv_iconst (v := 0) hx hb d_Mo_felling_183 (by decide) ?_
      refine lv_istore (lv' := [(11, .int 0), (0, .ref (ad 100)), (2, .int (nI a)), (3, .int (nI ab)), (4, .int (nI be)), (7, .int (nI (zSm g a (61 - a)))), (8, .int la), (9, .int (nI nn)), (10, .int (nI fr))]) hx hb d_Mo_felling_184 hl (by decide) rfl (fun ls hl => ?_)
      refine lv_iload hx hb d_Mo_felling_186 (lv_at hl 8 rfl) ?_
      refine lv_istore (lv' := [(12, .int (nI fr)), (11, .int 0), (0, .ref (ad 100)), (2, .int (nI a)), (3, .int (nI ab)), (4, .int (nI be)), (7, .int (nI (zSm g a (61 - a)))), (8, .int la), (9, .int (nI nn)), (10, .int (nI fr))]) hx hb d_Mo_felling_188 hl (by decide) rfl (fun ls hl => ?_)
      refine lp_Mo_fell4 ad u th q ho X hA hX hO ab be g hg a ha la nn fr h_le hE hK (fun H locs ls hM hS hl => ?_) (nn + 1) 0 (by omega) (by omega) _ _ _ hM hS (lv_sub hl [2, 3, 4, 5, 6, 7, 8, 9, 1, 0] rfl)
      refine lv_iload hx hb d_Mo_felling_218 (lv_at hl 8 rfl) ?_
      refine lv_i2l (v := (nI (zSm g fr nn)).toInt64) hx hb d_Mo_felling_220 rfl ?_
      refine lv_iload hx hb d_Mo_felling_221 (lv_at hl 3 rfl) ?_
      refine lv_i2l (v := (nI be).toInt64) hx hb d_Mo_felling_223 rfl ?_
      refine lv_lmul hx hb d_Mo_felling_224 ?_
      refine lv_iload hx hb d_Mo_felling_225 (lv_at hl 4 rfl) ?_
      refine lv_i2l (v := (nI (zSm g a (61 - a))).toInt64) hx hb d_Mo_felling_227 rfl ?_
      refine lv_iload_n hx hb d_Mo_felling_228 rfl (lv_at hl 2 rfl) ?_
      refine lv_i2l (v := (nI ab).toInt64) hx hb d_Mo_felling_229 rfl ?_
      refine lv_lmul hx hb d_Mo_felling_230 ?_
      refine W.lcmp hx hb d_Mo_felling_231 ?_
      have h_iff : lg_cmp ((nI (zSm g fr nn)).toInt64 * (nI be).toInt64) ((nI (zSm g a (61 - a))).toInt64 * (nI ab).toInt64) < 0 ↔ zSm g fr nn * be < (zSm g a (61 - a)) * ab := by
        have l1 := zSm_le (g := g) (n := fr) nn h_le (fun i hi => (hg i hi).2)
        have l2 := zSm_le (g := g) (n := a) (61 - a) (by omega) (fun i hi => (hg i hi).2)
        have m1 : zSm g fr nn * be ≤ 610000 * 1000 := Nat.mul_le_mul (by omega) hb9
        have m2 : (zSm g a (61 - a)) * ab ≤ 610000 * 1000 := Nat.mul_le_mul (by omega) (by omega)
        rw [lg_cmp_lt, nI_l (by omega), nI_l (by omega), nI_l (by omega), nI_l (by omega), lN_mul, lN_mul, lN_lt (by omega) (by omega)]
      refine lv_if_lt (tgt := 256) hx hb d_Mo_felling_232 (by decide) (fun c_232 => ?_) (fun c_232 => ?_)
      · have h_no : ¬ zGG g ((zSm g a (61 - a)) * ab) be fr nn := Nat.not_le.mpr (h_iff.mp c_232)
        refine lv_iinc (v := (nI (fr + 1))) (lv' := [(10, .int (nI (fr + 1))), (0, .ref (ad 100)), (2, .int (nI a)), (3, .int (nI ab)), (4, .int (nI be)), (7, .int (nI (zSm g a (61 - a)))), (8, .int la), (9, .int (nI nn)), (11, .int (nI (zSm g fr nn)))]) hx hb d_Mo_felling_256 hl (k := 7) rfl (nI_1 fr) (by decide) rfl (fun ls hl => ?_)
        refine lv_goto (tgt := 173) hx hb d_Mo_felling_259 (by decide) ?_
        exact ih (fr + 1) (by omega) (by omega) (by omega) (fun h9 => by have h8 := hfr h9; by_cases h7 : fr = F; exact absurd (by rw [h7, h9]; exact hF.2.2.2) h_no; omega) _ _ _ hM hS (lv_sub hl [1, 2, 3, 4, 5, 6, 7, 0] rfl)
      · have h_ye : zGG g ((zSm g a (61 - a)) * ab) be fr nn := Nat.not_lt.mp (fun h9 => c_232 (h_iff.mpr h9))
        refine lv_sipush (v := 1000) hx hb d_Mo_felling_235 (by decide) ?_
        refine lv_iload hx hb d_Mo_felling_238 (lv_at hl 5 rfl) ?_
        refine lv_iload hx hb d_Mo_felling_240 (lv_at hl 7 rfl) ?_
        refine lv_iadd hx hb d_Mo_felling_242 ?_
        refine lv_imul hx hb d_Mo_felling_243 ?_
        refine lv_iload hx hb d_Mo_felling_244 (lv_at hl 5 rfl) ?_
        refine lv_iadd hx hb d_Mo_felling_246 ?_
        refine lv_iload hx hb d_Mo_felling_247 (lv_at hl 7 rfl) ?_
        refine lv_iadd hx hb d_Mo_felling_249 ?_
        refine lv_iload hx hb d_Mo_felling_250 (lv_at hl 6 rfl) ?_
        refine lv_iadd hx hb d_Mo_felling_252 ?_
        refine lv_iconst (v := 1) hx hb d_Mo_felling_253 (by decide) ?_
        refine lv_isub hx hb d_Mo_felling_254 ?_
        obtain ⟨m1, m2⟩ := hT fr nn haf (by omega) hn1 h_le h_ye
        have e_n : nn = T - F + 1 := by omega
        have e_f : fr = F := by have h9 := hfr e_n; by_cases h7 : fr < F; exact absurd (m2 h7) (by omega); omega
        have e_T : nI F + nI nn = nI T + 1 := by rw [nI_add, nI_1, show F + nn = T + 1 by have := hF.2.1; omega]
        exact x_ri hE rfl hM hS (by rw [e_f]; rw [show (((((1000 * (la + (nI F))) + la) + (nI F)) + (nI nn)) - 1) = 1000 * (la + nI F) + la + nI T by grind]; exact hP) (by decide) (by decide) d_Mo_felling_255

set_option maxHeartbeats 4000000 in
set_option maxRecDepth 100000 in
theorem lp_Mo_fell2 {p : Program} {l : Launch} {e : Env} {s : State} {m : MethodId} {below : List Frame} {meth : Method} {c : Code} {args : Array Value} {G : xG} {M : xM} (ad : Nat → Nat) (u : zS) (th : Int32) (q : z5) (ho : M (ad 100) = some (100, eMo ad u th q)) (X : zX) (hA : MoA G M ad X) (hX : MoR u X) (hO : zOk u) (ab be : Nat) (g : Nat → Nat) (hg : zWg (zwt u) g) (a : Nat) (ha : a ≤ 30) (la res : Int32) (hab : 1 ≤ ab) (hbe : ab ≤ be) (hb9 : be ≤ 1000) (hres : ((zSm g a (61 - a)) = 0 ∧ res = -1) ∨ (0 < (zSm g a (61 - a)) ∧ ∃ F T : Nat, zFi9 g ((zSm g a (61 - a)) * ab) be a F T ∧ zMi9 g ((zSm g a (61 - a)) * ab) be a 61 F T ∧ res = 1000 * (la + nI F) + la + nI T)) (Post : Int32 → xM → Prop) (hP : Post res M) (hE : xE p s m args meth c b_Mo_felling (some .int) 13 R_Mo) (hK : KX G s) : ∀ (n nn : Nat), 1 ≤ nn → 64 ≤ nn + n → (∀ F T : Nat, zFi9 g ((zSm g a (61 - a)) * ab) be a F T → zMi9 g ((zSm g a (61 - a)) * ab) be a 61 F T → nn ≤ T - F + 1) → nn ≤ 62 → ∀ (H : Heap) (locs : List Loc) (ls : Array Slot), xh G M H → va_S (xF G) s.heap H locs → lv_has ls 13 [(0, .ref (ad 100)), (2, .int (nI a)), (3, .int (nI ab)), (4, .int (nI be)), (7, .int (nI (zSm g a (61 - a)))), (8, .int la), (9, .int (nI nn))] → W p l e ({ frames := 2, cells := 0, slots := 0, locals := 75 }) s m args below meth c H locs 0 0 (MQ below (xQi G Post) args s 0 0 (xF G)) (F0 m 156 ls []) := by
  obtain ⟨hx, hb, hr, hml, hown, hw, hlocks⟩ := id hE
  intro n
  induction n with
  | zero =>
    intro nn h1 h2 h3 h4
    exact absurd h2 (by omega)
  | succ n ih =>
    intro nn hn1 hin hnL hn62 H locs ls hM hS hl
    refine lv_iload hx hb d_Mo_felling_156 (lv_at hl 6 rfl) ?_
    refine lv_bipush (v := 61) hx hb d_Mo_felling_158 (by decide) ?_
    refine lv_iload_n hx hb d_Mo_felling_160 rfl (lv_at hl 1 rfl) ?_
    refine lv_isub hx hb d_Mo_felling_161 ?_
    refine lv_topi (fun tv etv => ?_)
    have etv : tv = nI (61 - a) := by rw [etv]; show nI 61 - nI a = _; exact pk_sub (by omega)
    subst etv
    refine lv_icmp_gt (tgt := 268) hx hb d_Mo_felling_162 (by decide) (fun c_162 => ?_) (fun c_162 => ?_)
    · refine lv_iconst (v := (-1)) hx hb d_Mo_felling_268 (by decide) ?_
      rcases hres with ⟨hA0, e_res⟩ | ⟨hA1, F, T, hF, hT, e_res⟩
      · exact x_ri hE rfl hM hS (e_res ▸ hP) (by decide) (by decide) d_Mo_felling_269
      · have hL := hnL F T hF hT
        have h9 := (nI_ltI (by omega) (by omega)).mp c_162
        have := hF.1
        have := hF.2.1
        have := hF.2.2.1
        exact absurd h9 (by omega)
    · refine lv_iload hx hb d_Mo_felling_165 (lv_at hl 4 rfl) ?_
      refine lv_if_le (tgt := 268) hx hb d_Mo_felling_167 (by decide) (fun c_167 => ?_) (fun c_167 => ?_)
      · refine lv_iconst (v := (-1)) hx hb d_Mo_felling_268 (by decide) ?_
        rcases hres with ⟨hA0, e_res⟩ | ⟨hA1, F, T, hF, hT, e_res⟩
        · exact x_ri hE rfl hM hS (e_res ▸ hP) (by decide) (by decide) d_Mo_felling_269
        · have l2 := zSm_le (g := g) (n := a) (61 - a) (by omega) (fun i hi => (hg i hi).2)
          have h9 := (nI_leI (b := 0) (by omega) (by decide)).mp c_167
          exact absurd hA1 (by omega)
      · refine lv_iload_n hx hb d_Mo_felling_170 rfl (lv_at hl 1 rfl) ?_
        refine lv_istore (lv' := [(10, .int (nI a)), (0, .ref (ad 100)), (2, .int (nI a)), (3, .int (nI ab)), (4, .int (nI be)), (7, .int (nI (zSm g a (61 - a)))), (8, .int la), (9, .int (nI nn))]) hx hb d_Mo_felling_171 hl (by decide) rfl (fun ls hl => ?_)
        rcases hres with ⟨hA0, -⟩ | ⟨hA1, F, T, hF, hT, e_res⟩
        · exact absurd (by rw [hA0]; decide) c_167
        have hL := hnL F T hF hT
        refine lp_Mo_fell3 ad u th q ho X hA hX hO ab be g hg a ha la hab hbe hb9 F T hF hT nn hn1 hL Post (e_res ▸ hP) hE hK (fun h_lt H locs ls hM hS hl => ?_) 62 a (Nat.le_refl _) (by omega) (by omega) (fun _ => hF.1) _ _ _ hM hS (lv_sub hl [1, 2, 3, 4, 5, 6, 7, 0] rfl)
        refine lv_iinc (v := (nI (nn + 1))) (lv' := [(9, .int (nI (nn + 1))), (0, .ref (ad 100)), (2, .int (nI a)), (3, .int (nI ab)), (4, .int (nI be)), (7, .int (nI (zSm g a (61 - a)))), (8, .int la)]) hx hb d_Mo_felling_262 hl (k := 6) rfl (nI_1 nn) (by decide) rfl (fun ls hl => ?_)
        refine lv_goto (tgt := 156) hx hb d_Mo_felling_265 (by decide) ?_
        exact ih (nn + 1) (by omega) (by omega) (fun F' T' hF' hT' => by have q1 := (hT F' (T' - F' + 1) hF'.1 (by have := hF'.2.1; have := hF'.2.2.1; omega) (by omega) (by have := hF'.2.1; have := hF'.2.2.1; omega) hF'.2.2.2).1; omega) (by have := hF.2.2.1; have := hF.1; omega) _ _ _ hM hS (lv_sub hl [1, 2, 3, 4, 5, 6, 0] rfl)

set_option maxHeartbeats 4000000 in
set_option maxRecDepth 100000 in
theorem c_Mo_felling (l : Launch) (G : xG) (M : xM) (ad : Nat → Nat) (u : zS) (th : Int32) (q : z5) (ho : M (ad 100) = some (100, eMo ad u th q)) (X : zX) (hA : MoA G M ad X) (hX : MoR u X) (hO : zOk u) (x sp ab1 be1 : Int32) : Met l y_Mo_felling w_Mo_felling ({ frames := 2, cells := 0, slots := 0, locals := 75 }) (xP G [.ref (ad 100), .int x, .int sp, .int ab1, .int be1] M) (xQi G (fun v M' => MoPost M ad u (fFell u x sp ab1 be1) v M')) 0 0 (xF G) := by
  refine x_met (by decide) (Nat.le_of_ble_eq_true rfl) ?_
  intro p e s m below meth c ls hE hin hl hM hK hS
  obtain ⟨hx, hb, hr, hml, hown, hw, hlocks⟩ := id hE
  have hlt : (fFell u x sp ab1 be1).1 < 2 ^ 31 := by
    unfold fFell
    repeat' split
    all_goals exact Nat.le_of_ble_eq_true rfl
  have hl : lv_has ls 13 [(0, .ref (ad 100)), (1, .int x), (2, .int sp), (3, .int ab1), (4, .int be1)] := hl
  refine lv_aload_n hx hb d_Mo_felling_0 rfl (lv_at hl 0 rfl) ?_
  refine lv_iload_n hx hb d_Mo_felling_1 rfl (lv_at hl 1 rfl) ?_
  refine x_ci (x_runV (As := [.int x]) (rest := []) hE hK hM hl.1 (c_Mo_isSeries l G M ad u th q ho hO x) (id ho) rfl kw_607 kw_609 ks_18 kw_4 kw_610 1 rfl rfl rfl (by decide +kernel) ⟨by decide, by decide⟩ rfl (Nat.le_of_ble_eq_true rfl) d_Mo_felling_2 ⟨by decide, by decide⟩) hS (fun r1 M1 H locs hp hM hS => ?_)
  obtain ⟨e_i, e_M0⟩ := hp
  have hM : xh G M H := e_M0 ▸ hM
  subst e_i
  refine lv_istore (lv' := [(5, .int (zBo (zIn x (zrn u)))), (0, .ref (ad 100)), (1, .int x), (2, .int sp), (3, .int ab1), (4, .int be1)]) hx hb d_Mo_felling_5 hl (by decide) rfl (fun ls hl => ?_)
  refine x_cutH (G := G) (M := M) (ls := ls) 59 [] (fun v => v = zBo (cFg u x sp ab1 be1)) (fun o1 H locs h_o1 hM hS => ?_) (fun hjn => ?_)
  · subst h_o1
    refine lv_istore (lv' := [(6, .int (zBo (cFg u x sp ab1 be1))), (5, .int (zBo (zIn x (zrn u)))), (0, .ref (ad 100)), (1, .int x), (2, .int sp), (3, .int ab1), (4, .int be1)]) hx hb d_Mo_felling_59 hl (by decide) rfl (fun ls hl => ?_)
    refine lv_aload_n hx hb d_Mo_felling_61 rfl (lv_at hl 2 rfl) ?_
    refine lv_iload hx hb d_Mo_felling_62 (lv_at hl 1 rfl) ?_
    refine x_cutH (G := G) (M := M) (ls := ls) 93 [.int (zBo (zIn x (zrn u))), .ref (ad 100)] (fun v => v = zBo (cFp u x)) (fun o2 H locs h_o2 hM hS => ?_) (fun hjn => ?_)
    · subst h_o2
      refine lv_iload hx hb d_Mo_felling_93 (lv_at hl 0 rfl) ?_
      refine x_ci (x_runV (As := [.int (zBo (zIn x (zrn u))), .int (zBo (cFp u x)), .int (zBo (cFg u x sp ab1 be1))]) (rest := []) hE hK hM hl.1 (c_Mo_goes l G M ad u th q ho (zBo (zIn x (zrn u))) (zBo (cFp u x)) (zBo (cFg u x sp ab1 be1))) (id ho) rfl kw_595 kw_597 ks_17 kw_4 kw_598 3 rfl rfl rfl (by decide +kernel) ⟨by decide, by decide⟩ rfl (Nat.le_of_ble_eq_true rfl) d_Mo_felling_95 ⟨by decide, by decide⟩) hS (fun r2 M1 H locs hp hM hS => ?_)
      have hgb := g_fell u x sp ab1 be1
      obtain ⟨e_g, e_M⟩ := hp
      rw [hgb] at e_M e_g
      obtain ⟨Ma, eMa⟩ : ∃ zz9 : xM, zz9 = M1 := ⟨_, rfl⟩
      subst eMa
      have hog := xw_atE e_M
      have hAg := hA.up ho e_M
      refine lv_if_ne (tgt := 103) hx hb d_Mo_felling_98 (by decide) (fun c_98 => ?_) (fun c_98 => ?_)
      · have hc0 : (fFell u x sp ab1 be1).1 = 0 := (nI_eq (b := 0) (by exact hlt) (by decide)).mp (zBo_ne.mp (fun h9 => c_98 (e_g.trans h9)))
        have hcd := g_cd hgb hc0
        have h_a := zBo_ne.mp hcd.1
        have h_p := zBo_ne.mp hcd.2.1
        have h_g := zBo_ne.mp hcd.2.2
        obtain ⟨i, ei, hi, exi⟩ := z_in (h_a) (by have := hO.2.2.1; omega)
        have hln := hO.2.2.2.1 i hi
        obtain ⟨a, ea, ha, exa⟩ := z_fa (by have h9 := h_g.2.1; rw [← ei] at h9; exact h9) hln.2.1
        obtain ⟨ab, be, eab, ebe, hab, hbe, hb9⟩ := z_fb h_g.2.2.1 h_g.2.2.2.1 h_g.2.2.2.2
        obtain ⟨g, hg⟩ := z_wt hO
        refine lv_iconst (v := 0) hx hb d_Mo_felling_103 (by decide) ?_
        refine lv_istore (lv' := [(7, .int 0), (6, .int (zBo (cFg u x sp ab1 be1))), (5, .int (zBo (zIn x (zrn u)))), (0, .ref (ad 100)), (1, .int x), (2, .int sp), (3, .int ab1), (4, .int be1)]) hx hb d_Mo_felling_104 hl (by decide) rfl (fun ls hl => ?_)
        refine lv_iload_n hx hb d_Mo_felling_106 rfl (lv_at hl 5 rfl) ?_
        refine lv_istore (lv' := [(8, .int sp), (7, .int 0), (6, .int (zBo (cFg u x sp ab1 be1))), (5, .int (zBo (zIn x (zrn u)))), (0, .ref (ad 100)), (1, .int x), (2, .int sp), (3, .int ab1), (4, .int be1)]) hx hb d_Mo_felling_107 hl (by decide) rfl (fun ls hl => ?_)
        refine lp_Mo_fell1 ad u _ q hog X hAg hX hO i ab be g hg a (by omega) hE hK (fun H locs ls hM hS hl => ?_) 62 a (Nat.le_refl _) (by omega) (by omega) _ _ _ hM hS (by have h9 : lv_has ls 13 [(0, .ref (ad 100)), (1, .int x), (2, .int sp), (3, .int ab1), (4, .int be1), (7, .int 0), (8, .int sp)] := lv_sub hl [4, 5, 6, 7, 8, 1, 0] rfl; rw [exi, exa, eab, ebe] at h9; rw [Nat.sub_self]; exact h9)
        refine lv_aload_n hx hb d_Mo_felling_134 rfl (lv_at hl 0 rfl) ?_
        refine x_get (C := R_Mo) (T := F_Mo) (N := 20) hx hb hw i_Mo hown hK.1 hM hog rfl 6 (by decide) (hw _ kw_529) rfl rfl d_Mo_felling_135 ?_
        refine lv_iload_n hx hb d_Mo_felling_138 rfl (lv_at hl 1 rfl) ?_
        refine x_iald hx hb hK.1 hM hAg.2.2.2.1 0 rfl rfl (by have := hO.2.2.1; omega) (by decide) d_Mo_felling_139 ?_
        refine lv_topi (fun tv etv => ?_)
        have etv : tv = zst u i := by rw [etv]; exact (hX.2.1 i hi).2.2
        subst etv
        refine lv_aload_n hx hb d_Mo_felling_140 rfl (lv_at hl 0 rfl) ?_
        refine x_get (C := R_Mo) (T := F_Mo) (N := 20) hx hb hw i_Mo hown hK.1 hM hog rfl 4 (by decide) (hw _ kw_527) rfl rfl d_Mo_felling_141 ?_
        refine lv_iload_n hx hb d_Mo_felling_144 rfl (lv_at hl 1 rfl) ?_
        refine x_iald hx hb hK.1 hM hAg.2.1 0 rfl rfl (by have := hO.2.2.1; omega) (by decide) d_Mo_felling_145 ?_
        refine lv_topi (fun tv etv => ?_)
        have etv : tv = nI (zln u i) := by rw [etv]; exact (hX.2.1 i hi).1
        subst etv
        refine lv_iadd hx hb d_Mo_felling_146 ?_
        refine lv_iconst (v := 1) hx hb d_Mo_felling_147 (by decide) ?_
        refine lv_isub hx hb d_Mo_felling_148 ?_
        refine lv_iload_n hx hb d_Mo_felling_149 rfl (lv_at hl 2 rfl) ?_
        refine lv_isub hx hb d_Mo_felling_150 ?_
        refine lv_istore (lv' := [(8, .int ((((zst u i) + (nI (zln u i))) - 1) - (nI a))), (0, .ref (ad 100)), (1, .int (nI i)), (2, .int (nI a)), (3, .int (nI ab)), (4, .int (nI be)), (7, .int (nI (zSm g a (61 - a))))]) hx hb d_Mo_felling_151 hl (by decide) rfl (fun ls hl => ?_)
        refine lv_iconst (v := 1) hx hb d_Mo_felling_153 (by decide) ?_
        refine lv_istore (lv' := [(9, .int 1), (8, .int ((((zst u i) + (nI (zln u i))) - 1) - (nI a))), (0, .ref (ad 100)), (1, .int (nI i)), (2, .int (nI a)), (3, .int (nI ab)), (4, .int (nI be)), (7, .int (nI (zSm g a (61 - a))))]) hx hb d_Mo_felling_154 hl (by decide) rfl (fun ls hl => ?_)
        have hsp := zSh_spec hg (a := a) (by omega) hab hbe hb9 (((((zst u i) + (nI (zln u i))) - 1) - (nI a)))
        exact lp_Mo_fell2 ad u _ q hog X hAg hX hO ab be g hg a (by omega) (((((zst u i) + (nI (zln u i))) - 1) - (nI a))) (zSh (zwt u) (((((zst u i) + (nI (zln u i))) - 1) - (nI a))) a (nI ab) (nI be)) hab hbe hb9 (by by_cases h9 : zSm g a (61 - a) = 0; exact Or.inl ⟨h9, hsp.1 h9⟩; exact Or.inr ⟨Nat.pos_of_ne_zero h9, hsp.2 (Nat.pos_of_ne_zero h9)⟩) (fun v M' => MoPost M ad u (fFell u x sp ab1 be1) v M') ⟨⟨_, e_M⟩, fun _ => by unfold fFell; rw [if_pos h_a, if_neg h_p.2, if_neg (fun h9 => h9.elim h_g.2.1.1 h_g.2.1.2), if_neg (fun h9 => h9.elim h_g.2.2.1 (fun h8 => h8.elim h_g.2.2.2.1 h_g.2.2.2.2)), ← ei, ← ea, eab, ebe, exa]⟩ hE hK 63 1 (Nat.le_refl _) (by omega) (fun F T _ _ => by omega) (by omega) _ _ _ hM hS (lv_sub hl [2, 4, 5, 6, 7, 1, 0] rfl)
      · have hc1 : ¬ (fFell u x sp ab1 be1).1 = 0 := fun h9 => by rw [e_g, zBo_t (by rw [h9]; rfl)] at c_98; exact absurd c_98 (by decide)
        refine lv_iconst (v := 0) hx hb d_Mo_felling_101 (by decide) ?_
        exact x_ri hE rfl hM hS ⟨⟨_, e_M⟩, fun h9 => absurd h9 hc1⟩ (by decide) (by decide) d_Mo_felling_102
    · refine lv_iload hx hb d_Mo_felling_64 (lv_at hl 1 rfl) ?_
      refine lv_if_eq (tgt := 92) hx hb d_Mo_felling_66 (by decide) (fun c_66 => ?_) (fun c_66 => ?_)
      · refine lv_iconst (v := 0) hx hb d_Mo_felling_92 (by decide) ?_
        exact hjn _ _ _ (zBo_f (fun h9 => zBo_ne.mpr h9.1 c_66)).symm hM hS
      · obtain ⟨i, ei, hi, exi⟩ := z_in (zBo_ne.mp c_66) (by have := hO.2.2.1; omega)
        refine lv_aload_n hx hb d_Mo_felling_69 rfl (lv_at hl 2 rfl) ?_
        refine x_get (C := R_Mo) (T := F_Mo) (N := 20) hx hb hw i_Mo hown hK.1 hM (id ho) rfl 6 (by decide) (hw _ kw_529) rfl rfl d_Mo_felling_70 ?_
        refine lv_iload hx hb d_Mo_felling_73 (lv_at hl 1 rfl) ?_
        refine lv_if_eq (tgt := 82) hx hb d_Mo_felling_75 (by decide) (fun c_75 => ?_) (fun c_75 => ?_)
        · exact absurd c_75 c_66
        · refine lv_iload_n hx hb d_Mo_felling_78 rfl (lv_at hl 3 rfl) ?_
          refine lv_goto (tgt := 83) hx hb d_Mo_felling_79 (by decide) ?_
          refine x_iald hx hb hK.1 hM hA.2.2.2.1 0 rfl exi (by have := hO.2.2.1; omega) (by decide) d_Mo_felling_83 ?_
          refine lv_topi (fun tv etv => ?_)
          have etv : tv = zst u i := by rw [etv]; exact (hX.2.1 i hi).2.2
          subst etv
          refine lv_iconst (v := (-1)) hx hb d_Mo_felling_84 (by decide) ?_
          refine lv_icmp_eq (tgt := 92) hx hb d_Mo_felling_85 (by decide) (fun c_85 => ?_) (fun c_85 => ?_)
          · refine lv_iconst (v := 0) hx hb d_Mo_felling_92 (by decide) ?_
            exact hjn _ _ _ (zBo_f (fun h9 => h9.2 (by rw [← ei]; exact c_85))).symm hM hS
          · refine lv_iconst (v := 1) hx hb d_Mo_felling_88 (by decide) ?_
            refine lv_goto (tgt := 93) hx hb d_Mo_felling_89 (by decide) ?_
            exact hjn _ _ _ (zBo_t ⟨zBo_ne.mp c_66, by rw [← ei]; exact c_85⟩).symm hM hS
  · refine lv_iload hx hb d_Mo_felling_7 (lv_at hl 0 rfl) ?_
    refine lv_if_eq (tgt := 58) hx hb d_Mo_felling_9 (by decide) (fun c_9 => ?_) (fun c_9 => ?_)
    · refine lv_iconst (v := 0) hx hb d_Mo_felling_58 (by decide) ?_
      exact hjn _ _ _ (zBo_f (fun h9 => zBo_ne.mpr h9.1 c_9)).symm hM hS
    · obtain ⟨i, ei, hi, exi⟩ := z_in (zBo_ne.mp c_9) (by have := hO.2.2.1; omega)
      refine lv_iload_n hx hb d_Mo_felling_12 rfl (lv_at hl 3 rfl) ?_
      refine lv_iconst (v := 0) hx hb d_Mo_felling_13 (by decide) ?_
      refine lv_aload_n hx hb d_Mo_felling_14 rfl (lv_at hl 1 rfl) ?_
      refine x_get (C := R_Mo) (T := F_Mo) (N := 20) hx hb hw i_Mo hown hK.1 hM (id ho) rfl 4 (by decide) (hw _ kw_527) rfl rfl d_Mo_felling_15 ?_
      refine lv_iload hx hb d_Mo_felling_18 (lv_at hl 0 rfl) ?_
      refine lv_if_eq (tgt := 27) hx hb d_Mo_felling_20 (by decide) (fun c_20 => ?_) (fun c_20 => ?_)
      · exact absurd c_20 c_9
      · refine lv_iload_n hx hb d_Mo_felling_23 rfl (lv_at hl 2 rfl) ?_
        refine lv_goto (tgt := 28) hx hb d_Mo_felling_24 (by decide) ?_
        refine x_iald hx hb hK.1 hM hA.2.1 0 rfl exi (by have := hO.2.2.1; omega) (by decide) d_Mo_felling_28 ?_
        refine lv_topi (fun tv etv => ?_)
        have etv : tv = nI (zln u i) := by rw [etv]; exact (hX.2.1 i hi).1
        subst etv
        refine x_ci (x_runS (As := [.int sp, .int 0, .int (nI (zln u i))]) (rest := []) hE hK hM hl.1 (c_Mo_within l G M sp 0 (nI (zln u i))) kw_592 kw_593 kw_4 kw_594 3 rfl rfl rfl (by decide +kernel) ⟨by decide, by decide⟩ rfl (Nat.le_of_ble_eq_true rfl) d_Mo_felling_29 ⟨by decide, by decide⟩) hS (fun r2 M1 H locs hp hM hS => ?_)
        obtain ⟨e_w, e_M0⟩ := hp
        have hM : xh G M H := e_M0 ▸ hM
        subst e_w
        refine lv_if_eq (tgt := 58) hx hb d_Mo_felling_32 (by decide) (fun c_32 => ?_) (fun c_32 => ?_)
        · refine lv_iconst (v := 0) hx hb d_Mo_felling_58 (by decide) ?_
          exact hjn _ _ _ (zBo_f (fun h9 => zBo_ne.mpr (by rw [ei]; exact h9.2.1) c_32)).symm hM hS
        · refine lv_iload_n hx hb d_Mo_felling_35 rfl (lv_at hl 4 rfl) ?_
          refine lv_iconst (v := 1) hx hb d_Mo_felling_36 (by decide) ?_
          refine lv_icmp_lt (tgt := 58) hx hb d_Mo_felling_37 (by decide) (fun c_37 => ?_) (fun c_37 => ?_)
          · refine lv_iconst (v := 0) hx hb d_Mo_felling_58 (by decide) ?_
            exact hjn _ _ _ (zBo_f (fun h9 => h9.2.2.1 c_37)).symm hM hS
          · refine lv_iload_n hx hb d_Mo_felling_40 rfl (lv_at hl 4 rfl) ?_
            refine lv_iload hx hb d_Mo_felling_41 (lv_at hl 5 rfl) ?_
            refine lv_icmp_gt (tgt := 58) hx hb d_Mo_felling_43 (by decide) (fun c_43 => ?_) (fun c_43 => ?_)
            · refine lv_iconst (v := 0) hx hb d_Mo_felling_58 (by decide) ?_
              exact hjn _ _ _ (zBo_f (fun h9 => h9.2.2.2.1 c_43)).symm hM hS
            · refine lv_iload hx hb d_Mo_felling_46 (lv_at hl 5 rfl) ?_
              refine lv_sipush (v := 1000) hx hb d_Mo_felling_48 (by decide) ?_
              refine lv_icmp_gt (tgt := 58) hx hb d_Mo_felling_51 (by decide) (fun c_51 => ?_) (fun c_51 => ?_)
              · refine lv_iconst (v := 0) hx hb d_Mo_felling_58 (by decide) ?_
                exact hjn _ _ _ (zBo_f (fun h9 => h9.2.2.2.2 c_51)).symm hM hS
              · refine lv_iconst (v := 1) hx hb d_Mo_felling_54 (by decide) ?_
                refine lv_goto (tgt := 59) hx hb d_Mo_felling_55 (by decide) ?_
                exact hjn _ _ _ (zBo_t ⟨zBo_ne.mp c_9, by rw [← ei]; exact zBo_ne.mp c_32, c_37, c_43, c_51⟩).symm hM hS
