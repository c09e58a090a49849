set_option maxHeartbeats 4000000 in
set_option maxRecDepth 100000 in
theorem lc_ring {p : Program} {l : Launch} {e : Env} {s : State} {m : MethodId} {below : List Frame} {meth : Method} {c : Code} {G : xG} {b L : Nat} {xs : Nat → Int32} {Q : State → Prop} (hst : l.stackTraces = false) (hE : xE p s m #[Value.ref b] meth c code ret 7 R_L) (hK : KX G s) (hX : va_X b L xs s s.heap) (hbl : b < s.heap.size) (hbA : ¬ xF G b) (hL : L ≤ 2560) (t : Nat) (ht : 5 * t + 5 ≤ L) (ob og : Nat) (bd : Nat → Nat) (u : zS) (M : xM) (hI : LI G M ob og bd u) (kk : ∀ (M2 : xM) (u2 : zS), LI G M2 ob og bd u2 → ∀ (H : Heap) (locs : List Loc) (ls : Array Slot), xh G M2 H → va_S (xF G) s.heap H locs → lv_has ls 7 [(0, .ref b), (1, .ref ob), (2, .ref (bd 100)), (3, .ref og), (4, .int (nI (5 * t)))] → W p l e room_1 s m #[Value.ref b] below meth c H locs (36 + 5 * t) (1813 + 1100 * t) Q (F0 m 1326 ls [])) {H : Heap} {locs : List Loc} {ls : Array Slot} (hM : xh G M H) (hS : va_S (xF G) s.heap H locs) (hl : lv_has ls 7 [(0, .ref b), (1, .ref ob), (2, .ref (bd 100)), (3, .ref og), (4, .int (nI (5 * t)))]) : W p l e room_1 s m #[Value.ref b] below meth c H locs (31 + 5 * t) (713 + 1100 * t) Q (F0 m 120 ls []) := by
  obtain ⟨hx, hb, hr, hml, hown, hw, hlocks⟩ := id hE
  obtain ⟨hO, ⟨ad, rfl, hC, hs⟩, ⟨th, hD⟩, fo, hg⟩ := hI
  have hlt : (fRing u (xs (5 * t + 1))).1 < 2 ^ 31 := by
    unfold fRing
    repeat' split
    all_goals exact Nat.le_of_ble_eq_true rfl
  refine lv_aload_n hx hb d_L_law_120 rfl (lv_at hl 1 rfl) ?_
  refine lv_aload_n hx hb d_L_law_121 rfl (lv_at hl 0 rfl) ?_
  refine lv_iload hx hb d_L_law_122 (lv_at hl 4 rfl) ?_
  refine lv_iconst (v := 1) hx hb d_L_law_124 (by decide) ?_
  refine lv_iadd hx hb d_L_law_125 ?_
  refine x_sld hx hb hX hbl hbA hS (j := 5 * t + 1) (nI_add (5 * t) 1) (by omega) (by omega) d_L_law_126 ?_
  refine lv_aload_n hx hb d_L_law_127 rfl (lv_at hl 3 rfl) ?_
  refine x_ci (x_runSW (As := [.ref (ad 0), .int (xs (5 * t + 1)), .ref og]) (rest := []) hE hK hM hl.1 (c_L_ring l G M hst ad u hC hO hs og fo hg (xs (5 * t + 1))) kw_102 kw_103 kw_0 kw_104 3 rfl rfl rfl (by decide +kernel) ⟨by decide, by decide⟩ rfl (Nat.le_of_ble_eq_true rfl) d_L_law_128 ⟨Nat.le_trans (show _ ≤ 3000 by omega) rm_c, Nat.le_trans (show _ ≤ 600000 by omega) rm_s⟩) hS (fun k9 M1 H locs hp1 hM hS => ?_)
  obtain ⟨Ma, eMa⟩ : ∃ zz9 : xM, zz9 = M1 := ⟨_, rfl⟩
  subst eMa
  have hxH : xH M Ma := by
    by_cases h9 : (fRing u (xs (5 * t + 1))).1 = 0
    · exact (hp1.1 h9).2.2.1
    · exact (hp1.2 h9).2.2.1
  obtain ⟨q1, X1, ho1, hA1, hX1, hms1⟩ := hD.k hxH
  refine lv_istore (lv' := [(5, .int k9), (0, .ref b), (1, .ref (ad 0)), (2, .ref (bd 100)), (3, .ref og), (4, .int (nI (5 * t)))]) hx hb d_L_law_131 hl (by decide) rfl (fun ls hl => ?_)
  refine lv_aload_n hx hb d_L_law_133 rfl (lv_at hl 3 rfl) ?_
  refine lv_aload_n hx hb d_L_law_134 rfl (lv_at hl 1 rfl) ?_
  refine lv_iload hx hb d_L_law_135 (lv_at hl 5 rfl) ?_
  refine lv_iconst (v := 1) hx hb d_L_law_137 (by decide) ?_
  refine lv_iadd hx hb d_L_law_138 ?_
  refine x_sld hx hb hX hbl hbA hS (j := 5 * t + 1) (nI_add (5 * t) 1) (by omega) (by omega) d_L_law_139 ?_
  refine x_ci (x_runV (As := [.int (xs (5 * t + 1))]) (rest := []) hE hK hM hl.1 (c_Mo_ring l G Ma bd u th q1 ho1 X1 hA1 hX1 hO (xs (5 * t + 1))) ho1 rfl kw_588 kw_589 kw_590 kw_4 kw_591 1 rfl rfl rfl (by decide +kernel) ⟨by decide, by decide⟩ rfl (Nat.le_of_ble_eq_true rfl) d_L_law_140 ⟨Nat.le_trans (show _ ≤ 3000 by omega) rm_c, Nat.le_trans (show _ ≤ 600000 by omega) rm_s⟩) hS (fun r1 M1 H locs hp hM hS => ?_)
  obtain ⟨Mb, eMb⟩ : ∃ zz9 : xM, zz9 = M1 := ⟨_, rfl⟩
  subst eMb
  have hJ : ∃ u1 : zS, LJ G Mb (ad 0) og bd u1 (fRing u (xs (5 * t + 1))) k9 r1 := by
    by_cases h9 : (fRing u (xs (5 * t + 1))).1 = 0
    · exact ⟨uRing u (xs (5 * t + 1)), LJ.of (hp1.1 h9) (hO.r1 h9) ((hp.1 h9).D hms1)⟩
    · exact ⟨u, LJ.of (hp1.2 h9) hO ((hp.2 h9).D hms1)⟩
  obtain ⟨u1, hJ⟩ := hJ
  obtain ⟨-, hk9, -, ⟨q2, X2, ho2, -⟩, hv9, fo2, hg2, hf9⟩ := id hJ
  refine lv_istore (lv' := [(6, .int r1), (5, .int k9), (0, .ref b), (1, .ref (ad 0)), (2, .ref (bd 100)), (3, .ref og), (4, .int (nI (5 * t)))]) hx hb d_L_law_143 hl (by decide) rfl (fun ls hl => ?_)
  refine lv_aload_n hx hb d_L_law_145 rfl (lv_at hl 4 rfl) ?_
  refine x_ci (x_runV (As := []) (rest := []) hE hK hM hl.1 (c_Mo_thrown l G Mb bd u1 (nI (fRing u (xs (5 * t + 1))).1) q2 ho2) ho2 rfl kw_584 kw_585 kw_586 kw_4 kw_587 0 rfl rfl rfl (by decide +kernel) ⟨by decide, by decide⟩ rfl (Nat.le_of_ble_eq_true rfl) d_L_law_146 ⟨Nat.le_trans (show _ ≤ 3000 by omega) rm_c, Nat.le_trans (show _ ≤ 600000 by omega) rm_s⟩) hS (fun r2 M1 H locs hp hM hS => ?_)
  obtain ⟨e_t, e_M⟩ := hp
  have hM : xh G Mb H := e_M ▸ hM
  refine lv_iload hx hb d_L_law_149 (lv_at hl 1 rfl) ?_
  refine lv_icmp_eq (tgt := 156) hx hb d_L_law_151 (by decide) (fun c_151 => ?_) (fun c_151 => ?_)
  · refine lv_iload hx hb d_L_law_156 (lv_at hl 1 rfl) ?_
    refine lv_if_ne (tgt := 173) hx hb d_L_law_158 (by decide) (fun c_158 => ?_) (fun c_158 => ?_)
    · refine lv_goto (tgt := 1326) hx hb d_L_law_173 (by decide) ?_
      refine W.widen (k := 36 + 5 * t) (n := 1813 + 1100 * t) (by omega) (by omega) ?_
      exact kk Mb u1 hJ.I _ _ _ hM hS (lv_sub hl [2, 3, 4, 5, 6] rfl)
    · have hf0 : (fRing u (xs (5 * t + 1))).1 = 0 := (nI_eq (b := 0) hlt (by decide)).mp (hk9.symm.trans c_158)
      refine lv_aload_n hx hb d_L_law_161 rfl (lv_at hl 5 rfl) ?_
      refine lv_iconst (v := 0) hx hb d_L_law_162 (by decide) ?_
      refine x_lald hx hb hK.1 hM hg2 1 rfl (show (0 : Int32) = nI 0 from rfl) (by decide) (by decide) d_L_law_163 ?_
      refine lv_iload hx hb d_L_law_164 (lv_at hl 0 rfl) ?_
      refine lv_i2l (v := r1.toInt64) hx hb d_L_law_166 rfl ?_
      refine W.lcmp hx hb d_L_law_167 ?_
      refine lv_if_eq (tgt := 173) hx hb d_L_law_168 (by decide) (fun c_168 => ?_) (fun c_168 => ?_)
      · refine lv_goto (tgt := 1326) hx hb d_L_law_173 (by decide) ?_
        refine W.widen (k := 36 + 5 * t) (n := 1813 + 1100 * t) (by omega) (by omega) ?_
        exact kk Mb u1 hJ.I _ _ _ hM hS (lv_sub hl [2, 3, 4, 5, 6] rfl)
      · exact absurd (by rw [hf9 hf0, hv9 hf0]; exact lg_same _) c_168
  · exact absurd (e_t.trans hk9.symm) c_151

set_option maxHeartbeats 4000000 in
set_option maxRecDepth 100000 in
theorem lc_series {p : Program} {l : Launch} {e : Env} {s : State} {m : MethodId} {below : List Frame} {meth : Method} {c : Code} {G : xG} {b L : Nat} {xs : Nat → Int32} {Q : State → Prop} (hst : l.stackTraces = false) (hE : xE p s m #[Value.ref b] meth c code ret 7 R_L) (hK : KX G s) (hX : va_X b L xs s s.heap) (hbl : b < s.heap.size) (hbA : ¬ xF G b) (hL : L ≤ 2560) (t : Nat) (ht : 5 * t + 5 ≤ L) (ob og : Nat) (bd : Nat → Nat) (u : zS) (M : xM) (hI : LI G M ob og bd u) (kk : ∀ (M2 : xM) (u2 : zS), LI G M2 ob og bd u2 → ∀ (H : Heap) (locs : List Loc) (ls : Array Slot), xh G M2 H → va_S (xF G) s.heap H locs → lv_has ls 7 [(0, .ref b), (1, .ref ob), (2, .ref (bd 100)), (3, .ref og), (4, .int (nI (5 * t)))] → W p l e room_1 s m #[Value.ref b] below meth c H locs (36 + 5 * t) (1813 + 1100 * t) Q (F0 m 1326 ls [])) {H : Heap} {locs : List Loc} {ls : Array Slot} (hM : xh G M H) (hS : va_S (xF G) s.heap H locs) (hl : lv_has ls 7 [(0, .ref b), (1, .ref ob), (2, .ref (bd 100)), (3, .ref og), (4, .int (nI (5 * t)))]) : W p l e room_1 s m #[Value.ref b] below meth c H locs (31 + 5 * t) (713 + 1100 * t) Q (F0 m 176 ls []) := by
  obtain ⟨hx, hb, hr, hml, hown, hw, hlocks⟩ := id hE
  obtain ⟨hO, ⟨ad, rfl, hC, hs⟩, ⟨th, hD⟩, fo, hg⟩ := hI
  have hlt : (fSer u).1 < 2 ^ 31 := by
    unfold fSer
    repeat' split
    all_goals exact Nat.le_of_ble_eq_true rfl
  refine lv_aload_n hx hb d_L_law_176 rfl (lv_at hl 1 rfl) ?_
  refine lv_aload_n hx hb d_L_law_177 rfl (lv_at hl 3 rfl) ?_
  refine x_ci (x_runSW (As := [.ref (ad 0), .ref og]) (rest := []) hE hK hM hl.1 (c_L_series l G M hst ad u hC hO hs og fo hg) kw_195 kw_196 kw_0 kw_197 2 rfl rfl rfl (by decide +kernel) ⟨by decide, by decide⟩ rfl (Nat.le_of_ble_eq_true rfl) d_L_law_178 ⟨Nat.le_trans (show _ ≤ 3000 by omega) rm_c, Nat.le_trans (show _ ≤ 600000 by omega) rm_s⟩) hS (fun k9 M1 H locs hp1 hM hS => ?_)
  obtain ⟨Ma, eMa⟩ : ∃ zz9 : xM, zz9 = M1 := ⟨_, rfl⟩
  subst eMa
  have hxH : xH M Ma := by
    by_cases h9 : (fSer u).1 = 0
    · by_cases h8 : zpn u < 3
      · exact (hp1.1 h9 h8).2.2.1
      · obtain ⟨F, hF, hq⟩ := hp1.2.1 h9 (by omega)
        exact hq.2.2.1
    · exact (hp1.2.2 h9).2.2.1
  obtain ⟨q1, X1, ho1, hA1, hX1, hms1⟩ := hD.k hxH
  refine lv_istore (lv' := [(5, .int k9), (0, .ref b), (1, .ref (ad 0)), (2, .ref (bd 100)), (3, .ref og), (4, .int (nI (5 * t)))]) hx hb d_L_law_181 hl (by decide) rfl (fun ls hl => ?_)
  refine lv_aload_n hx hb d_L_law_183 rfl (lv_at hl 3 rfl) ?_
  refine x_ci (x_runV (As := []) (rest := []) hE hK hM hl.1 (c_Mo_series l G Ma bd u th q1 ho1 X1 hA1 hX1 hO) ho1 rfl kw_599 kw_600 kw_601 kw_4 kw_602 0 rfl rfl rfl (by decide +kernel) ⟨by decide, by decide⟩ rfl (Nat.le_of_ble_eq_true rfl) d_L_law_184 ⟨Nat.le_trans (show _ ≤ 3000 by omega) rm_c, Nat.le_trans (show _ ≤ 600000 by omega) rm_s⟩) hS (fun r1 M1 H locs hp hM hS => ?_)
  obtain ⟨Mb, eMb⟩ : ∃ zz9 : xM, zz9 = M1 := ⟨_, rfl⟩
  subst eMb
  have hJ : ∃ u1 : zS, LJ G Mb (ad 0) og bd u1 (fSer u) k9 r1 := by
    by_cases h9 : (fSer u).1 = 0
    · by_cases h8 : zpn u < 3
      · exact ⟨u, LJ.of (hp1.1 h9 h8) hO ((hp.1 h9 h8).D hms1)⟩
      · obtain ⟨F, hF, hq⟩ := hp1.2.1 h9 (by omega)
        exact ⟨uSer u F, LJ.of hq (hO.ser (fSer_r h9) (by omega) hF) ((hp.2.1 h9 (by omega) F hF).D hms1)⟩
    · exact ⟨u, LJ.of (hp1.2.2 h9) hO ((hp.2.2 h9).D hms1)⟩
  obtain ⟨u1, hJ⟩ := hJ
  obtain ⟨-, hk9, -, ⟨q2, X2, ho2, -⟩, hv9, fo2, hg2, hf9⟩ := id hJ
  refine lv_istore (lv' := [(6, .int r1), (5, .int k9), (0, .ref b), (1, .ref (ad 0)), (2, .ref (bd 100)), (3, .ref og), (4, .int (nI (5 * t)))]) hx hb d_L_law_187 hl (by decide) rfl (fun ls hl => ?_)
  refine lv_aload_n hx hb d_L_law_189 rfl (lv_at hl 4 rfl) ?_
  refine x_ci (x_runV (As := []) (rest := []) hE hK hM hl.1 (c_Mo_thrown l G Mb bd u1 (nI (fSer u).1) q2 ho2) ho2 rfl kw_584 kw_585 kw_586 kw_4 kw_587 0 rfl rfl rfl (by decide +kernel) ⟨by decide, by decide⟩ rfl (Nat.le_of_ble_eq_true rfl) d_L_law_190 ⟨Nat.le_trans (show _ ≤ 3000 by omega) rm_c, Nat.le_trans (show _ ≤ 600000 by omega) rm_s⟩) hS (fun r2 M1 H locs hp hM hS => ?_)
  obtain ⟨e_t, e_M⟩ := hp
  have hM : xh G Mb H := e_M ▸ hM
  refine lv_iload hx hb d_L_law_193 (lv_at hl 1 rfl) ?_
  refine lv_icmp_eq (tgt := 200) hx hb d_L_law_195 (by decide) (fun c_195 => ?_) (fun c_195 => ?_)
  · refine lv_iload hx hb d_L_law_200 (lv_at hl 1 rfl) ?_
    refine lv_if_ne (tgt := 217) hx hb d_L_law_202 (by decide) (fun c_202 => ?_) (fun c_202 => ?_)
    · refine lv_goto (tgt := 1326) hx hb d_L_law_217 (by decide) ?_
      refine W.widen (k := 36 + 5 * t) (n := 1813 + 1100 * t) (by omega) (by omega) ?_
      exact kk Mb u1 hJ.I _ _ _ hM hS (lv_sub hl [2, 3, 4, 5, 6] rfl)
    · have hf0 : (fSer u).1 = 0 := (nI_eq (b := 0) hlt (by decide)).mp (hk9.symm.trans c_202)
      refine lv_aload_n hx hb d_L_law_205 rfl (lv_at hl 5 rfl) ?_
      refine lv_iconst (v := 0) hx hb d_L_law_206 (by decide) ?_
      refine x_lald hx hb hK.1 hM hg2 1 rfl (show (0 : Int32) = nI 0 from rfl) (by decide) (by decide) d_L_law_207 ?_
      refine lv_iload hx hb d_L_law_208 (lv_at hl 0 rfl) ?_
      refine lv_i2l (v := r1.toInt64) hx hb d_L_law_210 rfl ?_
      refine W.lcmp hx hb d_L_law_211 ?_
      refine lv_if_eq (tgt := 217) hx hb d_L_law_212 (by decide) (fun c_212 => ?_) (fun c_212 => ?_)
      · refine lv_goto (tgt := 1326) hx hb d_L_law_217 (by decide) ?_
        refine W.widen (k := 36 + 5 * t) (n := 1813 + 1100 * t) (by omega) (by omega) ?_
        exact kk Mb u1 hJ.I _ _ _ hM hS (lv_sub hl [2, 3, 4, 5, 6] rfl)
      · exact absurd (by rw [hf9 hf0, hv9 hf0]; exact lg_same _) c_212
  · exact absurd (e_t.trans hk9.symm) c_195

set_option maxHeartbeats 4000000 in
set_option maxRecDepth 100000 in
theorem lc_evened {p : Program} {l : Launch} {e : Env} {s : State} {m : MethodId} {below : List Frame} {meth : Method} {c : Code} {G : xG} {b L : Nat} {xs : Nat → Int32} {Q : State → Prop} (hst : l.stackTraces = false) (hE : xE p s m #[Value.ref b] meth c code ret 7 R_L) (hK : KX G s) (hX : va_X b L xs s s.heap) (hbl : b < s.heap.size) (hbA : ¬ xF G b) (hL : L ≤ 2560) (t : Nat) (ht : 5 * t + 5 ≤ L) (ob og : Nat) (bd : Nat → Nat) (u : zS) (M : xM) (hI : LI G M ob og bd u) (kk : ∀ (M2 : xM) (u2 : zS), LI G M2 ob og bd u2 → ∀ (H : Heap) (locs : List Loc) (ls : Array Slot), xh G M2 H → va_S (xF G) s.heap H locs → lv_has ls 7 [(0, .ref b), (1, .ref ob), (2, .ref (bd 100)), (3, .ref og), (4, .int (nI (5 * t)))] → W p l e room_1 s m #[Value.ref b] below meth c H locs (36 + 5 * t) (1813 + 1100 * t) Q (F0 m 1326 ls [])) {H : Heap} {locs : List Loc} {ls : Array Slot} (hM : xh G M H) (hS : va_S (xF G) s.heap H locs) (hl : lv_has ls 7 [(0, .ref b), (1, .ref ob), (2, .ref (bd 100)), (3, .ref og), (4, .int (nI (5 * t)))]) : W p l e room_1 s m #[Value.ref b] below meth c H locs (31 + 5 * t) (713 + 1100 * t) Q (F0 m 220 ls []) := by
  obtain ⟨hx, hb, hr, hml, hown, hw, hlocks⟩ := id hE
  obtain ⟨hO, ⟨ad, rfl, hC, hs⟩, ⟨th, hD⟩, fo, hg⟩ := hI
  have hlt : (fEvened u (xs (5 * t + 1)) (xs (5 * t + 2))).1 < 2 ^ 31 := by
    unfold fEvened
    repeat' split
    all_goals exact Nat.le_of_ble_eq_true rfl
  refine lv_aload_n hx hb d_L_law_220 rfl (lv_at hl 1 rfl) ?_
  refine lv_aload_n hx hb d_L_law_221 rfl (lv_at hl 0 rfl) ?_
  refine lv_iload hx hb d_L_law_222 (lv_at hl 4 rfl) ?_
  refine lv_iconst (v := 1) hx hb d_L_law_224 (by decide) ?_
  refine lv_iadd hx hb d_L_law_225 ?_
  refine x_sld hx hb hX hbl hbA hS (j := 5 * t + 1) (nI_add (5 * t) 1) (by omega) (by omega) d_L_law_226 ?_
  refine lv_aload_n hx hb d_L_law_227 rfl (lv_at hl 0 rfl) ?_
  refine lv_iload hx hb d_L_law_228 (lv_at hl 4 rfl) ?_
  refine lv_iconst (v := 2) hx hb d_L_law_230 (by decide) ?_
  refine lv_iadd hx hb d_L_law_231 ?_
  refine x_sld hx hb hX hbl hbA hS (j := 5 * t + 2) (nI_add (5 * t) 2) (by omega) (by omega) d_L_law_232 ?_
  refine lv_aload_n hx hb d_L_law_233 rfl (lv_at hl 3 rfl) ?_
  refine x_ci (x_runSW (As := [.ref (ad 0), .int (xs (5 * t + 1)), .int (xs (5 * t + 2)), .ref og]) (rest := []) hE hK hM hl.1 (c_L_evened l G M hst ad u hC hO hs og fo hg (xs (5 * t + 1)) (xs (5 * t + 2))) kw_224 kw_225 kw_0 kw_226 4 rfl rfl rfl (by decide +kernel) ⟨by decide, by decide⟩ rfl (Nat.le_of_ble_eq_true rfl) d_L_law_234 ⟨Nat.le_trans (show _ ≤ 3000 by omega) rm_c, Nat.le_trans (show _ ≤ 600000 by omega) rm_s⟩) hS (fun k9 M1 H locs hp1 hM hS => ?_)
  obtain ⟨Ma, eMa⟩ : ∃ zz9 : xM, zz9 = M1 := ⟨_, rfl⟩
  subst eMa
  have hxH := hp1.2.2.1
  obtain ⟨q1, X1, ho1, hA1, hX1, hms1⟩ := hD.k hxH
  refine lv_istore (lv' := [(5, .int k9), (0, .ref b), (1, .ref (ad 0)), (2, .ref (bd 100)), (3, .ref og), (4, .int (nI (5 * t)))]) hx hb d_L_law_237 hl (by decide) rfl (fun ls hl => ?_)
  refine lv_aload_n hx hb d_L_law_239 rfl (lv_at hl 3 rfl) ?_
  refine lv_aload_n hx hb d_L_law_240 rfl (lv_at hl 1 rfl) ?_
  refine lv_iload hx hb d_L_law_241 (lv_at hl 5 rfl) ?_
  refine lv_iconst (v := 1) hx hb d_L_law_243 (by decide) ?_
  refine lv_iadd hx hb d_L_law_244 ?_
  refine x_sld hx hb hX hbl hbA hS (j := 5 * t + 1) (nI_add (5 * t) 1) (by omega) (by omega) d_L_law_245 ?_
  refine lv_aload_n hx hb d_L_law_246 rfl (lv_at hl 1 rfl) ?_
  refine lv_iload hx hb d_L_law_247 (lv_at hl 5 rfl) ?_
  refine lv_iconst (v := 2) hx hb d_L_law_249 (by decide) ?_
  refine lv_iadd hx hb d_L_law_250 ?_
  refine x_sld hx hb hX hbl hbA hS (j := 5 * t + 2) (nI_add (5 * t) 2) (by omega) (by omega) d_L_law_251 ?_
  refine x_ci (x_runV (As := [.int (xs (5 * t + 1)), .int (xs (5 * t + 2))]) (rest := []) hE hK hM hl.1 (c_Mo_evened l G Ma bd u th q1 ho1 X1 hA1 hX1 hO (xs (5 * t + 1)) (xs (5 * t + 2))) ho1 rfl kw_603 kw_604 kw_605 kw_4 kw_606 2 rfl rfl rfl (by decide +kernel) ⟨by decide, by decide⟩ rfl (Nat.le_of_ble_eq_true rfl) d_L_law_252 ⟨Nat.le_trans (show _ ≤ 3000 by omega) rm_c, Nat.le_trans (show _ ≤ 600000 by omega) rm_s⟩) hS (fun r1 M1 H locs hp hM hS => ?_)
  obtain ⟨Mb, eMb⟩ : ∃ zz9 : xM, zz9 = M1 := ⟨_, rfl⟩
  subst eMb
  have hJ : ∃ u1 : zS, LJ G Mb (ad 0) og bd u1 (fEvened u (xs (5 * t + 1)) (xs (5 * t + 2))) k9 r1 := ⟨u, LJ.of hp1 hO ((MoPost.U hp ho1 hA1 hX1).D hms1)⟩
  obtain ⟨u1, hJ⟩ := hJ
  obtain ⟨-, hk9, -, ⟨q2, X2, ho2, -⟩, hv9, fo2, hg2, hf9⟩ := id hJ
  refine lv_istore (lv' := [(6, .int r1), (5, .int k9), (0, .ref b), (1, .ref (ad 0)), (2, .ref (bd 100)), (3, .ref og), (4, .int (nI (5 * t)))]) hx hb d_L_law_255 hl (by decide) rfl (fun ls hl => ?_)
  refine lv_aload_n hx hb d_L_law_257 rfl (lv_at hl 4 rfl) ?_
  refine x_ci (x_runV (As := []) (rest := []) hE hK hM hl.1 (c_Mo_thrown l G Mb bd u1 (nI (fEvened u (xs (5 * t + 1)) (xs (5 * t + 2))).1) q2 ho2) ho2 rfl kw_584 kw_585 kw_586 kw_4 kw_587 0 rfl rfl rfl (by decide +kernel) ⟨by decide, by decide⟩ rfl (Nat.le_of_ble_eq_true rfl) d_L_law_258 ⟨Nat.le_trans (show _ ≤ 3000 by omega) rm_c, Nat.le_trans (show _ ≤ 600000 by omega) rm_s⟩) hS (fun r2 M1 H locs hp hM hS => ?_)
  obtain ⟨e_t, e_M⟩ := hp
  have hM : xh G Mb H := e_M ▸ hM
  refine lv_iload hx hb d_L_law_261 (lv_at hl 1 rfl) ?_
  refine lv_icmp_eq (tgt := 268) hx hb d_L_law_263 (by decide) (fun c_263 => ?_) (fun c_263 => ?_)
  · refine lv_iload hx hb d_L_law_268 (lv_at hl 1 rfl) ?_
    refine lv_if_ne (tgt := 285) hx hb d_L_law_270 (by decide) (fun c_270 => ?_) (fun c_270 => ?_)
    · refine lv_goto (tgt := 1326) hx hb d_L_law_285 (by decide) ?_
      refine W.widen (k := 36 + 5 * t) (n := 1813 + 1100 * t) (by omega) (by omega) ?_
      exact kk Mb u1 hJ.I _ _ _ hM hS (lv_sub hl [2, 3, 4, 5, 6] rfl)
    · have hf0 : (fEvened u (xs (5 * t + 1)) (xs (5 * t + 2))).1 = 0 := (nI_eq (b := 0) hlt (by decide)).mp (hk9.symm.trans c_270)
      refine lv_aload_n hx hb d_L_law_273 rfl (lv_at hl 5 rfl) ?_
      refine lv_iconst (v := 0) hx hb d_L_law_274 (by decide) ?_
      refine x_lald hx hb hK.1 hM hg2 1 rfl (show (0 : Int32) = nI 0 from rfl) (by decide) (by decide) d_L_law_275 ?_
      refine lv_iload hx hb d_L_law_276 (lv_at hl 0 rfl) ?_
      refine lv_i2l (v := r1.toInt64) hx hb d_L_law_278 rfl ?_
      refine W.lcmp hx hb d_L_law_279 ?_
      refine lv_if_eq (tgt := 285) hx hb d_L_law_280 (by decide) (fun c_280 => ?_) (fun c_280 => ?_)
      · refine lv_goto (tgt := 1326) hx hb d_L_law_285 (by decide) ?_
        refine W.widen (k := 36 + 5 * t) (n := 1813 + 1100 * t) (by omega) (by omega) ?_
        exact kk Mb u1 hJ.I _ _ _ hM hS (lv_sub hl [2, 3, 4, 5, 6] rfl)
      · exact absurd (by rw [hf9 hf0, hv9 hf0]; exact lg_same _) c_280
  · exact absurd (e_t.trans hk9.symm) c_263

set_option maxHeartbeats 4000000 in
set_option maxRecDepth 100000 in
theorem lc_place {p : Program} {l : Launch} {e : Env} {s : State} {m : MethodId} {below : List Frame} {meth : Method} {c : Code} {G : xG} {b L : Nat} {xs : Nat → Int32} {Q : State → Prop} (hst : l.stackTraces = false) (hE : xE p s m #[Value.ref b] meth c code ret 7 R_L) (hK : KX G s) (hX : va_X b L xs s s.heap) (hbl : b < s.heap.size) (hbA : ¬ xF G b) (hL : L ≤ 2560) (t : Nat) (ht : 5 * t + 5 ≤ L) (ob og : Nat) (bd : Nat → Nat) (u : zS) (M : xM) (hI : LI G M ob og bd u) (kk : ∀ (M2 : xM) (u2 : zS), LI G M2 ob og bd u2 → ∀ (H : Heap) (locs : List Loc) (ls : Array Slot), xh G M2 H → va_S (xF G) s.heap H locs → lv_has ls 7 [(0, .ref b), (1, .ref ob), (2, .ref (bd 100)), (3, .ref og), (4, .int (nI (5 * t)))] → W p l e room_1 s m #[Value.ref b] below meth c H locs (36 + 5 * t) (1813 + 1100 * t) Q (F0 m 1326 ls [])) {H : Heap} {locs : List Loc} {ls : Array Slot} (hM : xh G M H) (hS : va_S (xF G) s.heap H locs) (hl : lv_has ls 7 [(0, .ref b), (1, .ref ob), (2, .ref (bd 100)), (3, .ref og), (4, .int (nI (5 * t)))]) : W p l e room_1 s m #[Value.ref b] below meth c H locs (31 + 5 * t) (713 + 1100 * t) Q (F0 m 288 ls []) := by
  obtain ⟨hx, hb, hr, hml, hown, hw, hlocks⟩ := id hE
  obtain ⟨hO, ⟨ad, rfl, hC, hs⟩, ⟨th, hD⟩, fo, hg⟩ := hI
  have hlt : (fPlace u (xs (5 * t + 1)) (xs (5 * t + 2))).1 < 2 ^ 31 := by
    unfold fPlace
    repeat' split
    all_goals exact Nat.le_of_ble_eq_true rfl
  refine lv_aload_n hx hb d_L_law_288 rfl (lv_at hl 1 rfl) ?_
  refine lv_aload_n hx hb d_L_law_289 rfl (lv_at hl 0 rfl) ?_
  refine lv_iload hx hb d_L_law_290 (lv_at hl 4 rfl) ?_
  refine lv_iconst (v := 1) hx hb d_L_law_292 (by decide) ?_
  refine lv_iadd hx hb d_L_law_293 ?_
  refine x_sld hx hb hX hbl hbA hS (j := 5 * t + 1) (nI_add (5 * t) 1) (by omega) (by omega) d_L_law_294 ?_
  refine lv_aload_n hx hb d_L_law_295 rfl (lv_at hl 0 rfl) ?_
  refine lv_iload hx hb d_L_law_296 (lv_at hl 4 rfl) ?_
  refine lv_iconst (v := 2) hx hb d_L_law_298 (by decide) ?_
  refine lv_iadd hx hb d_L_law_299 ?_
  refine x_sld hx hb hX hbl hbA hS (j := 5 * t + 2) (nI_add (5 * t) 2) (by omega) (by omega) d_L_law_300 ?_
  refine lv_aload_n hx hb d_L_law_301 rfl (lv_at hl 3 rfl) ?_
  refine x_ci (x_runSW (As := [.ref (ad 0), .int (xs (5 * t + 1)), .int (xs (5 * t + 2)), .ref og]) (rest := []) hE hK hM hl.1 (c_L_place l G M hst ad u hC hO hs og fo hg (xs (5 * t + 1)) (xs (5 * t + 2))) kw_253 kw_254 kw_0 kw_255 4 rfl rfl rfl (by decide +kernel) ⟨by decide, by decide⟩ rfl (Nat.le_of_ble_eq_true rfl) d_L_law_302 ⟨Nat.le_trans (show _ ≤ 3000 by omega) rm_c, Nat.le_trans (show _ ≤ 600000 by omega) rm_s⟩) hS (fun k9 M1 H locs hp1 hM hS => ?_)
  obtain ⟨Ma, eMa⟩ : ∃ zz9 : xM, zz9 = M1 := ⟨_, rfl⟩
  subst eMa
  have hxH : xH M Ma := by
    by_cases h9 : (fPlace u (xs (5 * t + 1)) (xs (5 * t + 2))).1 = 0
    · exact (hp1.1 h9).2.2.1
    · exact (hp1.2 h9).2.2.1
  obtain ⟨q1, X1, ho1, hA1, hX1, hms1⟩ := hD.k hxH
  refine lv_istore (lv' := [(5, .int k9), (0, .ref b), (1, .ref (ad 0)), (2, .ref (bd 100)), (3, .ref og), (4, .int (nI (5 * t)))]) hx hb d_L_law_305 hl (by decide) rfl (fun ls hl => ?_)
  refine lv_aload_n hx hb d_L_law_307 rfl (lv_at hl 3 rfl) ?_
  refine lv_aload_n hx hb d_L_law_308 rfl (lv_at hl 1 rfl) ?_
  refine lv_iload hx hb d_L_law_309 (lv_at hl 5 rfl) ?_
  refine lv_iconst (v := 1) hx hb d_L_law_311 (by decide) ?_
  refine lv_iadd hx hb d_L_law_312 ?_
  refine x_sld hx hb hX hbl hbA hS (j := 5 * t + 1) (nI_add (5 * t) 1) (by omega) (by omega) d_L_law_313 ?_
  refine lv_aload_n hx hb d_L_law_314 rfl (lv_at hl 1 rfl) ?_
  refine lv_iload hx hb d_L_law_315 (lv_at hl 5 rfl) ?_
  refine lv_iconst (v := 2) hx hb d_L_law_317 (by decide) ?_
  refine lv_iadd hx hb d_L_law_318 ?_
  refine x_sld hx hb hX hbl hbA hS (j := 5 * t + 2) (nI_add (5 * t) 2) (by omega) (by omega) d_L_law_319 ?_
  refine x_ci (x_runV (As := [.int (xs (5 * t + 1)), .int (xs (5 * t + 2))]) (rest := []) hE hK hM hl.1 (c_Mo_place l G Ma bd u th q1 ho1 X1 hA1 hX1 hO (xs (5 * t + 1)) (xs (5 * t + 2))) ho1 rfl kw_615 kw_616 kw_617 kw_4 kw_618 2 rfl rfl rfl (by decide +kernel) ⟨by decide, by decide⟩ rfl (Nat.le_of_ble_eq_true rfl) d_L_law_320 ⟨Nat.le_trans (show _ ≤ 3000 by omega) rm_c, Nat.le_trans (show _ ≤ 600000 by omega) rm_s⟩) hS (fun r1 M1 H locs hp hM hS => ?_)
  obtain ⟨Mb, eMb⟩ : ∃ zz9 : xM, zz9 = M1 := ⟨_, rfl⟩
  subst eMb
  have hJ : ∃ u1 : zS, LJ G Mb (ad 0) og bd u1 (fPlace u (xs (5 * t + 1)) (xs (5 * t + 2))) k9 r1 := by
    by_cases h9 : (fPlace u (xs (5 * t + 1)) (xs (5 * t + 2))).1 = 0
    · exact ⟨uPlace u (xs (5 * t + 1)) (xs (5 * t + 2)), LJ.of (hp1.1 h9) (hO.r2 h9) ((hp.1 h9).D hms1)⟩
    · exact ⟨u, LJ.of (hp1.2 h9) hO ((hp.2 h9).D hms1)⟩
  obtain ⟨u1, hJ⟩ := hJ
  obtain ⟨-, hk9, -, ⟨q2, X2, ho2, -⟩, hv9, fo2, hg2, hf9⟩ := id hJ
  refine lv_istore (lv' := [(6, .int r1), (5, .int k9), (0, .ref b), (1, .ref (ad 0)), (2, .ref (bd 100)), (3, .ref og), (4, .int (nI (5 * t)))]) hx hb d_L_law_323 hl (by decide) rfl (fun ls hl => ?_)
  refine lv_aload_n hx hb d_L_law_325 rfl (lv_at hl 4 rfl) ?_
  refine x_ci (x_runV (As := []) (rest := []) hE hK hM hl.1 (c_Mo_thrown l G Mb bd u1 (nI (fPlace u (xs (5 * t + 1)) (xs (5 * t + 2))).1) q2 ho2) ho2 rfl kw_584 kw_585 kw_586 kw_4 kw_587 0 rfl rfl rfl (by decide +kernel) ⟨by decide, by decide⟩ rfl (Nat.le_of_ble_eq_true rfl) d_L_law_326 ⟨Nat.le_trans (show _ ≤ 3000 by omega) rm_c, Nat.le_trans (show _ ≤ 600000 by omega) rm_s⟩) hS (fun r2 M1 H locs hp hM hS => ?_)
  obtain ⟨e_t, e_M⟩ := hp
  have hM : xh G Mb H := e_M ▸ hM
  refine lv_iload hx hb d_L_law_329 (lv_at hl 1 rfl) ?_
  refine lv_icmp_eq (tgt := 336) hx hb d_L_law_331 (by decide) (fun c_331 => ?_) (fun c_331 => ?_)
  · refine lv_iload hx hb d_L_law_336 (lv_at hl 1 rfl) ?_
    refine lv_if_ne (tgt := 353) hx hb d_L_law_338 (by decide) (fun c_338 => ?_) (fun c_338 => ?_)
    · refine lv_goto (tgt := 1326) hx hb d_L_law_353 (by decide) ?_
      refine W.widen (k := 36 + 5 * t) (n := 1813 + 1100 * t) (by omega) (by omega) ?_
      exact kk Mb u1 hJ.I _ _ _ hM hS (lv_sub hl [2, 3, 4, 5, 6] rfl)
    · have hf0 : (fPlace u (xs (5 * t + 1)) (xs (5 * t + 2))).1 = 0 := (nI_eq (b := 0) hlt (by decide)).mp (hk9.symm.trans c_338)
      refine lv_aload_n hx hb d_L_law_341 rfl (lv_at hl 5 rfl) ?_
      refine lv_iconst (v := 0) hx hb d_L_law_342 (by decide) ?_
      refine x_lald hx hb hK.1 hM hg2 1 rfl (show (0 : Int32) = nI 0 from rfl) (by decide) (by decide) d_L_law_343 ?_
      refine lv_iload hx hb d_L_law_344 (lv_at hl 0 rfl) ?_
      refine lv_i2l (v := r1.toInt64) hx hb d_L_law_346 rfl ?_
      refine W.lcmp hx hb d_L_law_347 ?_
      refine lv_if_eq (tgt := 353) hx hb d_L_law_348 (by decide) (fun c_348 => ?_) (fun c_348 => ?_)
      · refine lv_goto (tgt := 1326) hx hb d_L_law_353 (by decide) ?_
        refine W.widen (k := 36 + 5 * t) (n := 1813 + 1100 * t) (by omega) (by omega) ?_
        exact kk Mb u1 hJ.I _ _ _ hM hS (lv_sub hl [2, 3, 4, 5, 6] rfl)
      · exact absurd (by rw [hf9 hf0, hv9 hf0]; exact lg_same _) c_348
  · exact absurd (e_t.trans hk9.symm) c_331

set_option maxHeartbeats 4000000 in
set_option maxRecDepth 100000 in
theorem lc_master {p : Program} {l : Launch} {e : Env} {s : State} {m : MethodId} {below : List Frame} {meth : Method} {c : Code} {G : xG} {b L : Nat} {xs : Nat → Int32} {Q : State → Prop} (hst : l.stackTraces = false) (hE : xE p s m #[Value.ref b] meth c code ret 7 R_L) (hK : KX G s) (hX : va_X b L xs s s.heap) (hbl : b < s.heap.size) (hbA : ¬ xF G b) (hL : L ≤ 2560) (t : Nat) (ht : 5 * t + 5 ≤ L) (ob og : Nat) (bd : Nat → Nat) (u : zS) (M : xM) (hI : LI G M ob og bd u) (kk : ∀ (M2 : xM) (u2 : zS), LI G M2 ob og bd u2 → ∀ (H : Heap) (locs : List Loc) (ls : Array Slot), xh G M2 H → va_S (xF G) s.heap H locs → lv_has ls 7 [(0, .ref b), (1, .ref ob), (2, .ref (bd 100)), (3, .ref og), (4, .int (nI (5 * t)))] → W p l e room_1 s m #[Value.ref b] below meth c H locs (36 + 5 * t) (1813 + 1100 * t) Q (F0 m 1326 ls [])) {H : Heap} {locs : List Loc} {ls : Array Slot} (hM : xh G M H) (hS : va_S (xF G) s.heap H locs) (hl : lv_has ls 7 [(0, .ref b), (1, .ref ob), (2, .ref (bd 100)), (3, .ref og), (4, .int (nI (5 * t)))]) : W p l e room_1 s m #[Value.ref b] below meth c H locs (31 + 5 * t) (713 + 1100 * t) Q (F0 m 356 ls []) := by
  obtain ⟨hx, hb, hr, hml, hown, hw, hlocks⟩ := id hE
  obtain ⟨hO, ⟨ad, rfl, hC, hs⟩, ⟨th, hD⟩, fo, hg⟩ := hI
  have hlt : (fMas u (xs (5 * t + 1))).1 < 2 ^ 31 := by
    unfold fMas
    repeat' split
    all_goals exact Nat.le_of_ble_eq_true rfl
  refine lv_aload_n hx hb d_L_law_356 rfl (lv_at hl 1 rfl) ?_
  refine lv_aload_n hx hb d_L_law_357 rfl (lv_at hl 0 rfl) ?_
  refine lv_iload hx hb d_L_law_358 (lv_at hl 4 rfl) ?_
  refine lv_iconst (v := 1) hx hb d_L_law_360 (by decide) ?_
  refine lv_iadd hx hb d_L_law_361 ?_
  refine x_sld hx hb hX hbl hbA hS (j := 5 * t + 1) (nI_add (5 * t) 1) (by omega) (by omega) d_L_law_362 ?_
  refine lv_aload_n hx hb d_L_law_363 rfl (lv_at hl 3 rfl) ?_
  refine x_ci (x_runSW (As := [.ref (ad 0), .int (xs (5 * t + 1)), .ref og]) (rest := []) hE hK hM hl.1 (c_L_master l G M hst ad u hC hO hs og fo hg (xs (5 * t + 1))) kw_261 kw_262 kw_0 kw_263 3 rfl rfl rfl (by decide +kernel) ⟨by decide, by decide⟩ rfl (Nat.le_of_ble_eq_true rfl) d_L_law_364 ⟨Nat.le_trans (show _ ≤ 3000 by omega) rm_c, Nat.le_trans (show _ ≤ 600000 by omega) rm_s⟩) hS (fun k9 M1 H locs hp1 hM hS => ?_)
  obtain ⟨Ma, eMa⟩ : ∃ zz9 : xM, zz9 = M1 := ⟨_, rfl⟩
  subst eMa
  have hxH : xH M Ma := by
    by_cases h9 : (fMas u (xs (5 * t + 1))).1 = 0
    · by_cases h8 : zMk (zB u (xs (5 * t + 1))) (zrn u) = 0
      · exact (hp1.1 h9 h8).2.2.1
      · obtain ⟨F, hF, hq⟩ := hp1.2.1 h9 h8
        exact hq.2.2.1
    · exact (hp1.2.2 h9).2.2.1
  obtain ⟨q1, X1, ho1, hA1, hX1, hms1⟩ := hD.k hxH
  refine lv_istore (lv' := [(5, .int k9), (0, .ref b), (1, .ref (ad 0)), (2, .ref (bd 100)), (3, .ref og), (4, .int (nI (5 * t)))]) hx hb d_L_law_367 hl (by decide) rfl (fun ls hl => ?_)
  refine lv_aload_n hx hb d_L_law_369 rfl (lv_at hl 3 rfl) ?_
  refine lv_aload_n hx hb d_L_law_370 rfl (lv_at hl 1 rfl) ?_
  refine lv_iload hx hb d_L_law_371 (lv_at hl 5 rfl) ?_
  refine lv_iconst (v := 1) hx hb d_L_law_373 (by decide) ?_
  refine lv_iadd hx hb d_L_law_374 ?_
  refine x_sld hx hb hX hbl hbA hS (j := 5 * t + 1) (nI_add (5 * t) 1) (by omega) (by omega) d_L_law_375 ?_
  refine x_ci (x_runV (As := [.int (xs (5 * t + 1))]) (rest := []) hE hK hM hl.1 (c_Mo_master l G Ma bd u th q1 ho1 X1 hA1 hX1 hO (xs (5 * t + 1))) ho1 rfl kw_619 kw_620 kw_621 kw_4 kw_622 1 rfl rfl rfl (by decide +kernel) ⟨by decide, by decide⟩ rfl (Nat.le_of_ble_eq_true rfl) d_L_law_376 ⟨Nat.le_trans (show _ ≤ 3000 by omega) rm_c, Nat.le_trans (show _ ≤ 600000 by omega) rm_s⟩) hS (fun r1 M1 H locs hp hM hS => ?_)
  obtain ⟨Mb, eMb⟩ : ∃ zz9 : xM, zz9 = M1 := ⟨_, rfl⟩
  subst eMb
  have hJ : ∃ u1 : zS, LJ G Mb (ad 0) og bd u1 (fMas u (xs (5 * t + 1))) k9 r1 := by
    by_cases h9 : (fMas u (xs (5 * t + 1))).1 = 0
    · by_cases h8 : zMk (zB u (xs (5 * t + 1))) (zrn u) = 0
      · exact ⟨u, LJ.of (hp1.1 h9 h8) hO ((hp.1 h9 h8).D hms1)⟩
      · obtain ⟨B, hB, hq⟩ := hp1.2.1 h9 h8
        exact ⟨uMas u B, LJ.of hq (hO.mas9 (fMas_r h9) hB h8) ((hp.2.1 h9 h8 B hB).D hms1)⟩
    · exact ⟨u, LJ.of (hp1.2.2 h9) hO ((hp.2.2 h9).D hms1)⟩
  obtain ⟨u1, hJ⟩ := hJ
  obtain ⟨-, hk9, -, ⟨q2, X2, ho2, -⟩, hv9, fo2, hg2, hf9⟩ := id hJ
  refine lv_istore (lv' := [(6, .int r1), (5, .int k9), (0, .ref b), (1, .ref (ad 0)), (2, .ref (bd 100)), (3, .ref og), (4, .int (nI (5 * t)))]) hx hb d_L_law_379 hl (by decide) rfl (fun ls hl => ?_)
  refine lv_aload_n hx hb d_L_law_381 rfl (lv_at hl 4 rfl) ?_
  refine x_ci (x_runV (As := []) (rest := []) hE hK hM hl.1 (c_Mo_thrown l G Mb bd u1 (nI (fMas u (xs (5 * t + 1))).1) q2 ho2) ho2 rfl kw_584 kw_585 kw_586 kw_4 kw_587 0 rfl rfl rfl (by decide +kernel) ⟨by decide, by decide⟩ rfl (Nat.le_of_ble_eq_true rfl) d_L_law_382 ⟨Nat.le_trans (show _ ≤ 3000 by omega) rm_c, Nat.le_trans (show _ ≤ 600000 by omega) rm_s⟩) hS (fun r2 M1 H locs hp hM hS => ?_)
  obtain ⟨e_t, e_M⟩ := hp
  have hM : xh G Mb H := e_M ▸ hM
  refine lv_iload hx hb d_L_law_385 (lv_at hl 1 rfl) ?_
  refine lv_icmp_eq (tgt := 392) hx hb d_L_law_387 (by decide) (fun c_387 => ?_) (fun c_387 => ?_)
  · refine lv_iload hx hb d_L_law_392 (lv_at hl 1 rfl) ?_
    refine lv_if_ne (tgt := 409) hx hb d_L_law_394 (by decide) (fun c_394 => ?_) (fun c_394 => ?_)
    · refine lv_goto (tgt := 1326) hx hb d_L_law_409 (by decide) ?_
      refine W.widen (k := 36 + 5 * t) (n := 1813 + 1100 * t) (by omega) (by omega) ?_
      exact kk Mb u1 hJ.I _ _ _ hM hS (lv_sub hl [2, 3, 4, 5, 6] rfl)
    · have hf0 : (fMas u (xs (5 * t + 1))).1 = 0 := (nI_eq (b := 0) hlt (by decide)).mp (hk9.symm.trans c_394)
      refine lv_aload_n hx hb d_L_law_397 rfl (lv_at hl 5 rfl) ?_
      refine lv_iconst (v := 0) hx hb d_L_law_398 (by decide) ?_
      refine x_lald hx hb hK.1 hM hg2 1 rfl (show (0 : Int32) = nI 0 from rfl) (by decide) (by decide) d_L_law_399 ?_
      refine lv_iload hx hb d_L_law_400 (lv_at hl 0 rfl) ?_
      refine lv_i2l (v := r1.toInt64) hx hb d_L_law_402 rfl ?_
      refine W.lcmp hx hb d_L_law_403 ?_
      refine lv_if_eq (tgt := 409) hx hb d_L_law_404 (by decide) (fun c_404 => ?_) (fun c_404 => ?_)
      · refine lv_goto (tgt := 1326) hx hb d_L_law_409 (by decide) ?_
        refine W.widen (k := 36 + 5 * t) (n := 1813 + 1100 * t) (by omega) (by omega) ?_
        exact kk Mb u1 hJ.I _ _ _ hM hS (lv_sub hl [2, 3, 4, 5, 6] rfl)
      · exact absurd (by rw [hf9 hf0, hv9 hf0]; exact lg_same _) c_404
  · exact absurd (e_t.trans hk9.symm) c_387

set_option maxHeartbeats 4000000 in
set_option maxRecDepth 100000 in
theorem lc_about {p : Program} {l : Launch} {e : Env} {s : State} {m : MethodId} {below : List Frame} {meth : Method} {c : Code} {G : xG} {b L : Nat} {xs : Nat → Int32} {Q : State → Prop} (hst : l.stackTraces = false) (hE : xE p s m #[Value.ref b] meth c code ret 7 R_L) (hK : KX G s) (hX : va_X b L xs s s.heap) (hbl : b < s.heap.size) (hbA : ¬ xF G b) (hL : L ≤ 2560) (t : Nat) (ht : 5 * t + 5 ≤ L) (ob og : Nat) (bd : Nat → Nat) (u : zS) (M : xM) (hI : LI G M ob og bd u) (kk : ∀ (M2 : xM) (u2 : zS), LI G M2 ob og bd u2 → ∀ (H : Heap) (locs : List Loc) (ls : Array Slot), xh G M2 H → va_S (xF G) s.heap H locs → lv_has ls 7 [(0, .ref b), (1, .ref ob), (2, .ref (bd 100)), (3, .ref og), (4, .int (nI (5 * t)))] → W p l e room_1 s m #[Value.ref b] below meth c H locs (36 + 5 * t) (1813 + 1100 * t) Q (F0 m 1326 ls [])) {H : Heap} {locs : List Loc} {ls : Array Slot} (hM : xh G M H) (hS : va_S (xF G) s.heap H locs) (hl : lv_has ls 7 [(0, .ref b), (1, .ref ob), (2, .ref (bd 100)), (3, .ref og), (4, .int (nI (5 * t)))]) : W p l e room_1 s m #[Value.ref b] below meth c H locs (31 + 5 * t) (713 + 1100 * t) Q (F0 m 412 ls []) := by
  obtain ⟨hx, hb, hr, hml, hown, hw, hlocks⟩ := id hE
  obtain ⟨hO, ⟨ad, rfl, hC, hs⟩, ⟨th, hD⟩, fo, hg⟩ := hI
  have hlt : (fAbout u (xs (5 * t + 1)) (xs (5 * t + 2))).1 < 2 ^ 31 := by
    unfold fAbout
    repeat' split
    all_goals exact Nat.le_of_ble_eq_true rfl
  refine lv_aload_n hx hb d_L_law_412 rfl (lv_at hl 1 rfl) ?_
  refine lv_aload_n hx hb d_L_law_413 rfl (lv_at hl 0 rfl) ?_
  refine lv_iload hx hb d_L_law_414 (lv_at hl 4 rfl) ?_
  refine lv_iconst (v := 1) hx hb d_L_law_416 (by decide) ?_
  refine lv_iadd hx hb d_L_law_417 ?_
  refine x_sld hx hb hX hbl hbA hS (j := 5 * t + 1) (nI_add (5 * t) 1) (by omega) (by omega) d_L_law_418 ?_
  refine lv_aload_n hx hb d_L_law_419 rfl (lv_at hl 0 rfl) ?_
  refine lv_iload hx hb d_L_law_420 (lv_at hl 4 rfl) ?_
  refine lv_iconst (v := 2) hx hb d_L_law_422 (by decide) ?_
  refine lv_iadd hx hb d_L_law_423 ?_
  refine x_sld hx hb hX hbl hbA hS (j := 5 * t + 2) (nI_add (5 * t) 2) (by omega) (by omega) d_L_law_424 ?_
  refine lv_aload_n hx hb d_L_law_425 rfl (lv_at hl 3 rfl) ?_
  refine x_ci (x_runSW (As := [.ref (ad 0), .int (xs (5 * t + 1)), .int (xs (5 * t + 2)), .ref og]) (rest := []) hE hK hM hl.1 (c_L_about l G M hst ad u hC hO hs og fo hg (xs (5 * t + 1)) (xs (5 * t + 2))) kw_359 kw_360 kw_0 kw_361 4 rfl rfl rfl (by decide +kernel) ⟨by decide, by decide⟩ rfl (Nat.le_of_ble_eq_true rfl) d_L_law_426 ⟨Nat.le_trans (show _ ≤ 3000 by omega) rm_c, Nat.le_trans (show _ ≤ 600000 by omega) rm_s⟩) hS (fun k9 M1 H locs hp1 hM hS => ?_)
  obtain ⟨Ma, eMa⟩ : ∃ zz9 : xM, zz9 = M1 := ⟨_, rfl⟩
  subst eMa
  have hxH := hp1.2.2.1
  obtain ⟨q1, X1, ho1, hA1, hX1, hms1⟩ := hD.k hxH
  refine lv_istore (lv' := [(5, .int k9), (0, .ref b), (1, .ref (ad 0)), (2, .ref (bd 100)), (3, .ref og), (4, .int (nI (5 * t)))]) hx hb d_L_law_429 hl (by decide) rfl (fun ls hl => ?_)
  refine lv_aload_n hx hb d_L_law_431 rfl (lv_at hl 3 rfl) ?_
  refine lv_aload_n hx hb d_L_law_432 rfl (lv_at hl 1 rfl) ?_
  refine lv_iload hx hb d_L_law_433 (lv_at hl 5 rfl) ?_
  refine lv_iconst (v := 1) hx hb d_L_law_435 (by decide) ?_
  refine lv_iadd hx hb d_L_law_436 ?_
  refine x_sld hx hb hX hbl hbA hS (j := 5 * t + 1) (nI_add (5 * t) 1) (by omega) (by omega) d_L_law_437 ?_
  refine lv_aload_n hx hb d_L_law_438 rfl (lv_at hl 1 rfl) ?_
  refine lv_iload hx hb d_L_law_439 (lv_at hl 5 rfl) ?_
  refine lv_iconst (v := 2) hx hb d_L_law_441 (by decide) ?_
  refine lv_iadd hx hb d_L_law_442 ?_
  refine x_sld hx hb hX hbl hbA hS (j := 5 * t + 2) (nI_add (5 * t) 2) (by omega) (by omega) d_L_law_443 ?_
  refine x_ci (x_runV (As := [.int (xs (5 * t + 1)), .int (xs (5 * t + 2))]) (rest := []) hE hK hM hl.1 (c_Mo_about l G Ma bd u th q1 ho1 X1 hA1 hX1 hO (xs (5 * t + 1)) (xs (5 * t + 2))) ho1 rfl kw_623 kw_624 kw_625 kw_4 kw_626 2 rfl rfl rfl (by decide +kernel) ⟨by decide, by decide⟩ rfl (Nat.le_of_ble_eq_true rfl) d_L_law_444 ⟨Nat.le_trans (show _ ≤ 3000 by omega) rm_c, Nat.le_trans (show _ ≤ 600000 by omega) rm_s⟩) hS (fun r1 M1 H locs hp hM hS => ?_)
  obtain ⟨Mb, eMb⟩ : ∃ zz9 : xM, zz9 = M1 := ⟨_, rfl⟩
  subst eMb
  have hJ : ∃ u1 : zS, LJ G Mb (ad 0) og bd u1 (fAbout u (xs (5 * t + 1)) (xs (5 * t + 2))) k9 r1 := ⟨u, LJ.of hp1 hO ((MoPost.U hp ho1 hA1 hX1).D hms1)⟩
  obtain ⟨u1, hJ⟩ := hJ
  obtain ⟨-, hk9, -, ⟨q2, X2, ho2, -⟩, hv9, fo2, hg2, hf9⟩ := id hJ
  refine lv_istore (lv' := [(6, .int r1), (5, .int k9), (0, .ref b), (1, .ref (ad 0)), (2, .ref (bd 100)), (3, .ref og), (4, .int (nI (5 * t)))]) hx hb d_L_law_447 hl (by decide) rfl (fun ls hl => ?_)
  refine lv_aload_n hx hb d_L_law_449 rfl (lv_at hl 4 rfl) ?_
  refine x_ci (x_runV (As := []) (rest := []) hE hK hM hl.1 (c_Mo_thrown l G Mb bd u1 (nI (fAbout u (xs (5 * t + 1)) (xs (5 * t + 2))).1) q2 ho2) ho2 rfl kw_584 kw_585 kw_586 kw_4 kw_587 0 rfl rfl rfl (by decide +kernel) ⟨by decide, by decide⟩ rfl (Nat.le_of_ble_eq_true rfl) d_L_law_450 ⟨Nat.le_trans (show _ ≤ 3000 by omega) rm_c, Nat.le_trans (show _ ≤ 600000 by omega) rm_s⟩) hS (fun r2 M1 H locs hp hM hS => ?_)
  obtain ⟨e_t, e_M⟩ := hp
  have hM : xh G Mb H := e_M ▸ hM
  refine lv_iload hx hb d_L_law_453 (lv_at hl 1 rfl) ?_
  refine lv_icmp_eq (tgt := 460) hx hb d_L_law_455 (by decide) (fun c_455 => ?_) (fun c_455 => ?_)
  · refine lv_iload hx hb d_L_law_460 (lv_at hl 1 rfl) ?_
    refine lv_if_ne (tgt := 477) hx hb d_L_law_462 (by decide) (fun c_462 => ?_) (fun c_462 => ?_)
    · refine lv_goto (tgt := 1326) hx hb d_L_law_477 (by decide) ?_
      refine W.widen (k := 36 + 5 * t) (n := 1813 + 1100 * t) (by omega) (by omega) ?_
      exact kk Mb u1 hJ.I _ _ _ hM hS (lv_sub hl [2, 3, 4, 5, 6] rfl)
    · have hf0 : (fAbout u (xs (5 * t + 1)) (xs (5 * t + 2))).1 = 0 := (nI_eq (b := 0) hlt (by decide)).mp (hk9.symm.trans c_462)
      refine lv_aload_n hx hb d_L_law_465 rfl (lv_at hl 5 rfl) ?_
      refine lv_iconst (v := 0) hx hb d_L_law_466 (by decide) ?_
      refine x_lald hx hb hK.1 hM hg2 1 rfl (show (0 : Int32) = nI 0 from rfl) (by decide) (by decide) d_L_law_467 ?_
      refine lv_iload hx hb d_L_law_468 (lv_at hl 0 rfl) ?_
      refine lv_i2l (v := r1.toInt64) hx hb d_L_law_470 rfl ?_
      refine W.lcmp hx hb d_L_law_471 ?_
      refine lv_if_eq (tgt := 477) hx hb d_L_law_472 (by decide) (fun c_472 => ?_) (fun c_472 => ?_)
      · refine lv_goto (tgt := 1326) hx hb d_L_law_477 (by decide) ?_
        refine W.widen (k := 36 + 5 * t) (n := 1813 + 1100 * t) (by omega) (by omega) ?_
        exact kk Mb u1 hJ.I _ _ _ hM hS (lv_sub hl [2, 3, 4, 5, 6] rfl)
      · exact absurd (by rw [hf9 hf0, hv9 hf0]; exact lg_same _) c_472
  · exact absurd (e_t.trans hk9.symm) c_455

set_option maxHeartbeats 4000000 in
set_option maxRecDepth 100000 in
theorem lc_at {p : Program} {l : Launch} {e : Env} {s : State} {m : MethodId} {below : List Frame} {meth : Method} {c : Code} {G : xG} {b L : Nat} {xs : Nat → Int32} {Q : State → Prop} (hst : l.stackTraces = false) (hE : xE p s m #[Value.ref b] meth c code ret 7 R_L) (hK : KX G s) (hX : va_X b L xs s s.heap) (hbl : b < s.heap.size) (hbA : ¬ xF G b) (hL : L ≤ 2560) (t : Nat) (ht : 5 * t + 5 ≤ L) (ob og : Nat) (bd : Nat → Nat) (u : zS) (M : xM) (hI : LI G M ob og bd u) (kk : ∀ (M2 : xM) (u2 : zS), LI G M2 ob og bd u2 → ∀ (H : Heap) (locs : List Loc) (ls : Array Slot), xh G M2 H → va_S (xF G) s.heap H locs → lv_has ls 7 [(0, .ref b), (1, .ref ob), (2, .ref (bd 100)), (3, .ref og), (4, .int (nI (5 * t)))] → W p l e room_1 s m #[Value.ref b] below meth c H locs (36 + 5 * t) (1813 + 1100 * t) Q (F0 m 1326 ls [])) {H : Heap} {locs : List Loc} {ls : Array Slot} (hM : xh G M H) (hS : va_S (xF G) s.heap H locs) (hl : lv_has ls 7 [(0, .ref b), (1, .ref ob), (2, .ref (bd 100)), (3, .ref og), (4, .int (nI (5 * t)))]) : W p l e room_1 s m #[Value.ref b] below meth c H locs (31 + 5 * t) (713 + 1100 * t) Q (F0 m 480 ls []) := by
  obtain ⟨hx, hb, hr, hml, hown, hw, hlocks⟩ := id hE
  obtain ⟨hO, ⟨ad, rfl, hC, hs⟩, ⟨th, hD⟩, fo, hg⟩ := hI
  have hlt : (fAt u (xs (5 * t + 1)) (xs (5 * t + 2))).1 < 2 ^ 31 := by
    unfold fAt
    repeat' split
    all_goals exact Nat.le_of_ble_eq_true rfl
  refine lv_aload_n hx hb d_L_law_480 rfl (lv_at hl 1 rfl) ?_
  refine lv_aload_n hx hb d_L_law_481 rfl (lv_at hl 0 rfl) ?_
  refine lv_iload hx hb d_L_law_482 (lv_at hl 4 rfl) ?_
  refine lv_iconst (v := 1) hx hb d_L_law_484 (by decide) ?_
  refine lv_iadd hx hb d_L_law_485 ?_
  refine x_sld hx hb hX hbl hbA hS (j := 5 * t + 1) (nI_add (5 * t) 1) (by omega) (by omega) d_L_law_486 ?_
  refine lv_aload_n hx hb d_L_law_487 rfl (lv_at hl 0 rfl) ?_
  refine lv_iload hx hb d_L_law_488 (lv_at hl 4 rfl) ?_
  refine lv_iconst (v := 2) hx hb d_L_law_490 (by decide) ?_
  refine lv_iadd hx hb d_L_law_491 ?_
  refine x_sld hx hb hX hbl hbA hS (j := 5 * t + 2) (nI_add (5 * t) 2) (by omega) (by omega) d_L_law_492 ?_
  refine lv_aload_n hx hb d_L_law_493 rfl (lv_at hl 3 rfl) ?_
  refine x_ci (x_runSW (As := [.ref (ad 0), .int (xs (5 * t + 1)), .int (xs (5 * t + 2)), .ref og]) (rest := []) hE hK hM hl.1 (c_L_at l G M hst ad u hC hO hs og fo hg (xs (5 * t + 1)) (xs (5 * t + 2))) kw_372 kw_373 kw_0 kw_374 4 rfl rfl rfl (by decide +kernel) ⟨by decide, by decide⟩ rfl (Nat.le_of_ble_eq_true rfl) d_L_law_494 ⟨Nat.le_trans (show _ ≤ 3000 by omega) rm_c, Nat.le_trans (show _ ≤ 600000 by omega) rm_s⟩) hS (fun k9 M1 H locs hp1 hM hS => ?_)
  obtain ⟨Ma, eMa⟩ : ∃ zz9 : xM, zz9 = M1 := ⟨_, rfl⟩
  subst eMa
  have hxH := hp1.2.2.1
  obtain ⟨q1, X1, ho1, hA1, hX1, hms1⟩ := hD.k hxH
  refine lv_istore (lv' := [(5, .int k9), (0, .ref b), (1, .ref (ad 0)), (2, .ref (bd 100)), (3, .ref og), (4, .int (nI (5 * t)))]) hx hb d_L_law_497 hl (by decide) rfl (fun ls hl => ?_)
  refine lv_aload_n hx hb d_L_law_499 rfl (lv_at hl 3 rfl) ?_
  refine lv_aload_n hx hb d_L_law_500 rfl (lv_at hl 1 rfl) ?_
  refine lv_iload hx hb d_L_law_501 (lv_at hl 5 rfl) ?_
  refine lv_iconst (v := 1) hx hb d_L_law_503 (by decide) ?_
  refine lv_iadd hx hb d_L_law_504 ?_
  refine x_sld hx hb hX hbl hbA hS (j := 5 * t + 1) (nI_add (5 * t) 1) (by omega) (by omega) d_L_law_505 ?_
  refine lv_aload_n hx hb d_L_law_506 rfl (lv_at hl 1 rfl) ?_
  refine lv_iload hx hb d_L_law_507 (lv_at hl 5 rfl) ?_
  refine lv_iconst (v := 2) hx hb d_L_law_509 (by decide) ?_
  refine lv_iadd hx hb d_L_law_510 ?_
  refine x_sld hx hb hX hbl hbA hS (j := 5 * t + 2) (nI_add (5 * t) 2) (by omega) (by omega) d_L_law_511 ?_
  refine x_ci (x_runV (As := [.int (xs (5 * t + 1)), .int (xs (5 * t + 2))]) (rest := []) hE hK hM hl.1 (c_Mo_at l G Ma bd u th q1 ho1 X1 hA1 hX1 hO (xs (5 * t + 1)) (xs (5 * t + 2))) ho1 rfl kw_631 kw_632 kw_633 kw_4 kw_634 2 rfl rfl rfl (by decide +kernel) ⟨by decide, by decide⟩ rfl (Nat.le_of_ble_eq_true rfl) d_L_law_512 ⟨Nat.le_trans (show _ ≤ 3000 by omega) rm_c, Nat.le_trans (show _ ≤ 600000 by omega) rm_s⟩) hS (fun r1 M1 H locs hp hM hS => ?_)
  obtain ⟨Mb, eMb⟩ : ∃ zz9 : xM, zz9 = M1 := ⟨_, rfl⟩
  subst eMb
  have hJ : ∃ u1 : zS, LJ G Mb (ad 0) og bd u1 (fAt u (xs (5 * t + 1)) (xs (5 * t + 2))) k9 r1 := ⟨u, LJ.of hp1 hO ((MoPost.U hp ho1 hA1 hX1).D hms1)⟩
  obtain ⟨u1, hJ⟩ := hJ
  obtain ⟨-, hk9, -, ⟨q2, X2, ho2, -⟩, hv9, fo2, hg2, hf9⟩ := id hJ
  refine lv_istore (lv' := [(6, .int r1), (5, .int k9), (0, .ref b), (1, .ref (ad 0)), (2, .ref (bd 100)), (3, .ref og), (4, .int (nI (5 * t)))]) hx hb d_L_law_515 hl (by decide) rfl (fun ls hl => ?_)
  refine lv_aload_n hx hb d_L_law_517 rfl (lv_at hl 4 rfl) ?_
  refine x_ci (x_runV (As := []) (rest := []) hE hK hM hl.1 (c_Mo_thrown l G Mb bd u1 (nI (fAt u (xs (5 * t + 1)) (xs (5 * t + 2))).1) q2 ho2) ho2 rfl kw_584 kw_585 kw_586 kw_4 kw_587 0 rfl rfl rfl (by decide +kernel) ⟨by decide, by decide⟩ rfl (Nat.le_of_ble_eq_true rfl) d_L_law_518 ⟨Nat.le_trans (show _ ≤ 3000 by omega) rm_c, Nat.le_trans (show _ ≤ 600000 by omega) rm_s⟩) hS (fun r2 M1 H locs hp hM hS => ?_)
  obtain ⟨e_t, e_M⟩ := hp
  have hM : xh G Mb H := e_M ▸ hM
  refine lv_iload hx hb d_L_law_521 (lv_at hl 1 rfl) ?_
  refine lv_icmp_eq (tgt := 528) hx hb d_L_law_523 (by decide) (fun c_523 => ?_) (fun c_523 => ?_)
  · refine lv_iload hx hb d_L_law_528 (lv_at hl 1 rfl) ?_
    refine lv_if_ne (tgt := 545) hx hb d_L_law_530 (by decide) (fun c_530 => ?_) (fun c_530 => ?_)
    · refine lv_goto (tgt := 1326) hx hb d_L_law_545 (by decide) ?_
      refine W.widen (k := 36 + 5 * t) (n := 1813 + 1100 * t) (by omega) (by omega) ?_
      exact kk Mb u1 hJ.I _ _ _ hM hS (lv_sub hl [2, 3, 4, 5, 6] rfl)
    · have hf0 : (fAt u (xs (5 * t + 1)) (xs (5 * t + 2))).1 = 0 := (nI_eq (b := 0) hlt (by decide)).mp (hk9.symm.trans c_530)
      refine lv_aload_n hx hb d_L_law_533 rfl (lv_at hl 5 rfl) ?_
      refine lv_iconst (v := 0) hx hb d_L_law_534 (by decide) ?_
      refine x_lald hx hb hK.1 hM hg2 1 rfl (show (0 : Int32) = nI 0 from rfl) (by decide) (by decide) d_L_law_535 ?_
      refine lv_iload hx hb d_L_law_536 (lv_at hl 0 rfl) ?_
      refine lv_i2l (v := r1.toInt64) hx hb d_L_law_538 rfl ?_
      refine W.lcmp hx hb d_L_law_539 ?_
      refine lv_if_eq (tgt := 545) hx hb d_L_law_540 (by decide) (fun c_540 => ?_) (fun c_540 => ?_)
      · refine lv_goto (tgt := 1326) hx hb d_L_law_545 (by decide) ?_
        refine W.widen (k := 36 + 5 * t) (n := 1813 + 1100 * t) (by omega) (by omega) ?_
        exact kk Mb u1 hJ.I _ _ _ hM hS (lv_sub hl [2, 3, 4, 5, 6] rfl)
      · exact absurd (by rw [hf9 hf0, hv9 hf0]; exact lg_same _) c_540
  · exact absurd (e_t.trans hk9.symm) c_523

set_option maxHeartbeats 4000000 in
set_option maxRecDepth 100000 in
theorem lc_depth {p : Program} {l : Launch} {e : Env} {s : State} {m : MethodId} {below : List Frame} {meth : Method} {c : Code} {G : xG} {b L : Nat} {xs : Nat → Int32} {Q : State → Prop} (hst : l.stackTraces = false) (hE : xE p s m #[Value.ref b] meth c code ret 7 R_L) (hK : KX G s) (hX : va_X b L xs s s.heap) (hbl : b < s.heap.size) (hbA : ¬ xF G b) (hL : L ≤ 2560) (t : Nat) (ht : 5 * t + 5 ≤ L) (ob og : Nat) (bd : Nat → Nat) (u : zS) (M : xM) (hI : LI G M ob og bd u) (kk : ∀ (M2 : xM) (u2 : zS), LI G M2 ob og bd u2 → ∀ (H : Heap) (locs : List Loc) (ls : Array Slot), xh G M2 H → va_S (xF G) s.heap H locs → lv_has ls 7 [(0, .ref b), (1, .ref ob), (2, .ref (bd 100)), (3, .ref og), (4, .int (nI (5 * t)))] → W p l e room_1 s m #[Value.ref b] below meth c H locs (36 + 5 * t) (1813 + 1100 * t) Q (F0 m 1326 ls [])) {H : Heap} {locs : List Loc} {ls : Array Slot} (hM : xh G M H) (hS : va_S (xF G) s.heap H locs) (hl : lv_has ls 7 [(0, .ref b), (1, .ref ob), (2, .ref (bd 100)), (3, .ref og), (4, .int (nI (5 * t)))]) : W p l e room_1 s m #[Value.ref b] below meth c H locs (31 + 5 * t) (713 + 1100 * t) Q (F0 m 548 ls []) := by
  obtain ⟨hx, hb, hr, hml, hown, hw, hlocks⟩ := id hE
  obtain ⟨hO, ⟨ad, rfl, hC, hs⟩, ⟨th, hD⟩, fo, hg⟩ := hI
  have hlt : (fDepth u (xs (5 * t + 1)) (xs (5 * t + 2))).1 < 2 ^ 31 := by
    unfold fDepth
    repeat' split
    all_goals exact Nat.le_of_ble_eq_true rfl
  refine lv_aload_n hx hb d_L_law_548 rfl (lv_at hl 1 rfl) ?_
  refine lv_aload_n hx hb d_L_law_549 rfl (lv_at hl 0 rfl) ?_
  refine lv_iload hx hb d_L_law_550 (lv_at hl 4 rfl) ?_
  refine lv_iconst (v := 1) hx hb d_L_law_552 (by decide) ?_
  refine lv_iadd hx hb d_L_law_553 ?_
  refine x_sld hx hb hX hbl hbA hS (j := 5 * t + 1) (nI_add (5 * t) 1) (by omega) (by omega) d_L_law_554 ?_
  refine lv_aload_n hx hb d_L_law_555 rfl (lv_at hl 0 rfl) ?_
  refine lv_iload hx hb d_L_law_556 (lv_at hl 4 rfl) ?_
  refine lv_iconst (v := 2) hx hb d_L_law_558 (by decide) ?_
  refine lv_iadd hx hb d_L_law_559 ?_
  refine x_sld hx hb hX hbl hbA hS (j := 5 * t + 2) (nI_add (5 * t) 2) (by omega) (by omega) d_L_law_560 ?_
  refine lv_aload_n hx hb d_L_law_561 rfl (lv_at hl 3 rfl) ?_
  refine x_ci (x_runSW (As := [.ref (ad 0), .int (xs (5 * t + 1)), .int (xs (5 * t + 2)), .ref og]) (rest := []) hE hK hM hl.1 (c_L_depth l G M hst ad u hC hO hs og fo hg (xs (5 * t + 1)) (xs (5 * t + 2))) kw_382 kw_383 kw_0 kw_384 4 rfl rfl rfl (by decide +kernel) ⟨by decide, by decide⟩ rfl (Nat.le_of_ble_eq_true rfl) d_L_law_562 ⟨Nat.le_trans (show _ ≤ 3000 by omega) rm_c, Nat.le_trans (show _ ≤ 600000 by omega) rm_s⟩) hS (fun k9 M1 H locs hp1 hM hS => ?_)
  obtain ⟨Ma, eMa⟩ : ∃ zz9 : xM, zz9 = M1 := ⟨_, rfl⟩
  subst eMa
  have hxH := hp1.2.2.1
  obtain ⟨q1, X1, ho1, hA1, hX1, hms1⟩ := hD.k hxH
  refine lv_istore (lv' := [(5, .int k9), (0, .ref b), (1, .ref (ad 0)), (2, .ref (bd 100)), (3, .ref og), (4, .int (nI (5 * t)))]) hx hb d_L_law_565 hl (by decide) rfl (fun ls hl => ?_)
  refine lv_aload_n hx hb d_L_law_567 rfl (lv_at hl 3 rfl) ?_
  refine lv_aload_n hx hb d_L_law_568 rfl (lv_at hl 1 rfl) ?_
  refine lv_iload hx hb d_L_law_569 (lv_at hl 5 rfl) ?_
  refine lv_iconst (v := 1) hx hb d_L_law_571 (by decide) ?_
  refine lv_iadd hx hb d_L_law_572 ?_
  refine x_sld hx hb hX hbl hbA hS (j := 5 * t + 1) (nI_add (5 * t) 1) (by omega) (by omega) d_L_law_573 ?_
  refine lv_aload_n hx hb d_L_law_574 rfl (lv_at hl 1 rfl) ?_
  refine lv_iload hx hb d_L_law_575 (lv_at hl 5 rfl) ?_
  refine lv_iconst (v := 2) hx hb d_L_law_577 (by decide) ?_
  refine lv_iadd hx hb d_L_law_578 ?_
  refine x_sld hx hb hX hbl hbA hS (j := 5 * t + 2) (nI_add (5 * t) 2) (by omega) (by omega) d_L_law_579 ?_
  refine x_ci (x_runV (As := [.int (xs (5 * t + 1)), .int (xs (5 * t + 2))]) (rest := []) hE hK hM hl.1 (c_Mo_depth l G Ma bd u th q1 ho1 X1 hA1 hX1 hO (xs (5 * t + 1)) (xs (5 * t + 2))) ho1 rfl kw_647 kw_648 kw_649 kw_4 kw_650 2 rfl rfl rfl (by decide +kernel) ⟨by decide, by decide⟩ rfl (Nat.le_of_ble_eq_true rfl) d_L_law_580 ⟨Nat.le_trans (show _ ≤ 3000 by omega) rm_c, Nat.le_trans (show _ ≤ 600000 by omega) rm_s⟩) hS (fun r1 M1 H locs hp hM hS => ?_)
  obtain ⟨Mb, eMb⟩ : ∃ zz9 : xM, zz9 = M1 := ⟨_, rfl⟩
  subst eMb
  have hJ : ∃ u1 : zS, LJ G Mb (ad 0) og bd u1 (fDepth u (xs (5 * t + 1)) (xs (5 * t + 2))) k9 r1 := ⟨u, LJ.of hp1 hO ((MoPost.U hp ho1 hA1 hX1).D hms1)⟩
  obtain ⟨u1, hJ⟩ := hJ
  obtain ⟨-, hk9, -, ⟨q2, X2, ho2, -⟩, hv9, fo2, hg2, hf9⟩ := id hJ
  refine lv_istore (lv' := [(6, .int r1), (5, .int k9), (0, .ref b), (1, .ref (ad 0)), (2, .ref (bd 100)), (3, .ref og), (4, .int (nI (5 * t)))]) hx hb d_L_law_583 hl (by decide) rfl (fun ls hl => ?_)
  refine lv_aload_n hx hb d_L_law_585 rfl (lv_at hl 4 rfl) ?_
  refine x_ci (x_runV (As := []) (rest := []) hE hK hM hl.1 (c_Mo_thrown l G Mb bd u1 (nI (fDepth u (xs (5 * t + 1)) (xs (5 * t + 2))).1) q2 ho2) ho2 rfl kw_584 kw_585 kw_586 kw_4 kw_587 0 rfl rfl rfl (by decide +kernel) ⟨by decide, by decide⟩ rfl (Nat.le_of_ble_eq_true rfl) d_L_law_586 ⟨Nat.le_trans (show _ ≤ 3000 by omega) rm_c, Nat.le_trans (show _ ≤ 600000 by omega) rm_s⟩) hS (fun r2 M1 H locs hp hM hS => ?_)
  obtain ⟨e_t, e_M⟩ := hp
  have hM : xh G Mb H := e_M ▸ hM
  refine lv_iload hx hb d_L_law_589 (lv_at hl 1 rfl) ?_
  refine lv_icmp_eq (tgt := 596) hx hb d_L_law_591 (by decide) (fun c_591 => ?_) (fun c_591 => ?_)
  · refine lv_iload hx hb d_L_law_596 (lv_at hl 1 rfl) ?_
    refine lv_if_ne (tgt := 613) hx hb d_L_law_598 (by decide) (fun c_598 => ?_) (fun c_598 => ?_)
    · refine lv_goto (tgt := 1326) hx hb d_L_law_613 (by decide) ?_
      refine W.widen (k := 36 + 5 * t) (n := 1813 + 1100 * t) (by omega) (by omega) ?_
      exact kk Mb u1 hJ.I _ _ _ hM hS (lv_sub hl [2, 3, 4, 5, 6] rfl)
    · have hf0 : (fDepth u (xs (5 * t + 1)) (xs (5 * t + 2))).1 = 0 := (nI_eq (b := 0) hlt (by decide)).mp (hk9.symm.trans c_598)
      refine lv_aload_n hx hb d_L_law_601 rfl (lv_at hl 5 rfl) ?_
      refine lv_iconst (v := 0) hx hb d_L_law_602 (by decide) ?_
      refine x_lald hx hb hK.1 hM hg2 1 rfl (show (0 : Int32) = nI 0 from rfl) (by decide) (by decide) d_L_law_603 ?_
      refine lv_iload hx hb d_L_law_604 (lv_at hl 0 rfl) ?_
      refine lv_i2l (v := r1.toInt64) hx hb d_L_law_606 rfl ?_
      refine W.lcmp hx hb d_L_law_607 ?_
      refine lv_if_eq (tgt := 613) hx hb d_L_law_608 (by decide) (fun c_608 => ?_) (fun c_608 => ?_)
      · refine lv_goto (tgt := 1326) hx hb d_L_law_613 (by decide) ?_
        refine W.widen (k := 36 + 5 * t) (n := 1813 + 1100 * t) (by omega) (by omega) ?_
        exact kk Mb u1 hJ.I _ _ _ hM hS (lv_sub hl [2, 3, 4, 5, 6] rfl)
      · exact absurd (by rw [hf9 hf0, hv9 hf0]; exact lg_same _) c_608
  · exact absurd (e_t.trans hk9.symm) c_591

set_option maxHeartbeats 4000000 in
set_option maxRecDepth 100000 in
theorem lc_leftOut {p : Program} {l : Launch} {e : Env} {s : State} {m : MethodId} {below : List Frame} {meth : Method} {c : Code} {G : xG} {b L : Nat} {xs : Nat → Int32} {Q : State → Prop} (hst : l.stackTraces = false) (hE : xE p s m #[Value.ref b] meth c code ret 7 R_L) (hK : KX G s) (hX : va_X b L xs s s.heap) (hbl : b < s.heap.size) (hbA : ¬ xF G b) (hL : L ≤ 2560) (t : Nat) (ht : 5 * t + 5 ≤ L) (ob og : Nat) (bd : Nat → Nat) (u : zS) (M : xM) (hI : LI G M ob og bd u) (kk : ∀ (M2 : xM) (u2 : zS), LI G M2 ob og bd u2 → ∀ (H : Heap) (locs : List Loc) (ls : Array Slot), xh G M2 H → va_S (xF G) s.heap H locs → lv_has ls 7 [(0, .ref b), (1, .ref ob), (2, .ref (bd 100)), (3, .ref og), (4, .int (nI (5 * t)))] → W p l e room_1 s m #[Value.ref b] below meth c H locs (36 + 5 * t) (1813 + 1100 * t) Q (F0 m 1326 ls [])) {H : Heap} {locs : List Loc} {ls : Array Slot} (hM : xh G M H) (hS : va_S (xF G) s.heap H locs) (hl : lv_has ls 7 [(0, .ref b), (1, .ref ob), (2, .ref (bd 100)), (3, .ref og), (4, .int (nI (5 * t)))]) : W p l e room_1 s m #[Value.ref b] below meth c H locs (31 + 5 * t) (713 + 1100 * t) Q (F0 m 616 ls []) := by
  obtain ⟨hx, hb, hr, hml, hown, hw, hlocks⟩ := id hE
  obtain ⟨hO, ⟨ad, rfl, hC, hs⟩, ⟨th, hD⟩, fo, hg⟩ := hI
  have hlt : (fLeft u (xs (5 * t + 1)) (xs (5 * t + 2)) (xs (5 * t + 3))).1 < 2 ^ 31 := by
    unfold fLeft
    repeat' split
    all_goals exact Nat.le_of_ble_eq_true rfl
  refine lv_aload_n hx hb d_L_law_616 rfl (lv_at hl 1 rfl) ?_
  refine lv_aload_n hx hb d_L_law_617 rfl (lv_at hl 0 rfl) ?_
  refine lv_iload hx hb d_L_law_618 (lv_at hl 4 rfl) ?_
  refine lv_iconst (v := 1) hx hb d_L_law_620 (by decide) ?_
  refine lv_iadd hx hb d_L_law_621 ?_
  refine x_sld hx hb hX hbl hbA hS (j := 5 * t + 1) (nI_add (5 * t) 1) (by omega) (by omega) d_L_law_622 ?_
  refine lv_aload_n hx hb d_L_law_623 rfl (lv_at hl 0 rfl) ?_
  refine lv_iload hx hb d_L_law_624 (lv_at hl 4 rfl) ?_
  refine lv_iconst (v := 2) hx hb d_L_law_626 (by decide) ?_
  refine lv_iadd hx hb d_L_law_627 ?_
  refine x_sld hx hb hX hbl hbA hS (j := 5 * t + 2) (nI_add (5 * t) 2) (by omega) (by omega) d_L_law_628 ?_
  refine lv_aload_n hx hb d_L_law_629 rfl (lv_at hl 0 rfl) ?_
  refine lv_iload hx hb d_L_law_630 (lv_at hl 4 rfl) ?_
  refine lv_iconst (v := 3) hx hb d_L_law_632 (by decide) ?_
  refine lv_iadd hx hb d_L_law_633 ?_
  refine x_sld hx hb hX hbl hbA hS (j := 5 * t + 3) (nI_add (5 * t) 3) (by omega) (by omega) d_L_law_634 ?_
  refine lv_aload_n hx hb d_L_law_635 rfl (lv_at hl 3 rfl) ?_
  refine x_ci (x_runSW (As := [.ref (ad 0), .int (xs (5 * t + 1)), .int (xs (5 * t + 2)), .int (xs (5 * t + 3)), .ref og]) (rest := []) hE hK hM hl.1 (c_L_leftOut l G M hst ad u hC hO hs og fo hg (xs (5 * t + 1)) (xs (5 * t + 2)) (xs (5 * t + 3))) kw_389 kw_390 kw_0 kw_391 5 rfl rfl rfl (by decide +kernel) ⟨by decide, by decide⟩ rfl (Nat.le_of_ble_eq_true rfl) d_L_law_636 ⟨Nat.le_trans (show _ ≤ 3000 by omega) rm_c, Nat.le_trans (show _ ≤ 600000 by omega) rm_s⟩) hS (fun k9 M1 H locs hp1 hM hS => ?_)
  obtain ⟨Ma, eMa⟩ : ∃ zz9 : xM, zz9 = M1 := ⟨_, rfl⟩
  subst eMa
  have hxH := hp1.2.2.1
  obtain ⟨q1, X1, ho1, hA1, hX1, hms1⟩ := hD.k hxH
  refine lv_istore (lv' := [(5, .int k9), (0, .ref b), (1, .ref (ad 0)), (2, .ref (bd 100)), (3, .ref og), (4, .int (nI (5 * t)))]) hx hb d_L_law_639 hl (by decide) rfl (fun ls hl => ?_)
  refine lv_aload_n hx hb d_L_law_641 rfl (lv_at hl 3 rfl) ?_
  refine lv_aload_n hx hb d_L_law_642 rfl (lv_at hl 1 rfl) ?_
  refine lv_iload hx hb d_L_law_643 (lv_at hl 5 rfl) ?_
  refine lv_iconst (v := 1) hx hb d_L_law_645 (by decide) ?_
  refine lv_iadd hx hb d_L_law_646 ?_
  refine x_sld hx hb hX hbl hbA hS (j := 5 * t + 1) (nI_add (5 * t) 1) (by omega) (by omega) d_L_law_647 ?_
  refine lv_aload_n hx hb d_L_law_648 rfl (lv_at hl 1 rfl) ?_
  refine lv_iload hx hb d_L_law_649 (lv_at hl 5 rfl) ?_
  refine lv_iconst (v := 2) hx hb d_L_law_651 (by decide) ?_
  refine lv_iadd hx hb d_L_law_652 ?_
  refine x_sld hx hb hX hbl hbA hS (j := 5 * t + 2) (nI_add (5 * t) 2) (by omega) (by omega) d_L_law_653 ?_
  refine lv_aload_n hx hb d_L_law_654 rfl (lv_at hl 1 rfl) ?_
  refine lv_iload hx hb d_L_law_655 (lv_at hl 5 rfl) ?_
  refine lv_iconst (v := 3) hx hb d_L_law_657 (by decide) ?_
  refine lv_iadd hx hb d_L_law_658 ?_
  refine x_sld hx hb hX hbl hbA hS (j := 5 * t + 3) (nI_add (5 * t) 3) (by omega) (by omega) d_L_law_659 ?_
  refine x_ci (x_runV (As := [.int (xs (5 * t + 1)), .int (xs (5 * t + 2)), .int (xs (5 * t + 3))]) (rest := []) hE hK hM hl.1 (c_Mo_leftOut l G Ma bd u th q1 ho1 X1 hA1 hX1 hO (xs (5 * t + 1)) (xs (5 * t + 2)) (xs (5 * t + 3))) ho1 rfl kw_655 kw_656 kw_657 kw_4 kw_658 3 rfl rfl rfl (by decide +kernel) ⟨by decide, by decide⟩ rfl (Nat.le_of_ble_eq_true rfl) d_L_law_660 ⟨Nat.le_trans (show _ ≤ 3000 by omega) rm_c, Nat.le_trans (show _ ≤ 600000 by omega) rm_s⟩) hS (fun r1 M1 H locs hp hM hS => ?_)
  obtain ⟨Mb, eMb⟩ : ∃ zz9 : xM, zz9 = M1 := ⟨_, rfl⟩
  subst eMb
  have hJ : ∃ u1 : zS, LJ G Mb (ad 0) og bd u1 (fLeft u (xs (5 * t + 1)) (xs (5 * t + 2)) (xs (5 * t + 3))) k9 r1 := ⟨u, LJ.of hp1 hO ((MoPost.U hp ho1 hA1 hX1).D hms1)⟩
  obtain ⟨u1, hJ⟩ := hJ
  obtain ⟨-, hk9, -, ⟨q2, X2, ho2, -⟩, hv9, fo2, hg2, hf9⟩ := id hJ
  refine lv_istore (lv' := [(6, .int r1), (5, .int k9), (0, .ref b), (1, .ref (ad 0)), (2, .ref (bd 100)), (3, .ref og), (4, .int (nI (5 * t)))]) hx hb d_L_law_663 hl (by decide) rfl (fun ls hl => ?_)
  refine lv_aload_n hx hb d_L_law_665 rfl (lv_at hl 4 rfl) ?_
  refine x_ci (x_runV (As := []) (rest := []) hE hK hM hl.1 (c_Mo_thrown l G Mb bd u1 (nI (fLeft u (xs (5 * t + 1)) (xs (5 * t + 2)) (xs (5 * t + 3))).1) q2 ho2) ho2 rfl kw_584 kw_585 kw_586 kw_4 kw_587 0 rfl rfl rfl (by decide +kernel) ⟨by decide, by decide⟩ rfl (Nat.le_of_ble_eq_true rfl) d_L_law_666 ⟨Nat.le_trans (show _ ≤ 3000 by omega) rm_c, Nat.le_trans (show _ ≤ 600000 by omega) rm_s⟩) hS (fun r2 M1 H locs hp hM hS => ?_)
  obtain ⟨e_t, e_M⟩ := hp
  have hM : xh G Mb H := e_M ▸ hM
  refine lv_iload hx hb d_L_law_669 (lv_at hl 1 rfl) ?_
  refine lv_icmp_eq (tgt := 676) hx hb d_L_law_671 (by decide) (fun c_671 => ?_) (fun c_671 => ?_)
  · refine lv_iload hx hb d_L_law_676 (lv_at hl 1 rfl) ?_
    refine lv_if_ne (tgt := 693) hx hb d_L_law_678 (by decide) (fun c_678 => ?_) (fun c_678 => ?_)
    · refine lv_goto (tgt := 1326) hx hb d_L_law_693 (by decide) ?_
      refine W.widen (k := 36 + 5 * t) (n := 1813 + 1100 * t) (by omega) (by omega) ?_
      exact kk Mb u1 hJ.I _ _ _ hM hS (lv_sub hl [2, 3, 4, 5, 6] rfl)
    · have hf0 : (fLeft u (xs (5 * t + 1)) (xs (5 * t + 2)) (xs (5 * t + 3))).1 = 0 := (nI_eq (b := 0) hlt (by decide)).mp (hk9.symm.trans c_678)
      refine lv_aload_n hx hb d_L_law_681 rfl (lv_at hl 5 rfl) ?_
      refine lv_iconst (v := 0) hx hb d_L_law_682 (by decide) ?_
      refine x_lald hx hb hK.1 hM hg2 1 rfl (show (0 : Int32) = nI 0 from rfl) (by decide) (by decide) d_L_law_683 ?_
      refine lv_iload hx hb d_L_law_684 (lv_at hl 0 rfl) ?_
      refine lv_i2l (v := r1.toInt64) hx hb d_L_law_686 rfl ?_
      refine W.lcmp hx hb d_L_law_687 ?_
      refine lv_if_eq (tgt := 693) hx hb d_L_law_688 (by decide) (fun c_688 => ?_) (fun c_688 => ?_)
      · refine lv_goto (tgt := 1326) hx hb d_L_law_693 (by decide) ?_
        refine W.widen (k := 36 + 5 * t) (n := 1813 + 1100 * t) (by omega) (by omega) ?_
        exact kk Mb u1 hJ.I _ _ _ hM hS (lv_sub hl [2, 3, 4, 5, 6] rfl)
      · exact absurd (by rw [hf9 hf0, hv9 hf0]; exact lg_same _) c_688
  · exact absurd (e_t.trans hk9.symm) c_671

set_option maxHeartbeats 4000000 in
set_option maxRecDepth 100000 in
theorem lc_distance {p : Program} {l : Launch} {e : Env} {s : State} {m : MethodId} {below : List Frame} {meth : Method} {c : Code} {G : xG} {b L : Nat} {xs : Nat → Int32} {Q : State → Prop} (hst : l.stackTraces = false) (hE : xE p s m #[Value.ref b] meth c code ret 7 R_L) (hK : KX G s) (hX : va_X b L xs s s.heap) (hbl : b < s.heap.size) (hbA : ¬ xF G b) (hL : L ≤ 2560) (t : Nat) (ht : 5 * t + 5 ≤ L) (ob og : Nat) (bd : Nat → Nat) (u : zS) (M : xM) (hI : LI G M ob og bd u) (kk : ∀ (M2 : xM) (u2 : zS), LI G M2 ob og bd u2 → ∀ (H : Heap) (locs : List Loc) (ls : Array Slot), xh G M2 H → va_S (xF G) s.heap H locs → lv_has ls 7 [(0, .ref b), (1, .ref ob), (2, .ref (bd 100)), (3, .ref og), (4, .int (nI (5 * t)))] → W p l e room_1 s m #[Value.ref b] below meth c H locs (36 + 5 * t) (1813 + 1100 * t) Q (F0 m 1326 ls [])) {H : Heap} {locs : List Loc} {ls : Array Slot} (hM : xh G M H) (hS : va_S (xF G) s.heap H locs) (hl : lv_has ls 7 [(0, .ref b), (1, .ref ob), (2, .ref (bd 100)), (3, .ref og), (4, .int (nI (5 * t)))]) : W p l e room_1 s m #[Value.ref b] below meth c H locs (31 + 5 * t) (713 + 1100 * t) Q (F0 m 696 ls []) := by
  obtain ⟨hx, hb, hr, hml, hown, hw, hlocks⟩ := id hE
  obtain ⟨hO, ⟨ad, rfl, hC, hs⟩, ⟨th, hD⟩, fo, hg⟩ := hI
  have hlt : (fDist u (xs (5 * t + 1)) (xs (5 * t + 2)) (xs (5 * t + 3)) (xs (5 * t + 4))).1 < 2 ^ 31 := by
    unfold fDist
    repeat' split
    all_goals exact Nat.le_of_ble_eq_true rfl
  refine lv_aload_n hx hb d_L_law_696 rfl (lv_at hl 1 rfl) ?_
  refine lv_aload_n hx hb d_L_law_697 rfl (lv_at hl 0 rfl) ?_
  refine lv_iload hx hb d_L_law_698 (lv_at hl 4 rfl) ?_
  refine lv_iconst (v := 1) hx hb d_L_law_700 (by decide) ?_
  refine lv_iadd hx hb d_L_law_701 ?_
  refine x_sld hx hb hX hbl hbA hS (j := 5 * t + 1) (nI_add (5 * t) 1) (by omega) (by omega) d_L_law_702 ?_
  refine lv_aload_n hx hb d_L_law_703 rfl (lv_at hl 0 rfl) ?_
  refine lv_iload hx hb d_L_law_704 (lv_at hl 4 rfl) ?_
  refine lv_iconst (v := 2) hx hb d_L_law_706 (by decide) ?_
  refine lv_iadd hx hb d_L_law_707 ?_
  refine x_sld hx hb hX hbl hbA hS (j := 5 * t + 2) (nI_add (5 * t) 2) (by omega) (by omega) d_L_law_708 ?_
  refine lv_aload_n hx hb d_L_law_709 rfl (lv_at hl 0 rfl) ?_
  refine lv_iload hx hb d_L_law_710 (lv_at hl 4 rfl) ?_
  refine lv_iconst (v := 3) hx hb d_L_law_712 (by decide) ?_
  refine lv_iadd hx hb d_L_law_713 ?_
  refine x_sld hx hb hX hbl hbA hS (j := 5 * t + 3) (nI_add (5 * t) 3) (by omega) (by omega) d_L_law_714 ?_
  refine lv_aload_n hx hb d_L_law_715 rfl (lv_at hl 0 rfl) ?_
  refine lv_iload hx hb d_L_law_716 (lv_at hl 4 rfl) ?_
  refine lv_iconst (v := 4) hx hb d_L_law_718 (by decide) ?_
  refine lv_iadd hx hb d_L_law_719 ?_
  refine x_sld hx hb hX hbl hbA hS (j := 5 * t + 4) (nI_add (5 * t) 4) (by omega) (by omega) d_L_law_720 ?_
  refine lv_aload_n hx hb d_L_law_721 rfl (lv_at hl 3 rfl) ?_
  refine x_ci (x_runSW (As := [.ref (ad 0), .int (xs (5 * t + 1)), .int (xs (5 * t + 2)), .int (xs (5 * t + 3)), .int (xs (5 * t + 4)), .ref og]) (rest := []) hE hK hM hl.1 (c_L_distance l G M hst ad u hC hO hs og fo hg (xs (5 * t + 1)) (xs (5 * t + 2)) (xs (5 * t + 3)) (xs (5 * t + 4))) kw_419 kw_420 kw_0 kw_421 6 rfl rfl rfl (by decide +kernel) ⟨by decide, by decide⟩ rfl (Nat.le_of_ble_eq_true rfl) d_L_law_722 ⟨Nat.le_trans (show _ ≤ 3000 by omega) rm_c, Nat.le_trans (show _ ≤ 600000 by omega) rm_s⟩) hS (fun k9 M1 H locs hp1 hM hS => ?_)
  obtain ⟨Ma, eMa⟩ : ∃ zz9 : xM, zz9 = M1 := ⟨_, rfl⟩
  subst eMa
  have hxH := hp1.2.2.1
  obtain ⟨q1, X1, ho1, hA1, hX1, hms1⟩ := hD.k hxH
  refine lv_istore (lv' := [(5, .int k9), (0, .ref b), (1, .ref (ad 0)), (2, .ref (bd 100)), (3, .ref og), (4, .int (nI (5 * t)))]) hx hb d_L_law_725 hl (by decide) rfl (fun ls hl => ?_)
  refine lv_aload_n hx hb d_L_law_727 rfl (lv_at hl 3 rfl) ?_
  refine lv_aload_n hx hb d_L_law_728 rfl (lv_at hl 1 rfl) ?_
  refine lv_iload hx hb d_L_law_729 (lv_at hl 5 rfl) ?_
  refine lv_iconst (v := 1) hx hb d_L_law_731 (by decide) ?_
  refine lv_iadd hx hb d_L_law_732 ?_
  refine x_sld hx hb hX hbl hbA hS (j := 5 * t + 1) (nI_add (5 * t) 1) (by omega) (by omega) d_L_law_733 ?_
  refine lv_aload_n hx hb d_L_law_734 rfl (lv_at hl 1 rfl) ?_
  refine lv_iload hx hb d_L_law_735 (lv_at hl 5 rfl) ?_
  refine lv_iconst (v := 2) hx hb d_L_law_737 (by decide) ?_
  refine lv_iadd hx hb d_L_law_738 ?_
  refine x_sld hx hb hX hbl hbA hS (j := 5 * t + 2) (nI_add (5 * t) 2) (by omega) (by omega) d_L_law_739 ?_
  refine lv_aload_n hx hb d_L_law_740 rfl (lv_at hl 1 rfl) ?_
  refine lv_iload hx hb d_L_law_741 (lv_at hl 5 rfl) ?_
  refine lv_iconst (v := 3) hx hb d_L_law_743 (by decide) ?_
  refine lv_iadd hx hb d_L_law_744 ?_
  refine x_sld hx hb hX hbl hbA hS (j := 5 * t + 3) (nI_add (5 * t) 3) (by omega) (by omega) d_L_law_745 ?_
  refine lv_aload_n hx hb d_L_law_746 rfl (lv_at hl 1 rfl) ?_
  refine lv_iload hx hb d_L_law_747 (lv_at hl 5 rfl) ?_
  refine lv_iconst (v := 4) hx hb d_L_law_749 (by decide) ?_
  refine lv_iadd hx hb d_L_law_750 ?_
  refine x_sld hx hb hX hbl hbA hS (j := 5 * t + 4) (nI_add (5 * t) 4) (by omega) (by omega) d_L_law_751 ?_
  refine x_ci (x_runV (As := [.int (xs (5 * t + 1)), .int (xs (5 * t + 2)), .int (xs (5 * t + 3)), .int (xs (5 * t + 4))]) (rest := []) hE hK hM hl.1 (c_Mo_distance l G Ma bd u th q1 ho1 X1 hA1 hX1 hO (xs (5 * t + 1)) (xs (5 * t + 2)) (xs (5 * t + 3)) (xs (5 * t + 4))) ho1 rfl kw_663 kw_664 kw_665 kw_4 kw_666 4 rfl rfl rfl (by decide +kernel) ⟨by decide, by decide⟩ rfl (Nat.le_of_ble_eq_true rfl) d_L_law_752 ⟨Nat.le_trans (show _ ≤ 3000 by omega) rm_c, Nat.le_trans (show _ ≤ 600000 by omega) rm_s⟩) hS (fun r1 M1 H locs hp hM hS => ?_)
  obtain ⟨Mb, eMb⟩ : ∃ zz9 : xM, zz9 = M1 := ⟨_, rfl⟩
  subst eMb
  have hJ : ∃ u1 : zS, LJ G Mb (ad 0) og bd u1 (fDist u (xs (5 * t + 1)) (xs (5 * t + 2)) (xs (5 * t + 3)) (xs (5 * t + 4))) k9 r1 := ⟨u, LJ.of hp1 hO ((MoPost.U hp ho1 hA1 hX1).D hms1)⟩
  obtain ⟨u1, hJ⟩ := hJ
  obtain ⟨-, hk9, -, ⟨q2, X2, ho2, -⟩, hv9, fo2, hg2, hf9⟩ := id hJ
  refine lv_istore (lv' := [(6, .int r1), (5, .int k9), (0, .ref b), (1, .ref (ad 0)), (2, .ref (bd 100)), (3, .ref og), (4, .int (nI (5 * t)))]) hx hb d_L_law_755 hl (by decide) rfl (fun ls hl => ?_)
  refine lv_aload_n hx hb d_L_law_757 rfl (lv_at hl 4 rfl) ?_
  refine x_ci (x_runV (As := []) (rest := []) hE hK hM hl.1 (c_Mo_thrown l G Mb bd u1 (nI (fDist u (xs (5 * t + 1)) (xs (5 * t + 2)) (xs (5 * t + 3)) (xs (5 * t + 4))).1) q2 ho2) ho2 rfl kw_584 kw_585 kw_586 kw_4 kw_587 0 rfl rfl rfl (by decide +kernel) ⟨by decide, by decide⟩ rfl (Nat.le_of_ble_eq_true rfl) d_L_law_758 ⟨Nat.le_trans (show _ ≤ 3000 by omega) rm_c, Nat.le_trans (show _ ≤ 600000 by omega) rm_s⟩) hS (fun r2 M1 H locs hp hM hS => ?_)
  obtain ⟨e_t, e_M⟩ := hp
  have hM : xh G Mb H := e_M ▸ hM
  refine lv_iload hx hb d_L_law_761 (lv_at hl 1 rfl) ?_
  refine lv_icmp_eq (tgt := 768) hx hb d_L_law_763 (by decide) (fun c_763 => ?_) (fun c_763 => ?_)
  · refine lv_iload hx hb d_L_law_768 (lv_at hl 1 rfl) ?_
    refine lv_if_ne (tgt := 785) hx hb d_L_law_770 (by decide) (fun c_770 => ?_) (fun c_770 => ?_)
    · refine lv_goto (tgt := 1326) hx hb d_L_law_785 (by decide) ?_
      refine W.widen (k := 36 + 5 * t) (n := 1813 + 1100 * t) (by omega) (by omega) ?_
      exact kk Mb u1 hJ.I _ _ _ hM hS (lv_sub hl [2, 3, 4, 5, 6] rfl)
    · have hf0 : (fDist u (xs (5 * t + 1)) (xs (5 * t + 2)) (xs (5 * t + 3)) (xs (5 * t + 4))).1 = 0 := (nI_eq (b := 0) hlt (by decide)).mp (hk9.symm.trans c_770)
      refine lv_aload_n hx hb d_L_law_773 rfl (lv_at hl 5 rfl) ?_
      refine lv_iconst (v := 0) hx hb d_L_law_774 (by decide) ?_
      refine x_lald hx hb hK.1 hM hg2 1 rfl (show (0 : Int32) = nI 0 from rfl) (by decide) (by decide) d_L_law_775 ?_
      refine lv_iload hx hb d_L_law_776 (lv_at hl 0 rfl) ?_
      refine lv_i2l (v := r1.toInt64) hx hb d_L_law_778 rfl ?_
      refine W.lcmp hx hb d_L_law_779 ?_
      refine lv_if_eq (tgt := 785) hx hb d_L_law_780 (by decide) (fun c_780 => ?_) (fun c_780 => ?_)
      · refine lv_goto (tgt := 1326) hx hb d_L_law_785 (by decide) ?_
        refine W.widen (k := 36 + 5 * t) (n := 1813 + 1100 * t) (by omega) (by omega) ?_
        exact kk Mb u1 hJ.I _ _ _ hM hS (lv_sub hl [2, 3, 4, 5, 6] rfl)
      · exact absurd (by rw [hf9 hf0, hv9 hf0]; exact lg_same _) c_780
  · exact absurd (e_t.trans hk9.symm) c_763

set_option maxHeartbeats 4000000 in
set_option maxRecDepth 100000 in
theorem lc_date {p : Program} {l : Launch} {e : Env} {s : State} {m : MethodId} {below : List Frame} {meth : Method} {c : Code} {G : xG} {b L : Nat} {xs : Nat → Int32} {Q : State → Prop} (hst : l.stackTraces = false) (hE : xE p s m #[Value.ref b] meth c code ret 7 R_L) (hK : KX G s) (hX : va_X b L xs s s.heap) (hbl : b < s.heap.size) (hbA : ¬ xF G b) (hL : L ≤ 2560) (t : Nat) (ht : 5 * t + 5 ≤ L) (ob og : Nat) (bd : Nat → Nat) (u : zS) (M : xM) (hI : LI G M ob og bd u) (kk : ∀ (M2 : xM) (u2 : zS), LI G M2 ob og bd u2 → ∀ (H : Heap) (locs : List Loc) (ls : Array Slot), xh G M2 H → va_S (xF G) s.heap H locs → lv_has ls 7 [(0, .ref b), (1, .ref ob), (2, .ref (bd 100)), (3, .ref og), (4, .int (nI (5 * t)))] → W p l e room_1 s m #[Value.ref b] below meth c H locs (36 + 5 * t) (1813 + 1100 * t) Q (F0 m 1326 ls [])) {H : Heap} {locs : List Loc} {ls : Array Slot} (hM : xh G M H) (hS : va_S (xF G) s.heap H locs) (hl : lv_has ls 7 [(0, .ref b), (1, .ref ob), (2, .ref (bd 100)), (3, .ref og), (4, .int (nI (5 * t)))]) : W p l e room_1 s m #[Value.ref b] below meth c H locs (31 + 5 * t) (713 + 1100 * t) Q (F0 m 788 ls []) := by
  obtain ⟨hx, hb, hr, hml, hown, hw, hlocks⟩ := id hE
  obtain ⟨hO, ⟨ad, rfl, hC, hs⟩, ⟨th, hD⟩, fo, hg⟩ := hI
  have hlt : (fDate u (xs (5 * t + 1)) (xs (5 * t + 2)) (xs (5 * t + 3))).1 < 2 ^ 31 := by
    unfold fDate
    repeat' split
    all_goals exact Nat.le_of_ble_eq_true rfl
  refine lv_aload_n hx hb d_L_law_788 rfl (lv_at hl 1 rfl) ?_
  refine lv_aload_n hx hb d_L_law_789 rfl (lv_at hl 0 rfl) ?_
  refine lv_iload hx hb d_L_law_790 (lv_at hl 4 rfl) ?_
  refine lv_iconst (v := 1) hx hb d_L_law_792 (by decide) ?_
  refine lv_iadd hx hb d_L_law_793 ?_
  refine x_sld hx hb hX hbl hbA hS (j := 5 * t + 1) (nI_add (5 * t) 1) (by omega) (by omega) d_L_law_794 ?_
  refine lv_aload_n hx hb d_L_law_795 rfl (lv_at hl 0 rfl) ?_
  refine lv_iload hx hb d_L_law_796 (lv_at hl 4 rfl) ?_
  refine lv_iconst (v := 2) hx hb d_L_law_798 (by decide) ?_
  refine lv_iadd hx hb d_L_law_799 ?_
  refine x_sld hx hb hX hbl hbA hS (j := 5 * t + 2) (nI_add (5 * t) 2) (by omega) (by omega) d_L_law_800 ?_
  refine lv_aload_n hx hb d_L_law_801 rfl (lv_at hl 0 rfl) ?_
  refine lv_iload hx hb d_L_law_802 (lv_at hl 4 rfl) ?_
  refine lv_iconst (v := 3) hx hb d_L_law_804 (by decide) ?_
  refine lv_iadd hx hb d_L_law_805 ?_
  refine x_sld hx hb hX hbl hbA hS (j := 5 * t + 3) (nI_add (5 * t) 3) (by omega) (by omega) d_L_law_806 ?_
  refine lv_aload_n hx hb d_L_law_807 rfl (lv_at hl 3 rfl) ?_
  refine x_ci (x_runSW (As := [.ref (ad 0), .int (xs (5 * t + 1)), .int (xs (5 * t + 2)), .int (xs (5 * t + 3)), .ref og]) (rest := []) hE hK hM hl.1 (c_L_date l G M hst ad u hC hO hs og fo hg (xs (5 * t + 1)) (xs (5 * t + 2)) (xs (5 * t + 3))) kw_430 kw_431 kw_0 kw_432 5 rfl rfl rfl (by decide +kernel) ⟨by decide, by decide⟩ rfl (Nat.le_of_ble_eq_true rfl) d_L_law_808 ⟨Nat.le_trans (show _ ≤ 3000 by omega) rm_c, Nat.le_trans (show _ ≤ 600000 by omega) rm_s⟩) hS (fun k9 M1 H locs hp1 hM hS => ?_)
  obtain ⟨Ma, eMa⟩ : ∃ zz9 : xM, zz9 = M1 := ⟨_, rfl⟩
  subst eMa
  have hxH := hp1.2.2.1
  obtain ⟨q1, X1, ho1, hA1, hX1, hms1⟩ := hD.k hxH
  refine lv_istore (lv' := [(5, .int k9), (0, .ref b), (1, .ref (ad 0)), (2, .ref (bd 100)), (3, .ref og), (4, .int (nI (5 * t)))]) hx hb d_L_law_811 hl (by decide) rfl (fun ls hl => ?_)
  refine lv_aload_n hx hb d_L_law_813 rfl (lv_at hl 3 rfl) ?_
  refine lv_aload_n hx hb d_L_law_814 rfl (lv_at hl 1 rfl) ?_
  refine lv_iload hx hb d_L_law_815 (lv_at hl 5 rfl) ?_
  refine lv_iconst (v := 1) hx hb d_L_law_817 (by decide) ?_
  refine lv_iadd hx hb d_L_law_818 ?_
  refine x_sld hx hb hX hbl hbA hS (j := 5 * t + 1) (nI_add (5 * t) 1) (by omega) (by omega) d_L_law_819 ?_
  refine lv_aload_n hx hb d_L_law_820 rfl (lv_at hl 1 rfl) ?_
  refine lv_iload hx hb d_L_law_821 (lv_at hl 5 rfl) ?_
  refine lv_iconst (v := 2) hx hb d_L_law_823 (by decide) ?_
  refine lv_iadd hx hb d_L_law_824 ?_
  refine x_sld hx hb hX hbl hbA hS (j := 5 * t + 2) (nI_add (5 * t) 2) (by omega) (by omega) d_L_law_825 ?_
  refine lv_aload_n hx hb d_L_law_826 rfl (lv_at hl 1 rfl) ?_
  refine lv_iload hx hb d_L_law_827 (lv_at hl 5 rfl) ?_
  refine lv_iconst (v := 3) hx hb d_L_law_829 (by decide) ?_
  refine lv_iadd hx hb d_L_law_830 ?_
  refine x_sld hx hb hX hbl hbA hS (j := 5 * t + 3) (nI_add (5 * t) 3) (by omega) (by omega) d_L_law_831 ?_
  refine x_ci (x_runV (As := [.int (xs (5 * t + 1)), .int (xs (5 * t + 2)), .int (xs (5 * t + 3))]) (rest := []) hE hK hM hl.1 (c_Mo_date l G Ma bd u th q1 ho1 X1 hA1 hX1 hO (xs (5 * t + 1)) (xs (5 * t + 2)) (xs (5 * t + 3))) ho1 rfl kw_667 kw_668 kw_669 kw_4 kw_670 3 rfl rfl rfl (by decide +kernel) ⟨by decide, by decide⟩ rfl (Nat.le_of_ble_eq_true rfl) d_L_law_832 ⟨Nat.le_trans (show _ ≤ 3000 by omega) rm_c, Nat.le_trans (show _ ≤ 600000 by omega) rm_s⟩) hS (fun r1 M1 H locs hp hM hS => ?_)
  obtain ⟨Mb, eMb⟩ : ∃ zz9 : xM, zz9 = M1 := ⟨_, rfl⟩
  subst eMb
  have hJ : ∃ u1 : zS, LJ G Mb (ad 0) og bd u1 (fDate u (xs (5 * t + 1)) (xs (5 * t + 2)) (xs (5 * t + 3))) k9 r1 := ⟨u, LJ.of hp1 hO ((MoPost.U hp ho1 hA1 hX1).D hms1)⟩
  obtain ⟨u1, hJ⟩ := hJ
  obtain ⟨-, hk9, -, ⟨q2, X2, ho2, -⟩, hv9, fo2, hg2, hf9⟩ := id hJ
  refine lv_istore (lv' := [(6, .int r1), (5, .int k9), (0, .ref b), (1, .ref (ad 0)), (2, .ref (bd 100)), (3, .ref og), (4, .int (nI (5 * t)))]) hx hb d_L_law_835 hl (by decide) rfl (fun ls hl => ?_)
  refine lv_aload_n hx hb d_L_law_837 rfl (lv_at hl 4 rfl) ?_
  refine x_ci (x_runV (As := []) (rest := []) hE hK hM hl.1 (c_Mo_thrown l G Mb bd u1 (nI (fDate u (xs (5 * t + 1)) (xs (5 * t + 2)) (xs (5 * t + 3))).1) q2 ho2) ho2 rfl kw_584 kw_585 kw_586 kw_4 kw_587 0 rfl rfl rfl (by decide +kernel) ⟨by decide, by decide⟩ rfl (Nat.le_of_ble_eq_true rfl) d_L_law_838 ⟨Nat.le_trans (show _ ≤ 3000 by omega) rm_c, Nat.le_trans (show _ ≤ 600000 by omega) rm_s⟩) hS (fun r2 M1 H locs hp hM hS => ?_)
  obtain ⟨e_t, e_M⟩ := hp
  have hM : xh G Mb H := e_M ▸ hM
  refine lv_iload hx hb d_L_law_841 (lv_at hl 1 rfl) ?_
  refine lv_icmp_eq (tgt := 848) hx hb d_L_law_843 (by decide) (fun c_843 => ?_) (fun c_843 => ?_)
  · refine lv_iload hx hb d_L_law_848 (lv_at hl 1 rfl) ?_
    refine lv_if_ne (tgt := 865) hx hb d_L_law_850 (by decide) (fun c_850 => ?_) (fun c_850 => ?_)
    · refine lv_goto (tgt := 1326) hx hb d_L_law_865 (by decide) ?_
      refine W.widen (k := 36 + 5 * t) (n := 1813 + 1100 * t) (by omega) (by omega) ?_
      exact kk Mb u1 hJ.I _ _ _ hM hS (lv_sub hl [2, 3, 4, 5, 6] rfl)
    · have hf0 : (fDate u (xs (5 * t + 1)) (xs (5 * t + 2)) (xs (5 * t + 3))).1 = 0 := (nI_eq (b := 0) hlt (by decide)).mp (hk9.symm.trans c_850)
      refine lv_aload_n hx hb d_L_law_853 rfl (lv_at hl 5 rfl) ?_
      refine lv_iconst (v := 0) hx hb d_L_law_854 (by decide) ?_
      refine x_lald hx hb hK.1 hM hg2 1 rfl (show (0 : Int32) = nI 0 from rfl) (by decide) (by decide) d_L_law_855 ?_
      refine lv_iload hx hb d_L_law_856 (lv_at hl 0 rfl) ?_
      refine lv_i2l (v := r1.toInt64) hx hb d_L_law_858 rfl ?_
      refine W.lcmp hx hb d_L_law_859 ?_
      refine lv_if_eq (tgt := 865) hx hb d_L_law_860 (by decide) (fun c_860 => ?_) (fun c_860 => ?_)
      · refine lv_goto (tgt := 1326) hx hb d_L_law_865 (by decide) ?_
        refine W.widen (k := 36 + 5 * t) (n := 1813 + 1100 * t) (by omega) (by omega) ?_
        exact kk Mb u1 hJ.I _ _ _ hM hS (lv_sub hl [2, 3, 4, 5, 6] rfl)
      · exact absurd (by rw [hf9 hf0, hv9 hf0]; exact lg_same _) c_860
  · exact absurd (e_t.trans hk9.symm) c_843

set_option maxHeartbeats 4000000 in
set_option maxRecDepth 100000 in
theorem lc_agrees {p : Program} {l : Launch} {e : Env} {s : State} {m : MethodId} {below : List Frame} {meth : Method} {c : Code} {G : xG} {b L : Nat} {xs : Nat → Int32} {Q : State → Prop} (hst : l.stackTraces = false) (hE : xE p s m #[Value.ref b] meth c code ret 7 R_L) (hK : KX G s) (hX : va_X b L xs s s.heap) (hbl : b < s.heap.size) (hbA : ¬ xF G b) (hL : L ≤ 2560) (t : Nat) (ht : 5 * t + 5 ≤ L) (ob og : Nat) (bd : Nat → Nat) (u : zS) (M : xM) (hI : LI G M ob og bd u) (kk : ∀ (M2 : xM) (u2 : zS), LI G M2 ob og bd u2 → ∀ (H : Heap) (locs : List Loc) (ls : Array Slot), xh G M2 H → va_S (xF G) s.heap H locs → lv_has ls 7 [(0, .ref b), (1, .ref ob), (2, .ref (bd 100)), (3, .ref og), (4, .int (nI (5 * t)))] → W p l e room_1 s m #[Value.ref b] below meth c H locs (36 + 5 * t) (1813 + 1100 * t) Q (F0 m 1326 ls [])) {H : Heap} {locs : List Loc} {ls : Array Slot} (hM : xh G M H) (hS : va_S (xF G) s.heap H locs) (hl : lv_has ls 7 [(0, .ref b), (1, .ref ob), (2, .ref (bd 100)), (3, .ref og), (4, .int (nI (5 * t)))]) : W p l e room_1 s m #[Value.ref b] below meth c H locs (31 + 5 * t) (713 + 1100 * t) Q (F0 m 868 ls []) := by
  obtain ⟨hx, hb, hr, hml, hown, hw, hlocks⟩ := id hE
  obtain ⟨hO, ⟨ad, rfl, hC, hs⟩, ⟨th, hD⟩, fo, hg⟩ := hI
  have hlt : (fAgr u (xs (5 * t + 1)) (xs (5 * t + 2)) (xs (5 * t + 3))).1 < 2 ^ 31 := by
    unfold fAgr
    repeat' split
    all_goals exact Nat.le_of_ble_eq_true rfl
  refine lv_aload_n hx hb d_L_law_868 rfl (lv_at hl 1 rfl) ?_
  refine lv_aload_n hx hb d_L_law_869 rfl (lv_at hl 0 rfl) ?_
  refine lv_iload hx hb d_L_law_870 (lv_at hl 4 rfl) ?_
  refine lv_iconst (v := 1) hx hb d_L_law_872 (by decide) ?_
  refine lv_iadd hx hb d_L_law_873 ?_
  refine x_sld hx hb hX hbl hbA hS (j := 5 * t + 1) (nI_add (5 * t) 1) (by omega) (by omega) d_L_law_874 ?_
  refine lv_aload_n hx hb d_L_law_875 rfl (lv_at hl 0 rfl) ?_
  refine lv_iload hx hb d_L_law_876 (lv_at hl 4 rfl) ?_
  refine lv_iconst (v := 2) hx hb d_L_law_878 (by decide) ?_
  refine lv_iadd hx hb d_L_law_879 ?_
  refine x_sld hx hb hX hbl hbA hS (j := 5 * t + 2) (nI_add (5 * t) 2) (by omega) (by omega) d_L_law_880 ?_
  refine lv_aload_n hx hb d_L_law_881 rfl (lv_at hl 0 rfl) ?_
  refine lv_iload hx hb d_L_law_882 (lv_at hl 4 rfl) ?_
  refine lv_iconst (v := 3) hx hb d_L_law_884 (by decide) ?_
  refine lv_iadd hx hb d_L_law_885 ?_
  refine x_sld hx hb hX hbl hbA hS (j := 5 * t + 3) (nI_add (5 * t) 3) (by omega) (by omega) d_L_law_886 ?_
  refine lv_aload_n hx hb d_L_law_887 rfl (lv_at hl 3 rfl) ?_
  refine x_ci (x_runSW (As := [.ref (ad 0), .int (xs (5 * t + 1)), .int (xs (5 * t + 2)), .int (xs (5 * t + 3)), .ref og]) (rest := []) hE hK hM hl.1 (c_L_agrees l G M hst ad u hC hO hs og fo hg (xs (5 * t + 1)) (xs (5 * t + 2)) (xs (5 * t + 3))) kw_453 kw_454 kw_0 kw_455 5 rfl rfl rfl (by decide +kernel) ⟨by decide, by decide⟩ rfl (Nat.le_of_ble_eq_true rfl) d_L_law_888 ⟨Nat.le_trans (show _ ≤ 3000 by omega) rm_c, Nat.le_trans (show _ ≤ 600000 by omega) rm_s⟩) hS (fun k9 M1 H locs hp1 hM hS => ?_)
  obtain ⟨Ma, eMa⟩ : ∃ zz9 : xM, zz9 = M1 := ⟨_, rfl⟩
  subst eMa
  have hxH := hp1.2.2.1
  obtain ⟨q1, X1, ho1, hA1, hX1, hms1⟩ := hD.k hxH
  refine lv_istore (lv' := [(5, .int k9), (0, .ref b), (1, .ref (ad 0)), (2, .ref (bd 100)), (3, .ref og), (4, .int (nI (5 * t)))]) hx hb d_L_law_891 hl (by decide) rfl (fun ls hl => ?_)
  refine lv_aload_n hx hb d_L_law_893 rfl (lv_at hl 3 rfl) ?_
  refine lv_aload_n hx hb d_L_law_894 rfl (lv_at hl 1 rfl) ?_
  refine lv_iload hx hb d_L_law_895 (lv_at hl 5 rfl) ?_
  refine lv_iconst (v := 1) hx hb d_L_law_897 (by decide) ?_
  refine lv_iadd hx hb d_L_law_898 ?_
  refine x_sld hx hb hX hbl hbA hS (j := 5 * t + 1) (nI_add (5 * t) 1) (by omega) (by omega) d_L_law_899 ?_
  refine lv_aload_n hx hb d_L_law_900 rfl (lv_at hl 1 rfl) ?_
  refine lv_iload hx hb d_L_law_901 (lv_at hl 5 rfl) ?_
  refine lv_iconst (v := 2) hx hb d_L_law_903 (by decide) ?_
  refine lv_iadd hx hb d_L_law_904 ?_
  refine x_sld hx hb hX hbl hbA hS (j := 5 * t + 2) (nI_add (5 * t) 2) (by omega) (by omega) d_L_law_905 ?_
  refine lv_aload_n hx hb d_L_law_906 rfl (lv_at hl 1 rfl) ?_
  refine lv_iload hx hb d_L_law_907 (lv_at hl 5 rfl) ?_
  refine lv_iconst (v := 3) hx hb d_L_law_909 (by decide) ?_
  refine lv_iadd hx hb d_L_law_910 ?_
  refine x_sld hx hb hX hbl hbA hS (j := 5 * t + 3) (nI_add (5 * t) 3) (by omega) (by omega) d_L_law_911 ?_
  refine x_ci (x_runV (As := [.int (xs (5 * t + 1)), .int (xs (5 * t + 2)), .int (xs (5 * t + 3))]) (rest := []) hE hK hM hl.1 (c_Mo_agrees l G Ma bd u th q1 ho1 X1 hA1 hX1 hO (xs (5 * t + 1)) (xs (5 * t + 2)) (xs (5 * t + 3))) ho1 rfl kw_681 kw_682 kw_683 kw_4 kw_684 3 rfl rfl rfl (by decide +kernel) ⟨by decide, by decide⟩ rfl (Nat.le_of_ble_eq_true rfl) d_L_law_912 ⟨Nat.le_trans (show _ ≤ 3000 by omega) rm_c, Nat.le_trans (show _ ≤ 600000 by omega) rm_s⟩) hS (fun r1 M1 H locs hp hM hS => ?_)
  obtain ⟨Mb, eMb⟩ : ∃ zz9 : xM, zz9 = M1 := ⟨_, rfl⟩
  subst eMb
  have hJ : ∃ u1 : zS, LJ G Mb (ad 0) og bd u1 (fAgr u (xs (5 * t + 1)) (xs (5 * t + 2)) (xs (5 * t + 3))) k9 r1 := ⟨u, LJ.of hp1 hO ((MoPost.U hp ho1 hA1 hX1).D hms1)⟩
  obtain ⟨u1, hJ⟩ := hJ
  obtain ⟨-, hk9, -, ⟨q2, X2, ho2, -⟩, hv9, fo2, hg2, hf9⟩ := id hJ
  refine lv_istore (lv' := [(6, .int r1), (5, .int k9), (0, .ref b), (1, .ref (ad 0)), (2, .ref (bd 100)), (3, .ref og), (4, .int (nI (5 * t)))]) hx hb d_L_law_915 hl (by decide) rfl (fun ls hl => ?_)
  refine lv_aload_n hx hb d_L_law_917 rfl (lv_at hl 4 rfl) ?_
  refine x_ci (x_runV (As := []) (rest := []) hE hK hM hl.1 (c_Mo_thrown l G Mb bd u1 (nI (fAgr u (xs (5 * t + 1)) (xs (5 * t + 2)) (xs (5 * t + 3))).1) q2 ho2) ho2 rfl kw_584 kw_585 kw_586 kw_4 kw_587 0 rfl rfl rfl (by decide +kernel) ⟨by decide, by decide⟩ rfl (Nat.le_of_ble_eq_true rfl) d_L_law_918 ⟨Nat.le_trans (show _ ≤ 3000 by omega) rm_c, Nat.le_trans (show _ ≤ 600000 by omega) rm_s⟩) hS (fun r2 M1 H locs hp hM hS => ?_)
  obtain ⟨e_t, e_M⟩ := hp
  have hM : xh G Mb H := e_M ▸ hM
  refine lv_iload hx hb d_L_law_921 (lv_at hl 1 rfl) ?_
  refine lv_icmp_eq (tgt := 928) hx hb d_L_law_923 (by decide) (fun c_923 => ?_) (fun c_923 => ?_)
  · refine lv_iload hx hb d_L_law_928 (lv_at hl 1 rfl) ?_
    refine lv_if_ne (tgt := 952) hx hb d_L_law_930 (by decide) (fun c_930 => ?_) (fun c_930 => ?_)
    · refine lv_goto (tgt := 1326) hx hb d_L_law_952 (by decide) ?_
      refine W.widen (k := 36 + 5 * t) (n := 1813 + 1100 * t) (by omega) (by omega) ?_
      exact kk Mb u1 hJ.I _ _ _ hM hS (lv_sub hl [2, 3, 4, 5, 6] rfl)
    · have hf0 : (fAgr u (xs (5 * t + 1)) (xs (5 * t + 2)) (xs (5 * t + 3))).1 = 0 := (nI_eq (b := 0) hlt (by decide)).mp (hk9.symm.trans c_930)
      refine lv_aload_n hx hb d_L_law_933 rfl (lv_at hl 5 rfl) ?_
      refine lv_iconst (v := 0) hx hb d_L_law_934 (by decide) ?_
      refine x_lald hx hb hK.1 hM hg2 1 rfl (show (0 : Int32) = nI 0 from rfl) (by decide) (by decide) d_L_law_935 ?_
      refine lv_iload hx hb d_L_law_936 (lv_at hl 0 rfl) ?_
      refine lv_if_eq (tgt := 945) hx hb d_L_law_938 (by decide) (fun c_938 => ?_) (fun c_938 => ?_)
      · refine lv_lconst (v := 0) hx hb d_L_law_945 (by decide) ?_
        refine W.lcmp hx hb d_L_law_946 ?_
        refine lv_if_eq (tgt := 952) hx hb d_L_law_947 (by decide) (fun c_947 => ?_) (fun c_947 => ?_)
        · refine lv_goto (tgt := 1326) hx hb d_L_law_952 (by decide) ?_
          refine W.widen (k := 36 + 5 * t) (n := 1813 + 1100 * t) (by omega) (by omega) ?_
          exact kk Mb u1 hJ.I _ _ _ hM hS (lv_sub hl [2, 3, 4, 5, 6] rfl)
        · exact absurd (by rw [hf9 hf0, ← hv9 hf0, c_938]; rfl) c_947
      · refine lv_lconst (v := 1) hx hb d_L_law_941 (by decide) ?_
        refine lv_goto (tgt := 946) hx hb d_L_law_942 (by decide) ?_
        refine W.lcmp hx hb d_L_law_946 ?_
        refine lv_if_eq (tgt := 952) hx hb d_L_law_947 (by decide) (fun c_947 => ?_) (fun c_947 => ?_)
        · refine lv_goto (tgt := 1326) hx hb d_L_law_952 (by decide) ?_
          refine W.widen (k := 36 + 5 * t) (n := 1813 + 1100 * t) (by omega) (by omega) ?_
          exact kk Mb u1 hJ.I _ _ _ hM hS (lv_sub hl [2, 3, 4, 5, 6] rfl)
        · exact absurd (by rw [hf9 hf0]; rcases fAgr_01 u (xs (5 * t + 1)) (xs (5 * t + 2)) (xs (5 * t + 3)) with h9 | h9; exact absurd ((hv9 hf0).trans h9) c_938; rw [h9]; rfl) c_947
  · exact absurd (e_t.trans hk9.symm) c_923

set_option maxHeartbeats 4000000 in
set_option maxRecDepth 100000 in
theorem lc_source {p : Program} {l : Launch} {e : Env} {s : State} {m : MethodId} {below : List Frame} {meth : Method} {c : Code} {G : xG} {b L : Nat} {xs : Nat → Int32} {Q : State → Prop} (hst : l.stackTraces = false) (hE : xE p s m #[Value.ref b] meth c code ret 7 R_L) (hK : KX G s) (hX : va_X b L xs s s.heap) (hbl : b < s.heap.size) (hbA : ¬ xF G b) (hL : L ≤ 2560) (t : Nat) (ht : 5 * t + 5 ≤ L) (ob og : Nat) (bd : Nat → Nat) (u : zS) (M : xM) (hI : LI G M ob og bd u) (kk : ∀ (M2 : xM) (u2 : zS), LI G M2 ob og bd u2 → ∀ (H : Heap) (locs : List Loc) (ls : Array Slot), xh G M2 H → va_S (xF G) s.heap H locs → lv_has ls 7 [(0, .ref b), (1, .ref ob), (2, .ref (bd 100)), (3, .ref og), (4, .int (nI (5 * t)))] → W p l e room_1 s m #[Value.ref b] below meth c H locs (36 + 5 * t) (1813 + 1100 * t) Q (F0 m 1326 ls [])) {H : Heap} {locs : List Loc} {ls : Array Slot} (hM : xh G M H) (hS : va_S (xF G) s.heap H locs) (hl : lv_has ls 7 [(0, .ref b), (1, .ref ob), (2, .ref (bd 100)), (3, .ref og), (4, .int (nI (5 * t)))]) : W p l e room_1 s m #[Value.ref b] below meth c H locs (31 + 5 * t) (713 + 1100 * t) Q (F0 m 955 ls []) := by
  obtain ⟨hx, hb, hr, hml, hown, hw, hlocks⟩ := id hE
  obtain ⟨hO, ⟨ad, rfl, hC, hs⟩, ⟨th, hD⟩, fo, hg⟩ := hI
  have hlt : (fSrc u (xs (5 * t + 1)) (xs (5 * t + 2)) (xs (5 * t + 3))).1 < 2 ^ 31 := by
    unfold fSrc
    repeat' split
    all_goals exact Nat.le_of_ble_eq_true rfl
  refine lv_aload_n hx hb d_L_law_955 rfl (lv_at hl 1 rfl) ?_
  refine lv_aload_n hx hb d_L_law_956 rfl (lv_at hl 0 rfl) ?_
  refine lv_iload hx hb d_L_law_957 (lv_at hl 4 rfl) ?_
  refine lv_iconst (v := 1) hx hb d_L_law_959 (by decide) ?_
  refine lv_iadd hx hb d_L_law_960 ?_
  refine x_sld hx hb hX hbl hbA hS (j := 5 * t + 1) (nI_add (5 * t) 1) (by omega) (by omega) d_L_law_961 ?_
  refine lv_aload_n hx hb d_L_law_962 rfl (lv_at hl 0 rfl) ?_
  refine lv_iload hx hb d_L_law_963 (lv_at hl 4 rfl) ?_
  refine lv_iconst (v := 2) hx hb d_L_law_965 (by decide) ?_
  refine lv_iadd hx hb d_L_law_966 ?_
  refine x_sld hx hb hX hbl hbA hS (j := 5 * t + 2) (nI_add (5 * t) 2) (by omega) (by omega) d_L_law_967 ?_
  refine lv_aload_n hx hb d_L_law_968 rfl (lv_at hl 0 rfl) ?_
  refine lv_iload hx hb d_L_law_969 (lv_at hl 4 rfl) ?_
  refine lv_iconst (v := 3) hx hb d_L_law_971 (by decide) ?_
  refine lv_iadd hx hb d_L_law_972 ?_
  refine x_sld hx hb hX hbl hbA hS (j := 5 * t + 3) (nI_add (5 * t) 3) (by omega) (by omega) d_L_law_973 ?_
  refine lv_aload_n hx hb d_L_law_974 rfl (lv_at hl 3 rfl) ?_
  refine x_ci (x_runSW (As := [.ref (ad 0), .int (xs (5 * t + 1)), .int (xs (5 * t + 2)), .int (xs (5 * t + 3)), .ref og]) (rest := []) hE hK hM hl.1 (c_L_source l G M hst ad u hC hO hs og fo hg (xs (5 * t + 1)) (xs (5 * t + 2)) (xs (5 * t + 3))) kw_460 kw_461 kw_0 kw_462 5 rfl rfl rfl (by decide +kernel) ⟨by decide, by decide⟩ rfl (Nat.le_of_ble_eq_true rfl) d_L_law_975 ⟨Nat.le_trans (show _ ≤ 3000 by omega) rm_c, Nat.le_trans (show _ ≤ 600000 by omega) rm_s⟩) hS (fun k9 M1 H locs hp1 hM hS => ?_)
  obtain ⟨Ma, eMa⟩ : ∃ zz9 : xM, zz9 = M1 := ⟨_, rfl⟩
  subst eMa
  have hxH := hp1.2.2.1
  obtain ⟨q1, X1, ho1, hA1, hX1, hms1⟩ := hD.k hxH
  refine lv_istore (lv' := [(5, .int k9), (0, .ref b), (1, .ref (ad 0)), (2, .ref (bd 100)), (3, .ref og), (4, .int (nI (5 * t)))]) hx hb d_L_law_978 hl (by decide) rfl (fun ls hl => ?_)
  refine lv_aload_n hx hb d_L_law_980 rfl (lv_at hl 3 rfl) ?_
  refine lv_aload_n hx hb d_L_law_981 rfl (lv_at hl 1 rfl) ?_
  refine lv_iload hx hb d_L_law_982 (lv_at hl 5 rfl) ?_
  refine lv_iconst (v := 1) hx hb d_L_law_984 (by decide) ?_
  refine lv_iadd hx hb d_L_law_985 ?_
  refine x_sld hx hb hX hbl hbA hS (j := 5 * t + 1) (nI_add (5 * t) 1) (by omega) (by omega) d_L_law_986 ?_
  refine lv_aload_n hx hb d_L_law_987 rfl (lv_at hl 1 rfl) ?_
  refine lv_iload hx hb d_L_law_988 (lv_at hl 5 rfl) ?_
  refine lv_iconst (v := 2) hx hb d_L_law_990 (by decide) ?_
  refine lv_iadd hx hb d_L_law_991 ?_
  refine x_sld hx hb hX hbl hbA hS (j := 5 * t + 2) (nI_add (5 * t) 2) (by omega) (by omega) d_L_law_992 ?_
  refine lv_aload_n hx hb d_L_law_993 rfl (lv_at hl 1 rfl) ?_
  refine lv_iload hx hb d_L_law_994 (lv_at hl 5 rfl) ?_
  refine lv_iconst (v := 3) hx hb d_L_law_996 (by decide) ?_
  refine lv_iadd hx hb d_L_law_997 ?_
  refine x_sld hx hb hX hbl hbA hS (j := 5 * t + 3) (nI_add (5 * t) 3) (by omega) (by omega) d_L_law_998 ?_
  refine x_ci (x_runV (As := [.int (xs (5 * t + 1)), .int (xs (5 * t + 2)), .int (xs (5 * t + 3))]) (rest := []) hE hK hM hl.1 (c_Mo_source l G Ma bd u th q1 ho1 X1 hA1 hX1 hO hms1 (xs (5 * t + 1)) (xs (5 * t + 2)) (xs (5 * t + 3))) ho1 rfl kw_685 kw_686 kw_687 kw_4 kw_688 3 rfl rfl rfl (by decide +kernel) ⟨by decide, by decide⟩ rfl (Nat.le_of_ble_eq_true rfl) d_L_law_999 ⟨Nat.le_trans (show _ ≤ 3000 by omega) rm_c, Nat.le_trans (show _ ≤ 600000 by omega) rm_s⟩) hS (fun r1 M1 H locs hp hM hS => ?_)
  obtain ⟨Mb, eMb⟩ : ∃ zz9 : xM, zz9 = M1 := ⟨_, rfl⟩
  subst eMb
  have hJ : ∃ u1 : zS, LJ G Mb (ad 0) og bd u1 (fSrc u (xs (5 * t + 1)) (xs (5 * t + 2)) (xs (5 * t + 3))) k9 r1 := ⟨u, LJ.of hp1 hO hp⟩
  obtain ⟨u1, hJ⟩ := hJ
  obtain ⟨-, hk9, -, ⟨q2, X2, ho2, -⟩, hv9, fo2, hg2, hf9⟩ := id hJ
  refine lv_istore (lv' := [(6, .int r1), (5, .int k9), (0, .ref b), (1, .ref (ad 0)), (2, .ref (bd 100)), (3, .ref og), (4, .int (nI (5 * t)))]) hx hb d_L_law_1002 hl (by decide) rfl (fun ls hl => ?_)
  refine lv_aload_n hx hb d_L_law_1004 rfl (lv_at hl 4 rfl) ?_
  refine x_ci (x_runV (As := []) (rest := []) hE hK hM hl.1 (c_Mo_thrown l G Mb bd u1 (nI (fSrc u (xs (5 * t + 1)) (xs (5 * t + 2)) (xs (5 * t + 3))).1) q2 ho2) ho2 rfl kw_584 kw_585 kw_586 kw_4 kw_587 0 rfl rfl rfl (by decide +kernel) ⟨by decide, by decide⟩ rfl (Nat.le_of_ble_eq_true rfl) d_L_law_1005 ⟨Nat.le_trans (show _ ≤ 3000 by omega) rm_c, Nat.le_trans (show _ ≤ 600000 by omega) rm_s⟩) hS (fun r2 M1 H locs hp hM hS => ?_)
  obtain ⟨e_t, e_M⟩ := hp
  have hM : xh G Mb H := e_M ▸ hM
  refine lv_iload hx hb d_L_law_1008 (lv_at hl 1 rfl) ?_
  refine lv_icmp_eq (tgt := 1015) hx hb d_L_law_1010 (by decide) (fun c_1010 => ?_) (fun c_1010 => ?_)
  · refine lv_iload hx hb d_L_law_1015 (lv_at hl 1 rfl) ?_
    refine lv_if_ne (tgt := 1032) hx hb d_L_law_1017 (by decide) (fun c_1017 => ?_) (fun c_1017 => ?_)
    · refine lv_goto (tgt := 1326) hx hb d_L_law_1032 (by decide) ?_
      refine W.widen (k := 36 + 5 * t) (n := 1813 + 1100 * t) (by omega) (by omega) ?_
      exact kk Mb u1 hJ.I _ _ _ hM hS (lv_sub hl [2, 3, 4, 5, 6] rfl)
    · have hf0 : (fSrc u (xs (5 * t + 1)) (xs (5 * t + 2)) (xs (5 * t + 3))).1 = 0 := (nI_eq (b := 0) hlt (by decide)).mp (hk9.symm.trans c_1017)
      refine lv_aload_n hx hb d_L_law_1020 rfl (lv_at hl 5 rfl) ?_
      refine lv_iconst (v := 0) hx hb d_L_law_1021 (by decide) ?_
      refine x_lald hx hb hK.1 hM hg2 1 rfl (show (0 : Int32) = nI 0 from rfl) (by decide) (by decide) d_L_law_1022 ?_
      refine lv_iload hx hb d_L_law_1023 (lv_at hl 0 rfl) ?_
      refine lv_i2l (v := r1.toInt64) hx hb d_L_law_1025 rfl ?_
      refine W.lcmp hx hb d_L_law_1026 ?_
      refine lv_if_eq (tgt := 1032) hx hb d_L_law_1027 (by decide) (fun c_1027 => ?_) (fun c_1027 => ?_)
      · refine lv_goto (tgt := 1326) hx hb d_L_law_1032 (by decide) ?_
        refine W.widen (k := 36 + 5 * t) (n := 1813 + 1100 * t) (by omega) (by omega) ?_
        exact kk Mb u1 hJ.I _ _ _ hM hS (lv_sub hl [2, 3, 4, 5, 6] rfl)
      · exact absurd (by rw [hf9 hf0, hv9 hf0]; exact lg_same _) c_1027
  · exact absurd (e_t.trans hk9.symm) c_1010

set_option maxHeartbeats 4000000 in
set_option maxRecDepth 100000 in
theorem lc_sapwood {p : Program} {l : Launch} {e : Env} {s : State} {m : MethodId} {below : List Frame} {meth : Method} {c : Code} {G : xG} {b L : Nat} {xs : Nat → Int32} {Q : State → Prop} (hst : l.stackTraces = false) (hE : xE p s m #[Value.ref b] meth c code ret 7 R_L) (hK : KX G s) (hX : va_X b L xs s s.heap) (hbl : b < s.heap.size) (hbA : ¬ xF G b) (hL : L ≤ 2560) (t : Nat) (ht : 5 * t + 5 ≤ L) (ob og : Nat) (bd : Nat → Nat) (u : zS) (M : xM) (hI : LI G M ob og bd u) (kk : ∀ (M2 : xM) (u2 : zS), LI G M2 ob og bd u2 → ∀ (H : Heap) (locs : List Loc) (ls : Array Slot), xh G M2 H → va_S (xF G) s.heap H locs → lv_has ls 7 [(0, .ref b), (1, .ref ob), (2, .ref (bd 100)), (3, .ref og), (4, .int (nI (5 * t)))] → W p l e room_1 s m #[Value.ref b] below meth c H locs (36 + 5 * t) (1813 + 1100 * t) Q (F0 m 1326 ls [])) {H : Heap} {locs : List Loc} {ls : Array Slot} (hM : xh G M H) (hS : va_S (xF G) s.heap H locs) (hl : lv_has ls 7 [(0, .ref b), (1, .ref ob), (2, .ref (bd 100)), (3, .ref og), (4, .int (nI (5 * t)))]) : W p l e room_1 s m #[Value.ref b] below meth c H locs (31 + 5 * t) (713 + 1100 * t) Q (F0 m 1035 ls []) := by
  obtain ⟨hx, hb, hr, hml, hown, hw, hlocks⟩ := id hE
  obtain ⟨hO, ⟨ad, rfl, hC, hs⟩, ⟨th, hD⟩, fo, hg⟩ := hI
  have hlt : (fSap u (xs (5 * t + 1)) (xs (5 * t + 2))).1 < 2 ^ 31 := by
    unfold fSap
    repeat' split
    all_goals exact Nat.le_of_ble_eq_true rfl
  refine lv_aload_n hx hb d_L_law_1035 rfl (lv_at hl 1 rfl) ?_
  refine lv_aload_n hx hb d_L_law_1036 rfl (lv_at hl 0 rfl) ?_
  refine lv_iload hx hb d_L_law_1037 (lv_at hl 4 rfl) ?_
  refine lv_iconst (v := 1) hx hb d_L_law_1039 (by decide) ?_
  refine lv_iadd hx hb d_L_law_1040 ?_
  refine x_sld hx hb hX hbl hbA hS (j := 5 * t + 1) (nI_add (5 * t) 1) (by omega) (by omega) d_L_law_1041 ?_
  refine lv_aload_n hx hb d_L_law_1042 rfl (lv_at hl 0 rfl) ?_
  refine lv_iload hx hb d_L_law_1043 (lv_at hl 4 rfl) ?_
  refine lv_iconst (v := 2) hx hb d_L_law_1045 (by decide) ?_
  refine lv_iadd hx hb d_L_law_1046 ?_
  refine x_sld hx hb hX hbl hbA hS (j := 5 * t + 2) (nI_add (5 * t) 2) (by omega) (by omega) d_L_law_1047 ?_
  refine lv_aload_n hx hb d_L_law_1048 rfl (lv_at hl 3 rfl) ?_
  refine x_ci (x_runSW (As := [.ref (ad 0), .int (xs (5 * t + 1)), .int (xs (5 * t + 2)), .ref og]) (rest := []) hE hK hM hl.1 (c_L_sapwood l G M hst ad u hC hO hs og fo hg (xs (5 * t + 1)) (xs (5 * t + 2))) kw_472 kw_473 kw_0 kw_474 4 rfl rfl rfl (by decide +kernel) ⟨by decide, by decide⟩ rfl (Nat.le_of_ble_eq_true rfl) d_L_law_1049 ⟨Nat.le_trans (show _ ≤ 3000 by omega) rm_c, Nat.le_trans (show _ ≤ 600000 by omega) rm_s⟩) hS (fun k9 M1 H locs hp1 hM hS => ?_)
  obtain ⟨Ma, eMa⟩ : ∃ zz9 : xM, zz9 = M1 := ⟨_, rfl⟩
  subst eMa
  have hxH : xH M Ma := by
    by_cases h9 : (fSap u (xs (5 * t + 1)) (xs (5 * t + 2))).1 = 0
    · exact (hp1.1 h9).2.2.1
    · exact (hp1.2 h9).2.2.1
  obtain ⟨q1, X1, ho1, hA1, hX1, hms1⟩ := hD.k hxH
  refine lv_istore (lv' := [(5, .int k9), (0, .ref b), (1, .ref (ad 0)), (2, .ref (bd 100)), (3, .ref og), (4, .int (nI (5 * t)))]) hx hb d_L_law_1052 hl (by decide) rfl (fun ls hl => ?_)
  refine lv_aload_n hx hb d_L_law_1054 rfl (lv_at hl 3 rfl) ?_
  refine lv_aload_n hx hb d_L_law_1055 rfl (lv_at hl 1 rfl) ?_
  refine lv_iload hx hb d_L_law_1056 (lv_at hl 5 rfl) ?_
  refine lv_iconst (v := 1) hx hb d_L_law_1058 (by decide) ?_
  refine lv_iadd hx hb d_L_law_1059 ?_
  refine x_sld hx hb hX hbl hbA hS (j := 5 * t + 1) (nI_add (5 * t) 1) (by omega) (by omega) d_L_law_1060 ?_
  refine lv_aload_n hx hb d_L_law_1061 rfl (lv_at hl 1 rfl) ?_
  refine lv_iload hx hb d_L_law_1062 (lv_at hl 5 rfl) ?_
  refine lv_iconst (v := 2) hx hb d_L_law_1064 (by decide) ?_
  refine lv_iadd hx hb d_L_law_1065 ?_
  refine x_sld hx hb hX hbl hbA hS (j := 5 * t + 2) (nI_add (5 * t) 2) (by omega) (by omega) d_L_law_1066 ?_
  refine x_ci (x_runV (As := [.int (xs (5 * t + 1)), .int (xs (5 * t + 2))]) (rest := []) hE hK hM hl.1 (c_Mo_sapwood l G Ma bd u th q1 ho1 X1 hA1 hX1 hO (xs (5 * t + 1)) (xs (5 * t + 2))) ho1 rfl kw_689 kw_690 kw_691 kw_4 kw_692 2 rfl rfl rfl (by decide +kernel) ⟨by decide, by decide⟩ rfl (Nat.le_of_ble_eq_true rfl) d_L_law_1067 ⟨Nat.le_trans (show _ ≤ 3000 by omega) rm_c, Nat.le_trans (show _ ≤ 600000 by omega) rm_s⟩) hS (fun r1 M1 H locs hp hM hS => ?_)
  obtain ⟨Mb, eMb⟩ : ∃ zz9 : xM, zz9 = M1 := ⟨_, rfl⟩
  subst eMb
  have hJ : ∃ u1 : zS, LJ G Mb (ad 0) og bd u1 (fSap u (xs (5 * t + 1)) (xs (5 * t + 2))) k9 r1 := by
    by_cases h9 : (fSap u (xs (5 * t + 1)) (xs (5 * t + 2))).1 = 0
    · exact ⟨uSap u (xs (5 * t + 1)) (xs (5 * t + 2)), LJ.of (hp1.1 h9) (hO.r3 h9) ((hp.1 h9).D hms1)⟩
    · exact ⟨u, LJ.of (hp1.2 h9) hO ((hp.2 h9).D hms1)⟩
  obtain ⟨u1, hJ⟩ := hJ
  obtain ⟨-, hk9, -, ⟨q2, X2, ho2, -⟩, hv9, fo2, hg2, hf9⟩ := id hJ
  refine lv_istore (lv' := [(6, .int r1), (5, .int k9), (0, .ref b), (1, .ref (ad 0)), (2, .ref (bd 100)), (3, .ref og), (4, .int (nI (5 * t)))]) hx hb d_L_law_1070 hl (by decide) rfl (fun ls hl => ?_)
  refine lv_aload_n hx hb d_L_law_1072 rfl (lv_at hl 4 rfl) ?_
  refine x_ci (x_runV (As := []) (rest := []) hE hK hM hl.1 (c_Mo_thrown l G Mb bd u1 (nI (fSap u (xs (5 * t + 1)) (xs (5 * t + 2))).1) q2 ho2) ho2 rfl kw_584 kw_585 kw_586 kw_4 kw_587 0 rfl rfl rfl (by decide +kernel) ⟨by decide, by decide⟩ rfl (Nat.le_of_ble_eq_true rfl) d_L_law_1073 ⟨Nat.le_trans (show _ ≤ 3000 by omega) rm_c, Nat.le_trans (show _ ≤ 600000 by omega) rm_s⟩) hS (fun r2 M1 H locs hp hM hS => ?_)
  obtain ⟨e_t, e_M⟩ := hp
  have hM : xh G Mb H := e_M ▸ hM
  refine lv_iload hx hb d_L_law_1076 (lv_at hl 1 rfl) ?_
  refine lv_icmp_eq (tgt := 1083) hx hb d_L_law_1078 (by decide) (fun c_1078 => ?_) (fun c_1078 => ?_)
  · refine lv_iload hx hb d_L_law_1083 (lv_at hl 1 rfl) ?_
    refine lv_if_ne (tgt := 1100) hx hb d_L_law_1085 (by decide) (fun c_1085 => ?_) (fun c_1085 => ?_)
    · refine lv_goto (tgt := 1326) hx hb d_L_law_1100 (by decide) ?_
      refine W.widen (k := 36 + 5 * t) (n := 1813 + 1100 * t) (by omega) (by omega) ?_
      exact kk Mb u1 hJ.I _ _ _ hM hS (lv_sub hl [2, 3, 4, 5, 6] rfl)
    · have hf0 : (fSap u (xs (5 * t + 1)) (xs (5 * t + 2))).1 = 0 := (nI_eq (b := 0) hlt (by decide)).mp (hk9.symm.trans c_1085)
      refine lv_aload_n hx hb d_L_law_1088 rfl (lv_at hl 5 rfl) ?_
      refine lv_iconst (v := 0) hx hb d_L_law_1089 (by decide) ?_
      refine x_lald hx hb hK.1 hM hg2 1 rfl (show (0 : Int32) = nI 0 from rfl) (by decide) (by decide) d_L_law_1090 ?_
      refine lv_iload hx hb d_L_law_1091 (lv_at hl 0 rfl) ?_
      refine lv_i2l (v := r1.toInt64) hx hb d_L_law_1093 rfl ?_
      refine W.lcmp hx hb d_L_law_1094 ?_
      refine lv_if_eq (tgt := 1100) hx hb d_L_law_1095 (by decide) (fun c_1095 => ?_) (fun c_1095 => ?_)
      · refine lv_goto (tgt := 1326) hx hb d_L_law_1100 (by decide) ?_
        refine W.widen (k := 36 + 5 * t) (n := 1813 + 1100 * t) (by omega) (by omega) ?_
        exact kk Mb u1 hJ.I _ _ _ hM hS (lv_sub hl [2, 3, 4, 5, 6] rfl)
      · exact absurd (by rw [hf9 hf0, hv9 hf0]; exact lg_same _) c_1095
  · exact absurd (e_t.trans hk9.symm) c_1078

set_option maxHeartbeats 4000000 in
set_option maxRecDepth 100000 in
theorem lc_felling {p : Program} {l : Launch} {e : Env} {s : State} {m : MethodId} {below : List Frame} {meth : Method} {c : Code} {G : xG} {b L : Nat} {xs : Nat → Int32} {Q : State → Prop} (hst : l.stackTraces = false) (hE : xE p s m #[Value.ref b] meth c code ret 7 R_L) (hK : KX G s) (hX : va_X b L xs s s.heap) (hbl : b < s.heap.size) (hbA : ¬ xF G b) (hL : L ≤ 2560) (t : Nat) (ht : 5 * t + 5 ≤ L) (ob og : Nat) (bd : Nat → Nat) (u : zS) (M : xM) (hI : LI G M ob og bd u) (kk : ∀ (M2 : xM) (u2 : zS), LI G M2 ob og bd u2 → ∀ (H : Heap) (locs : List Loc) (ls : Array Slot), xh G M2 H → va_S (xF G) s.heap H locs → lv_has ls 7 [(0, .ref b), (1, .ref ob), (2, .ref (bd 100)), (3, .ref og), (4, .int (nI (5 * t)))] → W p l e room_1 s m #[Value.ref b] below meth c H locs (36 + 5 * t) (1813 + 1100 * t) Q (F0 m 1326 ls [])) {H : Heap} {locs : List Loc} {ls : Array Slot} (hM : xh G M H) (hS : va_S (xF G) s.heap H locs) (hl : lv_has ls 7 [(0, .ref b), (1, .ref ob), (2, .ref (bd 100)), (3, .ref og), (4, .int (nI (5 * t)))]) : W p l e room_1 s m #[Value.ref b] below meth c H locs (31 + 5 * t) (713 + 1100 * t) Q (F0 m 1103 ls []) := by
  obtain ⟨hx, hb, hr, hml, hown, hw, hlocks⟩ := id hE
  obtain ⟨hO, ⟨ad, rfl, hC, hs⟩, ⟨th, hD⟩, fo, hg⟩ := hI
  have hlt : (fFell u (xs (5 * t + 1)) (xs (5 * t + 2)) (xs (5 * t + 3)) (xs (5 * t + 4))).1 < 2 ^ 31 := by
    unfold fFell
    repeat' split
    all_goals exact Nat.le_of_ble_eq_true rfl
  refine lv_aload_n hx hb d_L_law_1103 rfl (lv_at hl 1 rfl) ?_
  refine lv_aload_n hx hb d_L_law_1104 rfl (lv_at hl 0 rfl) ?_
  refine lv_iload hx hb d_L_law_1105 (lv_at hl 4 rfl) ?_
  refine lv_iconst (v := 1) hx hb d_L_law_1107 (by decide) ?_
  refine lv_iadd hx hb d_L_law_1108 ?_
  refine x_sld hx hb hX hbl hbA hS (j := 5 * t + 1) (nI_add (5 * t) 1) (by omega) (by omega) d_L_law_1109 ?_
  refine lv_aload_n hx hb d_L_law_1110 rfl (lv_at hl 0 rfl) ?_
  refine lv_iload hx hb d_L_law_1111 (lv_at hl 4 rfl) ?_
  refine lv_iconst (v := 2) hx hb d_L_law_1113 (by decide) ?_
  refine lv_iadd hx hb d_L_law_1114 ?_
  refine x_sld hx hb hX hbl hbA hS (j := 5 * t + 2) (nI_add (5 * t) 2) (by omega) (by omega) d_L_law_1115 ?_
  refine lv_aload_n hx hb d_L_law_1116 rfl (lv_at hl 0 rfl) ?_
  refine lv_iload hx hb d_L_law_1117 (lv_at hl 4 rfl) ?_
  refine lv_iconst (v := 3) hx hb d_L_law_1119 (by decide) ?_
  refine lv_iadd hx hb d_L_law_1120 ?_
  refine x_sld hx hb hX hbl hbA hS (j := 5 * t + 3) (nI_add (5 * t) 3) (by omega) (by omega) d_L_law_1121 ?_
  refine lv_aload_n hx hb d_L_law_1122 rfl (lv_at hl 0 rfl) ?_
  refine lv_iload hx hb d_L_law_1123 (lv_at hl 4 rfl) ?_
  refine lv_iconst (v := 4) hx hb d_L_law_1125 (by decide) ?_
  refine lv_iadd hx hb d_L_law_1126 ?_
  refine x_sld hx hb hX hbl hbA hS (j := 5 * t + 4) (nI_add (5 * t) 4) (by omega) (by omega) d_L_law_1127 ?_
  refine lv_aload_n hx hb d_L_law_1128 rfl (lv_at hl 3 rfl) ?_
  refine x_ci (x_runSW (As := [.ref (ad 0), .int (xs (5 * t + 1)), .int (xs (5 * t + 2)), .int (xs (5 * t + 3)), .int (xs (5 * t + 4)), .ref og]) (rest := []) hE hK hM hl.1 (c_L_felling l G M hst ad u hC hO hs og fo hg (xs (5 * t + 1)) (xs (5 * t + 2)) (xs (5 * t + 3)) (xs (5 * t + 4))) kw_481 kw_482 kw_0 kw_483 6 rfl rfl rfl (by decide +kernel) ⟨by decide, by decide⟩ rfl (Nat.le_of_ble_eq_true rfl) d_L_law_1129 ⟨Nat.le_trans (show _ ≤ 3000 by omega) rm_c, Nat.le_trans (show _ ≤ 600000 by omega) rm_s⟩) hS (fun k9 M1 H locs hp1 hM hS => ?_)
  obtain ⟨Ma, eMa⟩ : ∃ zz9 : xM, zz9 = M1 := ⟨_, rfl⟩
  subst eMa
  have hxH := hp1.2.2.1
  obtain ⟨q1, X1, ho1, hA1, hX1, hms1⟩ := hD.k hxH
  refine lv_istore (lv' := [(5, .int k9), (0, .ref b), (1, .ref (ad 0)), (2, .ref (bd 100)), (3, .ref og), (4, .int (nI (5 * t)))]) hx hb d_L_law_1132 hl (by decide) rfl (fun ls hl => ?_)
  refine lv_aload_n hx hb d_L_law_1134 rfl (lv_at hl 3 rfl) ?_
  refine lv_aload_n hx hb d_L_law_1135 rfl (lv_at hl 1 rfl) ?_
  refine lv_iload hx hb d_L_law_1136 (lv_at hl 5 rfl) ?_
  refine lv_iconst (v := 1) hx hb d_L_law_1138 (by decide) ?_
  refine lv_iadd hx hb d_L_law_1139 ?_
  refine x_sld hx hb hX hbl hbA hS (j := 5 * t + 1) (nI_add (5 * t) 1) (by omega) (by omega) d_L_law_1140 ?_
  refine lv_aload_n hx hb d_L_law_1141 rfl (lv_at hl 1 rfl) ?_
  refine lv_iload hx hb d_L_law_1142 (lv_at hl 5 rfl) ?_
  refine lv_iconst (v := 2) hx hb d_L_law_1144 (by decide) ?_
  refine lv_iadd hx hb d_L_law_1145 ?_
  refine x_sld hx hb hX hbl hbA hS (j := 5 * t + 2) (nI_add (5 * t) 2) (by omega) (by omega) d_L_law_1146 ?_
  refine lv_aload_n hx hb d_L_law_1147 rfl (lv_at hl 1 rfl) ?_
  refine lv_iload hx hb d_L_law_1148 (lv_at hl 5 rfl) ?_
  refine lv_iconst (v := 3) hx hb d_L_law_1150 (by decide) ?_
  refine lv_iadd hx hb d_L_law_1151 ?_
  refine x_sld hx hb hX hbl hbA hS (j := 5 * t + 3) (nI_add (5 * t) 3) (by omega) (by omega) d_L_law_1152 ?_
  refine lv_aload_n hx hb d_L_law_1153 rfl (lv_at hl 1 rfl) ?_
  refine lv_iload hx hb d_L_law_1154 (lv_at hl 5 rfl) ?_
  refine lv_iconst (v := 4) hx hb d_L_law_1156 (by decide) ?_
  refine lv_iadd hx hb d_L_law_1157 ?_
  refine x_sld hx hb hX hbl hbA hS (j := 5 * t + 4) (nI_add (5 * t) 4) (by omega) (by omega) d_L_law_1158 ?_
  refine x_ci (x_runV (As := [.int (xs (5 * t + 1)), .int (xs (5 * t + 2)), .int (xs (5 * t + 3)), .int (xs (5 * t + 4))]) (rest := []) hE hK hM hl.1 (c_Mo_felling l G Ma bd u th q1 ho1 X1 hA1 hX1 hO (xs (5 * t + 1)) (xs (5 * t + 2)) (xs (5 * t + 3)) (xs (5 * t + 4))) ho1 rfl kw_693 kw_694 kw_695 kw_4 kw_696 4 rfl rfl rfl (by decide +kernel) ⟨by decide, by decide⟩ rfl (Nat.le_of_ble_eq_true rfl) d_L_law_1159 ⟨Nat.le_trans (show _ ≤ 3000 by omega) rm_c, Nat.le_trans (show _ ≤ 600000 by omega) rm_s⟩) hS (fun r1 M1 H locs hp hM hS => ?_)
  obtain ⟨Mb, eMb⟩ : ∃ zz9 : xM, zz9 = M1 := ⟨_, rfl⟩
  subst eMb
  have hJ : ∃ u1 : zS, LJ G Mb (ad 0) og bd u1 (fFell u (xs (5 * t + 1)) (xs (5 * t + 2)) (xs (5 * t + 3)) (xs (5 * t + 4))) k9 r1 := ⟨u, LJ.of hp1 hO ((MoPost.U hp ho1 hA1 hX1).D hms1)⟩
  obtain ⟨u1, hJ⟩ := hJ
  obtain ⟨-, hk9, -, ⟨q2, X2, ho2, -⟩, hv9, fo2, hg2, hf9⟩ := id hJ
  refine lv_istore (lv' := [(6, .int r1), (5, .int k9), (0, .ref b), (1, .ref (ad 0)), (2, .ref (bd 100)), (3, .ref og), (4, .int (nI (5 * t)))]) hx hb d_L_law_1162 hl (by decide) rfl (fun ls hl => ?_)
  refine lv_aload_n hx hb d_L_law_1164 rfl (lv_at hl 4 rfl) ?_
  refine x_ci (x_runV (As := []) (rest := []) hE hK hM hl.1 (c_Mo_thrown l G Mb bd u1 (nI (fFell u (xs (5 * t + 1)) (xs (5 * t + 2)) (xs (5 * t + 3)) (xs (5 * t + 4))).1) q2 ho2) ho2 rfl kw_584 kw_585 kw_586 kw_4 kw_587 0 rfl rfl rfl (by decide +kernel) ⟨by decide, by decide⟩ rfl (Nat.le_of_ble_eq_true rfl) d_L_law_1165 ⟨Nat.le_trans (show _ ≤ 3000 by omega) rm_c, Nat.le_trans (show _ ≤ 600000 by omega) rm_s⟩) hS (fun r2 M1 H locs hp hM hS => ?_)
  obtain ⟨e_t, e_M⟩ := hp
  have hM : xh G Mb H := e_M ▸ hM
  refine lv_iload hx hb d_L_law_1168 (lv_at hl 1 rfl) ?_
  refine lv_icmp_eq (tgt := 1175) hx hb d_L_law_1170 (by decide) (fun c_1170 => ?_) (fun c_1170 => ?_)
  · refine lv_iload hx hb d_L_law_1175 (lv_at hl 1 rfl) ?_
    refine lv_if_ne (tgt := 1192) hx hb d_L_law_1177 (by decide) (fun c_1177 => ?_) (fun c_1177 => ?_)
    · refine lv_goto (tgt := 1326) hx hb d_L_law_1192 (by decide) ?_
      refine W.widen (k := 36 + 5 * t) (n := 1813 + 1100 * t) (by omega) (by omega) ?_
      exact kk Mb u1 hJ.I _ _ _ hM hS (lv_sub hl [2, 3, 4, 5, 6] rfl)
    · have hf0 : (fFell u (xs (5 * t + 1)) (xs (5 * t + 2)) (xs (5 * t + 3)) (xs (5 * t + 4))).1 = 0 := (nI_eq (b := 0) hlt (by decide)).mp (hk9.symm.trans c_1177)
      refine lv_aload_n hx hb d_L_law_1180 rfl (lv_at hl 5 rfl) ?_
      refine lv_iconst (v := 0) hx hb d_L_law_1181 (by decide) ?_
      refine x_lald hx hb hK.1 hM hg2 1 rfl (show (0 : Int32) = nI 0 from rfl) (by decide) (by decide) d_L_law_1182 ?_
      refine lv_iload hx hb d_L_law_1183 (lv_at hl 0 rfl) ?_
      refine lv_i2l (v := r1.toInt64) hx hb d_L_law_1185 rfl ?_
      refine W.lcmp hx hb d_L_law_1186 ?_
      refine lv_if_eq (tgt := 1192) hx hb d_L_law_1187 (by decide) (fun c_1187 => ?_) (fun c_1187 => ?_)
      · refine lv_goto (tgt := 1326) hx hb d_L_law_1192 (by decide) ?_
        refine W.widen (k := 36 + 5 * t) (n := 1813 + 1100 * t) (by omega) (by omega) ?_
        exact kk Mb u1 hJ.I _ _ _ hM hS (lv_sub hl [2, 3, 4, 5, 6] rfl)
      · exact absurd (by rw [hf9 hf0, hv9 hf0]; exact lg_same _) c_1187
  · exact absurd (e_t.trans hk9.symm) c_1170

set_option maxHeartbeats 4000000 in
set_option maxRecDepth 100000 in
theorem lc_sameTree {p : Program} {l : Launch} {e : Env} {s : State} {m : MethodId} {below : List Frame} {meth : Method} {c : Code} {G : xG} {b L : Nat} {xs : Nat → Int32} {Q : State → Prop} (hst : l.stackTraces = false) (hE : xE p s m #[Value.ref b] meth c code ret 7 R_L) (hK : KX G s) (hX : va_X b L xs s s.heap) (hbl : b < s.heap.size) (hbA : ¬ xF G b) (hL : L ≤ 2560) (t : Nat) (ht : 5 * t + 5 ≤ L) (ob og : Nat) (bd : Nat → Nat) (u : zS) (M : xM) (hI : LI G M ob og bd u) (kk : ∀ (M2 : xM) (u2 : zS), LI G M2 ob og bd u2 → ∀ (H : Heap) (locs : List Loc) (ls : Array Slot), xh G M2 H → va_S (xF G) s.heap H locs → lv_has ls 7 [(0, .ref b), (1, .ref ob), (2, .ref (bd 100)), (3, .ref og), (4, .int (nI (5 * t)))] → W p l e room_1 s m #[Value.ref b] below meth c H locs (36 + 5 * t) (1813 + 1100 * t) Q (F0 m 1326 ls [])) {H : Heap} {locs : List Loc} {ls : Array Slot} (hM : xh G M H) (hS : va_S (xF G) s.heap H locs) (hl : lv_has ls 7 [(0, .ref b), (1, .ref ob), (2, .ref (bd 100)), (3, .ref og), (4, .int (nI (5 * t)))]) : W p l e room_1 s m #[Value.ref b] below meth c H locs (31 + 5 * t) (713 + 1100 * t) Q (F0 m 1195 ls []) := by
  obtain ⟨hx, hb, hr, hml, hown, hw, hlocks⟩ := id hE
  obtain ⟨hO, ⟨ad, rfl, hC, hs⟩, ⟨th, hD⟩, fo, hg⟩ := hI
  have hlt : (fSame u (xs (5 * t + 1)) (xs (5 * t + 2))).1 < 2 ^ 31 := by
    unfold fSame
    repeat' split
    all_goals exact Nat.le_of_ble_eq_true rfl
  refine lv_aload_n hx hb d_L_law_1195 rfl (lv_at hl 1 rfl) ?_
  refine lv_aload_n hx hb d_L_law_1196 rfl (lv_at hl 0 rfl) ?_
  refine lv_iload hx hb d_L_law_1197 (lv_at hl 4 rfl) ?_
  refine lv_iconst (v := 1) hx hb d_L_law_1199 (by decide) ?_
  refine lv_iadd hx hb d_L_law_1200 ?_
  refine x_sld hx hb hX hbl hbA hS (j := 5 * t + 1) (nI_add (5 * t) 1) (by omega) (by omega) d_L_law_1201 ?_
  refine lv_aload_n hx hb d_L_law_1202 rfl (lv_at hl 0 rfl) ?_
  refine lv_iload hx hb d_L_law_1203 (lv_at hl 4 rfl) ?_
  refine lv_iconst (v := 2) hx hb d_L_law_1205 (by decide) ?_
  refine lv_iadd hx hb d_L_law_1206 ?_
  refine x_sld hx hb hX hbl hbA hS (j := 5 * t + 2) (nI_add (5 * t) 2) (by omega) (by omega) d_L_law_1207 ?_
  refine lv_aload_n hx hb d_L_law_1208 rfl (lv_at hl 3 rfl) ?_
  refine x_ci (x_runSW (As := [.ref (ad 0), .int (xs (5 * t + 1)), .int (xs (5 * t + 2)), .ref og]) (rest := []) hE hK hM hl.1 (c_L_sameTree l G M hst ad u hC hO hs og fo hg (xs (5 * t + 1)) (xs (5 * t + 2))) kw_499 kw_500 kw_0 kw_501 4 rfl rfl rfl (by decide +kernel) ⟨by decide, by decide⟩ rfl (Nat.le_of_ble_eq_true rfl) d_L_law_1209 ⟨Nat.le_trans (show _ ≤ 3000 by omega) rm_c, Nat.le_trans (show _ ≤ 600000 by omega) rm_s⟩) hS (fun k9 M1 H locs hp1 hM hS => ?_)
  obtain ⟨Ma, eMa⟩ : ∃ zz9 : xM, zz9 = M1 := ⟨_, rfl⟩
  subst eMa
  have hxH := hp1.2.2.1
  obtain ⟨q1, X1, ho1, hA1, hX1, hms1⟩ := hD.k hxH
  refine lv_istore (lv' := [(5, .int k9), (0, .ref b), (1, .ref (ad 0)), (2, .ref (bd 100)), (3, .ref og), (4, .int (nI (5 * t)))]) hx hb d_L_law_1212 hl (by decide) rfl (fun ls hl => ?_)
  refine lv_aload_n hx hb d_L_law_1214 rfl (lv_at hl 3 rfl) ?_
  refine lv_aload_n hx hb d_L_law_1215 rfl (lv_at hl 1 rfl) ?_
  refine lv_iload hx hb d_L_law_1216 (lv_at hl 5 rfl) ?_
  refine lv_iconst (v := 1) hx hb d_L_law_1218 (by decide) ?_
  refine lv_iadd hx hb d_L_law_1219 ?_
  refine x_sld hx hb hX hbl hbA hS (j := 5 * t + 1) (nI_add (5 * t) 1) (by omega) (by omega) d_L_law_1220 ?_
  refine lv_aload_n hx hb d_L_law_1221 rfl (lv_at hl 1 rfl) ?_
  refine lv_iload hx hb d_L_law_1222 (lv_at hl 5 rfl) ?_
  refine lv_iconst (v := 2) hx hb d_L_law_1224 (by decide) ?_
  refine lv_iadd hx hb d_L_law_1225 ?_
  refine x_sld hx hb hX hbl hbA hS (j := 5 * t + 2) (nI_add (5 * t) 2) (by omega) (by omega) d_L_law_1226 ?_
  refine x_ci (x_runV (As := [.int (xs (5 * t + 1)), .int (xs (5 * t + 2))]) (rest := []) hE hK hM hl.1 (c_Mo_sameTree l G Ma bd u th q1 ho1 X1 hA1 hX1 hO (xs (5 * t + 1)) (xs (5 * t + 2))) ho1 rfl kw_697 kw_698 kw_699 kw_4 kw_700 2 rfl rfl rfl (by decide +kernel) ⟨by decide, by decide⟩ rfl (Nat.le_of_ble_eq_true rfl) d_L_law_1227 ⟨Nat.le_trans (show _ ≤ 3000 by omega) rm_c, Nat.le_trans (show _ ≤ 600000 by omega) rm_s⟩) hS (fun r1 M1 H locs hp hM hS => ?_)
  obtain ⟨Mb, eMb⟩ : ∃ zz9 : xM, zz9 = M1 := ⟨_, rfl⟩
  subst eMb
  have hJ : ∃ u1 : zS, LJ G Mb (ad 0) og bd u1 (fSame u (xs (5 * t + 1)) (xs (5 * t + 2))) k9 r1 := ⟨u, LJ.of hp1 hO ((MoPost.U hp ho1 hA1 hX1).D hms1)⟩
  obtain ⟨u1, hJ⟩ := hJ
  obtain ⟨-, hk9, -, ⟨q2, X2, ho2, -⟩, hv9, fo2, hg2, hf9⟩ := id hJ
  refine lv_istore (lv' := [(6, .int r1), (5, .int k9), (0, .ref b), (1, .ref (ad 0)), (2, .ref (bd 100)), (3, .ref og), (4, .int (nI (5 * t)))]) hx hb d_L_law_1230 hl (by decide) rfl (fun ls hl => ?_)
  refine lv_aload_n hx hb d_L_law_1232 rfl (lv_at hl 4 rfl) ?_
  refine x_ci (x_runV (As := []) (rest := []) hE hK hM hl.1 (c_Mo_thrown l G Mb bd u1 (nI (fSame u (xs (5 * t + 1)) (xs (5 * t + 2))).1) q2 ho2) ho2 rfl kw_584 kw_585 kw_586 kw_4 kw_587 0 rfl rfl rfl (by decide +kernel) ⟨by decide, by decide⟩ rfl (Nat.le_of_ble_eq_true rfl) d_L_law_1233 ⟨Nat.le_trans (show _ ≤ 3000 by omega) rm_c, Nat.le_trans (show _ ≤ 600000 by omega) rm_s⟩) hS (fun r2 M1 H locs hp hM hS => ?_)
  obtain ⟨e_t, e_M⟩ := hp
  have hM : xh G Mb H := e_M ▸ hM
  refine lv_iload hx hb d_L_law_1236 (lv_at hl 1 rfl) ?_
  refine lv_icmp_eq (tgt := 1243) hx hb d_L_law_1238 (by decide) (fun c_1238 => ?_) (fun c_1238 => ?_)
  · refine lv_iload hx hb d_L_law_1243 (lv_at hl 1 rfl) ?_
    refine lv_if_ne (tgt := 1267) hx hb d_L_law_1245 (by decide) (fun c_1245 => ?_) (fun c_1245 => ?_)
    · refine lv_goto (tgt := 1326) hx hb d_L_law_1267 (by decide) ?_
      refine W.widen (k := 36 + 5 * t) (n := 1813 + 1100 * t) (by omega) (by omega) ?_
      exact kk Mb u1 hJ.I _ _ _ hM hS (lv_sub hl [2, 3, 4, 5, 6] rfl)
    · have hf0 : (fSame u (xs (5 * t + 1)) (xs (5 * t + 2))).1 = 0 := (nI_eq (b := 0) hlt (by decide)).mp (hk9.symm.trans c_1245)
      refine lv_aload_n hx hb d_L_law_1248 rfl (lv_at hl 5 rfl) ?_
      refine lv_iconst (v := 0) hx hb d_L_law_1249 (by decide) ?_
      refine x_lald hx hb hK.1 hM hg2 1 rfl (show (0 : Int32) = nI 0 from rfl) (by decide) (by decide) d_L_law_1250 ?_
      refine lv_iload hx hb d_L_law_1251 (lv_at hl 0 rfl) ?_
      refine lv_if_eq (tgt := 1260) hx hb d_L_law_1253 (by decide) (fun c_1253 => ?_) (fun c_1253 => ?_)
      · refine lv_lconst (v := 0) hx hb d_L_law_1260 (by decide) ?_
        refine W.lcmp hx hb d_L_law_1261 ?_
        refine lv_if_eq (tgt := 1267) hx hb d_L_law_1262 (by decide) (fun c_1262 => ?_) (fun c_1262 => ?_)
        · refine lv_goto (tgt := 1326) hx hb d_L_law_1267 (by decide) ?_
          refine W.widen (k := 36 + 5 * t) (n := 1813 + 1100 * t) (by omega) (by omega) ?_
          exact kk Mb u1 hJ.I _ _ _ hM hS (lv_sub hl [2, 3, 4, 5, 6] rfl)
        · exact absurd (by rw [hf9 hf0, ← hv9 hf0, c_1253]; rfl) c_1262
      · refine lv_lconst (v := 1) hx hb d_L_law_1256 (by decide) ?_
        refine lv_goto (tgt := 1261) hx hb d_L_law_1257 (by decide) ?_
        refine W.lcmp hx hb d_L_law_1261 ?_
        refine lv_if_eq (tgt := 1267) hx hb d_L_law_1262 (by decide) (fun c_1262 => ?_) (fun c_1262 => ?_)
        · refine lv_goto (tgt := 1326) hx hb d_L_law_1267 (by decide) ?_
          refine W.widen (k := 36 + 5 * t) (n := 1813 + 1100 * t) (by omega) (by omega) ?_
          exact kk Mb u1 hJ.I _ _ _ hM hS (lv_sub hl [2, 3, 4, 5, 6] rfl)
        · exact absurd (by rw [hf9 hf0]; rcases fSame_01 u (xs (5 * t + 1)) (xs (5 * t + 2)) with h9 | h9; exact absurd ((hv9 hf0).trans h9) c_1253; rw [h9]; rfl) c_1262
  · exact absurd (e_t.trans hk9.symm) c_1238

set_option maxHeartbeats 4000000 in
set_option maxRecDepth 100000 in
theorem lc_count {p : Program} {l : Launch} {e : Env} {s : State} {m : MethodId} {below : List Frame} {meth : Method} {c : Code} {G : xG} {b L : Nat} {xs : Nat → Int32} {Q : State → Prop} (hst : l.stackTraces = false) (hE : xE p s m #[Value.ref b] meth c code ret 7 R_L) (hK : KX G s) (hX : va_X b L xs s s.heap) (hbl : b < s.heap.size) (hbA : ¬ xF G b) (hL : L ≤ 2560) (t : Nat) (ht : 5 * t + 5 ≤ L) (ob og : Nat) (bd : Nat → Nat) (u : zS) (M : xM) (hI : LI G M ob og bd u) (kk : ∀ (M2 : xM) (u2 : zS), LI G M2 ob og bd u2 → ∀ (H : Heap) (locs : List Loc) (ls : Array Slot), xh G M2 H → va_S (xF G) s.heap H locs → lv_has ls 7 [(0, .ref b), (1, .ref ob), (2, .ref (bd 100)), (3, .ref og), (4, .int (nI (5 * t)))] → W p l e room_1 s m #[Value.ref b] below meth c H locs (36 + 5 * t) (1813 + 1100 * t) Q (F0 m 1326 ls [])) {H : Heap} {locs : List Loc} {ls : Array Slot} (hM : xh G M H) (hS : va_S (xF G) s.heap H locs) (hl : lv_has ls 7 [(0, .ref b), (1, .ref ob), (2, .ref (bd 100)), (3, .ref og), (4, .int (nI (5 * t)))]) : W p l e room_1 s m #[Value.ref b] below meth c H locs (31 + 5 * t) (713 + 1100 * t) Q (F0 m 1270 ls []) := by
  obtain ⟨hx, hb, hr, hml, hown, hw, hlocks⟩ := id hE
  obtain ⟨hO, ⟨ad, rfl, hC, hs⟩, ⟨th, hD⟩, fo, hg⟩ := hI
  have hlt : (fCount u (xs (5 * t + 1))).1 < 2 ^ 31 := by
    unfold fCount
    repeat' split
    all_goals exact Nat.le_of_ble_eq_true rfl
  refine lv_aload_n hx hb d_L_law_1270 rfl (lv_at hl 1 rfl) ?_
  refine lv_aload_n hx hb d_L_law_1271 rfl (lv_at hl 0 rfl) ?_
  refine lv_iload hx hb d_L_law_1272 (lv_at hl 4 rfl) ?_
  refine lv_iconst (v := 1) hx hb d_L_law_1274 (by decide) ?_
  refine lv_iadd hx hb d_L_law_1275 ?_
  refine x_sld hx hb hX hbl hbA hS (j := 5 * t + 1) (nI_add (5 * t) 1) (by omega) (by omega) d_L_law_1276 ?_
  refine lv_aload_n hx hb d_L_law_1277 rfl (lv_at hl 3 rfl) ?_
  refine x_ci (x_runSW (As := [.ref (ad 0), .int (xs (5 * t + 1)), .ref og]) (rest := []) hE hK hM hl.1 (c_L_count l G M hst ad u hC hO hs og fo hg (xs (5 * t + 1))) kw_506 kw_507 kw_0 kw_508 3 rfl rfl rfl (by decide +kernel) ⟨by decide, by decide⟩ rfl (Nat.le_of_ble_eq_true rfl) d_L_law_1278 ⟨Nat.le_trans (show _ ≤ 3000 by omega) rm_c, Nat.le_trans (show _ ≤ 600000 by omega) rm_s⟩) hS (fun k9 M1 H locs hp1 hM hS => ?_)
  obtain ⟨Ma, eMa⟩ : ∃ zz9 : xM, zz9 = M1 := ⟨_, rfl⟩
  subst eMa
  have hxH := hp1.2.2.1
  obtain ⟨q1, X1, ho1, hA1, hX1, hms1⟩ := hD.k hxH
  refine lv_istore (lv' := [(5, .int k9), (0, .ref b), (1, .ref (ad 0)), (2, .ref (bd 100)), (3, .ref og), (4, .int (nI (5 * t)))]) hx hb d_L_law_1281 hl (by decide) rfl (fun ls hl => ?_)
  refine lv_aload_n hx hb d_L_law_1283 rfl (lv_at hl 3 rfl) ?_
  refine lv_aload_n hx hb d_L_law_1284 rfl (lv_at hl 1 rfl) ?_
  refine lv_iload hx hb d_L_law_1285 (lv_at hl 5 rfl) ?_
  refine lv_iconst (v := 1) hx hb d_L_law_1287 (by decide) ?_
  refine lv_iadd hx hb d_L_law_1288 ?_
  refine x_sld hx hb hX hbl hbA hS (j := 5 * t + 1) (nI_add (5 * t) 1) (by omega) (by omega) d_L_law_1289 ?_
  refine x_ci (x_runV (As := [.int (xs (5 * t + 1))]) (rest := []) hE hK hM hl.1 (c_Mo_count l G Ma bd u th q1 ho1 X1 hA1 hX1 hO (xs (5 * t + 1))) ho1 rfl kw_701 kw_702 kw_703 kw_4 kw_704 1 rfl rfl rfl (by decide +kernel) ⟨by decide, by decide⟩ rfl (Nat.le_of_ble_eq_true rfl) d_L_law_1290 ⟨Nat.le_trans (show _ ≤ 3000 by omega) rm_c, Nat.le_trans (show _ ≤ 600000 by omega) rm_s⟩) hS (fun r1 M1 H locs hp hM hS => ?_)
  obtain ⟨Mb, eMb⟩ : ∃ zz9 : xM, zz9 = M1 := ⟨_, rfl⟩
  subst eMb
  have hJ : ∃ u1 : zS, LJ G Mb (ad 0) og bd u1 (fCount u (xs (5 * t + 1))) k9 r1 := ⟨u, LJ.of hp1 hO ((MoPost.U hp ho1 hA1 hX1).D hms1)⟩
  obtain ⟨u1, hJ⟩ := hJ
  obtain ⟨-, hk9, -, ⟨q2, X2, ho2, -⟩, hv9, fo2, hg2, hf9⟩ := id hJ
  refine lv_istore (lv' := [(6, .int r1), (5, .int k9), (0, .ref b), (1, .ref (ad 0)), (2, .ref (bd 100)), (3, .ref og), (4, .int (nI (5 * t)))]) hx hb d_L_law_1293 hl (by decide) rfl (fun ls hl => ?_)
  refine lv_aload_n hx hb d_L_law_1295 rfl (lv_at hl 4 rfl) ?_
  refine x_ci (x_runV (As := []) (rest := []) hE hK hM hl.1 (c_Mo_thrown l G Mb bd u1 (nI (fCount u (xs (5 * t + 1))).1) q2 ho2) ho2 rfl kw_584 kw_585 kw_586 kw_4 kw_587 0 rfl rfl rfl (by decide +kernel) ⟨by decide, by decide⟩ rfl (Nat.le_of_ble_eq_true rfl) d_L_law_1296 ⟨Nat.le_trans (show _ ≤ 3000 by omega) rm_c, Nat.le_trans (show _ ≤ 600000 by omega) rm_s⟩) hS (fun r2 M1 H locs hp hM hS => ?_)
  obtain ⟨e_t, e_M⟩ := hp
  have hM : xh G Mb H := e_M ▸ hM
  refine lv_iload hx hb d_L_law_1299 (lv_at hl 1 rfl) ?_
  refine lv_icmp_eq (tgt := 1306) hx hb d_L_law_1301 (by decide) (fun c_1301 => ?_) (fun c_1301 => ?_)
  · refine lv_iload hx hb d_L_law_1306 (lv_at hl 1 rfl) ?_
    refine lv_if_ne (tgt := 1323) hx hb d_L_law_1308 (by decide) (fun c_1308 => ?_) (fun c_1308 => ?_)
    · refine lv_goto (tgt := 1326) hx hb d_L_law_1323 (by decide) ?_
      refine W.widen (k := 36 + 5 * t) (n := 1813 + 1100 * t) (by omega) (by omega) ?_
      exact kk Mb u1 hJ.I _ _ _ hM hS (lv_sub hl [2, 3, 4, 5, 6] rfl)
    · have hf0 : (fCount u (xs (5 * t + 1))).1 = 0 := (nI_eq (b := 0) hlt (by decide)).mp (hk9.symm.trans c_1308)
      refine lv_aload_n hx hb d_L_law_1311 rfl (lv_at hl 5 rfl) ?_
      refine lv_iconst (v := 0) hx hb d_L_law_1312 (by decide) ?_
      refine x_lald hx hb hK.1 hM hg2 1 rfl (show (0 : Int32) = nI 0 from rfl) (by decide) (by decide) d_L_law_1313 ?_
      refine lv_iload hx hb d_L_law_1314 (lv_at hl 0 rfl) ?_
      refine lv_i2l (v := r1.toInt64) hx hb d_L_law_1316 rfl ?_
      refine W.lcmp hx hb d_L_law_1317 ?_
      refine lv_if_eq (tgt := 1323) hx hb d_L_law_1318 (by decide) (fun c_1318 => ?_) (fun c_1318 => ?_)
      · refine lv_goto (tgt := 1326) hx hb d_L_law_1323 (by decide) ?_
        refine W.widen (k := 36 + 5 * t) (n := 1813 + 1100 * t) (by omega) (by omega) ?_
        exact kk Mb u1 hJ.I _ _ _ hM hS (lv_sub hl [2, 3, 4, 5, 6] rfl)
      · exact absurd (by rw [hf9 hf0, hv9 hf0]; exact lg_same _) c_1318
  · exact absurd (e_t.trans hk9.symm) c_1301
