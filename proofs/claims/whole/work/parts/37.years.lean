theorem xw_id {M : xM} {a : Nat} {x : Option (Nat × va_E)} (h : M a = x) : va_up M a x = M := by
  funext b
  by_cases hb : b = a
  · rw [hb, va_up_self, h]
  · rw [va_up_ne _ _ hb]

set_option maxHeartbeats 4000000 in
set_option maxRecDepth 100000 in
theorem lp_JA_fill {p : Program} {l : Launch} {e : Env} {s : State} {m : MethodId} {below : List Frame} {meth : Method} {c : Code} {args : Array Value} {G : xG} {M : xM} (a r nn : Nat) (hnn : nn < 2 ^ 20) (v : Int32) (f0 : Nat → Int32) (ha : M a = some (r, eI G nn f0)) (hE : xE p s m args meth c b_JA_fill none 4 "java/util/Arrays") (hK : KX G s) : ∀ (n k : Nat), k ≤ nn → nn + 1 ≤ k + n → ∀ (F : Nat → Int32), (∀ k', k' < k → F k' = v) → ∀ (H : Heap) (locs : List Loc) (ls : Array Slot), xh G (va_up M a (some (r, eI G nn F))) H → va_S (xF G) s.heap H locs → lv_has ls 4 [(0, .ref a), (1, .int v), (2, .int (nI k)), (3, .int (nI nn))] → W p l e ({ frames := 0, cells := 0, slots := 0, locals := 0 }) s m args below meth c H locs 0 0 (MQ below (xQv G (fun M' => ∃ F : Nat → Int32, (∀ k, k < nn → F k = v) ∧ M' = va_up M a (some (r, eI G nn F)))) args s 0 0 (xF G)) (F0 m 5 ls []) := by
  obtain ⟨hx, hb, hr, hml, hown, hw, hlocks⟩ := id hE
  intro n
  induction n with
  | zero =>
    intro k h1 h2
    exact absurd h2 (by omega)
  | succ n ih =>
    intro k hk hin F hF H locs ls hM hS hl
    obtain ⟨Mi, eMi⟩ : ∃ z : xM, z = va_up M a (some (r, eI G nn F)) := ⟨_, rfl⟩
    rw [← eMi] at hM
    have c_a := xw_atE eMi
    refine lv_iload_n hx hb d_JA_fill_5 rfl (lv_at hl 2 rfl) ?_
    refine lv_iload_n hx hb d_JA_fill_6 rfl (lv_at hl 3 rfl) ?_
    refine lv_icmp_ge (tgt := 20) hx hb d_JA_fill_7 (by decide) (fun c_7 => ?_) (fun c_7 => ?_)
    · have h7 : nn ≤ k := (nI_leI (by omega) (by omega)).mp c_7
      exact x_rv hE rfl hM hS ⟨F, fun k2 h2 => hF k2 (by omega), eMi⟩ (by omega) (by omega) d_JA_fill_20
    · have hkn : k < nn := Nat.not_le.mp (fun h9 => c_7 ((nI_leI (by omega) (by omega)).mpr h9))
      refine lv_aload_n hx hb d_JA_fill_10 rfl (lv_at hl 0 rfl) ?_
      refine lv_iload_n hx hb d_JA_fill_11 rfl (lv_at hl 2 rfl) ?_
      refine lv_iload_n hx hb d_JA_fill_12 rfl (lv_at hl 1 rfl) ?_
      refine x_iast hx hb hK.1 hM hS c_a 0 rfl rfl hkn (by omega) d_JA_fill_13 (fun H locs hM hS hz => ?_)
      have hM : xh G (va_up Mi a (some (r, .inl (gI G, nn, .inl (upd F k v))))) H := hM
      obtain ⟨Mi_1, eMi_1⟩ : ∃ z : xM, z = va_up Mi a (some (r, .inl (gI G, nn, .inl (upd F k v)))) := ⟨_, rfl⟩
      rw [← eMi_1] at hM
      have c_a := xw_atE eMi_1
      refine lv_iinc (v := (nI (k + 1))) (lv' := [(2, .int (nI (k + 1))), (0, .ref a), (1, .int v), (3, .int (nI nn))]) hx hb d_JA_fill_14 hl (k := 2) rfl (nI_1 k) (by decide) rfl (fun ls hl => ?_)
      refine lv_goto (tgt := 5) hx hb d_JA_fill_17 (by decide) ?_
      exact ih (k + 1) (by omega) (by omega) (upd F k v) (fun k' hk' => by
        by_cases h9 : k' = k
        · subst h9
          exact pk_us
        · rw [pk_un h9]
          exact hF k' (by omega)) _ _ _ (by rw [eMi_1, eMi, bx_uu] at hM; exact hM) hS (lv_sub hl [1, 2, 0, 3] rfl)

set_option maxHeartbeats 4000000 in
set_option maxRecDepth 100000 in
theorem c_JA_fill (l : Launch) (G : xG) (M : xM) (a r nn : Nat) (hnn : nn < 2 ^ 20) (v : Int32) (f0 : Nat → Int32) (ha : M a = some (r, eI G nn f0)) : Met l y_JA_fill w_JA_fill ({ frames := 0, cells := 0, slots := 0, locals := 0 }) (xP G [.ref a, .int v] M) (xQv G (fun M' => ∃ F : Nat → Int32, (∀ k, k < nn → F k = v) ∧ M' = va_up M a (some (r, eI G nn F)))) 0 0 (xF G) := by
  refine x_met (by decide) (Nat.le_of_ble_eq_true rfl) ?_
  intro p e s m below meth c ls hE hin hl hM hK hS
  obtain ⟨hx, hb, hr, hml, hown, hw, hlocks⟩ := id hE
  have hl : lv_has ls 4 [(0, .ref a), (1, .int v)] := hl
  refine lv_iconst (v := 0) hx hb d_JA_fill_0 (by decide) ?_
  refine lv_istore_n (lv' := [(2, .int 0), (0, .ref a), (1, .int v)]) hx hb d_JA_fill_1 rfl hl (by decide) rfl (fun ls hl => ?_)
  refine lv_aload_n hx hb d_JA_fill_2 rfl (lv_at hl 1 rfl) ?_
  refine x_alen (v := nI nn) hx hb hK.1 hM ha 0 rfl rfl d_JA_fill_3 ?_
  refine lv_istore_n (lv' := [(3, .int (nI nn)), (2, .int 0), (0, .ref a), (1, .int v)]) hx hb d_JA_fill_4 rfl hl (by decide) rfl (fun ls hl => ?_)
  exact lp_JA_fill a r nn hnn v f0 ha hE hK (nn + 1) 0 (by omega) (by omega) f0 (fun k' hk' => absurd hk' (by omega)) _ _ _ (by rw [xw_id ha]; exact hM) hS (lv_sub hl [2, 3, 1, 0] rfl)

set_option maxHeartbeats 4000000 in
set_option maxRecDepth 100000 in
theorem c_JI_bitCount (l : Launch) (G : xG) (M : xM) (x : Int32) : Met l y_JI_bitCount w_JI_bitCount ({ frames := 0, cells := 0, slots := 0, locals := 0 }) (xP G [.int x] M) (xQi G (fun v M' => v = zBc x ∧ M' = M)) 0 0 (xF G) := by
  refine x_met (by decide) (Nat.le_of_ble_eq_true rfl) ?_
  intro p e s m below meth c ls hE hin hl hM hK hS
  obtain ⟨hx, hb, hr, hml, hown, hw, hlocks⟩ := id hE
  have hl : lv_has ls 1 [(0, .int x)] := hl
  refine lv_iload_n hx hb d_JI_bitCount_0 rfl (lv_at hl 0 rfl) ?_
  refine lv_iload_n hx hb d_JI_bitCount_1 rfl (lv_at hl 0 rfl) ?_
  refine lv_iconst (v := 1) hx hb d_JI_bitCount_2 (by decide) ?_
  refine lv_iushr (v := (x.toUInt32 >>> ((1 : Int32).toUInt32 &&& Int32.toUInt32 31)).toInt32) hx hb d_JI_bitCount_3 rfl ?_
  refine lv_ldcw (v := 1431655765) hx hb hown (hw _ kw_300) d_JI_bitCount_4 ?_
  refine lv_iand hx hb d_JI_bitCount_7 ?_
  refine lv_isub hx hb d_JI_bitCount_8 ?_
  refine lv_istore_n (lv' := [(0, .int (x - (((x.toUInt32 >>> ((1 : Int32).toUInt32 &&& Int32.toUInt32 31)).toInt32) &&& 1431655765)))]) hx hb d_JI_bitCount_9 rfl hl (by decide) rfl (fun ls hl => ?_)
  refine lv_iload_n hx hb d_JI_bitCount_10 rfl (lv_at hl 0 rfl) ?_
  refine lv_ldcw (v := 858993459) hx hb hown (hw _ kw_301) d_JI_bitCount_11 ?_
  refine lv_iand hx hb d_JI_bitCount_14 ?_
  refine lv_iload_n hx hb d_JI_bitCount_15 rfl (lv_at hl 0 rfl) ?_
  refine lv_iconst (v := 2) hx hb d_JI_bitCount_16 (by decide) ?_
  refine lv_iushr (v := ((x - (((x.toUInt32 >>> ((1 : Int32).toUInt32 &&& Int32.toUInt32 31)).toInt32) &&& 1431655765)).toUInt32 >>> ((2 : Int32).toUInt32 &&& Int32.toUInt32 31)).toInt32) hx hb d_JI_bitCount_17 rfl ?_
  refine lv_ldcw (v := 858993459) hx hb hown (hw _ kw_301) d_JI_bitCount_18 ?_
  refine lv_iand hx hb d_JI_bitCount_21 ?_
  refine lv_iadd hx hb d_JI_bitCount_22 ?_
  refine lv_istore_n (lv' := [(0, .int (((x - (((x.toUInt32 >>> ((1 : Int32).toUInt32 &&& Int32.toUInt32 31)).toInt32) &&& 1431655765)) &&& 858993459) + ((((x - (((x.toUInt32 >>> ((1 : Int32).toUInt32 &&& Int32.toUInt32 31)).toInt32) &&& 1431655765)).toUInt32 >>> ((2 : Int32).toUInt32 &&& Int32.toUInt32 31)).toInt32) &&& 858993459)))]) hx hb d_JI_bitCount_23 rfl hl (by decide) rfl (fun ls hl => ?_)
  refine lv_iload_n hx hb d_JI_bitCount_24 rfl (lv_at hl 0 rfl) ?_
  refine lv_iload_n hx hb d_JI_bitCount_25 rfl (lv_at hl 0 rfl) ?_
  refine lv_iconst (v := 4) hx hb d_JI_bitCount_26 (by decide) ?_
  refine lv_iushr (v := ((((x - (((x.toUInt32 >>> ((1 : Int32).toUInt32 &&& Int32.toUInt32 31)).toInt32) &&& 1431655765)) &&& 858993459) + ((((x - (((x.toUInt32 >>> ((1 : Int32).toUInt32 &&& Int32.toUInt32 31)).toInt32) &&& 1431655765)).toUInt32 >>> ((2 : Int32).toUInt32 &&& Int32.toUInt32 31)).toInt32) &&& 858993459)).toUInt32 >>> ((4 : Int32).toUInt32 &&& Int32.toUInt32 31)).toInt32) hx hb d_JI_bitCount_27 rfl ?_
  refine lv_iadd hx hb d_JI_bitCount_28 ?_
  refine lv_ldcw (v := 252645135) hx hb hown (hw _ kw_302) d_JI_bitCount_29 ?_
  refine lv_iand hx hb d_JI_bitCount_32 ?_
  refine lv_istore_n (lv' := [(0, .int (((((x - (((x.toUInt32 >>> ((1 : Int32).toUInt32 &&& Int32.toUInt32 31)).toInt32) &&& 1431655765)) &&& 858993459) + ((((x - (((x.toUInt32 >>> ((1 : Int32).toUInt32 &&& Int32.toUInt32 31)).toInt32) &&& 1431655765)).toUInt32 >>> ((2 : Int32).toUInt32 &&& Int32.toUInt32 31)).toInt32) &&& 858993459)) + (((((x - (((x.toUInt32 >>> ((1 : Int32).toUInt32 &&& Int32.toUInt32 31)).toInt32) &&& 1431655765)) &&& 858993459) + ((((x - (((x.toUInt32 >>> ((1 : Int32).toUInt32 &&& Int32.toUInt32 31)).toInt32) &&& 1431655765)).toUInt32 >>> ((2 : Int32).toUInt32 &&& Int32.toUInt32 31)).toInt32) &&& 858993459)).toUInt32 >>> ((4 : Int32).toUInt32 &&& Int32.toUInt32 31)).toInt32)) &&& 252645135))]) hx hb d_JI_bitCount_33 rfl hl (by decide) rfl (fun ls hl => ?_)
  refine lv_iload_n hx hb d_JI_bitCount_34 rfl (lv_at hl 0 rfl) ?_
  refine lv_iload_n hx hb d_JI_bitCount_35 rfl (lv_at hl 0 rfl) ?_
  refine lv_bipush (v := 8) hx hb d_JI_bitCount_36 (by decide) ?_
  refine lv_iushr (v := ((((((x - (((x.toUInt32 >>> ((1 : Int32).toUInt32 &&& Int32.toUInt32 31)).toInt32) &&& 1431655765)) &&& 858993459) + ((((x - (((x.toUInt32 >>> ((1 : Int32).toUInt32 &&& Int32.toUInt32 31)).toInt32) &&& 1431655765)).toUInt32 >>> ((2 : Int32).toUInt32 &&& Int32.toUInt32 31)).toInt32) &&& 858993459)) + (((((x - (((x.toUInt32 >>> ((1 : Int32).toUInt32 &&& Int32.toUInt32 31)).toInt32) &&& 1431655765)) &&& 858993459) + ((((x - (((x.toUInt32 >>> ((1 : Int32).toUInt32 &&& Int32.toUInt32 31)).toInt32) &&& 1431655765)).toUInt32 >>> ((2 : Int32).toUInt32 &&& Int32.toUInt32 31)).toInt32) &&& 858993459)).toUInt32 >>> ((4 : Int32).toUInt32 &&& Int32.toUInt32 31)).toInt32)) &&& 252645135).toUInt32 >>> ((8 : Int32).toUInt32 &&& Int32.toUInt32 31)).toInt32) hx hb d_JI_bitCount_38 rfl ?_
  refine lv_iadd hx hb d_JI_bitCount_39 ?_
  refine lv_istore_n (lv' := [(0, .int ((((((x - (((x.toUInt32 >>> ((1 : Int32).toUInt32 &&& Int32.toUInt32 31)).toInt32) &&& 1431655765)) &&& 858993459) + ((((x - (((x.toUInt32 >>> ((1 : Int32).toUInt32 &&& Int32.toUInt32 31)).toInt32) &&& 1431655765)).toUInt32 >>> ((2 : Int32).toUInt32 &&& Int32.toUInt32 31)).toInt32) &&& 858993459)) + (((((x - (((x.toUInt32 >>> ((1 : Int32).toUInt32 &&& Int32.toUInt32 31)).toInt32) &&& 1431655765)) &&& 858993459) + ((((x - (((x.toUInt32 >>> ((1 : Int32).toUInt32 &&& Int32.toUInt32 31)).toInt32) &&& 1431655765)).toUInt32 >>> ((2 : Int32).toUInt32 &&& Int32.toUInt32 31)).toInt32) &&& 858993459)).toUInt32 >>> ((4 : Int32).toUInt32 &&& Int32.toUInt32 31)).toInt32)) &&& 252645135) + (((((((x - (((x.toUInt32 >>> ((1 : Int32).toUInt32 &&& Int32.toUInt32 31)).toInt32) &&& 1431655765)) &&& 858993459) + ((((x - (((x.toUInt32 >>> ((1 : Int32).toUInt32 &&& Int32.toUInt32 31)).toInt32) &&& 1431655765)).toUInt32 >>> ((2 : Int32).toUInt32 &&& Int32.toUInt32 31)).toInt32) &&& 858993459)) + (((((x - (((x.toUInt32 >>> ((1 : Int32).toUInt32 &&& Int32.toUInt32 31)).toInt32) &&& 1431655765)) &&& 858993459) + ((((x - (((x.toUInt32 >>> ((1 : Int32).toUInt32 &&& Int32.toUInt32 31)).toInt32) &&& 1431655765)).toUInt32 >>> ((2 : Int32).toUInt32 &&& Int32.toUInt32 31)).toInt32) &&& 858993459)).toUInt32 >>> ((4 : Int32).toUInt32 &&& Int32.toUInt32 31)).toInt32)) &&& 252645135).toUInt32 >>> ((8 : Int32).toUInt32 &&& Int32.toUInt32 31)).toInt32)))]) hx hb d_JI_bitCount_40 rfl hl (by decide) rfl (fun ls hl => ?_)
  refine lv_iload_n hx hb d_JI_bitCount_41 rfl (lv_at hl 0 rfl) ?_
  refine lv_iload_n hx hb d_JI_bitCount_42 rfl (lv_at hl 0 rfl) ?_
  refine lv_bipush (v := 16) hx hb d_JI_bitCount_43 (by decide) ?_
  refine lv_iushr (v := (((((((x - (((x.toUInt32 >>> ((1 : Int32).toUInt32 &&& Int32.toUInt32 31)).toInt32) &&& 1431655765)) &&& 858993459) + ((((x - (((x.toUInt32 >>> ((1 : Int32).toUInt32 &&& Int32.toUInt32 31)).toInt32) &&& 1431655765)).toUInt32 >>> ((2 : Int32).toUInt32 &&& Int32.toUInt32 31)).toInt32) &&& 858993459)) + (((((x - (((x.toUInt32 >>> ((1 : Int32).toUInt32 &&& Int32.toUInt32 31)).toInt32) &&& 1431655765)) &&& 858993459) + ((((x - (((x.toUInt32 >>> ((1 : Int32).toUInt32 &&& Int32.toUInt32 31)).toInt32) &&& 1431655765)).toUInt32 >>> ((2 : Int32).toUInt32 &&& Int32.toUInt32 31)).toInt32) &&& 858993459)).toUInt32 >>> ((4 : Int32).toUInt32 &&& Int32.toUInt32 31)).toInt32)) &&& 252645135) + (((((((x - (((x.toUInt32 >>> ((1 : Int32).toUInt32 &&& Int32.toUInt32 31)).toInt32) &&& 1431655765)) &&& 858993459) + ((((x - (((x.toUInt32 >>> ((1 : Int32).toUInt32 &&& Int32.toUInt32 31)).toInt32) &&& 1431655765)).toUInt32 >>> ((2 : Int32).toUInt32 &&& Int32.toUInt32 31)).toInt32) &&& 858993459)) + (((((x - (((x.toUInt32 >>> ((1 : Int32).toUInt32 &&& Int32.toUInt32 31)).toInt32) &&& 1431655765)) &&& 858993459) + ((((x - (((x.toUInt32 >>> ((1 : Int32).toUInt32 &&& Int32.toUInt32 31)).toInt32) &&& 1431655765)).toUInt32 >>> ((2 : Int32).toUInt32 &&& Int32.toUInt32 31)).toInt32) &&& 858993459)).toUInt32 >>> ((4 : Int32).toUInt32 &&& Int32.toUInt32 31)).toInt32)) &&& 252645135).toUInt32 >>> ((8 : Int32).toUInt32 &&& Int32.toUInt32 31)).toInt32)).toUInt32 >>> ((16 : Int32).toUInt32 &&& Int32.toUInt32 31)).toInt32) hx hb d_JI_bitCount_45 rfl ?_
  refine lv_iadd hx hb d_JI_bitCount_46 ?_
  refine lv_istore_n (lv' := [(0, .int (((((((x - (((x.toUInt32 >>> ((1 : Int32).toUInt32 &&& Int32.toUInt32 31)).toInt32) &&& 1431655765)) &&& 858993459) + ((((x - (((x.toUInt32 >>> ((1 : Int32).toUInt32 &&& Int32.toUInt32 31)).toInt32) &&& 1431655765)).toUInt32 >>> ((2 : Int32).toUInt32 &&& Int32.toUInt32 31)).toInt32) &&& 858993459)) + (((((x - (((x.toUInt32 >>> ((1 : Int32).toUInt32 &&& Int32.toUInt32 31)).toInt32) &&& 1431655765)) &&& 858993459) + ((((x - (((x.toUInt32 >>> ((1 : Int32).toUInt32 &&& Int32.toUInt32 31)).toInt32) &&& 1431655765)).toUInt32 >>> ((2 : Int32).toUInt32 &&& Int32.toUInt32 31)).toInt32) &&& 858993459)).toUInt32 >>> ((4 : Int32).toUInt32 &&& Int32.toUInt32 31)).toInt32)) &&& 252645135) + (((((((x - (((x.toUInt32 >>> ((1 : Int32).toUInt32 &&& Int32.toUInt32 31)).toInt32) &&& 1431655765)) &&& 858993459) + ((((x - (((x.toUInt32 >>> ((1 : Int32).toUInt32 &&& Int32.toUInt32 31)).toInt32) &&& 1431655765)).toUInt32 >>> ((2 : Int32).toUInt32 &&& Int32.toUInt32 31)).toInt32) &&& 858993459)) + (((((x - (((x.toUInt32 >>> ((1 : Int32).toUInt32 &&& Int32.toUInt32 31)).toInt32) &&& 1431655765)) &&& 858993459) + ((((x - (((x.toUInt32 >>> ((1 : Int32).toUInt32 &&& Int32.toUInt32 31)).toInt32) &&& 1431655765)).toUInt32 >>> ((2 : Int32).toUInt32 &&& Int32.toUInt32 31)).toInt32) &&& 858993459)).toUInt32 >>> ((4 : Int32).toUInt32 &&& Int32.toUInt32 31)).toInt32)) &&& 252645135).toUInt32 >>> ((8 : Int32).toUInt32 &&& Int32.toUInt32 31)).toInt32)) + ((((((((x - (((x.toUInt32 >>> ((1 : Int32).toUInt32 &&& Int32.toUInt32 31)).toInt32) &&& 1431655765)) &&& 858993459) + ((((x - (((x.toUInt32 >>> ((1 : Int32).toUInt32 &&& Int32.toUInt32 31)).toInt32) &&& 1431655765)).toUInt32 >>> ((2 : Int32).toUInt32 &&& Int32.toUInt32 31)).toInt32) &&& 858993459)) + (((((x - (((x.toUInt32 >>> ((1 : Int32).toUInt32 &&& Int32.toUInt32 31)).toInt32) &&& 1431655765)) &&& 858993459) + ((((x - (((x.toUInt32 >>> ((1 : Int32).toUInt32 &&& Int32.toUInt32 31)).toInt32) &&& 1431655765)).toUInt32 >>> ((2 : Int32).toUInt32 &&& Int32.toUInt32 31)).toInt32) &&& 858993459)).toUInt32 >>> ((4 : Int32).toUInt32 &&& Int32.toUInt32 31)).toInt32)) &&& 252645135) + (((((((x - (((x.toUInt32 >>> ((1 : Int32).toUInt32 &&& Int32.toUInt32 31)).toInt32) &&& 1431655765)) &&& 858993459) + ((((x - (((x.toUInt32 >>> ((1 : Int32).toUInt32 &&& Int32.toUInt32 31)).toInt32) &&& 1431655765)).toUInt32 >>> ((2 : Int32).toUInt32 &&& Int32.toUInt32 31)).toInt32) &&& 858993459)) + (((((x - (((x.toUInt32 >>> ((1 : Int32).toUInt32 &&& Int32.toUInt32 31)).toInt32) &&& 1431655765)) &&& 858993459) + ((((x - (((x.toUInt32 >>> ((1 : Int32).toUInt32 &&& Int32.toUInt32 31)).toInt32) &&& 1431655765)).toUInt32 >>> ((2 : Int32).toUInt32 &&& Int32.toUInt32 31)).toInt32) &&& 858993459)).toUInt32 >>> ((4 : Int32).toUInt32 &&& Int32.toUInt32 31)).toInt32)) &&& 252645135).toUInt32 >>> ((8 : Int32).toUInt32 &&& Int32.toUInt32 31)).toInt32)).toUInt32 >>> ((16 : Int32).toUInt32 &&& Int32.toUInt32 31)).toInt32)))]) hx hb d_JI_bitCount_47 rfl hl (by decide) rfl (fun ls hl => ?_)
  refine lv_iload_n hx hb d_JI_bitCount_48 rfl (lv_at hl 0 rfl) ?_
  refine lv_bipush (v := 63) hx hb d_JI_bitCount_49 (by decide) ?_
  refine lv_iand hx hb d_JI_bitCount_51 ?_
  exact x_ri hE rfl hM hS ⟨rfl, rfl⟩ (by omega) (by omega) d_JI_bitCount_52

set_option maxHeartbeats 4000000 in
set_option maxRecDepth 100000 in
theorem lp_Rm_membersOf {p : Program} {l : Launch} {e : Env} {s : State} {m : MethodId} {below : List Frame} {meth : Method} {c : Code} {args : Array Value} {G : xG} {M : xM} (ad : Nat → Nat) (u : zS) (hC : Core G M ad u) (hO : zOk u) (set : Int32) (hE : xE p s m args meth c b_Rm_membersOf (some .int) 4 R_Rm) (hK : KX G s) : ∀ (n i : Nat), i ≤ zrn u → zrn u + 1 ≤ i + n → ∀ (H : Heap) (locs : List Loc) (ls : Array Slot), xh G M H → va_S (xF G) s.heap H locs → lv_has ls 4 [(0, .ref (ad 0)), (1, .int set), (2, .int (nI (zMk (zB u set) i))), (3, .int (nI i))] → W p l e ({ frames := 0, cells := 0, slots := 0, locals := 0 }) s m args below meth c H locs 0 0 (MQ below (xQi G (fun v M' => v = nI (zMk (zB u set) (zrn u)) ∧ M' = M)) args s 0 0 (xF G)) (F0 m 4 ls []) := by
  obtain ⟨hx, hb, hr, hml, hown, hw, hlocks⟩ := id hE
  have hrn : zrn u ≤ 10 := hO.2.2.1
  intro n
  induction n with
  | zero =>
    intro i h1 h2
    exact absurd h2 (by omega)
  | succ n ih =>
    intro i hi hin H locs ls hM hS hl
    refine lv_iload_n hx hb d_Rm_membersOf_4 rfl (lv_at hl 3 rfl) ?_
    refine lv_aload_n hx hb d_Rm_membersOf_5 rfl (lv_at hl 0 rfl) ?_
    refine x_get (C := R_Rm) (T := F_Rm) (N := 12) hx hb hw i_Rm hown hK.1 hM hC.1 rfl 3 (by decide) (hw _ kw_68) rfl rfl d_Rm_membersOf_6 ?_
    refine lv_icmp_ge (tgt := 46) hx hb d_Rm_membersOf_9 (by decide) (fun c_9 => ?_) (fun c_9 => ?_)
    · have h9 : zrn u ≤ i := (nI_leI (by omega) (by omega)).mp c_9
      refine lv_iload_n hx hb d_Rm_membersOf_46 rfl (lv_at hl 2 rfl) ?_
      exact x_ri hE rfl hM hS ⟨by rw [show i = zrn u by omega], rfl⟩ (by omega) (by omega) d_Rm_membersOf_47
    · have hir : i < zrn u := Nat.not_le.mp (fun h9 => c_9 ((nI_leI (by omega) (by omega)).mpr h9))
      refine lv_iload_n hx hb d_Rm_membersOf_12 rfl (lv_at hl 1 rfl) ?_
      refine lv_iload_n hx hb d_Rm_membersOf_13 rfl (lv_at hl 3 rfl) ?_
      refine lv_ishr hx hb d_Rm_membersOf_14 ?_
      refine lv_iconst (v := 1) hx hb d_Rm_membersOf_15 (by decide) ?_
      refine lv_iand hx hb d_Rm_membersOf_16 ?_
      refine lv_iconst (v := 1) hx hb d_Rm_membersOf_17 (by decide) ?_
      refine lv_icmp_ne (tgt := 40) hx hb d_Rm_membersOf_18 (by decide) (fun c_18 => ?_) (fun c_18 => ?_)
      · refine lv_iinc (v := (nI (i + 1))) (lv' := [(3, .int (nI (i + 1))), (0, .ref (ad 0)), (1, .int set), (2, .int (nI (zMk (zB u set) i)))]) hx hb d_Rm_membersOf_40 hl (k := 3) rfl (nI_1 i) (by decide) rfl (fun ls hl => ?_)
        refine lv_goto (tgt := 4) hx hb d_Rm_membersOf_43 (by decide) ?_
        have hb : zB u set i = -1 := by unfold zB; rw [if_neg (fun h9 => c_18 h9.2)]
        have hz : zMk (zB u set) (i + 1) = zMk (zB u set) i := by show (if zB u set i = -1 then _ else _) = _; rw [hb, if_pos rfl]
        exact ih (i + 1) hir (by omega) _ _ _ hM hS (by rw [hz]; exact lv_sub hl [1, 2, 3, 0] rfl)
      · refine lv_aload_n hx hb d_Rm_membersOf_21 rfl (lv_at hl 0 rfl) ?_
        refine x_get (C := R_Rm) (T := F_Rm) (N := 12) hx hb hw i_Rm hown hK.1 hM hC.1 rfl 2 (by decide) (hw _ kw_67) rfl rfl d_Rm_membersOf_22 ?_
        refine lv_iload_n hx hb d_Rm_membersOf_25 rfl (lv_at hl 3 rfl) ?_
        have hRi := hC.2.2.2.2.2.2.1 i hir
        refine x_aldq (v := .ref (ad (20 + i))) hx hb hK.1 hM hC.2.2.1 2 rfl rfl (by omega) (by omega) (zrw_lt hir) d_Rm_membersOf_26 ?_
        refine x_getN (C := R_Row) (T := F_Row) (N := 2) (host := R_Rm) hx hb hw i_Row hown hK.1 hM hRi.1 rfl 1 (by decide) (va_Nw.use rfl (hK.2.1.1 (97, R_Row, "start", "I") (by decide))) rfl rfl d_Rm_membersOf_27 ?_
        refine lv_iconst (v := (-1)) hx hb d_Rm_membersOf_30 (by decide) ?_
        refine lv_icmp_eq (tgt := 40) hx hb d_Rm_membersOf_31 (by decide) (fun c_31 => ?_) (fun c_31 => ?_)
        · refine lv_iinc (v := (nI (i + 1))) (lv' := [(3, .int (nI (i + 1))), (0, .ref (ad 0)), (1, .int set), (2, .int (nI (zMk (zB u set) i)))]) hx hb d_Rm_membersOf_40 hl (k := 3) rfl (nI_1 i) (by decide) rfl (fun ls hl => ?_)
          refine lv_goto (tgt := 4) hx hb d_Rm_membersOf_43 (by decide) ?_
          have hb : zB u set i = zst u i := by unfold zB; rw [if_pos ⟨hir, c_18⟩]
          have hz : zMk (zB u set) (i + 1) = zMk (zB u set) i := by show (if zB u set i = -1 then _ else _) = _; rw [hb, if_pos c_31]
          exact ih (i + 1) hir (by omega) _ _ _ hM hS (by rw [hz]; exact lv_sub hl [1, 2, 3, 0] rfl)
        · refine lv_iload_n hx hb d_Rm_membersOf_34 rfl (lv_at hl 2 rfl) ?_
          refine lv_iconst (v := 1) hx hb d_Rm_membersOf_35 (by decide) ?_
          refine lv_iload_n hx hb d_Rm_membersOf_36 rfl (lv_at hl 3 rfl) ?_
          refine lv_ishl hx hb d_Rm_membersOf_37 ?_
          refine lv_ior hx hb d_Rm_membersOf_38 ?_
          refine lv_istore_n (lv' := [(2, .int ((nI (zMk (zB u set) i)) ||| (1 <<< ((nI i) &&& 31)))), (0, .ref (ad 0)), (1, .int set), (3, .int (nI i))]) hx hb d_Rm_membersOf_39 rfl hl (by decide) rfl (fun ls hl => ?_)
          refine lv_iinc (v := (nI (i + 1))) (lv' := [(3, .int (nI (i + 1))), (2, .int ((nI (zMk (zB u set) i)) ||| (1 <<< ((nI i) &&& 31)))), (0, .ref (ad 0)), (1, .int set)]) hx hb d_Rm_membersOf_40 hl (k := 3) rfl (nI_1 i) (by decide) rfl (fun ls hl => ?_)
          refine lv_goto (tgt := 4) hx hb d_Rm_membersOf_43 (by decide) ?_
          have hb : zB u set i = zst u i := by unfold zB; rw [if_pos ⟨hir, c_18⟩]
          have hz : zMk (zB u set) (i + 1) = zMk (zB u set) i + 2 ^ i := by show (if zB u set i = -1 then _ else _) = _; rw [hb, if_neg c_31]
          exact ih (i + 1) hir (by omega) _ _ _ hM hS (by rw [hz]; rw [← z_or i (by omega) _ (zMk_lt _ i)]; exact lv_sub hl [2, 3, 1, 0] rfl)

set_option maxHeartbeats 4000000 in
set_option maxRecDepth 100000 in
theorem c_Rm_membersOf (l : Launch) (G : xG) (M : xM) (ad : Nat → Nat) (u : zS) (hC : Core G M ad u) (hO : zOk u) (set : Int32) : Met l y_Rm_membersOf w_Rm_membersOf ({ frames := 0, cells := 0, slots := 0, locals := 0 }) (xP G [.ref (ad 0), .int set] M) (xQi G (fun v M' => v = nI (zMk (zB u set) (zrn u)) ∧ M' = M)) 0 0 (xF G) := by
  refine x_met (by decide) (Nat.le_of_ble_eq_true rfl) ?_
  intro p e s m below meth c ls hE hin hl hM hK hS
  obtain ⟨hx, hb, hr, hml, hown, hw, hlocks⟩ := id hE
  have hl : lv_has ls 4 [(0, .ref (ad 0)), (1, .int set)] := hl
  refine lv_iconst (v := 0) hx hb d_Rm_membersOf_0 (by decide) ?_
  refine lv_istore_n (lv' := [(2, .int 0), (0, .ref (ad 0)), (1, .int set)]) hx hb d_Rm_membersOf_1 rfl hl (by decide) rfl (fun ls hl => ?_)
  refine lv_iconst (v := 0) hx hb d_Rm_membersOf_2 (by decide) ?_
  refine lv_istore_n (lv' := [(3, .int 0), (2, .int 0), (0, .ref (ad 0)), (1, .int set)]) hx hb d_Rm_membersOf_3 rfl hl (by decide) rfl (fun ls hl => ?_)
  exact lp_Rm_membersOf ad u hC hO set hE hK (zrn u + 1) 0 (by omega) (by omega) _ _ _ hM hS (lv_sub hl [2, 3, 1, 0] rfl)

set_option maxHeartbeats 4000000 in
set_option maxRecDepth 100000 in
theorem lp_Rm_firstYearOf {p : Program} {l : Launch} {e : Env} {s : State} {m : MethodId} {below : List Frame} {meth : Method} {c : Code} {args : Array Value} {G : xG} {M : xM} (ad : Nat → Nat) (u : zS) (hC : Core G M ad u) (hO : zOk u) (b : Nat → Int32) (hb9 : ∀ i, i < zrn u → b i = -1 ∨ b i = zst u i)  (hE : xE p s m args meth c b_Rm_firstYearOf (some .int) 4 R_Rm) (hK : KX G s) : ∀ (n i : Nat), i ≤ zrn u → zrn u + 1 ≤ i + n → ∀ (H : Heap) (locs : List Loc) (ls : Array Slot), xh G M H → va_S (xF G) s.heap H locs → lv_has ls 4 [(0, .ref (ad 0)), (1, .int (nI (zMk b (zrn u)))), (2, .int (zFst b i)), (3, .int (nI i))] → W p l e ({ frames := 1, cells := 0, slots := 0, locals := 20 }) s m args below meth c H locs 0 0 (MQ below (xQi G (fun v M' => v = zFst b (zrn u) ∧ M' = M)) args s 0 0 (xF G)) (F0 m 6 ls []) := by
  obtain ⟨hx, hb, hr, hml, hown, hw, hlocks⟩ := id hE
  have hrn : zrn u ≤ 10 := hO.2.2.1
  have hbit : ∀ i, i < zrn u → (((nI (zMk b (zrn u)) >>> (nI i &&& 31)) &&& 1) = 1 ↔ b i ≠ -1) := fun i hi => by
    have hlt : zMk b (zrn u) < 1024 := Nat.lt_of_lt_of_le (zMk_lt b _) (Nat.pow_le_pow_right (by decide) hrn : 2 ^ zrn u ≤ 2 ^ 10)
    rw [z_bit i (by omega) _ hlt, zMk_bit b _ i hi]
    by_cases h9 : b i = -1
    · rw [if_pos h9]
      exact ⟨fun h8 => absurd h8 (by decide), fun h8 => absurd h9 h8⟩
    · rw [if_neg h9]
      exact ⟨fun _ => h9, fun _ => rfl⟩
  intro n
  induction n with
  | zero =>
    intro i h1 h2
    exact absurd h2 (by omega)
  | succ n ih =>
    intro i hi hin H locs ls hM hS hl
    refine lv_iload_n hx hb d_Rm_firstYearOf_6 rfl (lv_at hl 3 rfl) ?_
    refine lv_aload_n hx hb d_Rm_firstYearOf_7 rfl (lv_at hl 0 rfl) ?_
    refine x_get (C := R_Rm) (T := F_Rm) (N := 12) hx hb hw i_Rm hown hK.1 hM hC.1 rfl 3 (by decide) (hw _ kw_68) rfl rfl d_Rm_firstYearOf_8 ?_
    refine lv_icmp_ge (tgt := 43) hx hb d_Rm_firstYearOf_11 (by decide) (fun c_11 => ?_) (fun c_11 => ?_)
    · have h9 : zrn u ≤ i := (nI_leI (by omega) (by omega)).mp c_11
      refine lv_iload_n hx hb d_Rm_firstYearOf_43 rfl (lv_at hl 2 rfl) ?_
      exact x_ri hE rfl hM hS ⟨by rw [show i = zrn u by omega], rfl⟩ (by omega) (by omega) d_Rm_firstYearOf_44
    · have hir : i < zrn u := Nat.not_le.mp (fun h9 => c_11 ((nI_leI (by omega) (by omega)).mpr h9))
      refine lv_iload_n hx hb d_Rm_firstYearOf_14 rfl (lv_at hl 1 rfl) ?_
      refine lv_iload_n hx hb d_Rm_firstYearOf_15 rfl (lv_at hl 3 rfl) ?_
      refine lv_ishr hx hb d_Rm_firstYearOf_16 ?_
      refine lv_iconst (v := 1) hx hb d_Rm_firstYearOf_17 (by decide) ?_
      refine lv_iand hx hb d_Rm_firstYearOf_18 ?_
      refine lv_iconst (v := 1) hx hb d_Rm_firstYearOf_19 (by decide) ?_
      refine lv_icmp_ne (tgt := 37) hx hb d_Rm_firstYearOf_20 (by decide) (fun c_20 => ?_) (fun c_20 => ?_)
      · refine lv_iinc (v := (nI (i + 1))) (lv' := [(3, .int (nI (i + 1))), (0, .ref (ad 0)), (1, .int (nI (zMk b (zrn u)))), (2, .int (zFst b i))]) hx hb d_Rm_firstYearOf_37 hl (k := 3) rfl (nI_1 i) (by decide) rfl (fun ls hl => ?_)
        refine lv_goto (tgt := 6) hx hb d_Rm_firstYearOf_40 (by decide) ?_
        have hbi : b i = -1 := Classical.byContradiction fun h9 => c_20 ((hbit i hir).mpr h9)
        have hz : zFst b (i + 1) = zFst b i := by show (if b i = -1 then _ else _) = _; rw [if_pos hbi]
        exact ih (i + 1) hir (by omega) _ _ _ hM hS (by rw [hz]; exact lv_sub hl [1, 2, 3, 0] rfl)
      · refine lv_iload_n hx hb d_Rm_firstYearOf_23 rfl (lv_at hl 2 rfl) ?_
        refine lv_aload_n hx hb d_Rm_firstYearOf_24 rfl (lv_at hl 0 rfl) ?_
        refine x_get (C := R_Rm) (T := F_Rm) (N := 12) hx hb hw i_Rm hown hK.1 hM hC.1 rfl 2 (by decide) (hw _ kw_67) rfl rfl d_Rm_firstYearOf_25 ?_
        refine lv_iload_n hx hb d_Rm_firstYearOf_28 rfl (lv_at hl 3 rfl) ?_
        have hRi := hC.2.2.2.2.2.2.1 i hir
        refine x_aldq (v := .ref (ad (20 + i))) hx hb hK.1 hM hC.2.2.1 2 rfl rfl (by omega) (by omega) (zrw_lt hir) d_Rm_firstYearOf_29 ?_
        refine x_getN (C := R_Row) (T := F_Row) (N := 2) (host := R_Rm) hx hb hw i_Row hown hK.1 hM hRi.1 rfl 1 (by decide) (va_Nw.use rfl (hK.2.1.1 (97, R_Row, "start", "I") (by decide))) rfl rfl d_Rm_firstYearOf_30 ?_
        refine va_mmin hx hb (hml.trans hl.1.symm) hown (hw _ kw_208) (hw _ kJ_min') (hw _ kJ_M) (hw _ kJ_min) (by decide) (Nat.le_of_ble_eq_true rfl) (by decide) (by decide) d_Rm_firstYearOf_33 ?_
        refine W.eq (g2 := F0 m 36 ls [.int (zMin (zFst b i) (zst u i))]) rfl ?_
        refine lv_istore_n (lv' := [(2, .int (zMin (zFst b i) (zst u i))), (0, .ref (ad 0)), (1, .int (nI (zMk b (zrn u)))), (3, .int (nI i))]) hx hb d_Rm_firstYearOf_36 rfl hl (by decide) rfl (fun ls hl => ?_)
        refine lv_iinc (v := (nI (i + 1))) (lv' := [(3, .int (nI (i + 1))), (2, .int (zMin (zFst b i) (zst u i))), (0, .ref (ad 0)), (1, .int (nI (zMk b (zrn u))))]) hx hb d_Rm_firstYearOf_37 hl (k := 3) rfl (nI_1 i) (by decide) rfl (fun ls hl => ?_)
        refine lv_goto (tgt := 6) hx hb d_Rm_firstYearOf_40 (by decide) ?_
        have hbi := (hbit i hir).mp c_20
        have hst := (hb9 i hir).resolve_left hbi
        have hz : zFst b (i + 1) = zMin (zFst b i) (zst u i) := by show (if b i = -1 then _ else _) = _; rw [if_neg hbi, hst]
        exact ih (i + 1) hir (by omega) _ _ _ hM hS (by rw [hz]; exact lv_sub hl [2, 3, 1, 0] rfl)

set_option maxHeartbeats 4000000 in
set_option maxRecDepth 100000 in
theorem c_Rm_firstYearOf (l : Launch) (G : xG) (M : xM) (ad : Nat → Nat) (u : zS) (hC : Core G M ad u) (hO : zOk u) (b : Nat → Int32) (hb9 : ∀ i, i < zrn u → b i = -1 ∨ b i = zst u i)  : Met l y_Rm_firstYearOf w_Rm_firstYearOf ({ frames := 1, cells := 0, slots := 0, locals := 20 }) (xP G [.ref (ad 0), .int (nI (zMk b (zrn u)))] M) (xQi G (fun v M' => v = zFst b (zrn u) ∧ M' = M)) 0 0 (xF G) := by
  refine x_met (by decide) (Nat.le_of_ble_eq_true rfl) ?_
  intro p e s m below meth c ls hE hin hl hM hK hS
  obtain ⟨hx, hb, hr, hml, hown, hw, hlocks⟩ := id hE
  have hl : lv_has ls 4 [(0, .ref (ad 0)), (1, .int (nI (zMk b (zrn u))))] := hl
  refine lv_sipush (v := 500) hx hb d_Rm_firstYearOf_0 (by decide) ?_
  refine lv_istore_n (lv' := [(2, .int 500), (0, .ref (ad 0)), (1, .int (nI (zMk b (zrn u))))]) hx hb d_Rm_firstYearOf_3 rfl hl (by decide) rfl (fun ls hl => ?_)
  refine lv_iconst (v := 0) hx hb d_Rm_firstYearOf_4 (by decide) ?_
  refine lv_istore_n (lv' := [(3, .int 0), (2, .int 500), (0, .ref (ad 0)), (1, .int (nI (zMk b (zrn u))))]) hx hb d_Rm_firstYearOf_5 rfl hl (by decide) rfl (fun ls hl => ?_)
  exact lp_Rm_firstYearOf ad u hC hO b hb9 hE hK (zrn u + 1) 0 (by omega) (by omega) _ _ _ hM hS (lv_sub hl [2, 3, 1, 0] rfl)

set_option maxHeartbeats 4000000 in
set_option maxRecDepth 100000 in
theorem lp_Rm_lastYearOf {p : Program} {l : Launch} {e : Env} {s : State} {m : MethodId} {below : List Frame} {meth : Method} {c : Code} {args : Array Value} {G : xG} {M : xM} (ad : Nat → Nat) (u : zS) (hC : Core G M ad u) (hO : zOk u) (b : Nat → Int32) (hb9 : ∀ i, i < zrn u → b i = -1 ∨ b i = zst u i)  (hE : xE p s m args meth c b_Rm_lastYearOf (some .int) 4 R_Rm) (hK : KX G s) : ∀ (n i : Nat), i ≤ zrn u → zrn u + 1 ≤ i + n → ∀ (H : Heap) (locs : List Loc) (ls : Array Slot), xh G M H → va_S (xF G) s.heap H locs → lv_has ls 4 [(0, .ref (ad 0)), (1, .int (nI (zMk b (zrn u)))), (2, .int (zLst (zln u) b i)), (3, .int (nI i))] → W p l e ({ frames := 1, cells := 0, slots := 0, locals := 25 }) s m args below meth c H locs 0 0 (MQ below (xQi G (fun v M' => v = zLst (zln u) b (zrn u) ∧ M' = M)) args s 0 0 (xF G)) (F0 m 4 ls []) := by
  obtain ⟨hx, hb, hr, hml, hown, hw, hlocks⟩ := id hE
  have hrn : zrn u ≤ 10 := hO.2.2.1
  have hbit : ∀ i, i < zrn u → (((nI (zMk b (zrn u)) >>> (nI i &&& 31)) &&& 1) = 1 ↔ b i ≠ -1) := fun i hi => by
    have hlt : zMk b (zrn u) < 1024 := Nat.lt_of_lt_of_le (zMk_lt b _) (Nat.pow_le_pow_right (by decide) hrn : 2 ^ zrn u ≤ 2 ^ 10)
    rw [z_bit i (by omega) _ hlt, zMk_bit b _ i hi]
    by_cases h9 : b i = -1
    · rw [if_pos h9]
      exact ⟨fun h8 => absurd h8 (by decide), fun h8 => absurd h9 h8⟩
    · rw [if_neg h9]
      exact ⟨fun _ => h9, fun _ => rfl⟩
  intro n
  induction n with
  | zero =>
    intro i h1 h2
    exact absurd h2 (by omega)
  | succ n ih =>
    intro i hi hin H locs ls hM hS hl
    refine lv_iload_n hx hb d_Rm_lastYearOf_4 rfl (lv_at hl 3 rfl) ?_
    refine lv_aload_n hx hb d_Rm_lastYearOf_5 rfl (lv_at hl 0 rfl) ?_
    refine x_get (C := R_Rm) (T := F_Rm) (N := 12) hx hb hw i_Rm hown hK.1 hM hC.1 rfl 3 (by decide) (hw _ kw_68) rfl rfl d_Rm_lastYearOf_6 ?_
    refine lv_icmp_ge (tgt := 41) hx hb d_Rm_lastYearOf_9 (by decide) (fun c_9 => ?_) (fun c_9 => ?_)
    · have h9 : zrn u ≤ i := (nI_leI (by omega) (by omega)).mp c_9
      refine lv_iload_n hx hb d_Rm_lastYearOf_41 rfl (lv_at hl 2 rfl) ?_
      exact x_ri hE rfl hM hS ⟨by rw [show i = zrn u by omega], rfl⟩ (by omega) (by omega) d_Rm_lastYearOf_42
    · have hir : i < zrn u := Nat.not_le.mp (fun h9 => c_9 ((nI_leI (by omega) (by omega)).mpr h9))
      refine lv_iload_n hx hb d_Rm_lastYearOf_12 rfl (lv_at hl 1 rfl) ?_
      refine lv_iload_n hx hb d_Rm_lastYearOf_13 rfl (lv_at hl 3 rfl) ?_
      refine lv_ishr hx hb d_Rm_lastYearOf_14 ?_
      refine lv_iconst (v := 1) hx hb d_Rm_lastYearOf_15 (by decide) ?_
      refine lv_iand hx hb d_Rm_lastYearOf_16 ?_
      refine lv_iconst (v := 1) hx hb d_Rm_lastYearOf_17 (by decide) ?_
      refine lv_icmp_ne (tgt := 35) hx hb d_Rm_lastYearOf_18 (by decide) (fun c_18 => ?_) (fun c_18 => ?_)
      · refine lv_iinc (v := (nI (i + 1))) (lv' := [(3, .int (nI (i + 1))), (0, .ref (ad 0)), (1, .int (nI (zMk b (zrn u)))), (2, .int (zLst (zln u) b i))]) hx hb d_Rm_lastYearOf_35 hl (k := 3) rfl (nI_1 i) (by decide) rfl (fun ls hl => ?_)
        refine lv_goto (tgt := 4) hx hb d_Rm_lastYearOf_38 (by decide) ?_
        have hbi : b i = -1 := Classical.byContradiction fun h9 => c_18 ((hbit i hir).mpr h9)
        have hz : zLst (zln u) b (i + 1) = zLst (zln u) b i := by show (if b i = -1 then _ else _) = _; rw [if_pos hbi]
        exact ih (i + 1) hir (by omega) _ _ _ hM hS (by rw [hz]; exact lv_sub hl [1, 2, 3, 0] rfl)
      · refine lv_iload_n hx hb d_Rm_lastYearOf_21 rfl (lv_at hl 2 rfl) ?_
        refine lv_aload_n hx hb d_Rm_lastYearOf_22 rfl (lv_at hl 0 rfl) ?_
        refine x_get (C := R_Rm) (T := F_Rm) (N := 12) hx hb hw i_Rm hown hK.1 hM hC.1 rfl 2 (by decide) (hw _ kw_67) rfl rfl d_Rm_lastYearOf_23 ?_
        refine lv_iload_n hx hb d_Rm_lastYearOf_26 rfl (lv_at hl 3 rfl) ?_
        have hRi := hC.2.2.2.2.2.2.1 i hir
        refine x_aldq (v := .ref (ad (20 + i))) hx hb hK.1 hM hC.2.2.1 2 rfl rfl (by omega) (by omega) (zrw_lt hir) d_Rm_lastYearOf_27 ?_
        refine x_ci (x_runV (As := []) (rest := [.int (zLst (zln u) b i)]) hE hK hM hl.1 (c_Row_lastYear l G M (ad (20 + i)) (20 + i) (ad (30 + i)) (30 + i) (zln u i) (zev u i) (zst u i) hRi.1 hRi.2) hRi.1 rfl kw_290 kw_291 kw_292 kw_10 kw_293 0 rfl rfl rfl (by decide +kernel) ⟨by decide, by decide⟩ rfl (Nat.le_of_ble_eq_true rfl) d_Rm_lastYearOf_28 ⟨by decide, by decide⟩) hS (fun r1 M1 H locs hp hM hS => ?_)
        obtain ⟨e_l, e_M⟩ := hp
        have hM : xh G M H := e_M ▸ hM
        subst e_l
        refine va_mmax hx hb (hml.trans hl.1.symm) hown (hw _ kw_294) (hw _ kJ_max') (hw _ kJ_M) (hw _ kJ_max) (by decide) (Nat.le_of_ble_eq_true rfl) (by decide) (by decide) d_Rm_lastYearOf_31 ?_
        refine W.eq (g2 := F0 m 34 ls [.int (zMax (zLst (zln u) b i) (zst u i + nI (zln u i) - 1))]) rfl ?_
        refine lv_istore_n (lv' := [(2, .int (zMax (zLst (zln u) b i) (zst u i + nI (zln u i) - 1))), (0, .ref (ad 0)), (1, .int (nI (zMk b (zrn u)))), (3, .int (nI i))]) hx hb d_Rm_lastYearOf_34 rfl hl (by decide) rfl (fun ls hl => ?_)
        refine lv_iinc (v := (nI (i + 1))) (lv' := [(3, .int (nI (i + 1))), (2, .int (zMax (zLst (zln u) b i) (zst u i + nI (zln u i) - 1))), (0, .ref (ad 0)), (1, .int (nI (zMk b (zrn u))))]) hx hb d_Rm_lastYearOf_35 hl (k := 3) rfl (nI_1 i) (by decide) rfl (fun ls hl => ?_)
        refine lv_goto (tgt := 4) hx hb d_Rm_lastYearOf_38 (by decide) ?_
        have hbi := (hbit i hir).mp c_18
        have hst := (hb9 i hir).resolve_left hbi
        have hz : zLst (zln u) b (i + 1) = zMax (zLst (zln u) b i) (zst u i + nI (zln u i) - 1) := by show (if b i = -1 then _ else _) = _; rw [if_neg hbi, hst]
        exact ih (i + 1) hir (by omega) _ _ _ hM hS (by rw [hz]; exact lv_sub hl [2, 3, 1, 0] rfl)

set_option maxHeartbeats 4000000 in
set_option maxRecDepth 100000 in
theorem c_Rm_lastYearOf (l : Launch) (G : xG) (M : xM) (ad : Nat → Nat) (u : zS) (hC : Core G M ad u) (hO : zOk u) (b : Nat → Int32) (hb9 : ∀ i, i < zrn u → b i = -1 ∨ b i = zst u i)  : Met l y_Rm_lastYearOf w_Rm_lastYearOf ({ frames := 1, cells := 0, slots := 0, locals := 25 }) (xP G [.ref (ad 0), .int (nI (zMk b (zrn u)))] M) (xQi G (fun v M' => v = zLst (zln u) b (zrn u) ∧ M' = M)) 0 0 (xF G) := by
  refine x_met (by decide) (Nat.le_of_ble_eq_true rfl) ?_
  intro p e s m below meth c ls hE hin hl hM hK hS
  obtain ⟨hx, hb, hr, hml, hown, hw, hlocks⟩ := id hE
  have hl : lv_has ls 4 [(0, .ref (ad 0)), (1, .int (nI (zMk b (zrn u))))] := hl
  refine lv_iconst (v := 0) hx hb d_Rm_lastYearOf_0 (by decide) ?_
  refine lv_istore_n (lv' := [(2, .int 0), (0, .ref (ad 0)), (1, .int (nI (zMk b (zrn u))))]) hx hb d_Rm_lastYearOf_1 rfl hl (by decide) rfl (fun ls hl => ?_)
  refine lv_iconst (v := 0) hx hb d_Rm_lastYearOf_2 (by decide) ?_
  refine lv_istore_n (lv' := [(3, .int 0), (2, .int 0), (0, .ref (ad 0)), (1, .int (nI (zMk b (zrn u))))]) hx hb d_Rm_lastYearOf_3 rfl hl (by decide) rfl (fun ls hl => ?_)
  exact lp_Rm_lastYearOf ad u hC hO b hb9 hE hK (zrn u + 1) 0 (by omega) (by omega) _ _ _ hM hS (lv_sub hl [2, 3, 1, 0] rfl)
