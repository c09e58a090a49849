def u0 : zS := ((0, fun _ => 0), (0, fun _ => 0, fun _ _ => 0, fun _ => 0), (0, fun _ _ => 0), fun _ => 0)
theorem xw_nn {M M1 : xM} {a b : Nat} {x : Nat × va_E} (e : M1 = va_up M a (some x)) (h : M1 b = none) : M b = none := by
  by_cases hb : b = a
  · rw [e, hb, va_up_self] at h
    cases h
  · rw [e, va_up_ne _ _ hb] at h
    exact h

set_option maxHeartbeats 4000000 in
set_option maxRecDepth 100000 in
theorem lp_Rm_init {p : Program} {l : Launch} {e : Env} {s : State} {m : MethodId} {below : List Frame} {meth : Method} {c : Code} {args : Array Value} {G : xG} {M : xM} (M0 : xM) (g pd rw mw wt ro tr ne gp : Nat) (ad9 : Nat → Nat) (h_g : M0 g = some (0, .inr (4, [.ref pd, .int 0, .ref rw, .int 0, .ref mw, .int 0, .ref wt, .ref ro, .ref tr, .ref ne, .ref gp, .null]))) (h_pd : M0 pd = some (1, .inl (gI G, 30, .inl (fun _ => 0)))) (h_rw : M0 rw = some (2, .inl (gR G, 10, .inr (.inr (.inr (.inr (fun _ => none))))))) (h_mw : M0 mw = some (3, .inl (gM G, 8, .inr (.inr (.inr (.inr (fun _ => none))))))) (h_wt : M0 wt = some (4, .inl (gI G, 61, .inl (fun _ => 0)))) (h_ro : M0 ro = some (5, .inr (1, [.int 0, .int 0, .int 0, .int 0]))) (h_tr : M0 tr = some (6, .inr (0, [.int 0, .int 0]))) (h_ne : M0 ne = some (7, .inr (0, [.int 0, .int 0]))) (hof0 : xOff 0 M M0) (hgn : M gp = none) (hE : xE p s m args meth c b_Rm_init none 2 R_Rm) (hin : meth.name = "<init>") (hK : KX G s) : ∀ (n i : Nat), i ≤ 8 → 9 ≤ i + n → ∀ (Mk : xM) (ad : Nat → Nat), (ad 0 = g ∧ ad 1 = pd ∧ ad 2 = rw ∧ ad 3 = mw ∧ ad 4 = wt ∧ ad 5 = ro ∧ ad 6 = tr ∧ ad 7 = ne ∧ ad 8 = gp) → (∀ r, 100 ≤ r → ad r = ad9 r) → xOff 8 M0 Mk → (∀ b r e, M b = some (r, e) → r ≠ 0 → Mk b = some (r, e)) → Mk gp = some (8, eQ (gG G) 8 (zrw ad 10 i)) → (∀ k, k < i → ∃ q : Int32 × Int32, Mk (ad (10 + k)) = some (10 + k, eGap q)) → ∀ (H : Heap) (locs : List Loc) (ls : Array Slot), xh G Mk H → va_S (xF G) s.heap H locs → lv_has ls 2 [(0, .ref g), (1, .int (nI i))] → W p l e ({ frames := 2, cells := 17, slots := 149, locals := 60 }) s m args below meth c H locs (8 + i) (125 + 2 * i) (MQ below (xQv G (fun M' => ∃ ad : Nat → Nat, ad 0 = g ∧ Core G M' ad u0 ∧ Scr G M' ad ∧ xOff 0 M M' ∧ ∀ r, 100 ≤ r → ad r = ad9 r)) args s 17 149 (xF G)) (F0 m 97 ls []) := by
  obtain ⟨hx, hb, hr, hml, hown, hw, hlocks⟩ := id hE
  intro n
  induction n with
  | zero =>
    intro i h1 h2
    exact absurd h2 (by omega)
  | succ n ih =>
    intro i hi hin9 Mk ad hAd hAd9 hof hofM c_gp hgs H locs ls hM hS hl
    have c_g := hof _ _ _ h_g (by decide)
    have c_pd := hof _ _ _ h_pd (by decide)
    have c_rw := hof _ _ _ h_rw (by decide)
    have c_mw := hof _ _ _ h_mw (by decide)
    have c_wt := hof _ _ _ h_wt (by decide)
    have c_ro := hof _ _ _ h_ro (by decide)
    have c_tr := hof _ _ _ h_tr (by decide)
    have c_ne := hof _ _ _ h_ne (by decide)
    refine lv_iload_n hx hb d_Rm_init_97 rfl (lv_at hl 1 rfl) ?_
    refine lv_aload_n hx hb d_Rm_init_98 rfl (lv_at hl 0 rfl) ?_
    refine x_get (C := R_Rm) (T := F_Rm) (N := 12) hx hb hw i_Rm hown hK.1 hM c_g rfl 10 (by decide) (hw _ kw_75) rfl rfl d_Rm_init_99 ?_
    refine x_alen (v := nI 8) hx hb hK.1 hM c_gp 4 rfl rfl d_Rm_init_102 ?_
    refine lv_icmp_ge (tgt := 125) hx hb d_Rm_init_103 (by decide) (fun c_103 => ?_) (fun c_103 => ?_)
    · have h103 : 8 ≤ i := (nI_leI (by decide) (by omega)).mp c_103
      refine lv_aload_n hx hb d_Rm_init_125 rfl (lv_at hl 0 rfl) ?_
      refine lv_bipush (v := 8) hx hb d_Rm_init_126 (by decide) ?_
      refine x_newa (9) (atype := .int) (a0 := (8, .inl (fun _ => 0))) (N' := 8) hx hb (hw _ kw_48) hK.1 hM hS 0 rfl (vp_cell_i _ _ _) rfl (by decide) (show 8 * 4 ≤ _ by omega) (show 8 + i + 1 ≤ 17 by omega) (show 125 + 2 * i + 8 ≤ 149 by omega) d_Rm_init_128 (fun dt H hn_dt hM hS => ?_)
      have hM : xh G (va_up Mk dt (some (9, .inl (gI G, 8, .inl (fun _ => 0))))) H := hM
      obtain ⟨Mk_1, eMk_1⟩ : ∃ z : xM, z = va_up Mk dt (some (9, .inl (gI G, 8, .inl (fun _ => 0)))) := ⟨_, rfl⟩
      rw [← eMk_1] at hM
      have c_g := xw_newE eMk_1 c_g hn_dt
      have c_pd := xw_newE eMk_1 c_pd hn_dt
      have c_rw := xw_newE eMk_1 c_rw hn_dt
      have c_mw := xw_newE eMk_1 c_mw hn_dt
      have c_wt := xw_newE eMk_1 c_wt hn_dt
      have c_ro := xw_newE eMk_1 c_ro hn_dt
      have c_tr := xw_newE eMk_1 c_tr hn_dt
      have c_ne := xw_newE eMk_1 c_ne hn_dt
      have c_gp := xw_newE eMk_1 c_gp hn_dt
      have c_dt := xw_atE eMk_1
      have c_g0 := c_g
      refine x_putF (C := R_Rm) (T := F_Rm) (N := 12) (ty := .array (.int)) (v := .ref dt) hx hb hw i_Rm t_Rm t_Rm_ok n_Rm hown hK.1 hM hS c_g rfl 11 (by decide) (hw _ kw_76) rfl rfl hin rfl (by decide +kernel) rfl rfl (Nat.le_of_ble_eq_true rfl) d_Rm_init_130 (fun H locs hM hS hz => ?_)
      have hM : xh G (va_up Mk_1 g (some (0, .inr (4, [.ref pd, .int 0, .ref rw, .int 0, .ref mw, .int 0, .ref wt, .ref ro, .ref tr, .ref ne, .ref gp, .ref dt])))) H := hM
      obtain ⟨Mk_2, eMk_2⟩ : ∃ z : xM, z = va_up Mk_1 g (some (0, .inr (4, [.ref pd, .int 0, .ref rw, .int 0, .ref mw, .int 0, .ref wt, .ref ro, .ref tr, .ref ne, .ref gp, .ref dt]))) := ⟨_, rfl⟩
      rw [← eMk_2] at hM
      have c_pd := xw_upE eMk_2 c_pd c_g (by decide)
      have c_rw := xw_upE eMk_2 c_rw c_g (by decide)
      have c_mw := xw_upE eMk_2 c_mw c_g (by decide)
      have c_wt := xw_upE eMk_2 c_wt c_g (by decide)
      have c_ro := xw_upE eMk_2 c_ro c_g (by decide)
      have c_tr := xw_upE eMk_2 c_tr c_g (by decide)
      have c_ne := xw_upE eMk_2 c_ne c_g (by decide)
      have c_gp := xw_upE eMk_2 c_gp c_g (by decide)
      have c_dt := xw_upE eMk_2 c_dt c_g (by decide)
      have c_g := xw_atE eMk_2
      have hi8 : i = 8 := by omega
      subst hi8
      have hk : ∀ b r e, Mk b = some (r, e) → r ≠ 0 → Mk_2 b = some (r, e) := fun b r e hb hn => xw_upE eMk_2 (xw_newE eMk_1 hb hn_dt) c_g0 hn
      obtain ⟨a0, a1, a2, a3, a4, a5, a6, a7, a8⟩ := hAd
      have hA : ∀ r, r ≠ 9 → va_up ad 9 dt r = ad r := fun r hr => va_up_ne _ _ hr
      have hA9 : va_up ad 9 dt 9 = dt := va_up_self _ _ _
      have hg8 : zrw (va_up ad 9 dt) 10 8 = zrw ad 10 8 := zrw_off fun i hi => by omega
      have hn1 : zrw (va_up ad 9 dt) 20 (zrn u0) = fun _ => none := by funext i; rfl
      have hn2 : zrw (va_up ad 9 dt) 40 (zmn u0) = fun _ => none := by funext i; rfl
      refine x_rv hE rfl hM hS ⟨va_up ad 9 dt, (hA 0 (by decide)).trans a0, ⟨?_, ?_, ?_, ?_, ?_, ?_, fun i hi => absurd hi (Nat.not_lt_zero i), fun j hj => absurd hj (Nat.not_lt_zero j)⟩, ⟨⟨(0, 0, 0, 0), ?_⟩, ⟨(0, 0), ?_⟩, ⟨(0, 0), ?_⟩, ⟨fun _ => 0, ?_⟩, fun i hi => ?_⟩, ?_, fun r hr => (hA r (by omega)).trans (hAd9 r hr)⟩ (by omega) (by omega) d_Rm_init_133
      · unfold CoreO
        rw [hA 0 (by decide), hA 1 (by decide), hA 2 (by decide), hA 3 (by decide), hA 4 (by decide), hA 5 (by decide), hA 6 (by decide), hA 7 (by decide), hA 8 (by decide), hA9, a0, a1, a2, a3, a4, a5, a6, a7, a8]
        exact c_g
      · rw [hA 1 (by decide), a1]
        exact c_pd
      · rw [hA 2 (by decide), a2, hn1]
        exact c_rw
      · rw [hA 3 (by decide), a3, hn2]
        exact c_mw
      · rw [hA 4 (by decide), a4]
        exact c_wt
      · rw [hA 8 (by decide), a8, hg8]
        exact c_gp
      · rw [hA 5 (by decide), a5]
        exact c_ro
      · rw [hA 6 (by decide), a6]
        exact c_tr
      · rw [hA 7 (by decide), a7]
        exact c_ne
      · rw [hA9]
        exact c_dt
      · obtain ⟨q, hq⟩ := hgs i hi
        rw [hA (10 + i) (by omega)]
        exact ⟨q, hk _ _ _ hq (by omega)⟩
      · exact fun b r e hb hn => hk _ _ _ (hofM b r e hb hn) hn
    · have hi8 : i < 8 := Nat.not_le.mp (fun h9 => c_103 ((nI_leI (by decide) (by omega)).mpr h9))
      refine lv_aload_n hx hb d_Rm_init_106 rfl (lv_at hl 0 rfl) ?_
      refine x_get (C := R_Rm) (T := F_Rm) (N := 12) hx hb hw i_Rm hown hK.1 hM c_g rfl 10 (by decide) (hw _ kw_75) rfl rfl d_Rm_init_107 ?_
      refine lv_iload_n hx hb d_Rm_init_110 rfl (lv_at hl 1 rfl) ?_
      refine x_new (10 + i) (ci := 0) (C := R_Gap) (T := F_Gap) (N := 2) (fs := [.int 0, .int 0]) hx hb hw i_Gap t_Gap t_Gap_ok hown (hw _ kw_49) (hw _ kw_50) (hw _ kw_3) hK.1 hM hS rfl (fun j hj => by rcases (show j = 0 ∨ j = 1 by omega) with rfl | rfl <;> rfl) (show 8 + i + 1 ≤ 17 by omega) (show 125 + 2 * i + 2 ≤ 149 by omega) d_Rm_init_111 (fun gq H hn_gq hM hS => ?_)
      have hM : xh G (va_up Mk gq (some (10 + i, .inr (0, [.int 0, .int 0])))) H := hM
      obtain ⟨Mk_1, eMk_1⟩ : ∃ z : xM, z = va_up Mk gq (some (10 + i, .inr (0, [.int 0, .int 0]))) := ⟨_, rfl⟩
      rw [← eMk_1] at hM
      have c_g := xw_newE eMk_1 c_g hn_gq
      have c_pd := xw_newE eMk_1 c_pd hn_gq
      have c_rw := xw_newE eMk_1 c_rw hn_gq
      have c_mw := xw_newE eMk_1 c_mw hn_gq
      have c_wt := xw_newE eMk_1 c_wt hn_gq
      have c_ro := xw_newE eMk_1 c_ro hn_gq
      have c_tr := xw_newE eMk_1 c_tr hn_gq
      have c_ne := xw_newE eMk_1 c_ne hn_gq
      have c_gp := xw_newE eMk_1 c_gp hn_gq
      have c_gq := xw_atE eMk_1
      have hof := hof.new hn_gq eMk_1
      have hofM : ∀ b r e, M b = some (r, e) → r ≠ 0 → Mk_1 b = some (r, e) := fun b r e hb hn => xw_newE eMk_1 (hofM b r e hb hn) hn_gq
      have hgs : ∀ k, k < i → ∃ q : Int32 × Int32, Mk_1 (ad (10 + k)) = some (10 + k, eGap q) := fun k hk => by obtain ⟨q, hq⟩ := hgs k hk; exact ⟨q, xw_newE eMk_1 hq hn_gq⟩
      have hne : ∀ k, k < i → ad (10 + k) ≠ gq := fun k hk z => by obtain ⟨q, hq⟩ := hgs k hk; rw [z, c_gq] at hq; have h9 := congrArg (fun x => x.map Prod.fst) hq; simp at h9; omega
      refine lv_dup hx hb d_Rm_init_114 rfl ?_
      refine x_cv (x_runIN (host := R_Rm) (As := []) (rest := [.ref gq, .int (nI i), .ref gp]) hE hK hM hl.1 (c_Gap_init l G Mk_1 gq) hK.2.1.2.2 kw_52 kw_3 kw_53 rfl 0 rfl rfl rfl (by decide +kernel) ⟨by decide, by decide⟩ rfl (Nat.le_of_ble_eq_true rfl) d_Rm_init_115 ⟨show 8 + i + 1 + 0 ≤ 17 by omega, show 125 + 2 * i + 2 + 0 ≤ 149 by omega⟩) hS (fun M1 H locs hp hM hS => ?_)
      have hM : xh G Mk_1 H := hp ▸ hM
      have c_gp0 := c_gp
      refine x_astq hx hb hK.1 hM hS c_gp 4 rfl c_gq rfl rfl (by omega) (by decide) d_Rm_init_118 (fun H locs hM hS hz => ?_)
      have hM : xh G (va_up Mk_1 gp (some (8, .inl (gG G, 8, .inr (.inr (.inr (.inr (va_up (zrw ad 10 i) i (some gq))))))))) H := hM
      obtain ⟨Mk_2, eMk_2⟩ : ∃ z : xM, z = va_up Mk_1 gp (some (8, .inl (gG G, 8, .inr (.inr (.inr (.inr (va_up (zrw ad 10 i) i (some gq)))))))) := ⟨_, rfl⟩
      rw [← eMk_2] at hM
      have c_g := xw_upE eMk_2 c_g c_gp (by decide)
      have c_pd := xw_upE eMk_2 c_pd c_gp (by decide)
      have c_rw := xw_upE eMk_2 c_rw c_gp (by decide)
      have c_mw := xw_upE eMk_2 c_mw c_gp (by decide)
      have c_wt := xw_upE eMk_2 c_wt c_gp (by decide)
      have c_ro := xw_upE eMk_2 c_ro c_gp (by decide)
      have c_tr := xw_upE eMk_2 c_tr c_gp (by decide)
      have c_ne := xw_upE eMk_2 c_ne c_gp (by decide)
      have c_gq := xw_upE eMk_2 c_gq c_gp (by omega)
      have c_gp := xw_atE eMk_2
      refine lv_iinc (v := (nI (i + 1))) (lv' := [(1, .int (nI (i + 1))), (0, .ref g)]) hx hb d_Rm_init_119 hl (k := 1) rfl (nI_1 i) (by decide) rfl (fun ls hl => ?_)
      refine lv_goto (tgt := 97) hx hb d_Rm_init_122 (by decide) ?_
      have hof := hof.put c_gp0 eMk_2
      exact ih (i + 1) (by omega) (by omega) _ (va_up ad (10 + i) gq) (by obtain ⟨a0, a1, a2, a3, a4, a5, a6, a7, a8⟩ := hAd; exact ⟨(va_up_ne _ _ (by omega)).trans a0, (va_up_ne _ _ (by omega)).trans a1, (va_up_ne _ _ (by omega)).trans a2, (va_up_ne _ _ (by omega)).trans a3, (va_up_ne _ _ (by omega)).trans a4, (va_up_ne _ _ (by omega)).trans a5, (va_up_ne _ _ (by omega)).trans a6, (va_up_ne _ _ (by omega)).trans a7, (va_up_ne _ _ (by omega)).trans a8⟩) (fun r hr => (va_up_ne _ _ (by omega)).trans (hAd9 r hr)) hof (fun b r e hb hn => by rw [eMk_2, va_up_ne]; exact hofM b r e hb hn; intro z; rw [z, hgn] at hb; cases hb) (by rw [c_gp, zrw_up]) (fun k hk => by
        by_cases h9 : k = i
        · subst h9
          rw [va_up_self]
          exact ⟨(0, 0), c_gq⟩
        · rw [va_up_ne _ _ (by omega)]
          obtain ⟨q, hq⟩ := hgs k (by omega)
          exact ⟨q, xw_upE eMk_2 hq c_gp0 (by omega)⟩) _ _ _ hM hS (lv_sub hl [1, 0] rfl)

set_option maxHeartbeats 4000000 in
set_option maxRecDepth 100000 in
theorem c_Rm_init (l : Launch) (G : xG) (M : xM) (g : Nat) (ad9 : Nat → Nat) (hg : M g = some (0, .inr (4, [.null, .int 0, .null, .int 0, .null, .int 0, .null, .null, .null, .null, .null, .null]))) : Met l y_Rm_init w_Rm_init ({ frames := 2, cells := 17, slots := 149, locals := 60 }) (xP G [.ref g] M) (xQv G (fun M' => ∃ ad : Nat → Nat, ad 0 = g ∧ Core G M' ad u0 ∧ Scr G M' ad ∧ xOff 0 M M' ∧ ∀ r, 100 ≤ r → ad r = ad9 r)) 17 149 (xF G) := by
  refine x_met (by decide) (Nat.le_of_ble_eq_true rfl) ?_
  intro p e s m below meth c ls hE hin hl hM hK hS
  obtain ⟨hx, hb, hr, hml, hown, hw, hlocks⟩ := id hE
  have hl : lv_has ls 2 [(0, .ref g)] := hl
  refine lv_aload_n hx hb d_Rm_init_0 rfl (lv_at hl 0 rfl) ?_
  refine W.objInit hx hb hown (hw _ kw_21) (hw _ kw_22) (hw _ kw_23) rfl (by rw [hml]; exact hl.1) rfl d_Rm_init_1 (Nat.le_of_ble_eq_true rfl) (Nat.le_of_ble_eq_true rfl) ?_
  refine W.eq (g2 := F0 m 4 ls []) rfl ?_
  have hof : xOff 0 M M := xOff.refl
  refine lv_aload_n hx hb d_Rm_init_4 rfl (lv_at hl 0 rfl) ?_
  refine lv_bipush (v := 30) hx hb d_Rm_init_5 (by decide) ?_
  refine x_newa (1) (atype := .int) (a0 := (30, .inl (fun _ => 0))) (N' := 30) hx hb (hw _ kw_48) hK.1 hM hS 0 rfl (vp_cell_i _ _ _) rfl (by decide) (show 30 * 4 ≤ _ by omega) (by decide) (by decide) d_Rm_init_7 (fun pd H hn_pd hM hS => ?_)
  have hM : xh G (va_up M pd (some (1, .inl (gI G, 30, .inl (fun _ => 0))))) H := hM
  obtain ⟨M_1, eM_1⟩ : ∃ z : xM, z = va_up M pd (some (1, .inl (gI G, 30, .inl (fun _ => 0)))) := ⟨_, rfl⟩
  rw [← eM_1] at hM
  have hof := hof.new hn_pd eM_1
  have hg := xw_newE eM_1 hg hn_pd
  have c_pd := xw_atE eM_1
  refine x_putF (C := R_Rm) (T := F_Rm) (N := 12) (ty := .array (.int)) (v := .ref pd) hx hb hw i_Rm t_Rm t_Rm_ok n_Rm hown hK.1 hM hS hg rfl 0 (by decide) (hw _ kw_65) rfl rfl hin rfl (by decide +kernel) rfl rfl (Nat.le_of_ble_eq_true rfl) d_Rm_init_9 (fun H locs hM hS hz => ?_)
  have hM : xh G (va_up M_1 g (some (0, .inr (4, [.ref pd, .int 0, .null, .int 0, .null, .int 0, .null, .null, .null, .null, .null, .null])))) H := hM
  obtain ⟨M_2, eM_2⟩ : ∃ z : xM, z = va_up M_1 g (some (0, .inr (4, [.ref pd, .int 0, .null, .int 0, .null, .int 0, .null, .null, .null, .null, .null, .null]))) := ⟨_, rfl⟩
  rw [← eM_2] at hM
  have hof := hof.put hg eM_2
  have c_pd := xw_upE eM_2 c_pd hg (by decide)
  have hg := xw_atE eM_2
  refine lv_aload_n hx hb d_Rm_init_12 rfl (lv_at hl 0 rfl) ?_
  refine lv_iconst (v := 0) hx hb d_Rm_init_13 (by decide) ?_
  refine x_put (C := R_Rm) (T := F_Rm) (N := 12) (ty := .int) (v := .int 0) hx hb hw i_Rm t_Rm t_Rm_ok n_Rm hown hK.1 hM hS hg rfl 1 (by decide) (hw _ kw_66) rfl rfl (by decide +kernel) rfl rfl (Nat.le_of_ble_eq_true rfl) d_Rm_init_14 (fun H locs hM hS hz => ?_)
  have hM : xh G (va_up M_2 g (some (0, .inr (4, [.ref pd, .int 0, .null, .int 0, .null, .int 0, .null, .null, .null, .null, .null, .null])))) H := hM
  obtain ⟨M_3, eM_3⟩ : ∃ z : xM, z = va_up M_2 g (some (0, .inr (4, [.ref pd, .int 0, .null, .int 0, .null, .int 0, .null, .null, .null, .null, .null, .null]))) := ⟨_, rfl⟩
  rw [← eM_3] at hM
  have hof := hof.put hg eM_3
  have c_pd := xw_upE eM_3 c_pd hg (by decide)
  have hg := xw_atE eM_3
  refine lv_aload_n hx hb d_Rm_init_17 rfl (lv_at hl 0 rfl) ?_
  refine lv_bipush (v := 10) hx hb d_Rm_init_18 (by decide) ?_
  refine x_newq (2) (N' := 10) hx hb hown (hw _ kw_24) (va_AO.use (hK.2.2.2.1 R_Row (by simp))) hK.1 hM hS 2 rfl rfl (by decide) (by decide) (by decide) d_Rm_init_20 (fun rw H hn_rw hM hS => ?_)
  have hM : xh G (va_up M_3 rw (some (2, .inl (gR G, 10, .inr (.inr (.inr (.inr (fun _ => none)))))))) H := hM
  obtain ⟨M_4, eM_4⟩ : ∃ z : xM, z = va_up M_3 rw (some (2, .inl (gR G, 10, .inr (.inr (.inr (.inr (fun _ => none))))))) := ⟨_, rfl⟩
  rw [← eM_4] at hM
  have hof := hof.new hn_rw eM_4
  have hg := xw_newE eM_4 hg hn_rw
  have c_pd := xw_newE eM_4 c_pd hn_rw
  have c_rw := xw_atE eM_4
  refine x_putF (C := R_Rm) (T := F_Rm) (N := 12) (ty := .array (.object "RingMasters$Row")) (v := .ref rw) hx hb hw i_Rm t_Rm t_Rm_ok n_Rm hown hK.1 hM hS hg rfl 2 (by decide) (hw _ kw_67) rfl rfl hin rfl (by decide +kernel) rfl rfl (Nat.le_of_ble_eq_true rfl) d_Rm_init_23 (fun H locs hM hS hz => ?_)
  have hM : xh G (va_up M_4 g (some (0, .inr (4, [.ref pd, .int 0, .ref rw, .int 0, .null, .int 0, .null, .null, .null, .null, .null, .null])))) H := hM
  obtain ⟨M_5, eM_5⟩ : ∃ z : xM, z = va_up M_4 g (some (0, .inr (4, [.ref pd, .int 0, .ref rw, .int 0, .null, .int 0, .null, .null, .null, .null, .null, .null]))) := ⟨_, rfl⟩
  rw [← eM_5] at hM
  have hof := hof.put hg eM_5
  have c_pd := xw_upE eM_5 c_pd hg (by decide)
  have c_rw := xw_upE eM_5 c_rw hg (by decide)
  have hg := xw_atE eM_5
  refine lv_aload_n hx hb d_Rm_init_26 rfl (lv_at hl 0 rfl) ?_
  refine lv_iconst (v := 0) hx hb d_Rm_init_27 (by decide) ?_
  refine x_put (C := R_Rm) (T := F_Rm) (N := 12) (ty := .int) (v := .int 0) hx hb hw i_Rm t_Rm t_Rm_ok n_Rm hown hK.1 hM hS hg rfl 3 (by decide) (hw _ kw_68) rfl rfl (by decide +kernel) rfl rfl (Nat.le_of_ble_eq_true rfl) d_Rm_init_28 (fun H locs hM hS hz => ?_)
  have hM : xh G (va_up M_5 g (some (0, .inr (4, [.ref pd, .int 0, .ref rw, .int 0, .null, .int 0, .null, .null, .null, .null, .null, .null])))) H := hM
  obtain ⟨M_6, eM_6⟩ : ∃ z : xM, z = va_up M_5 g (some (0, .inr (4, [.ref pd, .int 0, .ref rw, .int 0, .null, .int 0, .null, .null, .null, .null, .null, .null]))) := ⟨_, rfl⟩
  rw [← eM_6] at hM
  have hof := hof.put hg eM_6
  have c_pd := xw_upE eM_6 c_pd hg (by decide)
  have c_rw := xw_upE eM_6 c_rw hg (by decide)
  have hg := xw_atE eM_6
  refine lv_aload_n hx hb d_Rm_init_31 rfl (lv_at hl 0 rfl) ?_
  refine lv_bipush (v := 8) hx hb d_Rm_init_32 (by decide) ?_
  refine x_newq (3) (N' := 8) hx hb hown (hw _ kw_26) (va_AO.use (hK.2.2.2.1 R_Men (by simp))) hK.1 hM hS 3 rfl rfl (by decide) (by decide) (by decide) d_Rm_init_34 (fun mw H hn_mw hM hS => ?_)
  have hM : xh G (va_up M_6 mw (some (3, .inl (gM G, 8, .inr (.inr (.inr (.inr (fun _ => none)))))))) H := hM
  obtain ⟨M_7, eM_7⟩ : ∃ z : xM, z = va_up M_6 mw (some (3, .inl (gM G, 8, .inr (.inr (.inr (.inr (fun _ => none))))))) := ⟨_, rfl⟩
  rw [← eM_7] at hM
  have hof := hof.new hn_mw eM_7
  have hg := xw_newE eM_7 hg hn_mw
  have c_pd := xw_newE eM_7 c_pd hn_mw
  have c_rw := xw_newE eM_7 c_rw hn_mw
  have c_mw := xw_atE eM_7
  refine x_putF (C := R_Rm) (T := F_Rm) (N := 12) (ty := .array (.object "RingMasters$Mean")) (v := .ref mw) hx hb hw i_Rm t_Rm t_Rm_ok n_Rm hown hK.1 hM hS hg rfl 4 (by decide) (hw _ kw_69) rfl rfl hin rfl (by decide +kernel) rfl rfl (Nat.le_of_ble_eq_true rfl) d_Rm_init_37 (fun H locs hM hS hz => ?_)
  have hM : xh G (va_up M_7 g (some (0, .inr (4, [.ref pd, .int 0, .ref rw, .int 0, .ref mw, .int 0, .null, .null, .null, .null, .null, .null])))) H := hM
  obtain ⟨M_8, eM_8⟩ : ∃ z : xM, z = va_up M_7 g (some (0, .inr (4, [.ref pd, .int 0, .ref rw, .int 0, .ref mw, .int 0, .null, .null, .null, .null, .null, .null]))) := ⟨_, rfl⟩
  rw [← eM_8] at hM
  have hof := hof.put hg eM_8
  have c_pd := xw_upE eM_8 c_pd hg (by decide)
  have c_rw := xw_upE eM_8 c_rw hg (by decide)
  have c_mw := xw_upE eM_8 c_mw hg (by decide)
  have hg := xw_atE eM_8
  refine lv_aload_n hx hb d_Rm_init_40 rfl (lv_at hl 0 rfl) ?_
  refine lv_iconst (v := 0) hx hb d_Rm_init_41 (by decide) ?_
  refine x_put (C := R_Rm) (T := F_Rm) (N := 12) (ty := .int) (v := .int 0) hx hb hw i_Rm t_Rm t_Rm_ok n_Rm hown hK.1 hM hS hg rfl 5 (by decide) (hw _ kw_70) rfl rfl (by decide +kernel) rfl rfl (Nat.le_of_ble_eq_true rfl) d_Rm_init_42 (fun H locs hM hS hz => ?_)
  have hM : xh G (va_up M_8 g (some (0, .inr (4, [.ref pd, .int 0, .ref rw, .int 0, .ref mw, .int 0, .null, .null, .null, .null, .null, .null])))) H := hM
  obtain ⟨M_9, eM_9⟩ : ∃ z : xM, z = va_up M_8 g (some (0, .inr (4, [.ref pd, .int 0, .ref rw, .int 0, .ref mw, .int 0, .null, .null, .null, .null, .null, .null]))) := ⟨_, rfl⟩
  rw [← eM_9] at hM
  have hof := hof.put hg eM_9
  have c_pd := xw_upE eM_9 c_pd hg (by decide)
  have c_rw := xw_upE eM_9 c_rw hg (by decide)
  have c_mw := xw_upE eM_9 c_mw hg (by decide)
  have hg := xw_atE eM_9
  refine lv_aload_n hx hb d_Rm_init_45 rfl (lv_at hl 0 rfl) ?_
  refine lv_bipush (v := 61) hx hb d_Rm_init_46 (by decide) ?_
  refine x_newa (4) (atype := .int) (a0 := (61, .inl (fun _ => 0))) (N' := 61) hx hb (hw _ kw_48) hK.1 hM hS 0 rfl (vp_cell_i _ _ _) rfl (by decide) (show 61 * 4 ≤ _ by omega) (by decide) (by decide) d_Rm_init_48 (fun wt H hn_wt hM hS => ?_)
  have hM : xh G (va_up M_9 wt (some (4, .inl (gI G, 61, .inl (fun _ => 0))))) H := hM
  obtain ⟨M_10, eM_10⟩ : ∃ z : xM, z = va_up M_9 wt (some (4, .inl (gI G, 61, .inl (fun _ => 0)))) := ⟨_, rfl⟩
  rw [← eM_10] at hM
  have hof := hof.new hn_wt eM_10
  have hg := xw_newE eM_10 hg hn_wt
  have c_pd := xw_newE eM_10 c_pd hn_wt
  have c_rw := xw_newE eM_10 c_rw hn_wt
  have c_mw := xw_newE eM_10 c_mw hn_wt
  have c_wt := xw_atE eM_10
  refine x_putF (C := R_Rm) (T := F_Rm) (N := 12) (ty := .array (.int)) (v := .ref wt) hx hb hw i_Rm t_Rm t_Rm_ok n_Rm hown hK.1 hM hS hg rfl 6 (by decide) (hw _ kw_71) rfl rfl hin rfl (by decide +kernel) rfl rfl (Nat.le_of_ble_eq_true rfl) d_Rm_init_50 (fun H locs hM hS hz => ?_)
  have hM : xh G (va_up M_10 g (some (0, .inr (4, [.ref pd, .int 0, .ref rw, .int 0, .ref mw, .int 0, .ref wt, .null, .null, .null, .null, .null])))) H := hM
  obtain ⟨M_11, eM_11⟩ : ∃ z : xM, z = va_up M_10 g (some (0, .inr (4, [.ref pd, .int 0, .ref rw, .int 0, .ref mw, .int 0, .ref wt, .null, .null, .null, .null, .null]))) := ⟨_, rfl⟩
  rw [← eM_11] at hM
  have hof := hof.put hg eM_11
  have c_pd := xw_upE eM_11 c_pd hg (by decide)
  have c_rw := xw_upE eM_11 c_rw hg (by decide)
  have c_mw := xw_upE eM_11 c_mw hg (by decide)
  have c_wt := xw_upE eM_11 c_wt hg (by decide)
  have hg := xw_atE eM_11
  refine lv_aload_n hx hb d_Rm_init_53 rfl (lv_at hl 0 rfl) ?_
  refine x_new (5) (ci := 1) (C := R_Rob) (T := F_Rob) (N := 4) (fs := [.int 0, .int 0, .int 0, .int 0]) hx hb hw i_Rob t_Rob t_Rob_ok hown (hw _ kw_28) (hw _ kw_29) (hw _ kw_2) hK.1 hM hS rfl (fun j hj => by rcases (show j = 0 ∨ j = 1 ∨ j = 2 ∨ j = 3 by omega) with rfl | rfl | rfl | rfl <;> rfl) (by decide) (by decide) d_Rm_init_54 (fun ro H hn_ro hM hS => ?_)
  have hM : xh G (va_up M_11 ro (some (5, .inr (1, [.int 0, .int 0, .int 0, .int 0])))) H := hM
  obtain ⟨M_12, eM_12⟩ : ∃ z : xM, z = va_up M_11 ro (some (5, .inr (1, [.int 0, .int 0, .int 0, .int 0]))) := ⟨_, rfl⟩
  rw [← eM_12] at hM
  have hof := hof.new hn_ro eM_12
  have hg := xw_newE eM_12 hg hn_ro
  have c_pd := xw_newE eM_12 c_pd hn_ro
  have c_rw := xw_newE eM_12 c_rw hn_ro
  have c_mw := xw_newE eM_12 c_mw hn_ro
  have c_wt := xw_newE eM_12 c_wt hn_ro
  have c_ro := xw_atE eM_12
  refine lv_dup hx hb d_Rm_init_57 rfl ?_
  refine x_cv (x_runIN (host := R_Rm) (As := []) (rest := [.ref ro, .ref g]) hE hK hM hl.1 (c_Rob_init l G M_12 ro) hK.2.1.2.1 kw_31 kw_2 kw_32 rfl 0 rfl rfl rfl (by decide +kernel) ⟨by decide, by decide⟩ rfl (Nat.le_of_ble_eq_true rfl) d_Rm_init_58 ⟨by decide, by decide⟩) hS (fun M1 H locs hp hM hS => ?_)
  have hM : xh G M_12 H := hp ▸ hM
  refine x_putF (C := R_Rm) (T := F_Rm) (N := 12) (ty := .object "RingMasters$Robust") (v := .ref ro) hx hb hw i_Rm t_Rm t_Rm_ok n_Rm hown hK.1 hM hS hg rfl 7 (by decide) (hw _ kw_72) rfl rfl hin rfl (by decide +kernel) rfl rfl (Nat.le_of_ble_eq_true rfl) d_Rm_init_61 (fun H locs hM hS hz => ?_)
  have hM : xh G (va_up M_12 g (some (0, .inr (4, [.ref pd, .int 0, .ref rw, .int 0, .ref mw, .int 0, .ref wt, .ref ro, .null, .null, .null, .null])))) H := hM
  obtain ⟨M_13, eM_13⟩ : ∃ z : xM, z = va_up M_12 g (some (0, .inr (4, [.ref pd, .int 0, .ref rw, .int 0, .ref mw, .int 0, .ref wt, .ref ro, .null, .null, .null, .null]))) := ⟨_, rfl⟩
  rw [← eM_13] at hM
  have hof := hof.put hg eM_13
  have c_pd := xw_upE eM_13 c_pd hg (by decide)
  have c_rw := xw_upE eM_13 c_rw hg (by decide)
  have c_mw := xw_upE eM_13 c_mw hg (by decide)
  have c_wt := xw_upE eM_13 c_wt hg (by decide)
  have c_ro := xw_upE eM_13 c_ro hg (by decide)
  have hg := xw_atE eM_13
  refine lv_aload_n hx hb d_Rm_init_64 rfl (lv_at hl 0 rfl) ?_
  refine x_new (6) (ci := 0) (C := R_Gap) (T := F_Gap) (N := 2) (fs := [.int 0, .int 0]) hx hb hw i_Gap t_Gap t_Gap_ok hown (hw _ kw_49) (hw _ kw_50) (hw _ kw_3) hK.1 hM hS rfl (fun j hj => by rcases (show j = 0 ∨ j = 1 by omega) with rfl | rfl <;> rfl) (by decide) (by decide) d_Rm_init_65 (fun tr H hn_tr hM hS => ?_)
  have hM : xh G (va_up M_13 tr (some (6, .inr (0, [.int 0, .int 0])))) H := hM
  obtain ⟨M_14, eM_14⟩ : ∃ z : xM, z = va_up M_13 tr (some (6, .inr (0, [.int 0, .int 0]))) := ⟨_, rfl⟩
  rw [← eM_14] at hM
  have hof := hof.new hn_tr eM_14
  have hg := xw_newE eM_14 hg hn_tr
  have c_pd := xw_newE eM_14 c_pd hn_tr
  have c_rw := xw_newE eM_14 c_rw hn_tr
  have c_mw := xw_newE eM_14 c_mw hn_tr
  have c_wt := xw_newE eM_14 c_wt hn_tr
  have c_ro := xw_newE eM_14 c_ro hn_tr
  have c_tr := xw_atE eM_14
  refine lv_dup hx hb d_Rm_init_68 rfl ?_
  refine x_cv (x_runIN (host := R_Rm) (As := []) (rest := [.ref tr, .ref g]) hE hK hM hl.1 (c_Gap_init l G M_14 tr) hK.2.1.2.2 kw_52 kw_3 kw_53 rfl 0 rfl rfl rfl (by decide +kernel) ⟨by decide, by decide⟩ rfl (Nat.le_of_ble_eq_true rfl) d_Rm_init_69 ⟨by decide, by decide⟩) hS (fun M1 H locs hp hM hS => ?_)
  have hM : xh G M_14 H := hp ▸ hM
  refine x_putF (C := R_Rm) (T := F_Rm) (N := 12) (ty := .object "RingMasters$Gap") (v := .ref tr) hx hb hw i_Rm t_Rm t_Rm_ok n_Rm hown hK.1 hM hS hg rfl 8 (by decide) (hw _ kw_73) rfl rfl hin rfl (by decide +kernel) rfl rfl (Nat.le_of_ble_eq_true rfl) d_Rm_init_72 (fun H locs hM hS hz => ?_)
  have hM : xh G (va_up M_14 g (some (0, .inr (4, [.ref pd, .int 0, .ref rw, .int 0, .ref mw, .int 0, .ref wt, .ref ro, .ref tr, .null, .null, .null])))) H := hM
  obtain ⟨M_15, eM_15⟩ : ∃ z : xM, z = va_up M_14 g (some (0, .inr (4, [.ref pd, .int 0, .ref rw, .int 0, .ref mw, .int 0, .ref wt, .ref ro, .ref tr, .null, .null, .null]))) := ⟨_, rfl⟩
  rw [← eM_15] at hM
  have hof := hof.put hg eM_15
  have c_pd := xw_upE eM_15 c_pd hg (by decide)
  have c_rw := xw_upE eM_15 c_rw hg (by decide)
  have c_mw := xw_upE eM_15 c_mw hg (by decide)
  have c_wt := xw_upE eM_15 c_wt hg (by decide)
  have c_ro := xw_upE eM_15 c_ro hg (by decide)
  have c_tr := xw_upE eM_15 c_tr hg (by decide)
  have hg := xw_atE eM_15
  refine lv_aload_n hx hb d_Rm_init_75 rfl (lv_at hl 0 rfl) ?_
  refine x_new (7) (ci := 0) (C := R_Gap) (T := F_Gap) (N := 2) (fs := [.int 0, .int 0]) hx hb hw i_Gap t_Gap t_Gap_ok hown (hw _ kw_49) (hw _ kw_50) (hw _ kw_3) hK.1 hM hS rfl (fun j hj => by rcases (show j = 0 ∨ j = 1 by omega) with rfl | rfl <;> rfl) (by decide) (by decide) d_Rm_init_76 (fun ne H hn_ne hM hS => ?_)
  have hM : xh G (va_up M_15 ne (some (7, .inr (0, [.int 0, .int 0])))) H := hM
  obtain ⟨M_16, eM_16⟩ : ∃ z : xM, z = va_up M_15 ne (some (7, .inr (0, [.int 0, .int 0]))) := ⟨_, rfl⟩
  rw [← eM_16] at hM
  have hof := hof.new hn_ne eM_16
  have hg := xw_newE eM_16 hg hn_ne
  have c_pd := xw_newE eM_16 c_pd hn_ne
  have c_rw := xw_newE eM_16 c_rw hn_ne
  have c_mw := xw_newE eM_16 c_mw hn_ne
  have c_wt := xw_newE eM_16 c_wt hn_ne
  have c_ro := xw_newE eM_16 c_ro hn_ne
  have c_tr := xw_newE eM_16 c_tr hn_ne
  have c_ne := xw_atE eM_16
  refine lv_dup hx hb d_Rm_init_79 rfl ?_
  refine x_cv (x_runIN (host := R_Rm) (As := []) (rest := [.ref ne, .ref g]) hE hK hM hl.1 (c_Gap_init l G M_16 ne) hK.2.1.2.2 kw_52 kw_3 kw_53 rfl 0 rfl rfl rfl (by decide +kernel) ⟨by decide, by decide⟩ rfl (Nat.le_of_ble_eq_true rfl) d_Rm_init_80 ⟨by decide, by decide⟩) hS (fun M1 H locs hp hM hS => ?_)
  have hM : xh G M_16 H := hp ▸ hM
  refine x_putF (C := R_Rm) (T := F_Rm) (N := 12) (ty := .object "RingMasters$Gap") (v := .ref ne) hx hb hw i_Rm t_Rm t_Rm_ok n_Rm hown hK.1 hM hS hg rfl 9 (by decide) (hw _ kw_74) rfl rfl hin rfl (by decide +kernel) rfl rfl (Nat.le_of_ble_eq_true rfl) d_Rm_init_83 (fun H locs hM hS hz => ?_)
  have hM : xh G (va_up M_16 g (some (0, .inr (4, [.ref pd, .int 0, .ref rw, .int 0, .ref mw, .int 0, .ref wt, .ref ro, .ref tr, .ref ne, .null, .null])))) H := hM
  obtain ⟨M_17, eM_17⟩ : ∃ z : xM, z = va_up M_16 g (some (0, .inr (4, [.ref pd, .int 0, .ref rw, .int 0, .ref mw, .int 0, .ref wt, .ref ro, .ref tr, .ref ne, .null, .null]))) := ⟨_, rfl⟩
  rw [← eM_17] at hM
  have hof := hof.put hg eM_17
  have c_pd := xw_upE eM_17 c_pd hg (by decide)
  have c_rw := xw_upE eM_17 c_rw hg (by decide)
  have c_mw := xw_upE eM_17 c_mw hg (by decide)
  have c_wt := xw_upE eM_17 c_wt hg (by decide)
  have c_ro := xw_upE eM_17 c_ro hg (by decide)
  have c_tr := xw_upE eM_17 c_tr hg (by decide)
  have c_ne := xw_upE eM_17 c_ne hg (by decide)
  have hg := xw_atE eM_17
  refine lv_aload_n hx hb d_Rm_init_86 rfl (lv_at hl 0 rfl) ?_
  refine lv_bipush (v := 8) hx hb d_Rm_init_87 (by decide) ?_
  refine x_newq (8) (N' := 8) hx hb hown (hw _ kw_49) (va_AO.use (hK.2.2.2.1 R_Gap (by simp))) hK.1 hM hS 4 rfl rfl (by decide) (by decide) (by decide) d_Rm_init_89 (fun gp H hn_gp hM hS => ?_)
  have hM : xh G (va_up M_17 gp (some (8, .inl (gG G, 8, .inr (.inr (.inr (.inr (fun _ => none)))))))) H := hM
  obtain ⟨M_18, eM_18⟩ : ∃ z : xM, z = va_up M_17 gp (some (8, .inl (gG G, 8, .inr (.inr (.inr (.inr (fun _ => none))))))) := ⟨_, rfl⟩
  rw [← eM_18] at hM
  have hof := hof.new hn_gp eM_18
  have hg := xw_newE eM_18 hg hn_gp
  have c_pd := xw_newE eM_18 c_pd hn_gp
  have c_rw := xw_newE eM_18 c_rw hn_gp
  have c_mw := xw_newE eM_18 c_mw hn_gp
  have c_wt := xw_newE eM_18 c_wt hn_gp
  have c_ro := xw_newE eM_18 c_ro hn_gp
  have c_tr := xw_newE eM_18 c_tr hn_gp
  have c_ne := xw_newE eM_18 c_ne hn_gp
  have c_gp := xw_atE eM_18
  refine x_putF (C := R_Rm) (T := F_Rm) (N := 12) (ty := .array (.object "RingMasters$Gap")) (v := .ref gp) hx hb hw i_Rm t_Rm t_Rm_ok n_Rm hown hK.1 hM hS hg rfl 10 (by decide) (hw _ kw_75) rfl rfl hin rfl (by decide +kernel) rfl rfl (Nat.le_of_ble_eq_true rfl) d_Rm_init_92 (fun H locs hM hS hz => ?_)
  have hM : xh G (va_up M_18 g (some (0, .inr (4, [.ref pd, .int 0, .ref rw, .int 0, .ref mw, .int 0, .ref wt, .ref ro, .ref tr, .ref ne, .ref gp, .null])))) H := hM
  obtain ⟨M_19, eM_19⟩ : ∃ z : xM, z = va_up M_18 g (some (0, .inr (4, [.ref pd, .int 0, .ref rw, .int 0, .ref mw, .int 0, .ref wt, .ref ro, .ref tr, .ref ne, .ref gp, .null]))) := ⟨_, rfl⟩
  rw [← eM_19] at hM
  have hof := hof.put hg eM_19
  have c_pd := xw_upE eM_19 c_pd hg (by decide)
  have c_rw := xw_upE eM_19 c_rw hg (by decide)
  have c_mw := xw_upE eM_19 c_mw hg (by decide)
  have c_wt := xw_upE eM_19 c_wt hg (by decide)
  have c_ro := xw_upE eM_19 c_ro hg (by decide)
  have c_tr := xw_upE eM_19 c_tr hg (by decide)
  have c_ne := xw_upE eM_19 c_ne hg (by decide)
  have c_gp := xw_upE eM_19 c_gp hg (by decide)
  have hg := xw_atE eM_19
  refine lv_iconst (v := 0) hx hb d_Rm_init_95 (by decide) ?_
  refine lv_istore_n (lv' := [(1, .int 0), (0, .ref g)]) hx hb d_Rm_init_96 rfl hl (by decide) rfl (fun ls hl => ?_)
  have hgn : M gp = none := xw_nn eM_1 (xw_nn eM_2 (xw_nn eM_3 (xw_nn eM_4 (xw_nn eM_5 (xw_nn eM_6 (xw_nn eM_7 (xw_nn eM_8 (xw_nn eM_9 (xw_nn eM_10 (xw_nn eM_11 (xw_nn eM_12 (xw_nn eM_13 (xw_nn eM_14 (xw_nn eM_15 (xw_nn eM_16 (xw_nn eM_17 (hn_gp)))))))))))))))))
  obtain ⟨adf, hadf⟩ : ∃ z : Nat → Nat, z = fun r => if r = 0 then g else if r = 1 then pd else if r = 2 then rw else if r = 3 then mw else if r = 4 then wt else if r = 5 then ro else if r = 6 then tr else if r = 7 then ne else if r = 8 then gp else ad9 r := ⟨_, rfl⟩
  refine W.widen (k := 8 + 0) (n := 125 + 2 * 0) (by decide) (by decide) ?_
  have hz0 : zrw adf 10 0 = fun _ => none := by funext i; rfl
  exact lp_Rm_init M_19 g pd rw mw wt ro tr ne gp ad9 hg c_pd c_rw c_mw c_wt c_ro c_tr c_ne hof hgn hE hin hK 9 0 (by decide) (by decide) M_19 adf (by subst hadf; exact ⟨rfl, rfl, rfl, rfl, rfl, rfl, rfl, rfl, rfl⟩) (fun r hr => by subst hadf; simp only []; rw [if_neg (by omega), if_neg (by omega), if_neg (by omega), if_neg (by omega), if_neg (by omega), if_neg (by omega), if_neg (by omega), if_neg (by omega), if_neg (by omega)]) xOff.refl hof (by rw [hz0]; exact c_gp) (fun k hk => absurd hk (by omega)) _ _ _ hM hS (lv_sub hl [1, 0] rfl)
