section XX
theorem kx_nf : ∀ q ∈ wNf, Cond.fieldLinkNest R_Rm q.1 q.2.1 q.2.2.1 q.2.2.2 R_Rm ∈ lw_tbl := by decide +kernel
theorem kx_ca : ∀ E ∈ [nISE, nIAE, nIOE], Cond.castable E E ∈ lw_tbl := by decide +kernel
theorem kx_ds : ∀ y ∈ xDs, Cond.declares y ∈ lw_tbl := by decide +kernel
theorem kx_ao : ∀ C ∈ [R_Row, R_Men, R_Gap], Cond.arrayOver (.object C) ∈ lw_tbl := by decide +kernel
theorem kx_st : ∀ q ∈ sN, Cond.stringRef R_Rm q.1 q.2 ∈ lw_tbl := by decide +kernel
theorem kx_nc : ∀ q ∈ [(nISE, nIAE), (nISE, nIOE), (nIAE, nISE), (nIAE, nIOE), (nIOE, nISE), (nIOE, nIAE)], Cond.not (.castable q.1 q.2) ∈ flatC (Jvm.Cond.and given_1 narrow_1) := by decide +kernel
theorem kx_arr {args : Array Value} {s : State} {ty : FieldType} (h : (Cond.arrayClass ty).before args s = true) : ∃ cA : ClassId, ArrOfT s cA ty ∧ s.vm.findClass ("[" ++ ty.toString) = some cA := by
  obtain ⟨cA, kA, comp, h1, h2, h3⟩ := Cond.arrayClass_spec h
  exact ⟨cA, fun n z => ⟨fun k h => (by cases h), kA, h2, comp, h3⟩, h1⟩
theorem kx_arq {args : Array Value} {s : State} {C : String} (h : (Cond.arrayOver (.object C)).before args s = true) : ∃ cA : ClassId, ArrOfT s cA (.object C) ∧ va_RA s cA (.object C) := by
  obtain ⟨comp, cA, kA, h1, -, h2, h3, h4⟩ := Cond.arrayOver_spec h
  exact ⟨cA, fun n z => ⟨fun k h => (by cases h), kA, h2, comp, h3⟩, kA, comp, h2, h3, h1, h4⟩
theorem kx_start {s : State} {b : Nat} (hts : ∀ w ∈ lw_tbl, w.before #[Value.ref b] s = true) (hgv : (Jvm.Cond.and given_1 narrow_1).before #[Value.ref b] s = true) : ∃ G : xG, gH G = s.heap ∧ KX G s := by
  have hw : ∀ w ∈ wW, w.before #[Value.ref b] s = true := fun w h => hts w (wW_in w h)
  have hfl := flat_of_before _ hgv
  obtain ⟨c0, i0, k0⟩ := u_known (C := R_Gap) (T := F_Gap) (N := 2) (n := 2) hw i_Gap (hw _ kw_50)
  obtain ⟨c1, i1, k1⟩ := u_known (C := R_Rob) (T := F_Rob) (N := 4) (n := 4) hw i_Rob (hw _ kw_29)
  obtain ⟨c2, i2, k2⟩ := u_known (C := R_Row) (T := F_Row) (N := 2) (n := 2) hw i_Row (hw _ kw_203)
  obtain ⟨c3, i3, k3⟩ := u_known (C := R_Men) (T := F_Men) (N := 6) (n := 6) hw i_Men (hw _ kw_274)
  obtain ⟨c4, i4, k4⟩ := u_known (C := R_Rm) (T := F_Rm) (N := 12) (n := 12) hw i_Rm (hw _ kw_17)
  obtain ⟨c5, i5, k5⟩ := u_known (C := R_Mo) (T := F_Mo) (N := 20) (n := 20) hw i_Mo (hw _ kw_518)
  obtain ⟨cI, aI, bI⟩ := kx_arr (hw _ kw_48)
  obtain ⟨cJ, aJ, bJ⟩ := kx_arr (hw _ kw_705)
  obtain ⟨cR, aR, bR⟩ := kx_arq (hts _ (kx_ao R_Row (by simp)))
  obtain ⟨cM, aM, bM⟩ := kx_arq (hts _ (kx_ao R_Men (by simp)))
  obtain ⟨cG, aG, bG⟩ := kx_arq (hts _ (kx_ao R_Gap (by simp)))
  have hstr : ∀ q ∈ sN, ∃ a : Nat, (Term.string R_Rm q.1).eval #[Value.ref b] s none [] s = some (.ref a) := fun q hq => by
    obtain ⟨-, -, -, a, -, -, -, -, -, h⟩ := Cond.stringRef_spec k4.2.1 (hts _ (kx_st q hq))
    exact ⟨a, h⟩
  obtain ⟨sS, hsS⟩ : ∃ f : Nat → Nat, ∀ q ∈ sN, (Term.string R_Rm q.1).eval #[Value.ref b] s none [] s = some (.ref (f q.1)) := by
    refine ⟨fun k => match (Term.string R_Rm k).eval #[Value.ref b] s none [] s with | some (.ref a) => a | _ => 0, fun q hq => ?_⟩
    obtain ⟨a, ha⟩ := hstr q hq
    simp only [ha]
  obtain ⟨dC, dI, hKc⟩ : ∃ (dC : Nat → ClassId) (dI : Nat → Nat → Nat), ∀ (k : Nat) (q : vw_C), xCl[k]? = some q → u_Kn s q.1 q.2.1 q.2.2 (dC k) (dI k) := by
    refine ⟨fun k => if k = 0 then c0 else if k = 1 then c1 else if k = 2 then c2 else if k = 3 then c3 else if k = 4 then c4 else c5, fun k => if k = 0 then i0 else if k = 1 then i1 else if k = 2 then i2 else if k = 3 then i3 else if k = 4 then i4 else i5, ?_⟩
    intro k q hq
    match k, hq with
    | 0, hq => cases hq; exact k0
    | 1, hq => cases hq; exact k1
    | 2, hq => cases hq; exact k2
    | 3, hq => cases hq; exact k3
    | 4, hq => cases hq; exact k4
    | 5, hq => cases hq; exact k5
    | k + 6, hq => simp [xCl] at hq
  refine ⟨((dC, dI), (cI, cJ, cR, cM, cG), s.heap, sS), rfl, ⟨hKc, fun k q hq => ?_⟩, ⟨fun q hq => va_Nw.of rfl (hts _ (kx_nf q hq)), va_Nw.of rfl (hts _ (by decide +kernel)), va_Nw.of rfl (hts _ (by decide +kernel))⟩, ⟨fun E hE => va_Nw.of rfl (hts _ (kx_ca E hE)), fun y hy => va_Nw.of rfl (hts _ (kx_ds y hy))⟩, fun C hC => va_AO.of (hts _ (kx_ao C hC)), ⟨?_, ?_⟩, fun q hq => vk_R.of (hts _ (kx_st q hq)) (hsS q hq), fun q hq => va_Nc.of (hfl _ (kx_nc q hq))⟩
  · match k, hq with
    | 0, hq => cases hq; exact ⟨aI, bI⟩
    | 1, hq => cases hq; exact ⟨aJ, bJ⟩
    | 2, hq => cases hq; exact ⟨aR, bR⟩
    | 3, hq => cases hq; exact ⟨aM, bM⟩
    | 4, hq => cases hq; exact ⟨aG, bG⟩
    | k + 5, hq => simp [gT] at hq
  · exact vx_Zqof (hts _ (by decide +kernel)) (hw _ kw_5) (hfl _ (by decide +kernel)) (fun a h1 h2 => absurd h1 (Nat.not_lt.mpr h2))
  · exact vx_Zqof (hts _ (by decide +kernel)) (hw _ kw_5) (hfl _ (by decide +kernel)) (fun a h1 h2 => absurd h1 (Nat.not_lt.mpr h2))
end XX
