section YA
theorem z_smod : ∀ n, n < 9 → ((nI n &&& 31 : Int32).toBitVec.smod 32).toNat = n := by decide +kernel
theorem z_shr8 {t n : Nat} (ht : t < 2 ^ 31) (hn : n ≤ 8) : nI t >>> (nI n &&& 31) = nI (t / 2 ^ n) := pk_shrN ht _ n (z_smod n (by omega))
theorem z_shl8 {n : Nat} (hn : n ≤ 8) : (1 : Int32) <<< (nI n &&& 31) = nI (2 ^ n) := by
  have h1 : 2 ^ n ≤ 2 ^ 8 := Nat.pow_le_pow_right (by decide) hn
  have h := pk_shlN (n := 1) (nI n &&& 31) n (z_smod n (by omega)) (by omega)
  rw [Nat.one_mul] at h
  exact h
abbrev cAgr (u : zS) (x st : Int32) : Prop := zIn x (zrn u) ∧ ¬ st < 0 ∧ ¬ (1 : Int32) <<< (nI (zmn u) &&& 31) ≤ st
theorem z_set {n : Nat} (hn : n ≤ 8) {st : Int32} (h0 : ¬ st < 0) : (¬ (1 : Int32) <<< (nI n &&& 31) ≤ st) ↔ (st >>> (nI n &&& 31)) = 0 := by
  obtain ⟨t, ht, rfl⟩ := nI_of h0
  have h1 : 2 ^ n ≤ 2 ^ 8 := Nat.pow_le_pow_right (by decide) hn
  have h2 : 0 < 2 ^ n := Nat.two_pow_pos n
  rw [z_shl8 hn, z_shr8 ht hn, nI_leI (by omega) ht]
  constructor
  · intro h
    rw [Nat.div_eq_of_lt (by omega)]; rfl
  · intro h h3
    have h4 : t / 2 ^ n < 2 ^ 31 := Nat.lt_of_le_of_lt (Nat.div_le_self _ _) ht
    have h5 : t / 2 ^ n = 0 := (nI_eq (b := 0) h4 (by decide)).mp h
    have h6 := Nat.div_pos h3 h2
    omega
theorem g_agr {u : zS} (hO : zOk u) (x st w : Int32) : zGo (zBo (cAgr u x st)) (zBo (zLe w)) 1 = nI (fAgr u x st w).1 := by
  unfold fAgr
  by_cases h1 : zIn x (zrn u)
  · rw [if_pos h1]
    by_cases h2 : st < 0 ∨ ¬ (st >>> (nI (zmn u) &&& 31)) = 0
    · rw [if_pos h2, zBo_f (fun h => h2.elim h.2.1 (fun h9 => h9 ((z_set hO.2.2.2.2.1 h.2.1).mp h.2.2)))]; rfl
    · rw [if_neg h2]
      have h3 : ¬ st < 0 := fun h => h2 (Or.inl h)
      rw [zBo_t ⟨h1, h3, (z_set hO.2.2.2.2.1 h3).mpr (Classical.byContradiction fun h => h2 (Or.inr h))⟩]
      by_cases h4 : zLe w
      · rw [zBo_t h4, if_pos h4]; rfl
      · rw [zBo_f h4, if_neg h4]; rfl
  · rw [zBo_f (fun h => h1 h.1), if_neg h1]; rfl
theorem z_b8 : ∀ t, t < 256 → ∀ k, k < 8 → ((nI t >>> (nI k &&& 31)) &&& 1) = 0 ∨ ((nI t >>> (nI k &&& 31)) &&& 1) = 1 := by decide +kernel
theorem z_b0 : ∀ k, k < 8 → (((0 : Int32) >>> (nI k &&& 31)) &&& 1) = 0 := by decide +kernel
theorem z_ball : ∀ n, n < 9 → ∀ t, t < 2 ^ n → (∀ k, k < n → ((nI t >>> (nI k &&& 31)) &&& 1) = 0) → t = 0 := by decide +kernel
def AgI (u : zS) (i : Nat) (st w : Int32) (k : Nat) (dt gd : Int32) : Prop := (zAgr u i st w k = some dt ∧ gd = zBo (0 < st)) ∨ (zAgr u i st w k = none ∧ gd = 0)
theorem AgI.skip {u : zS} {i : Nat} {st w : Int32} {k : Nat} {dt gd : Int32} (h : AgI u i st w k dt gd) (hb : ((st >>> (nI k &&& 31)) &&& 1) = 0) : AgI u i st w (k + 1) dt gd := by
  have hs : zAgr u i st w (k + 1) = match zAgr u i st w k with | none => none | some c => zAst (zDat u i k w).1 st k c := rfl
  rcases h with ⟨h1, h2⟩ | ⟨h1, h2⟩
  · refine Or.inl ⟨?_, h2⟩
    rw [hs, h1]
    show zAst _ _ _ _ = _
    unfold zAst
    rw [if_pos hb]
  · refine Or.inr ⟨?_, h2⟩
    rw [hs, h1]
theorem AgI.take {u : zS} {i : Nat} {st w : Int32} {k : Nat} {dt gd d : Int32} (h : AgI u i st w k dt gd) (hd : d = (zDat u i k w).1) (hst : 0 < st) (hb : ¬ ((st >>> (nI k &&& 31)) &&& 1) = 0) : AgI u i st w (k + 1) d (zBo (¬ gd = 0 ∧ ¬ d = -1000 ∧ (dt = -1000 ∨ dt = d))) := by
  have hs : zAgr u i st w (k + 1) = match zAgr u i st w k with | none => none | some c => zAst (zDat u i k w).1 st k c := rfl
  rcases h with ⟨h1, h2⟩ | ⟨h1, h2⟩
  · rw [zBo_t hst] at h2
    have hz : zAgr u i st w (k + 1) = zAst d st k dt := by rw [hs, h1, hd]
    unfold zAst at hz
    rw [if_neg hb] at hz
    by_cases h3 : d = -1000
    · refine Or.inr ⟨?_, zBo_f (fun h9 => h9.2.1 h3)⟩
      rw [hz, if_pos h3]
    · rw [if_neg h3] at hz
      by_cases h4 : dt = -1000 ∨ d = dt
      · refine Or.inl ⟨?_, ?_⟩
        · rw [hz, if_pos h4]
        · rw [zBo_t hst, zBo_t ⟨by rw [h2]; decide, h3, h4.imp id Eq.symm⟩]
      · refine Or.inr ⟨?_, zBo_f (fun h9 => h4 (h9.2.2.imp id Eq.symm))⟩
        rw [hz, if_neg h4]
  · refine Or.inr ⟨?_, zBo_f (fun h9 => h9.1 h2)⟩
    rw [hs, h1]
theorem zAgr_c {u : zS} {i : Nat} {st w : Int32} : ∀ (k : Nat) (dt : Int32), zAgr u i st w k = some dt → (dt = -1000 ↔ ∀ b, b < k → ((st >>> (nI b &&& 31)) &&& 1) = 0)
  | 0, dt, h => by
    have h1 : dt = -1000 := (Option.some.inj h).symm
    exact ⟨fun _ b hb => absurd hb (by omega), fun _ => h1⟩
  | k + 1, dt, h => by
    have hs : zAgr u i st w (k + 1) = match zAgr u i st w k with | none => none | some c => zAst (zDat u i k w).1 st k c := rfl
    cases hk : zAgr u i st w k with
    | none => rw [hs, hk] at h; cases h
    | some c0 =>
      have ih := zAgr_c k c0 hk
      rw [hs, hk] at h
      have h : zAst (zDat u i k w).1 st k c0 = some dt := h
      unfold zAst at h
      by_cases hb : ((st >>> (nI k &&& 31)) &&& 1) = 0
      · rw [if_pos hb] at h
        have h1 := Option.some.inj h
        rw [← h1, ih]
        constructor
        · intro h9 b hb2
          by_cases h8 : b = k
          · rw [h8]; exact hb
          · exact h9 b (by omega)
        · exact fun h9 b hb2 => h9 b (by omega)
      · rw [if_neg hb] at h
        have hno : ¬ dt = -1000 := by
          by_cases h3 : (zDat u i k w).1 = -1000
          · rw [if_pos h3] at h; cases h
          · rw [if_neg h3] at h
            by_cases h4 : c0 = -1000 ∨ (zDat u i k w).1 = c0
            · rw [if_pos h4] at h
              rw [← Option.some.inj h]; exact h3
            · rw [if_neg h4] at h; cases h
        exact ⟨fun h9 => absurd h9 hno, fun h9 => absurd (h9 k (by omega)) hb⟩
theorem AgI.ans {u : zS} (hO : zOk u) {i : Nat} {st w : Int32} {dt gd : Int32} (h : AgI u i st w (zmn u) dt gd) (h0 : ¬ st < 0) (h1 : ¬ (1 : Int32) <<< (nI (zmn u) &&& 31) ≤ st) : gd = zAnsA (zAgr u i st w (zmn u)) := by
  have hn := hO.2.2.2.2.1
  obtain ⟨t, ht, rfl⟩ := nI_of h0
  have hp : 2 ^ zmn u ≤ 2 ^ 8 := Nat.pow_le_pow_right (by decide) hn
  rw [z_shl8 hn, nI_leI (by omega) ht] at h1
  rcases h with ⟨h2, h3⟩ | ⟨h2, h3⟩
  · rw [h2, h3]
    show zBo _ = if dt = -1000 then 0 else 1
    have hc := zAgr_c _ _ h2
    by_cases h4 : dt = -1000
    · rw [if_pos h4, zBo_f]
      have h5 := z_ball (zmn u) (by omega) t (by omega) (hc.mp h4)
      rw [h5]; decide
    · rw [if_neg h4, zBo_t]
      refine (nI_ltI (a := 0) (by decide) ht).mpr (Nat.pos_of_ne_zero fun h5 => h4 (hc.mpr fun b hb => ?_))
      rw [h5]
      exact z_b0 b (by omega)
  · rw [h2, h3]; rfl
theorem z_stp {n : Nat} (hn : n ≤ 8) {st : Int32} (h0 : ¬ st < 0) (h1 : ¬ (1 : Int32) <<< (nI n &&& 31) ≤ st) {k : Nat} (hk : k < 8) : (((st >>> (nI k &&& 31)) &&& 1) = 0 ∨ ((st >>> (nI k &&& 31)) &&& 1) = 1) ∧ (((st >>> (nI k &&& 31)) &&& 1) = 1 → 0 < st) := by
  obtain ⟨t, ht, rfl⟩ := nI_of h0
  have hp : 2 ^ n ≤ 2 ^ 8 := Nat.pow_le_pow_right (by decide) hn
  rw [z_shl8 hn, nI_leI (by omega) ht] at h1
  refine ⟨z_b8 t (by omega) k hk, fun h2 => (nI_ltI (a := 0) (by decide) ht).mpr (Nat.pos_of_ne_zero fun h5 => ?_)⟩
  rw [h5] at h2
  have h6 := z_b0 k hk
  rw [show nI 0 = 0 from rfl, h6] at h2
  exact absurd h2 (by decide)
theorem z_absd2 (s d : Int32) : (if d < 0 then s - d else s + d) = s + zAbs d := by
  unfold zAbs
  by_cases h : d < 0
  · rw [if_pos h, if_neg (z_nle h)]; grind
  · rw [if_neg h, if_pos (Int32.not_lt.mp h)]
abbrev cSame (u : zS) (x y : Int32) : Prop := zIn x (zrn u) ∧ zIn y (zrn u)
theorem g_same (u : zS) (x y : Int32) : zGo (zBo (cSame u x y)) 1 1 = nI (fSame u x y).1 := by
  unfold fSame
  by_cases h1 : zIn x (zrn u)
  · rw [if_pos h1]
    by_cases h2 : zIn y (zrn u)
    · rw [if_pos h2, zBo_t ⟨h1, h2⟩]; rfl
    · rw [if_neg h2, zBo_f (fun h => h2 h.2)]; rfl
  · rw [if_neg h1, zBo_f (fun h => h1 h.1)]; rfl
def zSf (u : zS) (i j : Nat) (k : Nat) : Int32 := if zst u i = -1 ∨ zst u j = -1 then -1 else zRing (zln u j) (zev u j) (zst u i + nI k - zst u j)
theorem zSf_no {u : zS} {i j : Nat} (h : zst u i = -1 ∨ zst u j = -1) (ev : Nat → Int32) : ∀ n, zDist ev (zSf u i j) n = (0, 0)
  | 0 => rfl
  | n + 1 => by
    show (if zSf u i j n = -1 then zDist ev (zSf u i j) n else _) = _
    rw [if_pos (by unfold zSf; rw [if_pos h]), zSf_no h ev n]
theorem zSf_same {u : zS} {i j : Nat} : zBo (¬ (zDist (zev u i) (zSf u i j) (zln u i)).2 < 5 ∧ ¬ 15 * (zDist (zev u i) (zSf u i j) (zln u i)).2 < (zDist (zev u i) (zSf u i j) (zln u i)).1) = if zst u i = -1 ∨ zst u j = -1 then 0 else if (zSam u i j).2 < 5 ∨ 15 * (zSam u i j).2 < (zSam u i j).1 then 0 else 1 := by
  by_cases h : zst u i = -1 ∨ zst u j = -1
  · rw [if_pos h, zSf_no h]; rfl
  · rw [if_neg h]
    have e : zDist (zev u i) (zSf u i j) (zln u i) = zSam u i j := zDist_c _ fun k _ => by unfold zSf; rw [if_neg h]
    rw [e]
    by_cases h2 : (zSam u i j).2 < 5 ∨ 15 * (zSam u i j).2 < (zSam u i j).1
    · rw [if_pos h2, zBo_f (fun h9 => h2.elim h9.1 h9.2)]
    · rw [if_neg h2, zBo_t ⟨fun h9 => h2 (Or.inl h9), fun h9 => h2 (Or.inr h9)⟩]
theorem zBo_01 {P : Prop} [Decidable P] : zBo P = 0 ∨ zBo P = 1 := by
  unfold zBo
  split
  · exact Or.inr rfl
  · exact Or.inl rfl
end YA
