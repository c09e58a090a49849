section ZT
theorem z_absd (s v e : Int32) : (if v - e < 0 then s - (v - e) else s + (v - e)) = s + zAbs (e - v) := by
  obtain ⟨d, hd⟩ : ∃ z : Int32, z = v - e := ⟨_, rfl⟩
  have h1 : e - v = 0 - d := by rw [hd]; grind
  rw [← hd, h1]
  unfold zAbs
  have a1 := d.toInt_lt
  have a2 := d.le_toInt
  have e0 : (0 : Int32).toInt = 0 := rfl
  have eN : (0 - d).toInt = (-d.toInt).bmod (2 ^ 32) := by rw [Int32.toInt_sub, e0]; simp
  by_cases h2 : d < 0
  · rw [if_pos h2]
    rw [z_lt0, e0] at h2
    by_cases h3 : 0 ≤ 0 - d
    · rw [if_pos h3]; grind
    · rw [if_neg h3]
      rw [z_le0, e0, eN] at h3
      have h4 : d.toInt = -2147483648 := by
        by_cases h5 : d.toInt = -2147483648
        · exact h5
        · rw [Int.bmod_eq_of_le (by omega) (by omega)] at h3
          omega
      have h6 : d = -2147483648 := Int32.toInt_inj.mp (h4.trans rfl)
      rw [h6]
      have h7 : (0 : Int32) - (0 - -2147483648) = 0 - (-2147483648) := by decide
      rw [h7]
      grind
  · rw [if_neg h2]
    rw [z_lt0, e0] at h2
    by_cases h3 : 0 ≤ 0 - d
    · rw [z_le0, e0, eN, Int.bmod_eq_of_le (by omega) (by omega)] at h3
      have h6 : d = 0 := Int32.toInt_inj.mp (show d.toInt = 0 by omega)
      rw [h6]
      rfl
    · rw [if_neg h3]; grind
theorem zDist_c {ev v v' : Nat → Int32} : ∀ n, (∀ k, k < n → v k = v' k) → zDist ev v n = zDist ev v' n
  | 0, _ => rfl
  | n + 1, h => by
    show (if v n = -1 then zDist ev v n else _) = (if v' n = -1 then zDist ev v' n else _)
    rw [zDist_c n fun k hk => h k (by omega), h n (by omega)]
def zMmf (u : zS) (j : Nat) (y wo : Int32) (k : Nat) : Int32 := if y < -100 ∨ 600 < y then -1 else zAq (zGat (zln u) (zev u) (zms u j) (y + nI k) wo 10)
def zMm (u : zS) (i j : Nat) (y wo : Int32) : Int32 × Int32 := zDist (zev u i) (zMmf u j y wo) (zln u i)
theorem zFst_le {b : Nat → Int32} : ∀ n i, i < n → b i ≠ -1 → (zFst b n).toInt ≤ (b i).toInt
  | 0, i, h, _ => absurd h (by omega)
  | n + 1, i, h, hb => by
    unfold zFst
    by_cases hi : i = n
    · subst hi
      rw [if_neg hb]
      unfold zMin
      split
      · exact Int.le_refl _
      · rename_i h9
        exact z_le0.mp (Int32.not_lt.mp h9)
    · have h2 := zFst_le n i (by omega) hb
      split
      · exact h2
      · unfold zMin
        split
        · rename_i h9
          exact Int.le_trans (Int.le_of_lt (z_lt0.mp h9)) h2
        · exact h2
theorem zLst_ge {ln : Nat → Nat} {b : Nat → Int32} : ∀ n i, i < n → b i ≠ -1 → (b i + nI (ln i) - 1).toInt ≤ (zLst ln b n).toInt
  | 0, i, h, _ => absurd h (by omega)
  | n + 1, i, h, hb => by
    unfold zLst
    by_cases hi : i = n
    · subst hi
      rw [if_neg hb]
      unfold zMax
      split
      · exact Int.le_refl _
      · rename_i h9
        exact z_le0.mp (Int32.not_lt.mp h9)
    · have h2 := zLst_ge (ln := ln) n i (by omega) hb
      split
      · exact h2
      · unfold zMax
        split
        · rename_i h9
          exact Int.le_trans h2 (Int.le_of_lt (z_lt0.mp h9))
        · exact h2
theorem zGat_out {u : zS} (hO : zOk u) {j : Nat} (hj : j < zmn u) {y wo : Int32} (hy : inR y (-2000) 2000) (h : y.toInt < (zFst (zms u j) 10).toInt ∨ (zLst (zln u) (zms u j) 10).toInt < y.toInt) : ∀ n, n ≤ 10 → zGat (zln u) (zev u) (zms u j) y wo n = (0, 0, 0, 0)
  | 0, _ => rfl
  | n + 1, hn => by
    show zGs _ _ _ _ _ n (zGat (zln u) (zev u) (zms u j) y wo n) = _
    rw [zGat_out hO hj hy h n (by omega)]
    unfold zGs
    by_cases h1 : nI n = wo
    · rw [if_pos h1]
    · rw [if_neg h1]
      by_cases h2 : zms u j n = -1
      · rw [if_pos h2]
      · rw [if_neg h2, if_pos]
        have hb := (hO.2.2.2.2.2.1 j hj).1 n (by omega)
        have hir := hb.2 h2
        have hl := hO.2.2.2.1 n hir
        have hbr := z_ne1 hb.1 h2
        refine Classical.byContradiction fun h9 => ?_
        have h8 := (z_has hy hbr hl.2.1 (fun k hk => zev_ne hO hir hk)).mpr h9
        rw [z_lt0, z_le0, z_add (hbr.w (by omega) (by omega)) (z_inN (a := -3000) (b := 3000) (by omega) (by omega) (by omega)), nI_toInt (by omega)] at h8
        have f1 := zFst_le 10 n (by omega) h2
        have f2 := zLst_ge (ln := zln u) 10 n (by omega) h2
        obtain ⟨t, et, ht, e1⟩ := z_last hbr (by omega) hl.2.1
        rw [e1, nI_toInt (by omega)] at f2
        have h7 : (zms u j n).toInt = t := by rw [et, nI_toInt (by omega)]
        omega
theorem z_ya {y : Int32} {k : Nat} (hy : inR y (-100) 600) (hk : k ≤ 30) : (y + nI k).toInt = y.toInt + k := by
  rw [z_add (hy.w (by omega) (by omega)) (z_inN (a := -3000) (b := 3000) (by omega) (by omega) (by omega)), nI_toInt (by omega)]
theorem zMm_mea {u : zS} (hO : zOk u) {i j : Nat} (hi : i < zrn u) (hj : j < zmn u) (y : Int32) : zMm u i j y (-1) = zMea u i j y.toInt := by
  unfold zMm zMea
  refine zDist_c _ fun k hk => ?_
  have hl := (hO.2.2.2.1 i hi).2.1
  obtain ⟨hf, hls⟩ := hO.mas hj
  have f1 := hf.1
  have l2 := hls.2
  have em : (-100 : Int32).toInt = -100 := rfl
  have eM : (600 : Int32).toInt = 600 := rfl
  show (if y < -100 ∨ 600 < y then (-1 : Int32) else _) = zVz u j (y.toInt + k)
  unfold zVz
  by_cases h : y < -100 ∨ 600 < y
  · rw [if_pos h, if_pos]
    rw [z_lt0, z_lt0, em, eM] at h
    rcases h with h | h
    · exact Or.inl (by omega)
    · exact Or.inr (by omega)
  · rw [if_neg h]
    rw [z_lt0, z_lt0, em, eM] at h
    have hy : inR y (-100) 600 := ⟨by omega, by omega⟩
    have e1 := z_ya hy (show k ≤ 30 by omega)
    have e2 : Int32.ofInt (y.toInt + k) = y + nI k := by rw [← e1, Int32.ofInt_toInt]
    have hy2 : inR (y + nI k) (-2000) 2000 := by unfold inR; rw [e1]; exact ⟨by omega, by omega⟩
    by_cases h2 : y.toInt + k < (zFst (zms u j) 10).toInt ∨ (zLst (zln u) (zms u j) 10).toInt < y.toInt + k
    · rw [if_pos h2, zGat_out hO hj hy2 (by rw [e1]; exact h2) 10 (by omega)]
      rfl
    · rw [if_neg h2, e2]
      rfl
theorem zMm_mo {u : zS} (hO : zOk u) {i j : Nat} (hi : i < zrn u) (hj : j < zmn u) (hm : zms u j i ≠ -1) : zMm u i j (zms u j i) (nI i) = zMo u i j := by
  unfold zMm zMo
  have hrn := hO.2.2.1
  have hb := (hO.2.2.2.2.2.1 j hj).1
  have hbr := z_ne1 (hb i (by omega)).1 hm
  refine zDist_c _ fun k hk => ?_
  unfold zMmf
  have em : (-100 : Int32).toInt = -100 := rfl
  have eM : (600 : Int32).toInt = 600 := rfl
  have h1 := hbr.1
  have h2 := hbr.2
  rw [if_neg (by rw [z_lt0, z_lt0, em, eM]; omega)]
  have h9 := zGat_ext (ln := zln u) (ev := zev u) (b := zms u j) (y := zms u j i + nI k) (wo := nI i) (n := zrn u) (10 - zrn u) (fun a h1 h2 => Classical.byContradiction fun h3 => absurd ((hb a (by omega)).2 h3) (by omega))
  rw [show zrn u + (10 - zrn u) = 10 by omega] at h9
  rw [h9]
theorem MoA.up {G : xG} {M M' : xM} {ad : Nat → Nat} {X : zX} {e : va_E} {x : Option (Nat × va_E)} (h : MoA G M ad X) (ho : M (ad 100) = some (100, e)) (hm : M' = va_up M (ad 100) x) : MoA G M' ad X := by
  obtain ⟨h1, h2, h3, h4, h5, h6, h7, h8⟩ := h
  exact ⟨xw_upE hm h1 ho (by decide), xw_upE hm h2 ho (by decide), xw_upE hm h3 ho (by decide), xw_upE hm h4 ho (by decide), xw_upE hm h5 ho (by decide), xw_upE hm h6 ho (by decide), xw_upE hm h7 ho (by decide), xw_upE hm h8 ho (by decide)⟩
end ZT
