section ZR
theorem z_sub {y b : Int32} (hy : inR y (-3000) 3000) (hb : inR b (-3000) 3000) : (y - b).toInt = y.toInt - b.toInt := by
  rw [Int32.toInt_sub]
  have h1 := hy.1
  have h2 := hy.2
  have h3 := hb.1
  have h4 := hb.2
  exact Int.bmod_eq_of_le (by omega) (by omega)
theorem z_add {y b : Int32} (hy : inR y (-3000) 3000) (hb : inR b (-3000) 3000) : (y + b).toInt = y.toInt + b.toInt := by
  rw [Int32.toInt_add]
  have h1 := hy.1
  have h2 := hy.2
  have h3 := hb.1
  have h4 := hb.2
  exact Int.bmod_eq_of_le (by omega) (by omega)
theorem inR.w {x : Int32} {a b c d : Int} (h : inR x a b) (h1 : c ≤ a) (h2 : b ≤ d) : inR x c d := ⟨Int.le_trans h1 h.1, Int.le_trans h.2 h2⟩
theorem z_lt0 {x y : Int32} : x < y ↔ x.toInt < y.toInt := Int32.lt_iff_toInt_lt
theorem z_le0 {x y : Int32} : x ≤ y ↔ x.toInt ≤ y.toInt := Int32.le_iff_toInt_le
theorem z_has {n : Nat} {f : Nat → Int32} {y b : Int32} (hy : inR y (-2000) 2000) (hb : inR b 0 500) (hn : n ≤ 30) (hf : ∀ k, k < n → f k ≠ -1) : (¬ y < b ∧ ¬ b + nI n ≤ y) ↔ zRing n f (y - b) ≠ -1 := by
  have e1 := z_sub (hy.w (by omega) (by omega)) (hb.w (c := -3000) (d := 3000) (by omega) (by omega))
  have e2 := z_add (hb.w (c := -3000) (d := 3000) (by omega) (by omega)) (z_inN (n := n) (a := -3000) (b := 3000) (by omega) (by omega) (by omega))
  rw [nI_toInt (by omega)] at e2
  rw [z_lt0, z_le0, e2]
  unfold zRing
  have e0 : (0 : Int32).toInt = 0 := rfl
  by_cases h1 : y - b < 0
  · rw [if_pos h1]
    rw [z_lt0, e1, e0] at h1
    exact ⟨fun h => absurd h.1 (by omega), fun h => absurd rfl h⟩
  · rw [if_neg h1]
    have h1' := h1
    rw [z_lt0, e1, e0] at h1'
    by_cases h2 : nI n ≤ y - b
    · rw [if_pos h2]
      rw [z_le0, e1, nI_toInt (by omega)] at h2
      exact ⟨fun h => absurd h.2 (by omega), fun h => absurd rfl h⟩
    · rw [if_neg h2]
      have h2' := h2
      rw [z_le0, e1, nI_toInt (by omega)] at h2'
      exact ⟨fun _ => hf _ (z_ix h1 h2 (by omega)).1, fun _ => ⟨by omega, by omega⟩⟩
theorem z_ringv {n : Nat} {f : Nat → Int32} {k : Int32} (hn : n ≤ 30) (h : zRing n f k ≠ -1) : ∃ j : Nat, j < n ∧ k = nI j ∧ zRing n f k = f j := by
  unfold zRing at h ⊢
  by_cases h1 : k < 0
  · rw [if_pos h1] at h; exact absurd rfl h
  · rw [if_neg h1] at h ⊢
    by_cases h2 : nI n ≤ k
    · rw [if_pos h2] at h; exact absurd rfl h
    · rw [if_neg h2]
      exact ⟨_, (z_ix h1 h2 (by omega)).1, (z_ix h1 h2 (by omega)).2, rfl⟩
theorem zev_ne {u : zS} (hO : zOk u) {i k : Nat} (hi : i < zrn u) (hk : k < zln u i) : zev u i k ≠ -1 := fun h => by
  have h1 := ((hO.2.2.2.1 i hi).2.2.1 k hk).1
  rw [h] at h1
  exact absurd h1 (by decide)
abbrev zHas (u : zS) (j i : Nat) (y : Int32) : Prop := zms u j i ≠ -1 ∧ zRing (zln u i) (zev u i) (y - zms u j i) ≠ -1
theorem zGat_n {u : zS} {b : Nat → Int32} {y wo : Int32} : ∀ n, ∃ T : Nat, (zGat (zln u) (zev u) b y wo n).1 = nI T ∧ T ≤ n
  | 0 => ⟨0, rfl, Nat.le_refl 0⟩
  | n + 1 => by
    obtain ⟨T, h1, h2⟩ := zGat_n (u := u) (b := b) (y := y) (wo := wo) n
    show ∃ T, (zGs _ _ _ _ _ n (zGat (zln u) (zev u) b y wo n)).1 = nI T ∧ T ≤ n + 1
    unfold zGs
    split
    · exact ⟨T, h1, by omega⟩
    · split
      · exact ⟨T, h1, by omega⟩
      · split
        · exact ⟨T, h1, by omega⟩
        · exact ⟨T + 1, by show (zGat (zln u) (zev u) b y wo n).1 + 1 = _; rw [h1, nI_1], by omega⟩
def zLo (q : zQ) : Int32 := if q.1 = 0 then 9999 else q.2.2.1
def zHi (q : zQ) : Int32 := if q.1 = 0 then -1 else q.2.2.2
theorem zTk_n0 {q : zQ} {v : Int32} {T : Nat} (h : q.1 = nI T) (hT : T ≤ 100) : (zTk q v).1 ≠ 0 := by
  show q.1 + 1 ≠ 0
  rw [h, nI_1]
  exact nI_ne0 (by omega) (by omega)
theorem zTk_lo {q : zQ} {v : Int32} {T : Nat} (h : q.1 = nI T) (hT : T ≤ 100) (hv : inR v 0 400) : zLo (zTk q v) = if v < zLo q then v else zLo q := by
  unfold zLo
  rw [if_neg (zTk_n0 h hT)]
  show (if q.1 = 0 then v else zMin q.2.2.1 v) = _
  by_cases h1 : q.1 = 0
  · rw [if_pos h1, if_pos h1, if_pos]
    rw [z_lt0]
    have := hv.2
    show v.toInt < 9999
    omega
  · rw [if_neg h1, if_neg h1]
    rfl
theorem zTk_hi {q : zQ} {v : Int32} {T : Nat} (h : q.1 = nI T) (hT : T ≤ 100) (hv : inR v 0 400) : zHi (zTk q v) = if v ≤ zHi q then zHi q else v := by
  unfold zHi
  rw [if_neg (zTk_n0 h hT)]
  show (if q.1 = 0 then v else zMax q.2.2.2 v) = _
  by_cases h1 : q.1 = 0
  · rw [if_pos h1, if_pos h1, if_neg]
    rw [z_le0]
    have := hv.1
    show ¬ v.toInt ≤ -1
    omega
  · rw [if_neg h1, if_neg h1]
    unfold zMax
    by_cases h2 : v ≤ q.2.2.2
    · rw [if_pos h2, if_neg (z_nlt h2)]
    · rw [if_neg h2, if_pos (Int32.not_le.mp h2)]
end ZR
