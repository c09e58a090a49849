section ZL
theorem z_nat {x : Int32} {b : Int} (h : inR x 0 b) : ∃ n : Nat, x = nI n ∧ (n : Int) ≤ b ∧ n < 2 ^ 31 := by
  obtain ⟨j, hj, rfl⟩ := nI_of (x := x) (fun h9 => by
    have h8 := Int32.lt_iff_toInt_lt.mp h9
    have h7 : (0 : Int32).toInt = 0 := rfl
    have := h.1
    omega)
  exact ⟨j, rfl, by have := h.2; rw [nI_toInt hj] at this; exact this, hj⟩
theorem z_inN {n : Nat} {a b : Int} (h1 : a ≤ n) (h2 : (n : Int) ≤ b) (h3 : n < 2 ^ 31) : inR (nI n) a b := by
  unfold inR
  rw [nI_toInt h3]
  exact ⟨h1, h2⟩
theorem z_ne1 {x : Int32} {b : Int} (h : inR x (-1) b) (hx : x ≠ -1) : inR x 0 b := by
  refine ⟨?_, h.2⟩
  have h1 := h.1
  have h2 : x.toInt ≠ -1 := fun h9 => hx (Int32.toInt_inj.mp (h9.trans rfl))
  omega
theorem zMin_in {x y : Int32} {a b : Int} (hx : inR x a b) (hy : inR y a b) : inR (zMin x y) a b := by
  unfold zMin
  split <;> assumption
theorem zMax_in {x y : Int32} {a b : Int} (hx : inR x a b) (hy : inR y a b) : inR (zMax x y) a b := by
  unfold zMax
  split <;> assumption
theorem z_last {b : Int32} {n : Nat} (hb : inR b 0 500) (h1 : 1 ≤ n) (h2 : n ≤ 30) : ∃ t : Nat, b = nI t ∧ t ≤ 500 ∧ b + nI n - 1 = nI (t + n - 1) := by
  obtain ⟨t, rfl, ht, -⟩ := z_nat hb
  refine ⟨t, rfl, by omega, ?_⟩
  rw [nI_add]
  have : t + n = (t + n - 1) + 1 := by omega
  rw [this, nI_pred]
  congr 1
theorem zFst_in {b : Nat → Int32} : ∀ n, (∀ i, i < n → inR (b i) (-1) 500) → inR (zFst b n) 0 500
  | 0, _ => (show inR 500 0 500 from ⟨by decide, by decide⟩)
  | n + 1, h => by
    unfold zFst
    split
    · exact zFst_in n fun i hi => h i (by omega)
    · rename_i hb
      exact zMin_in (zFst_in n fun i hi => h i (by omega)) (z_ne1 (h n (by omega)) hb)
theorem zLst_in {ln : Nat → Nat} {b : Nat → Int32} : ∀ n, (∀ i, i < n → inR (b i) (-1) 500 ∧ (b i ≠ -1 → 1 ≤ ln i ∧ ln i ≤ 30)) → inR (zLst ln b n) 0 529
  | 0, _ => (show inR 0 0 529 from ⟨by decide, by decide⟩)
  | n + 1, h => by
    unfold zLst
    split
    · exact zLst_in n fun i hi => h i (by omega)
    · rename_i hb
      refine zMax_in (zLst_in n fun i hi => h i (by omega)) ?_
      obtain ⟨h1, h2⟩ := h n (by omega)
      obtain ⟨h3, h4⟩ := h2 hb
      obtain ⟨t, -, ht, e⟩ := z_last (z_ne1 h1 hb) h3 h4
      rw [e]
      exact z_inN (by omega) (by omega) (by omega)
theorem z_yr {f l y : Int32} (hf : inR f 0 500) (hl : inR l 0 529) (h1 : ¬ y < f) (h2 : ¬ l < y) : ∃ k : Nat, k < (l - f + 1).toNatClampNeg ∧ y - f = nI k ∧ f + nI k = y ∧ (l - f + 1).toNatClampNeg ≤ 530 := by
  obtain ⟨a, rfl, ha, ha2⟩ := z_nat hf
  obtain ⟨b, rfl, hb, hb2⟩ := z_nat hl
  have hy0 : inR y 0 529 := by
    have h3 := Int32.not_lt.mp h1
    have h4 := Int32.not_lt.mp h2
    have h5 := Int32.le_iff_toInt_le.mp h3
    have h6 := Int32.le_iff_toInt_le.mp h4
    rw [nI_toInt ha2] at h5
    rw [nI_toInt hb2] at h6
    exact ⟨by omega, by omega⟩
  obtain ⟨t, rfl, ht, ht2⟩ := z_nat hy0
  have h3 : a ≤ t := (nI_leI ha2 ht2).mp (Int32.not_lt.mp h1)
  have h4 : t ≤ b := (nI_leI ht2 hb2).mp (Int32.not_lt.mp h2)
  refine ⟨t - a, ?_, pk_sub h3, ?_, ?_⟩
  · rw [pk_sub (by omega), nI_1, nI_clamp (by omega)]; omega
  · rw [nI_add]; congr 1; omega
  · rw [pk_sub (by omega), nI_1, nI_clamp (by omega)]; omega
theorem zOk.mas {u : zS} (h : zOk u) {j : Nat} (hj : j < zmn u) : inR (zFst (zms u j) 10) 0 500 ∧ inR (zLst (zln u) (zms u j) 10) 0 529 := by
  have h1 := (h.2.2.2.2.2.1 j hj).1
  refine ⟨zFst_in 10 fun i hi => (h1 i hi).1, zLst_in 10 fun i hi => ⟨(h1 i hi).1, fun hb => ?_⟩⟩
  have h2 := h.2.2.2.1 i ((h1 i hi).2 hb)
  exact ⟨by omega, h2.2.1⟩
end ZL
