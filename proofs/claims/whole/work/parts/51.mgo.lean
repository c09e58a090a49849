section ZW
abbrev MoPost (M : xM) (ad : Nat → Nat) (u : zS) (f : zR) (v : Int32) (M' : xM) : Prop := (∃ q' : z5, M' = va_up M (ad 100) (some (100, eMo ad u (nI f.1) q'))) ∧ (f.1 = 0 → v = f.2)
theorem g_ring (u : zS) (w : Int32) : zGo (zBo (zpn u < 30)) (zBo (¬ w < 1 ∧ ¬ 900 < w)) 1 = nI (fRing u w).1 := by
  unfold fRing
  by_cases h1 : 30 ≤ zpn u
  · rw [zBo_f (by omega), if_pos h1]; rfl
  · rw [zBo_t (by omega), if_neg h1]
    by_cases h2 : w < 1 ∨ 900 < w
    · rw [zBo_f (fun h => h2.elim h.1 h.2), if_pos h2]; rfl
    · rw [zBo_t ⟨fun h => h2 (Or.inl h), fun h => h2 (Or.inr h)⟩, if_neg h2]; rfl
theorem g_place (u : zS) (x y : Int32) : zGo (zBo (zIn x (zrn u))) (zBo (¬ y < -1 ∧ ¬ 500 < y)) 1 = nI (fPlace u x y).1 := by
  unfold fPlace
  by_cases h1 : zIn x (zrn u)
  · rw [zBo_t h1, if_pos h1]
    by_cases h2 : y < -1 ∨ 500 < y
    · rw [zBo_f (fun h => h2.elim h.1 h.2), if_pos h2]; rfl
    · rw [zBo_t ⟨fun h => h2 (Or.inl h), fun h => h2 (Or.inr h)⟩, if_neg h2]; rfl
  · rw [zBo_f h1, if_neg h1]; rfl
abbrev cEvened (u : zS) (x k : Int32) : Prop := zIn x (zrn u) ∧ (k = -1 ∨ zIn k (zln u x.toNatClampNeg))
theorem g_evened (u : zS) (x k : Int32) : zGo (zBo (cEvened u x k)) 1 1 = nI (fEvened u x k).1 := by
  unfold fEvened
  by_cases h1 : zIn x (zrn u)
  · rw [if_pos h1]
    by_cases h2 : k = -1
    · rw [zBo_t ⟨h1, Or.inl h2⟩, if_pos h2]; rfl
    · rw [if_neg h2]
      by_cases h3 : zIn k (zln u x.toNatClampNeg)
      · rw [zBo_t ⟨h1, Or.inr h3⟩, if_pos h3]; rfl
      · rw [zBo_f (fun h => h.2.elim h2 h3), if_neg h3]; rfl
  · rw [zBo_f (fun h => h1 h.1), if_neg h1]; rfl
abbrev cAt (u : zS) (x y : Int32) : Prop := zIn x (zmn u) ∧ (¬ y < zFst (zms u x.toNatClampNeg) 10 ∧ ¬ zLst (zln u) (zms u x.toNatClampNeg) 10 < y)
theorem g_at (u : zS) (x y : Int32) : zGo (zBo (cAt u x y)) 1 1 = nI (fAt u x y).1 := by
  unfold fAt
  by_cases h1 : zIn x (zmn u)
  · rw [if_pos h1]
    by_cases h2 : y < zFst (zms u x.toNatClampNeg) 10 ∨ zLst (zln u) (zms u x.toNatClampNeg) 10 < y
    · rw [zBo_f (fun h => h2.elim h.2.1 h.2.2), if_pos h2]; rfl
    · rw [zBo_t ⟨h1, fun h => h2 (Or.inl h), fun h => h2 (Or.inr h)⟩, if_neg h2]; rfl
  · rw [zBo_f (fun h => h1 h.1), if_neg h1]; rfl
theorem g_depth (u : zS) (x y : Int32) : zGo (zBo (cAt u x y)) 1 1 = nI (fDepth u x y).1 := by
  unfold fDepth
  by_cases h1 : zIn x (zmn u)
  · rw [if_pos h1]
    by_cases h2 : y < zFst (zms u x.toNatClampNeg) 10 ∨ zLst (zln u) (zms u x.toNatClampNeg) 10 < y
    · rw [zBo_f (fun h => h2.elim h.2.1 h.2.2), if_pos h2]; rfl
    · rw [zBo_t ⟨h1, fun h => h2 (Or.inl h), fun h => h2 (Or.inr h)⟩, if_neg h2]; rfl
  · rw [zBo_f (fun h => h1 h.1), if_neg h1]; rfl
abbrev cSap (r w : Int32) : Prop := (¬ r < 0 ∧ ¬ 60 < r) ∧ (¬ w < 0 ∧ ¬ 10000 < w)
theorem g_sap (u : zS) (r w : Int32) : zGo (zBo (cSap r w)) 1 1 = nI (fSap u r w).1 := by
  unfold fSap
  by_cases h1 : r < 0 ∨ 60 < r
  · rw [zBo_f (fun h => h1.elim h.1.1 h.1.2), if_pos h1]; rfl
  · rw [if_neg h1]
    by_cases h2 : w < 0 ∨ 10000 < w
    · rw [zBo_f (fun h => h2.elim h.2.1 h.2.2), if_pos h2]; rfl
    · rw [zBo_t ⟨⟨fun h => h1 (Or.inl h), fun h => h1 (Or.inr h)⟩, fun h => h2 (Or.inl h), fun h => h2 (Or.inr h)⟩, if_neg h2]; rfl
theorem z_cs3 {k : Int32} (h : ¬ k < 0 ∧ ¬ 3 < k) : k = 0 ∨ k = 1 ∨ k = 2 ∨ k = 3 := by
  have h1 := z_le0.mp (Int32.not_lt.mp h.1)
  have h2 := z_le0.mp (Int32.not_lt.mp h.2)
  have e0 : (0 : Int32).toInt = 0 := rfl
  have e3 : (3 : Int32).toInt = 3 := rfl
  have h3 : k.toInt = 0 ∨ k.toInt = 1 ∨ k.toInt = 2 ∨ k.toInt = 3 := by omega
  rcases h3 with h3 | h3 | h3 | h3
  · exact Or.inl (Int32.toInt_inj.mp (h3.trans rfl))
  · exact Or.inr (Or.inl (Int32.toInt_inj.mp (h3.trans rfl)))
  · exact Or.inr (Or.inr (Or.inl (Int32.toInt_inj.mp (h3.trans rfl))))
  · exact Or.inr (Or.inr (Or.inr (Int32.toInt_inj.mp (h3.trans rfl))))
theorem z_cs2 {k : Int32} (h : ¬ k < 0 ∧ ¬ 2 < k) : k = 0 ∨ k = 1 ∨ k = 2 := by
  rcases z_cs3 ⟨h.1, fun h9 => h.2 (Int32.lt_trans (by decide) h9)⟩ with h1 | h1 | h1 | h1
  · exact Or.inl h1
  · exact Or.inr (Or.inl h1)
  · exact Or.inr (Or.inr h1)
  · exact absurd (by rw [h1]; decide) h.2
theorem g_count (u : zS) (k : Int32) : zGo (zBo (¬ k < 0 ∧ ¬ 3 < k)) 1 1 = nI (fCount u k).1 := by
  unfold fCount
  by_cases h : ¬ k < 0 ∧ ¬ 3 < k
  · rw [zBo_t h]
    rcases z_cs3 h with rfl | rfl | rfl | rfl <;> rfl
  · rw [zBo_f h, if_neg (fun e => h (by rw [e]; decide)), if_neg (fun e => h (by rw [e]; decide)), if_neg (fun e => h (by rw [e]; decide)), if_neg (fun e => h (by rw [e]; decide))]; rfl
abbrev cAbout (u : zS) (x k : Int32) : Prop := zIn x (zmn u) ∧ (¬ k < 0 ∧ ¬ 2 < k)
theorem g_about (u : zS) (x k : Int32) : zGo (zBo (cAbout u x k)) 1 1 = nI (fAbout u x k).1 := by
  unfold fAbout
  by_cases h1 : zIn x (zmn u)
  · rw [if_pos h1]
    by_cases h : ¬ k < 0 ∧ ¬ 2 < k
    · rw [zBo_t ⟨h1, h⟩]
      rcases z_cs2 h with rfl | rfl | rfl <;> rfl
    · rw [zBo_f (fun h9 => h h9.2), if_neg (fun e => h (by rw [e]; decide)), if_neg (fun e => h (by rw [e]; decide)), if_neg (fun e => h (by rw [e]; decide))]; rfl
  · rw [zBo_f (fun h => h1 h.1), if_neg h1]; rfl
abbrev cDist (u : zS) (x m w : Int32) : Prop := zIn x (zrn u) ∧ zIn m (zmn u) ∧ zWh w
theorem g_dist (u : zS) (x m y w : Int32) : zGo (zBo (cDist u x m w)) 1 1 = nI (fDist u x m y w).1 := by
  unfold fDist
  by_cases h1 : zIn x (zrn u)
  · rw [if_pos h1]
    by_cases h2 : zIn m (zmn u)
    · rw [if_pos h2]
      by_cases h3 : zWh w
      · rw [zBo_t ⟨h1, h2, h3⟩, if_pos h3]; rfl
      · rw [zBo_f (fun h => h3 h.2.2), if_neg h3]; rfl
    · rw [zBo_f (fun h => h2 h.2.1), if_neg h2]; rfl
  · rw [zBo_f (fun h => h1 h.1), if_neg h1]; rfl
theorem g_date (u : zS) (x m w : Int32) : zGo (zBo (zIn x (zrn u) ∧ zIn m (zmn u))) (zBo (zLe w)) 1 = nI (fDate u x m w).1 := by
  unfold fDate
  by_cases h1 : zIn x (zrn u)
  · rw [if_pos h1]
    by_cases h2 : zIn m (zmn u)
    · rw [if_pos h2, zBo_t ⟨h1, h2⟩]
      by_cases h3 : zLe w
      · rw [zBo_t h3, if_pos h3]; rfl
      · rw [zBo_f h3, if_neg h3]; rfl
    · rw [zBo_f (fun h => h2 h.2), if_neg h2]; rfl
  · rw [zBo_f (fun h => h1 h.1), if_neg h1]; rfl
end ZW
