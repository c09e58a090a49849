section ZD
def zDist (ev v : Nat → Int32) : Nat → Int32 × Int32
  | 0 => (0, 0)
  | k + 1 => if v k = -1 then zDist ev v k else ((zDist ev v k).1 + zAbs (ev k - v k), (zDist ev v k).2 + 1)
def zVz (u : zS) (j : Nat) (y : Int) : Int32 := if y < (zFst (zms u j) 10).toInt ∨ (zLst (zln u) (zms u j) 10).toInt < y then -1 else zAq (zVy u j (Int32.ofInt y))
def zMea (u : zS) (i j : Nat) (y : Int) : Int32 × Int32 := zDist (zev u i) (fun k => zVz u j (y + k)) (zln u i)
theorem z_swap (a b : Nat) : nI b - nI a + 1 = nI (b + 1) - nI a := by
  rw [← nI_1]
  grind
theorem z_yn {f l : Int32} (hf : inR f 0 500) (hl : inR l 0 529) : (l - f + 1).toNatClampNeg = (l.toInt - f.toInt + 1).toNat := by
  obtain ⟨a, rfl, ha, ha2⟩ := z_nat hf
  obtain ⟨b, rfl, hb, hb2⟩ := z_nat hl
  rw [z_swap, nI_toInt ha2, nI_toInt hb2]
  show (nI (b + 1) - nI a).toInt.toNat = _
  rw [pk_sub_toInt (by omega) (by omega)]
  omega
theorem z_l3 (y f : Int32) {k : Nat} (hk : k < 2 ^ 31) : (y.toInt64 + (nI k).toInt64 - f.toInt64).toInt = y.toInt + k - f.toInt := by
  have h1 := lg_i2l_add y (nI k)
  have h2 := Int32.toInt_toInt64 f
  have a1 := y.toInt_lt
  have a2 := y.le_toInt
  have a3 := f.toInt_lt
  have a4 := f.le_toInt
  rw [Int64.toInt_sub, h1, h2, nI_toInt hk]
  refine Int.bmod_eq_of_le ?_ ?_ <;> omega
theorem z_ofI {n : Nat} (h : n < 2 ^ 31) : Int32.ofInt (n : Int) = nI n := by
  apply Int32.toInt_inj.mp
  rw [nI_toInt h, Int32.toInt_ofInt_of_le (by omega) (by omega)]
theorem z_val {u : zS} (hO : zOk u) {j : Nat} (hj : j < zmn u) {V : Nat → Int32} (hV : ∀ k, k < zYn (zln u) (zms u j) → V k = zAq (zVy u j (zFst (zms u j) 10 + nI k))) (y : Int) :
    (y - (zFst (zms u j) 10).toInt < 0 → zVz u j y = -1) ∧ ((zYn (zln u) (zms u j) : Int) ≤ y - (zFst (zms u j) 10).toInt → zVz u j y = -1) ∧ ∀ k : Nat, k < zYn (zln u) (zms u j) → (k : Int) = y - (zFst (zms u j) 10).toInt → V k = zVz u j y := by
  obtain ⟨hf, hl⟩ := hO.mas hj
  have hn : zYn (zln u) (zms u j) = ((zLst (zln u) (zms u j) 10).toInt - (zFst (zms u j) 10).toInt + 1).toNat := z_yn hf hl
  have f1 := hf.1
  have f2 := hf.2
  have l1 := hl.1
  have l2 := hl.2
  refine ⟨fun h => ?_, fun h => ?_, fun k hk he => ?_⟩
  · unfold zVz
    rw [if_pos (Or.inl (by omega))]
  · unfold zVz
    rw [if_pos]
    rw [hn] at h
    by_cases h9 : y < (zFst (zms u j) 10).toInt
    · exact Or.inl h9
    · exact Or.inr (by omega)
  · rw [hV k hk]
    unfold zVz
    rw [hn] at hk
    rw [if_neg (by omega)]
    obtain ⟨a, ea, ha, ha2⟩ := z_nat hf
    rw [ea] at he ⊢
    rw [nI_toInt ha2] at he
    rw [nI_add, show y = ((a + k : Nat) : Int) by omega, z_ofI (by omega)]
theorem z_i64 {x : Int64} {n : Nat} (h0 : ¬ x < 0) (h1 : x < (nI n).toInt64) (hn : n < 2 ^ 31) : ∃ k : Nat, k < n ∧ x.toInt = k ∧ x.toInt32 = nI k := by
  have a1 : 0 ≤ x.toInt := by
    have := Int64.not_lt.mp h0
    exact Int64.le_iff_toInt_le.mp this
  have a2 : x.toInt < n := by
    have := Int64.lt_iff_toInt_lt.mp h1
    rw [Int32.toInt_toInt64, nI_toInt hn] at this
    exact this
  refine ⟨x.toInt.toNat, by omega, by omega, ?_⟩
  apply Int32.toInt_inj.mp
  rw [nI_toInt (by omega), Int64.toInt_toInt32]
  rw [Int.bmod_eq_of_le (by omega) (by omega)]
  omega
end ZD
