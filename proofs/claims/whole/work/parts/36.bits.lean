section ZB
def zB (u : zS) (set : Int32) : Nat → Int32 := fun i => if i < zrn u ∧ ((set >>> (nI i &&& 31)) &&& 1) = 1 then zst u i else -1
def zMk (b : Nat → Int32) : Nat → Nat
  | 0 => 0
  | n + 1 => if b n = -1 then zMk b n else zMk b n + 2 ^ n
theorem zMk_lt (b : Nat → Int32) : ∀ n, zMk b n < 2 ^ n
  | 0 => (show (0 : Nat) < 1 by decide)
  | n + 1 => by
    have := zMk_lt b n
    unfold zMk
    rw [Nat.pow_succ]
    split <;> omega
theorem z_or : ∀ n, n < 10 → ∀ m, m < 2 ^ n → nI m ||| ((1 : Int32) <<< (nI n &&& 31)) = nI (m + 2 ^ n) := by decide +kernel
theorem z_bit : ∀ i, i < 10 → ∀ m, m < 1024 → ((nI m >>> (nI i &&& 31)) &&& 1) = nI (m / 2 ^ i % 2) := by decide +kernel
theorem zMk_bit (b : Nat → Int32) : ∀ n i, i < n → zMk b n / 2 ^ i % 2 = if b i = -1 then 0 else 1
  | 0, i, h => absurd h (by omega)
  | n + 1, i, h => by
    have hlt := zMk_lt b n
    by_cases hi : i = n
    · subst hi
      show (if b i = -1 then zMk b i else zMk b i + 2 ^ i) / 2 ^ i % 2 = _
      split
      · rw [Nat.div_eq_of_lt hlt]
      · rw [Nat.add_div_right _ (Nat.two_pow_pos i), Nat.div_eq_of_lt hlt]
    · have h2 := zMk_bit b n i (by omega)
      show (if b n = -1 then zMk b n else zMk b n + 2 ^ n) / 2 ^ i % 2 = _
      split
      · exact h2
      · rw [← h2]
        have e : 2 ^ n = 2 ^ i * (2 * 2 ^ (n - i - 1)) := by
          rw [← Nat.pow_succ', ← Nat.pow_add]
          congr 1
          omega
        rw [e, Nat.add_mul_div_left _ _ (Nat.two_pow_pos i)]
        omega
theorem zMk_ext {b : Nat → Int32} {n : Nat} (h : ∀ i, n ≤ i → b i = -1) : ∀ k, zMk b (n + k) = zMk b n
  | 0 => rfl
  | k + 1 => by
    show (if b (n + k) = -1 then zMk b (n + k) else _) = _
    rw [if_pos (h (n + k) (by omega)), zMk_ext h k]
theorem zFst_ext {b : Nat → Int32} {n : Nat} (h : ∀ i, n ≤ i → b i = -1) : ∀ k, zFst b (n + k) = zFst b n
  | 0 => rfl
  | k + 1 => by
    show (if b (n + k) = -1 then zFst b (n + k) else _) = _
    rw [if_pos (h (n + k) (by omega)), zFst_ext h k]
theorem zLst_ext {ln : Nat → Nat} {b : Nat → Int32} {n : Nat} (h : ∀ i, n ≤ i → b i = -1) : ∀ k, zLst ln b (n + k) = zLst ln b n
  | 0 => rfl
  | k + 1 => by
    show (if b (n + k) = -1 then zLst ln b (n + k) else _) = _
    rw [if_pos (h (n + k) (by omega)), zLst_ext h k]
theorem zGat_ext {ln : Nat → Nat} {ev : Nat → Nat → Int32} {b : Nat → Int32} {y wo : Int32} {n : Nat} : ∀ k, (∀ i, n ≤ i → i < n + k → b i = -1) → zGat ln ev b y wo (n + k) = zGat ln ev b y wo n
  | 0, _ => rfl
  | k + 1, h => by
    show zGs ln ev b y wo (n + k) (zGat ln ev b y wo (n + k)) = _
    rw [zGat_ext k fun i h1 h2 => h i h1 (by omega)]
    unfold zGs
    rw [h (n + k) (by omega) (by omega)]
    simp
theorem zFst_cg {b b' : Nat → Int32} : ∀ n, (∀ i, i < n → b i = b' i) → zFst b n = zFst b' n
  | 0, _ => rfl
  | n + 1, h => by
    unfold zFst
    rw [zFst_cg n fun i hi => h i (by omega), h n (by omega)]
theorem zLst_cg {ln : Nat → Nat} {b b' : Nat → Int32} : ∀ n, (∀ i, i < n → b i = b' i) → zLst ln b n = zLst ln b' n
  | 0, _ => rfl
  | n + 1, h => by
    unfold zLst
    rw [zLst_cg n fun i hi => h i (by omega), h n (by omega)]
theorem zCnt_cg {b b' : Nat → Int32} : ∀ n, (∀ i, i < n → b i = b' i) → zCnt b n = zCnt b' n
  | 0, _ => rfl
  | n + 1, h => by
    unfold zCnt
    rw [zCnt_cg n fun i hi => h i (by omega), h n (by omega)]
theorem zGat_cg {ln : Nat → Nat} {ev : Nat → Nat → Int32} {b b' : Nat → Int32} {y wo : Int32} : ∀ n, (∀ i, i < n → b i = b' i) → zGat ln ev b y wo n = zGat ln ev b' y wo n
  | 0, _ => rfl
  | n + 1, h => by
    show zGs ln ev b y wo n (zGat ln ev b y wo n) = zGs ln ev b' y wo n (zGat ln ev b' y wo n)
    rw [zGat_cg n fun i hi => h i (by omega)]
    unfold zGs
    rw [h n (by omega)]
def zBc (x : Int32) : Int32 :=
  let us (a : Int32) (k : Int32) : Int32 := (a.toUInt32 >>> (k.toUInt32 &&& Int32.toUInt32 31)).toInt32
  let a := x - (us x 1 &&& 1431655765)
  let b := (a &&& 858993459) + (us a 2 &&& 858993459)
  let d := (b + us b 4) &&& 252645135
  let f := d + us d 8
  (f + us f 16) &&& 63
theorem zBc_all : ∀ m, m < 1024 → zBc (nI m) = nI (m / 2 ^ 0 % 2 + m / 2 ^ 1 % 2 + m / 2 ^ 2 % 2 + m / 2 ^ 3 % 2 + m / 2 ^ 4 % 2 + m / 2 ^ 5 % 2 + m / 2 ^ 6 % 2 + m / 2 ^ 7 % 2 + m / 2 ^ 8 % 2 + m / 2 ^ 9 % 2) := by decide +kernel
theorem zCnt_s (b : Nat → Int32) (n : Nat) : zCnt b (n + 1) = zCnt b n + (if b n = -1 then 0 else 1) := by
  show (if b n = -1 then zCnt b n else zCnt b n + 1) = _
  split <;> rfl
theorem zBc_cnt (b : Nat → Int32) : zBc (nI (zMk b 10)) = nI (zCnt b 10) := by
  rw [zBc_all _ (zMk_lt b 10)]
  rw [zMk_bit b 10 0 (by decide), zMk_bit b 10 1 (by decide), zMk_bit b 10 2 (by decide), zMk_bit b 10 3 (by decide), zMk_bit b 10 4 (by decide), zMk_bit b 10 5 (by decide), zMk_bit b 10 6 (by decide), zMk_bit b 10 7 (by decide), zMk_bit b 10 8 (by decide), zMk_bit b 10 9 (by decide)]
  rw [zCnt_s, zCnt_s, zCnt_s, zCnt_s, zCnt_s, zCnt_s, zCnt_s, zCnt_s, zCnt_s, zCnt_s]
  congr 1
  show _ = 0 + _ + _ + _ + _ + _ + _ + _ + _ + _ + _
  omega
theorem z_max0 (x : Int32) : zMax 0 x = nI x.toNatClampNeg := by
  unfold zMax
  by_cases h : 0 < x
  · rw [if_pos h]
    obtain ⟨j, hj, rfl⟩ := nI_of (x := x) (Int32.not_lt.mpr (Int32.le_of_lt h))
    rw [nI_clamp hj]
  · rw [if_neg h]
    have h1 := Int32.le_iff_toInt_le.mp (Int32.not_lt.mp h)
    have h2 : (0 : Int32).toInt = 0 := rfl
    have h3 : x.toNatClampNeg = 0 := by
      show x.toInt.toNat = 0
      omega
    rw [h3]
    rfl
theorem zB_ge {u : zS} {set : Int32} {i : Nat} (h : zrn u ≤ i) : zB u set i = -1 := by
  unfold zB
  rw [if_neg (by omega)]
end ZB
