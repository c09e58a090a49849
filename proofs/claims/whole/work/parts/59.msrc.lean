section YC
theorem z_div {a b : Int32} {m : Int} (h : inR a (-m) m) (hm : m ≤ 100000) : inR (a / b) (-m) m := by
  have h1 := h.1
  have h2 := h.2
  have e : (a / b).toInt = (a.toInt.tdiv b.toInt).bmod (2 ^ 32) := Int32.toInt_div a b
  have h3 : (a.toInt.tdiv b.toInt).natAbs ≤ a.toInt.natAbs := by
    rw [Int.natAbs_tdiv]
    exact Nat.div_le_self _ _
  unfold inR
  rw [e, Int.bmod_eq_of_le (by omega) (by omega)]
  exact ⟨by omega, by omega⟩
theorem z_addR {x y : Int32} {a b c d : Int} (hx : inR x a b) (hy : inR y c d) (h1 : -1000000 ≤ a) (h2 : b ≤ 1000000) (h3 : -1000000 ≤ c) (h4 : d ≤ 1000000) : inR (x + y) (a + c) (b + d) ∧ (x + y).toInt = x.toInt + y.toInt := by
  have e1 := hx.1
  have e2 := hx.2
  have e3 := hy.1
  have e4 := hy.2
  have e : (x + y).toInt = x.toInt + y.toInt := by
    rw [Int32.toInt_add]
    exact Int.bmod_eq_of_le (by omega) (by omega)
  unfold inR
  rw [e]
  exact ⟨⟨by omega, by omega⟩, rfl⟩
theorem z_subR {x y : Int32} {a b c d : Int} (hx : inR x a b) (hy : inR y c d) (h1 : -1000000 ≤ a) (h2 : b ≤ 1000000) (h3 : -1000000 ≤ c) (h4 : d ≤ 1000000) : inR (x - y) (a - d) (b - c) := by
  have e1 := hx.1
  have e2 := hx.2
  have e3 := hy.1
  have e4 := hy.2
  have e : (x - y).toInt = x.toInt - y.toInt := by
    rw [Int32.toInt_sub]
    exact Int.bmod_eq_of_le (by omega) (by omega)
  unfold inR
  rw [e]
  exact ⟨by omega, by omega⟩
theorem z_absR {x : Int32} {m : Int} (hx : inR x (-m) m) (hm : m ≤ 1000000) : inR (zAbs x) 0 m := by
  have e1 := hx.1
  have e2 := hx.2
  unfold zAbs
  have e0 : (0 : Int32).toInt = 0 := rfl
  by_cases h : 0 ≤ x
  · rw [if_pos h]
    rw [z_le0, e0] at h
    exact ⟨h, e2⟩
  · rw [if_neg h]
    rw [z_le0, e0] at h
    have e : (0 - x).toInt = - x.toInt := by
      rw [Int32.toInt_sub, e0, Int.bmod_eq_of_le (by omega) (by omega)]
      omega
    unfold inR
    rw [e]
    exact ⟨by omega, by omega⟩
theorem zGat_b {u : zS} (hO : zOk u) {j : Nat} (hj : j < zmn u) {y wo : Int32} : ∀ n, n ≤ 10 → inR (zGat (zln u) (zev u) (zms u j) y wo n).2.1 0 (400 * n) ∧ inR (zGat (zln u) (zev u) (zms u j) y wo n).2.2.1 0 400 ∧ inR (zGat (zln u) (zev u) (zms u j) y wo n).2.2.2 0 400
  | 0, _ => (show inR 0 0 0 ∧ inR 0 0 400 ∧ inR 0 0 400 from ⟨⟨by decide, by decide⟩, ⟨by decide, by decide⟩, ⟨by decide, by decide⟩⟩)
  | n + 1, hn => by
    obtain ⟨h1, h2, h3⟩ := zGat_b hO hj (y := y) (wo := wo) n (by omega)
    have h1' := h1.w (Int.le_refl 0) (show (400 * (n : Int)) ≤ 400 * ((n + 1 : Nat) : Int) by omega)
    show inR (zGs _ _ _ _ _ n (zGat (zln u) (zev u) (zms u j) y wo n)).2.1 _ _ ∧ inR (zGs _ _ _ _ _ n (zGat (zln u) (zev u) (zms u j) y wo n)).2.2.1 _ _ ∧ inR (zGs _ _ _ _ _ n (zGat (zln u) (zev u) (zms u j) y wo n)).2.2.2 _ _
    unfold zGs
    split
    · exact ⟨h1', h2, h3⟩
    · split
      · exact ⟨h1', h2, h3⟩
      · split
        · exact ⟨h1', h2, h3⟩
        · rename_i g1 g2 g3
          have hir := ((hO.2.2.2.2.2.1 j hj).1 n (by omega)).2 g2
          have hl := hO.2.2.2.1 n hir
          obtain ⟨k, hk1, -, hk3⟩ := z_ringv hl.2.1 g3
          have hv := hl.2.2.1 k hk1
          rw [← hk3] at hv
          obtain ⟨q, eq⟩ : ∃ z : zQ, z = zGat (zln u) (zev u) (zms u j) y wo n := ⟨_, rfl⟩
          rw [← eq] at h1 h2 h3 ⊢
          obtain ⟨v, ev⟩ : ∃ z : Int32, z = zRing (zln u n) (zev u n) (y - zms u j n) := ⟨_, rfl⟩
          rw [← ev] at hv ⊢
          refine ⟨?_, ?_, ?_⟩
          · have h9 := (z_addR h1 hv (by omega) (by omega) (by omega) (by omega)).1
            exact h9.w (by omega) (by omega)
          · show inR (if q.1 = 0 then v else zMin q.2.2.1 v) 0 400
            split
            · exact hv
            · exact zMin_in h2 hv
          · show inR (if q.1 = 0 then v else zMax q.2.2.2 v) 0 400
            split
            · exact hv
            · exact zMax_in h3 hv
theorem zAq_b {u : zS} (hO : zOk u) {j : Nat} (hj : j < zmn u) (y wo : Int32) : inR (zAq (zGat (zln u) (zev u) (zms u j) y wo 10)) (-4000) 4000 := by
  obtain ⟨h1, h2, h3⟩ := zGat_b hO hj (y := y) (wo := wo) 10 (by omega)
  unfold zAq zAns
  split
  · exact ⟨by decide, by decide⟩
  · split
    · exact z_div (h1.w (by omega) (by omega)) (by omega)
    · refine z_div ?_ (by omega)
      exact (z_subR (z_subR h1 h2 (by omega) (by omega) (by omega) (by omega)) h3 (by omega) (by omega) (by omega) (by omega)).w (by omega) (by omega)
theorem zVz_b {u : zS} (hO : zOk u) {j : Nat} (hj : j < zmn u) (y : Int) : inR (zVz u j y) (-4000) 4000 := by
  unfold zVz
  split
  · exact ⟨by decide, by decide⟩
  · exact zAq_b hO hj _ _
theorem zDist_b {ev v : Nat → Int32} : ∀ n, n ≤ 30 → (∀ k, k < n → inR (ev k) 0 400) → (∀ k, k < n → inR (v k) (-4000) 4000) → inR (zDist ev v n).1 0 (4400 * n) ∧ ∃ t : Nat, (zDist ev v n).2 = nI t ∧ t ≤ n
  | 0, _, _, _ => ⟨(show inR 0 0 0 from ⟨by decide, by decide⟩), 0, rfl, Nat.le_refl 0⟩
  | n + 1, hn, h1, h2 => by
    obtain ⟨a, t, b, c⟩ := zDist_b (ev := ev) (v := v) n (by omega) (fun k hk => h1 k (by omega)) (fun k hk => h2 k (by omega))
    show inR (if v n = -1 then zDist ev v n else ((zDist ev v n).1 + zAbs (ev n - v n), (zDist ev v n).2 + 1)).1 _ _ ∧ ∃ t : Nat, (if v n = -1 then zDist ev v n else ((zDist ev v n).1 + zAbs (ev n - v n), (zDist ev v n).2 + 1)).2 = nI t ∧ t ≤ n + 1
    split
    · exact ⟨a.w (by omega) (by omega), t, b, by omega⟩
    · have h3 := z_absR (m := 4400) ((z_subR (h1 n (by omega)) (h2 n (by omega)) (by omega) (by omega) (by omega) (by omega)).w (by omega) (by omega)) (by omega)
      exact ⟨(z_addR a h3 (by omega) (by omega) (by omega) (by omega)).1.w (by omega) (by omega), t + 1, by show (zDist ev v n).2 + 1 = _; rw [b, nI_1], by omega⟩
theorem zMea_b {u : zS} (hO : zOk u) {i j : Nat} (hi : i < zrn u) (hj : j < zmn u) (y : Int) : inR (zMea u i j y).1 0 132000 ∧ ∃ t : Nat, (zMea u i j y).2 = nI t ∧ t ≤ 30 := by
  have hl := hO.2.2.2.1 i hi
  obtain ⟨a, t, b, c⟩ := zDist_b (ev := zev u i) (v := fun k => zVz u j (y + k)) (zln u i) hl.2.1 hl.2.2.1 (fun k _ => zVz_b hO hj _)
  exact ⟨a.w (by omega) (by omega), t, b, by omega⟩
theorem zNea_v {u : zS} {i j : Nat} {w : Int32} {y0 : Int} : ∀ n, zNea u i j w y0 n = (-1000, 0, 0) ∨ ∃ y : Int, (zNea u i j w y0 n).2 = zMea u i j y ∧ ¬ (zMea u i j y).2 < w
  | 0 => Or.inl rfl
  | n + 1 => by
    have ih := zNea_v (u := u) (i := i) (j := j) (w := w) (y0 := y0) n
    show zNst w (Int32.ofInt (y0 + n)) (zMea u i j (y0 + n)) (zNea u i j w y0 n) = _ ∨ ∃ y : Int, (zNst w (Int32.ofInt (y0 + n)) (zMea u i j (y0 + n)) (zNea u i j w y0 n)).2 = _ ∧ _
    unfold zNst
    split
    · exact ih
    · rename_i h
      split
      · exact Or.inr ⟨_, rfl, h⟩
      · exact ih
abbrev zL : Int := 2329089562800
theorem zL_d : ∀ n : Nat, n < 31 → 0 < n → (zL / (n : Int)) * (n : Int) = zL ∧ 0 < zL / (n : Int) := by decide +kernel
def zGd (t : zN3) : Prop := inR t.2.1 0 132000 ∧ ∃ n : Nat, t.2.2 = nI n ∧ 0 < n ∧ n ≤ 30
theorem zDat_gd {u : zS} (hO : zOk u) {i j : Nat} (hi : i < zrn u) (hj : j < zmn u) {w : Int32} (hw : zLe w) (h : (zDat u i j w).1 ≠ -1000) : zGd (zDat u i j w) := by
  unfold zDat at h ⊢
  rcases zNea_v (u := u) (i := i) (j := j) (w := w) (y0 := zY0 u i j) (zYN u i j) with h1 | ⟨y, h1, h2⟩
  · rw [h1] at h
    exact absurd rfl h
  · obtain ⟨a, t, b, c⟩ := zMea_b hO hi hj y
    unfold zGd
    rw [h1]
    refine ⟨a, t, b, ?_, c⟩
    rw [b] at h2
    refine Nat.pos_of_ne_zero fun h3 => h2 ?_
    rw [h3, z_lt0]
    have h4 := z_le0.mp (Int32.not_lt.mp hw.1)
    have h5 : (2 : Int32).toInt = 2 := rfl
    show (0 : Int) < _
    omega
def zKy (t : zN3) : Int := t.2.1.toInt * (zL / t.2.2.toInt)
theorem z_cross {s1 n1 s2 n2 a b : Int} (ha : a * n1 = zL ∧ 0 < a) (hb : b * n2 = zL ∧ 0 < b) : s1 * n2 < s2 * n1 ↔ s1 * a < s2 * b := by
  have hab : 0 < a * b := Int.mul_pos ha.2 hb.2
  have e1 : s1 * n2 * (a * b) = s1 * a * zL := by rw [← hb.1]; ac_rfl
  have e2 : s2 * n1 * (a * b) = s2 * b * zL := by rw [← ha.1]; ac_rfl
  have hL : (0 : Int) < zL := by decide
  rw [← Int.mul_lt_mul_right hab, e1, e2, Int.mul_lt_mul_right hL]
theorem z_mulR {x y : Int32} (hx : inR x 0 132000) {n : Nat} (hy : y = nI n) (hn : n ≤ 30) : (x * y).toInt = x.toInt * y.toInt := by
  have e1 := hx.1
  have e2 := hx.2
  have e3 : y.toInt = n := by rw [hy, nI_toInt (by omega)]
  rw [Int32.toInt_mul, e3]
  have h1 : 0 ≤ x.toInt * (n : Int) := Int.mul_nonneg e1 (by omega)
  have h2 : x.toInt * (n : Int) ≤ 132000 * 30 := Int.mul_le_mul e2 (by omega) (by omega) (by omega)
  exact Int.bmod_eq_of_le (by omega) (by omega)
theorem zLess_k {a b : zN3} (ha : zGd a) (hb : zGd b) : zLess a.2.1 a.2.2 b.2.1 b.2.2 ↔ (zKy a < zKy b ∨ (zKy a = zKy b ∧ b.2.2.toInt < a.2.2.toInt)) := by
  obtain ⟨s1, n1, e1, p1, l1⟩ := ha
  obtain ⟨s2, n2, e2, p2, l2⟩ := hb
  have t1 : a.2.2.toInt = n1 := by rw [e1, nI_toInt (by omega)]
  have t2 : b.2.2.toInt = n2 := by rw [e2, nI_toInt (by omega)]
  have m1 := z_mulR s1 e2 l2
  have m2 := z_mulR s2 e1 l1
  have c1 := z_cross (s1 := a.2.1.toInt) (s2 := b.2.1.toInt) (zL_d n1 (by omega) p1) (zL_d n2 (by omega) p2)
  have c2 := z_cross (s1 := b.2.1.toInt) (s2 := a.2.1.toInt) (zL_d n2 (by omega) p2) (zL_d n1 (by omega) p1)
  have k1 : zKy a = a.2.1.toInt * (zL / (n1 : Int)) := by unfold zKy; rw [t1]
  have k2 : zKy b = b.2.1.toInt * (zL / (n2 : Int)) := by unfold zKy; rw [t2]
  rw [← k1, ← k2] at c1
  rw [← k1, ← k2] at c2
  have q : (a.2.1 * b.2.2 = b.2.1 * a.2.2) ↔ (a.2.1 * b.2.2).toInt = (b.2.1 * a.2.2).toInt := Int32.toInt_inj.symm
  unfold zLess
  rw [z_lt0, q, z_lt0, m1, m2, t1, t2]
  generalize a.2.1.toInt * (n2 : Int) = x1 at *
  generalize b.2.1.toInt * (n1 : Int) = x2 at *
  generalize zKy a = y1 at *
  generalize zKy b = y2 at *
  omega
def zKk (T : Nat → zN3) (i : Nat) : Int := zKy (T i) * 1000 + (30 - (T i).2.2.toInt) * 8 + i
theorem zBef_k {T : Nat → zN3} {i n0 : Nat} (hi : zGd (T i)) (hn : zGd (T n0)) (h1 : i < 8) (h2 : n0 < 8) : (zLess (T i).2.1 (T i).2.2 (T n0).2.1 (T n0).2.2 ∨ (¬ zLess (T n0).2.1 (T n0).2.2 (T i).2.1 (T i).2.2 ∧ i < n0)) ↔ zKk T i < zKk T n0 := by
  rw [zLess_k hi hn, zLess_k hn hi]
  obtain ⟨-, n1, e1, p1, l1⟩ := hi
  obtain ⟨-, n2, e2, p2, l2⟩ := hn
  have t1 : (T i).2.2.toInt = n1 := by rw [e1, nI_toInt (by omega)]
  have t2 : (T n0).2.2.toInt = n2 := by rw [e2, nI_toInt (by omega)]
  unfold zKk
  rw [t1, t2]
  generalize zKy (T i) = y1
  generalize zKy (T n0) = y2
  omega
def zCk (T : Nat → zN3) (x : Int) : Nat → Nat
  | 0 => 0
  | i + 1 => if (T i).1 ≠ -1000 ∧ zKk T i < x then zCk T x i + 1 else zCk T x i
theorem zNr_k {T : Nat → zN3} {mn n0 : Nat} (hG : ∀ i, i < mn → (T i).1 ≠ -1000 → zGd (T i)) (hm : mn ≤ 8) (h0 : n0 < mn) (hd : (T n0).1 ≠ -1000) : ∀ n, n ≤ mn → zNr T n0 n = zCk T (zKk T n0) n
  | 0, _ => rfl
  | n + 1, hn => by
    have ih := zNr_k hG hm h0 hd n (by omega)
    unfold zNr zCk
    rw [ih]
    by_cases h1 : n = n0
    · rw [if_pos (Or.inl h1), if_neg]
      rw [h1]
      omega
    · by_cases h2 : (T n).1 = -1000
      · rw [if_pos (Or.inr h2), if_neg (fun h9 => h9.1 h2)]
      · rw [if_neg (fun h9 => h9.elim h1 h2)]
        have hb := zBef_k (hG n (by omega) h2) (hG n0 h0 hd) (by omega) (by omega)
        by_cases h3 : zKk T n < zKk T n0
        · rw [if_pos (hb.mpr h3), if_pos ⟨h2, h3⟩]
        · rw [if_neg (fun h9 => h3 (hb.mp h9)), if_neg (fun h9 => h3 h9.2)]
theorem zCk_le {T : Nat → zN3} {x y : Int} (h : x ≤ y) : ∀ n, zCk T x n ≤ zCk T y n
  | 0 => Nat.le_refl 0
  | n + 1 => by
    have ih := zCk_le (T := T) h n
    unfold zCk
    by_cases h1 : (T n).1 ≠ -1000 ∧ zKk T n < x
    · rw [if_pos h1, if_pos ⟨h1.1, by omega⟩]
      omega
    · rw [if_neg h1]
      split <;> omega
theorem zCk_lt {T : Nat → zN3} {x y : Int} (h : x ≤ y) : ∀ n m, m < n → (T m).1 ≠ -1000 → x ≤ zKk T m → zKk T m < y → zCk T x n < zCk T y n
  | 0, m, hm, _, _, _ => absurd hm (by omega)
  | n + 1, m, hm, hd, h1, h2 => by
    unfold zCk
    by_cases h3 : m = n
    · subst h3
      have := zCk_le (T := T) h m
      rw [if_neg (by omega), if_pos ⟨hd, h2⟩]
      omega
    · have ih := zCk_lt h n m (by omega) hd h1 h2
      by_cases h4 : (T n).1 ≠ -1000 ∧ zKk T n < x
      · rw [if_pos h4, if_pos ⟨h4.1, by omega⟩]
        omega
      · rw [if_neg h4]
        split <;> omega
theorem zNr_inj {T : Nat → zN3} {mn a b : Nat} (hG : ∀ i, i < mn → (T i).1 ≠ -1000 → zGd (T i)) (hm : mn ≤ 8) (ha : a < mn) (hb : b < mn) (da : (T a).1 ≠ -1000) (db : (T b).1 ≠ -1000) (h : zNr T a mn = zNr T b mn) : a = b := by
  rw [zNr_k hG hm ha da mn (Nat.le_refl _), zNr_k hG hm hb db mn (Nat.le_refl _)] at h
  have hk : zKk T a = zKk T b := by
    rcases Int.lt_trichotomy (zKk T a) (zKk T b) with h1 | h1 | h1
    · have := zCk_lt (T := T) (Int.le_of_lt h1) mn a ha da (Int.le_refl _) h1
      omega
    · exact h1
    · have := zCk_lt (T := T) (Int.le_of_lt h1) mn b hb db (Int.le_refl _) h1
      omega
  obtain ⟨-, n1, e1, p1, l1⟩ := hG a ha da
  obtain ⟨-, n2, e2, p2, l2⟩ := hG b hb db
  have t1 : (T a).2.2.toInt = n1 := by rw [e1, nI_toInt (by omega)]
  have t2 : (T b).2.2.toInt = n2 := by rw [e2, nI_toInt (by omega)]
  unfold zKk at hk
  rw [t1, t2] at hk
  generalize zKy (T a) = y1 at hk
  generalize zKy (T b) = y2 at hk
  omega
def zFo (T : Nat → zN3) (mn : Nat) (k : Int32) : Nat → Int32
  | 0 => -1
  | n + 1 => if (T n).1 ≠ -1000 ∧ nI (zNr T n mn) = k then nI n else zFo T mn k n
theorem zSrc_sp {T : Nat → zN3} {mn : Nat} {k : Int32} : ∀ n r, zSrc T mn k n = some r → r < n ∧ (T r).1 ≠ -1000 ∧ nI (zNr T r mn) = k
  | 0, r, h => by cases h
  | n + 1, r, h => by
    have hs : zSrc T mn k (n + 1) = match zSrc T mn k n with | some r => some r | none => if (T n).1 ≠ -1000 ∧ nI (zNr T n mn) = k then some n else none := rfl
    cases hk : zSrc T mn k n with
    | some r0 =>
      rw [hs, hk] at h
      have h9 : r0 = r := Option.some.inj h
      subst h9
      have ih := zSrc_sp n r0 hk
      exact ⟨by omega, ih.2⟩
    | none =>
      rw [hs, hk] at h
      have h : (if (T n).1 ≠ -1000 ∧ nI (zNr T n mn) = k then some n else none) = some r := h
      by_cases h1 : (T n).1 ≠ -1000 ∧ nI (zNr T n mn) = k
      · rw [if_pos h1] at h
        have h9 := Option.some.inj h
        subst h9
        exact ⟨by omega, h1⟩
      · rw [if_neg h1] at h
        cases h
theorem zFo_src {T : Nat → zN3} {mn : Nat} {k : Int32} (hG : ∀ i, i < mn → (T i).1 ≠ -1000 → zGd (T i)) (hm : mn ≤ 8) : ∀ n, n ≤ mn → zFo T mn k n = zAnsS (zSrc T mn k n)
  | 0, _ => rfl
  | n + 1, hn => by
    have ih := zFo_src (k := k) hG hm n (by omega)
    have hs : zSrc T mn k (n + 1) = match zSrc T mn k n with | some r => some r | none => if (T n).1 ≠ -1000 ∧ nI (zNr T n mn) = k then some n else none := rfl
    show (if (T n).1 ≠ -1000 ∧ nI (zNr T n mn) = k then nI n else zFo T mn k n) = _
    cases hk : zSrc T mn k n with
    | some r =>
      obtain ⟨h1, h2, h3⟩ := zSrc_sp n r hk
      rw [hs, hk, ih, hk, if_neg]
      intro h4
      have l1 := zNr_le T n mn
      have l2 := zNr_le T r mn
      have h5 : zNr T n mn = zNr T r mn := (nI_eq (by omega) (by omega)).mp (h4.2.trans h3.symm)
      have := zNr_inj hG hm (by omega) (by omega) h4.1 h2 h5
      omega
    | none =>
      rw [hs, hk, ih, hk]
      by_cases h1 : (T n).1 ≠ -1000 ∧ nI (zNr T n mn) = k
      · rw [if_pos h1]
        simp only [if_pos h1]
        rfl
      · rw [if_neg h1]
        simp only [if_neg h1]
def zAh (D S C : Nat → Int32) (n0 : Nat) : Nat → Nat
  | 0 => 0
  | o + 1 => if ¬ D o = -1000 ∧ (zLess (S o) (C o) (S n0) (C n0) ∨ (¬ zLess (S n0) (C n0) (S o) (C o) ∧ o < n0)) then zAh D S C n0 o + 1 else zAh D S C n0 o
theorem zAh_nr {T : Nat → zN3} {D S C : Nat → Int32} {mn n0 : Nat} (h : ∀ o, o < mn → D o = (T o).1 ∧ ((T o).1 ≠ -1000 → S o = (T o).2.1 ∧ C o = (T o).2.2)) (h0 : n0 < mn) (hd : (T n0).1 ≠ -1000) : ∀ n, n ≤ mn → zAh D S C n0 n = zNr T n0 n
  | 0, _ => rfl
  | n + 1, hn => by
    have ih := zAh_nr h h0 hd n (by omega)
    unfold zAh zNr
    rw [ih, (h n (by omega)).1, ((h n0 h0).2 hd).1, ((h n0 h0).2 hd).2]
    by_cases h1 : (T n).1 = -1000
    · rw [if_neg (fun h9 => h9.1 h1), if_pos (Or.inr h1)]
    · rw [((h n (by omega)).2 h1).1, ((h n (by omega)).2 h1).2]
      by_cases h2 : n = n0
      · rw [if_pos (Or.inl h2), if_neg]
        rw [h2]
        rintro ⟨-, (h9 | ⟨h8, h9⟩) | ⟨-, h9⟩⟩
        · exact absurd h9 (Int32.lt_irrefl)
        · exact absurd h9 (Int32.lt_irrefl)
        · omega
      · rw [if_neg (show ¬ (n = n0 ∨ (T n).1 = -1000) from fun h9 => h9.elim h2 h1)]
        by_cases h3 : zLess (T n).2.1 (T n).2.2 (T n0).2.1 (T n0).2.2 ∨ (¬ zLess (T n0).2.1 (T n0).2.2 (T n).2.1 (T n).2.2 ∧ n < n0)
        · rw [if_pos ⟨h1, h3⟩, if_pos h3]
        · rw [if_neg (fun h9 => h3 h9.2), if_neg h3]
end YC
