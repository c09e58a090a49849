section ZS
def zAbs (x : Int32) : Int32 := if 0 ≤ x then x else 0 - x
def zMin (x y : Int32) : Int32 := if y < x then y else x
def zMax (x y : Int32) : Int32 := if x < y then y else x
abbrev zLess (s1 n1 s2 n2 : Int32) : Prop := s1 * n2 < s2 * n1 ∨ (s1 * n2 = s2 * n1 ∧ n2 < n1)
def zAns (t s lo hi : Int32) : Int32 := if ¬ 0 < t then -1 else if ¬ 2 < t then s / t else (s - lo - hi) / (t - 2)
def zRing (n : Nat) (f : Nat → Int32) (k : Int32) : Int32 := if k < 0 then -1 else if nI n ≤ k then -1 else f k.toNatClampNeg
theorem z_ix {x : Int32} {n : Nat} (h0 : ¬ x < 0) (h : ¬ nI n ≤ x) (hn : n < 2 ^ 31) : x.toNatClampNeg < n ∧ x = nI x.toNatClampNeg := by
  obtain ⟨j, h1, h2, -, h4, -⟩ := pk_mu h0 h hn
  rw [h4]
  exact ⟨h1, h2⟩
theorem z_m2 {t : Int32} (h : t - 2 = 0) : t = 2 := by
  have := congrArg (· + 2) h
  simpa using this
theorem kJ_abs : Cond.code Lib.Math.abs.name Lib.Math.abs.code 1 (some .int) ∈ wW := by decide +kernel
theorem kJ_min : Cond.code Lib.Math.min.name Lib.Math.min.code 2 (some .int) ∈ wW := by decide +kernel
theorem kJ_max : Cond.code Lib.Math.max.name Lib.Math.max.code 2 (some .int) ∈ wW := by decide +kernel
theorem kJ_abs' : Cond.static Lib.Math.abs.name ∈ wW := by decide +kernel
theorem kJ_min' : Cond.static Lib.Math.min.name ∈ wW := by decide +kernel
theorem kJ_max' : Cond.static Lib.Math.max.name ∈ wW := by decide +kernel
theorem kJ_M : Cond.initialized "java/lang/Math" ∈ wW := by decide +kernel
end ZS
