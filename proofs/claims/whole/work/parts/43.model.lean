section ZQ
theorem x_cut {p : Program} {l : Launch} {e : Env} {R : Room} {s : State} {m : MethodId} {args : Array Value} {below : List Frame} {meth : Method} {c : Code} {H : Heap} {locs : List Loc} {cells slots : Nat} {Q : State → Prop} {g : JFrame} {ls : Array Slot} (J : Nat) (rest : List Value) (P : Int32 → Prop)
    (kk : ∀ v : Int32, P v → W p l e R s m args below meth c H locs cells slots Q (F0 m J ls (.int v :: rest))) (h : (∀ v : Int32, P v → W p l e R s m args below meth c H locs cells slots Q (F0 m J ls (.int v :: rest))) → W p l e R s m args below meth c H locs cells slots Q g) : W p l e R s m args below meth c H locs cells slots Q g := h kk
abbrev zX : Type := (Nat → Int32) × (Nat → Int32) × (Nat → Int32) × (Nat → Int32) × (Nat → Int32) × (Nat → Int32) × (Nat → Int32) × (Nat → Int32)
abbrev mPd (X : zX) := X.1
abbrev mSz (X : zX) := X.2.1
abbrev mEv (X : zX) := X.2.2.1
abbrev mPl (X : zX) := X.2.2.2.1
abbrev mLy (X : zX) := X.2.2.2.2.1
abbrev mFi (X : zX) := X.2.2.2.2.2.1
abbrev mLa (X : zX) := X.2.2.2.2.2.2.1
abbrev mWt (X : zX) := X.2.2.2.2.2.2.2
abbrev z5 : Type := Int32 × Int32 × Int32 × Int32 × Int32
abbrev eMo (ad : Nat → Nat) (u : zS) (th : Int32) (q : z5) : va_E := .inr (5, [.int th, .int (nI (zpn u)), .ref (ad 101), .int (nI (zrn u)), .ref (ad 102), .ref (ad 103), .ref (ad 104), .int (nI (zmn u)), .ref (ad 105), .ref (ad 106), .ref (ad 107), .ref (ad 108), .int q.1, .int q.2.1, .int q.2.2.1, .int q.2.2.2.1, .int q.2.2.2.2, .ref (ad 109), .ref (ad 110), .ref (ad 111)])
def MoA (G : xG) (M : xM) (ad : Nat → Nat) (X : zX) : Prop := M (ad 101) = some (101, eI G 30 (mPd X)) ∧ M (ad 102) = some (102, eI G 10 (mSz X)) ∧ M (ad 103) = some (103, eI G 300 (mEv X)) ∧ M (ad 104) = some (104, eI G 10 (mPl X)) ∧ M (ad 105) = some (105, eI G 80 (mLy X)) ∧ M (ad 106) = some (106, eI G 8 (mFi X)) ∧ M (ad 107) = some (107, eI G 8 (mLa X)) ∧ M (ad 108) = some (108, eI G 61 (mWt X))
def MoS (G : xG) (M : xM) (ad : Nat → Nat) : Prop := (∃ f : Nat → Int32, M (ad 109) = some (109, eI G 8 f)) ∧ (∃ f : Nat → Int32, M (ad 110) = some (110, eI G 8 f)) ∧ ∃ f : Nat → Int32, M (ad 111) = some (111, eI G 8 f)
def MoR (u : zS) (X : zX) : Prop := (∀ k, k < zpn u → mPd X k = zpd u k) ∧ (∀ i, i < zrn u → mSz X i = nI (zln u i) ∧ (∀ k, k < zln u i → mEv X (30 * i + k) = zev u i k) ∧ mPl X i = zst u i) ∧ (∀ i, zrn u ≤ i → i < 10 → mPl X i = -1) ∧
  (∀ j, j < zmn u → (∀ i, i < 10 → mLy X (10 * j + i) = zms u j i) ∧ mFi X j = zFst (zms u j) 10 ∧ mLa X j = zLst (zln u) (zms u j) 10) ∧ ∀ i, i < 61 → mWt X i = zwt u i
def zGo (a b d : Int32) : Int32 := if a = 0 then 1 else if b = 0 then 2 else if d = 0 then 3 else 0
def zBo (P : Prop) [Decidable P] : Int32 := if P then 1 else 0
theorem zBo_ne {P : Prop} [Decidable P] : ¬ zBo P = 0 ↔ P := by
  unfold zBo
  by_cases h : P
  · rw [if_pos h]; exact ⟨fun _ => h, fun _ => by decide⟩
  · rw [if_neg h]; exact ⟨fun h9 => absurd rfl h9, fun h9 => absurd h9 h⟩
theorem zBo_t {P : Prop} [Decidable P] (h : P) : zBo P = 1 := if_pos h
theorem zBo_f {P : Prop} [Decidable P] (h : ¬ P) : zBo P = 0 := if_neg h
theorem zGo_0 {a b d : Int32} : zGo a b d = 0 ↔ ¬ a = 0 ∧ ¬ b = 0 ∧ ¬ d = 0 := by
  unfold zGo
  by_cases h1 : a = 0
  · rw [if_pos h1]; exact ⟨fun h => absurd h (by decide), fun h => absurd h1 h.1⟩
  · rw [if_neg h1]
    by_cases h2 : b = 0
    · rw [if_pos h2]; exact ⟨fun h => absurd h (by decide), fun h => absurd h2 h.2.1⟩
    · rw [if_neg h2]
      by_cases h3 : d = 0
      · rw [if_pos h3]; exact ⟨fun h => absurd h (by decide), fun h => absurd h3 h.2.2⟩
      · rw [if_neg h3]; exact ⟨fun _ => ⟨h1, h2, h3⟩, fun _ => rfl⟩
theorem z_pred {s : Int32} {n : Nat} (hn : n < 2 ^ 31) : (¬ s < 0 ∧ ¬ nI n - 1 < s) ↔ zIn s n := by
  constructor
  · intro ⟨h1, h2⟩
    refine ⟨h1, fun h3 => h2 ?_⟩
    obtain ⟨j, hj, rfl⟩ := nI_of h1
    have h4 := (nI_leI hn hj).mp h3
    cases n with
    | zero =>
      have h5 : nI 0 - 1 = -1 := by decide
      rw [h5]
      exact Int32.lt_of_lt_of_le (by decide) (Int32.not_lt.mp h1)
    | succ n =>
      rw [nI_pred]
      exact (nI_ltI (by omega) hj).mpr (by omega)
  · intro ⟨h1, h2⟩
    refine ⟨h1, fun h3 => h2 ?_⟩
    obtain ⟨j, hj, rfl⟩ := nI_of h1
    cases n with
    | zero => exact Int32.not_lt.mp h1
    | succ n =>
      rw [nI_pred] at h3
      have h4 := (nI_ltI (by omega) hj).mp h3
      exact (nI_leI hn hj).mpr (by omega)
theorem z_i30 (i j : Nat) : (30 : Int32) * nI i + nI j = nI (30 * i + j) := by rw [show (30 : Int32) = nI 30 from rfl, pk_mul, nI_add]
theorem z_i10 (i j : Nat) : (10 : Int32) * nI i + nI j = nI (10 * i + j) := by rw [show (10 : Int32) = nI 10 from rfl, pk_mul, nI_add]
end ZQ
