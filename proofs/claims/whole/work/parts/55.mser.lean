section YB
theorem g_ser (u : zS) : zGo (zBo (zrn u < 10)) 1 1 = nI (fSer u).1 := by
  unfold fSer
  by_cases h1 : 10 ≤ zrn u
  · rw [if_pos h1, zBo_f (by omega)]; rfl
  · rw [if_neg h1, zBo_t (by omega)]
    split <;> rfl
theorem z_min400 (v : Int32) : (v ≤ 400 → zMin 400 v = v) ∧ (¬ v ≤ 400 → zMin 400 v = 400) := by
  unfold zMin
  constructor
  · intro h
    by_cases h2 : v < 400
    · rw [if_pos h2]
    · rw [if_neg h2]
      exact Int32.le_antisymm (Int32.not_lt.mp h2) h
  · intro h
    rw [if_neg (fun h2 => h (Int32.le_of_lt h2))]
theorem MoR.ser {u : zS} {X : zX} (h : MoR u X) (hO : zOk u) (hr : zrn u < 10) {E F : Nat → Int32} (h1 : ∀ t, t < 30 * zrn u → E t = mEv X t) (h2 : ∀ k, k < zpn u → E (30 * zrn u + k) = zEvn (zpd u) (zpn u) k) (h3 : ∀ k, k < zpn u → F k = zEvn (zpd u) (zpn u) k) :
    MoR (uSer u F) (mPd X, upd (mSz X) (zrn u) (nI (zpn u)), E, X.2.2.2) := by
  obtain ⟨a1, a2, a3, a4, a5⟩ := h
  refine ⟨fun k hk => absurd hk (Nat.not_lt_zero k), fun i hi => ?_, fun i hi h9 => ?_, fun j hj => ?_, a5⟩
  · have hi : i < zrn u + 1 := hi
    by_cases h9 : i = zrn u
    · subst h9
      have s1 : zst (uSer u F) (zrn u) = -1 := va_up_self _ _ _
      have s2 : zln (uSer u F) (zrn u) = zpn u := va_up_self _ _ _
      have s3 : zev (uSer u F) (zrn u) = F := va_up_self _ _ _
      rw [s1, s2, s3]
      exact ⟨pk_us, fun k hk => (h2 k hk).trans (h3 k hk).symm, a3 _ (Nat.le_refl _) hr⟩
    · have s1 : zst (uSer u F) i = zst u i := va_up_ne _ _ h9
      have s2 : zln (uSer u F) i = zln u i := va_up_ne _ _ h9
      have s3 : zev (uSer u F) i = zev u i := va_up_ne _ _ h9
      rw [s1, s2, s3]
      obtain ⟨b1, b2, b3⟩ := a2 i (by omega)
      have hl := (hO.2.2.2.1 i (by omega)).2.1
      refine ⟨(pk_un h9).trans b1, fun k hk => ?_, b3⟩
      exact (h1 _ (by omega)).trans (b2 k hk)
  · have hi : zrn u + 1 ≤ i := hi
    exact a3 i (by omega) h9
  · obtain ⟨b1, b2, b3⟩ := a4 j hj
    refine ⟨b1, b2, b3.trans (zLst_c 10 fun i hi => ?_).symm⟩
    by_cases h9 : zms u j i = -1
    · exact Or.inl h9
    · have := ((hO.2.2.2.2.2.1 j hj).1 i hi).2 h9
      exact Or.inr (va_up_ne _ _ (by omega))
theorem zTot_c {f g : Nat → Int32} : ∀ n, (∀ k, k < n → f k = g k) → zTot f n = zTot g n
  | 0, _ => rfl
  | n + 1, h => by
    show zTot f n + f n = zTot g n + g n
    rw [zTot_c n fun k hk => h k (by omega), h n (by omega)]
theorem g_mas (u : zS) (st : Int32) : zGo (zBo (zmn u < 8)) (zBo (¬ st < 0 ∧ ¬ 1023 < st)) 1 = nI (fMas u st).1 := by
  unfold fMas
  by_cases h1 : 8 ≤ zmn u
  · rw [if_pos h1, zBo_f (by omega)]; rfl
  · rw [if_neg h1, zBo_t (by omega)]
    by_cases h2 : st < 0 ∨ 1023 < st
    · rw [if_pos h2, zBo_f (fun h => h2.elim h.1 h.2)]; rfl
    · rw [if_neg h2, zBo_t ⟨fun h => h2 (Or.inl h), fun h => h2 (Or.inr h)⟩]
      split <;> rfl
def zFi (b : Nat → Int32) (k : Nat) : Int32 := if zMk b k = 0 then 9999 else zFst b k
def zLa (ln : Nat → Nat) (b : Nat → Int32) (k : Nat) : Int32 := if zMk b k = 0 then -1 else zLst ln b k
theorem zMk_0 {ln : Nat → Nat} {b : Nat → Int32} : ∀ k, zMk b k = 0 → zFst b k = 500 ∧ zLst ln b k = 0
  | 0, _ => ⟨rfl, rfl⟩
  | k + 1, h => by
    have h9 : (if b k = -1 then zMk b k else zMk b k + 2 ^ k) = 0 := h
    have hp := Nat.two_pow_pos k
    by_cases h1 : b k = -1
    · rw [if_pos h1] at h9
      obtain ⟨h2, h3⟩ := zMk_0 (ln := ln) k h9
      unfold zFst zLst
      rw [if_pos h1, if_pos h1]
      exact ⟨h2, h3⟩
    · rw [if_neg h1] at h9
      omega
theorem zFi_skip {b : Nat → Int32} {k : Nat} (h : b k = -1) : zFi b (k + 1) = zFi b k := by
  unfold zFi
  show (if (if b k = -1 then zMk b k else zMk b k + 2 ^ k) = 0 then 9999 else (if b k = -1 then zFst b k else _)) = _
  rw [if_pos h, if_pos h]
theorem zLa_skip {ln : Nat → Nat} {b : Nat → Int32} {k : Nat} (h : b k = -1) : zLa ln b (k + 1) = zLa ln b k := by
  unfold zLa
  show (if (if b k = -1 then zMk b k else zMk b k + 2 ^ k) = 0 then -1 else (if b k = -1 then zLst ln b k else _)) = _
  rw [if_pos h, if_pos h]
theorem zFi_take {b : Nat → Int32} {k : Nat} (h : ¬ b k = -1) (hb : inR (b k) 0 500) : zFi b (k + 1) = if zFi b k ≤ b k then zFi b k else b k := by
  have e1 : zFi b (k + 1) = zMin (zFst b k) (b k) := by
    unfold zFi
    show (if (if b k = -1 then zMk b k else zMk b k + 2 ^ k) = 0 then 9999 else (if b k = -1 then zFst b k else zMin (zFst b k) (b k))) = _
    have hp := Nat.two_pow_pos k
    rw [if_neg h, if_neg h, if_neg (by omega)]
  rw [e1]
  unfold zFi
  have h5 : (500 : Int32).toInt = 500 := rfl
  have h6 : (9999 : Int32).toInt = 9999 := rfl
  by_cases h2 : zMk b k = 0
  · rw [if_pos h2, (zMk_0 (ln := fun _ => 0) k h2).1, if_neg (by rw [z_le0, h6]; have := hb.2; omega)]
    unfold zMin
    by_cases h3 : b k < 500
    · rw [if_pos h3]
    · rw [if_neg h3]
      refine (Int32.toInt_inj.mp ?_).symm
      rw [z_lt0, h5] at h3
      have := hb.2
      omega
  · rw [if_neg h2]
    unfold zMin
    by_cases h3 : b k < zFst b k
    · rw [if_pos h3, if_neg (z_nle h3)]
    · rw [if_neg h3, if_pos (Int32.not_lt.mp h3)]
theorem zLa_take {ln : Nat → Nat} {b : Nat → Int32} {k : Nat} (h : ¬ b k = -1) (hb : inR (b k) 0 500) (h1 : 3 ≤ ln k) (h2 : ln k ≤ 30) : zLa ln b (k + 1) = if b k + nI (ln k) - 1 ≤ zLa ln b k then zLa ln b k else b k + nI (ln k) - 1 := by
  have e1 : zLa ln b (k + 1) = zMax (zLst ln b k) (b k + nI (ln k) - 1) := by
    unfold zLa
    show (if (if b k = -1 then zMk b k else zMk b k + 2 ^ k) = 0 then -1 else (if b k = -1 then zLst ln b k else zMax (zLst ln b k) (b k + nI (ln k) - 1))) = _
    have hp := Nat.two_pow_pos k
    rw [if_neg h, if_neg h, if_neg (by omega)]
  rw [e1]
  obtain ⟨t, et, ht, ex⟩ := z_last hb (by omega) h2
  rw [ex]
  unfold zLa
  by_cases h3 : zMk b k = 0
  · rw [if_pos h3, (zMk_0 (ln := ln) k h3).2, if_neg (by rw [z_le0, nI_toInt (by omega)]; show ¬ _ ≤ (-1 : Int); omega)]
    unfold zMax
    rw [if_pos (by rw [z_lt0, nI_toInt (by omega)]; show (0 : Int) < _; omega)]
  · rw [if_neg h3]
    unfold zMax
    by_cases h4 : zLst ln b k < nI (t + ln k - 1)
    · rw [if_pos h4, if_neg (z_nle h4)]
    · rw [if_neg h4, if_pos (Int32.not_lt.mp h4)]
theorem MoR.lay {u : zS} {X : zX} (h : MoR u X) {L : Nat → Int32} (h1 : ∀ t, t < 10 * zmn u → L t = mLy X t) : MoR u (mPd X, mSz X, mEv X, mPl X, L, X.2.2.2.2.2) := by
  obtain ⟨a1, a2, a3, a4, a5⟩ := h
  refine ⟨a1, a2, a3, fun j hj => ?_, a5⟩
  obtain ⟨b1, b2, b3⟩ := a4 j hj
  exact ⟨fun i hi => (h1 _ (by omega)).trans (b1 i hi), b2, b3⟩
theorem MoR.mas {u : zS} {X : zX} (h : MoR u X) {L B : Nat → Int32} (h1 : ∀ t, t < 10 * zmn u → L t = mLy X t) {b : Nat → Int32} (h2 : ∀ i, i < 10 → L (10 * zmn u + i) = b i) (h3 : ∀ i, i < 10 → B i = b i) (hne : ¬ zMk b 10 = 0) :
    MoR (uMas u B) (mPd X, mSz X, mEv X, mPl X, L, upd (mFi X) (zmn u) (zFi b 10), upd (mLa X) (zmn u) (zLa (zln u) b 10), mWt X) := by
  obtain ⟨a1, a2, a3, a4, a5⟩ := h
  refine ⟨a1, a2, a3, fun j hj => ?_, a5⟩
  have hj : j < zmn u + 1 := hj
  by_cases h9 : j = zmn u
  · subst h9
    have s1 : zms (uMas u B) (zmn u) = B := va_up_self _ _ _
    rw [s1]
    refine ⟨fun i hi => (h2 i hi).trans (h3 i hi).symm, ?_, ?_⟩
    · show upd (mFi X) (zmn u) (zFi b 10) (zmn u) = _
      rw [pk_us, zFst_cg 10 h3]
      unfold zFi
      rw [if_neg hne]
    · show upd (mLa X) (zmn u) (zLa (zln u) b 10) (zmn u) = zLst (zln u) B 10
      rw [pk_us, zLst_cg 10 h3]
      unfold zLa
      rw [if_neg hne]
  · have s1 : zms (uMas u B) j = zms u j := va_up_ne _ _ h9
    rw [s1]
    obtain ⟨b1, b2, b3⟩ := a4 j (by omega)
    exact ⟨fun i hi => (h1 _ (by omega)).trans (b1 i hi), (pk_un h9).trans b2, (pk_un h9).trans b3⟩
theorem zB_in {u : zS} (hO : zOk u) (st : Int32) (i : Nat) : inR (zB u st i) (-1) 500 ∧ (zB u st i ≠ -1 → i < zrn u ∧ zB u st i = zst u i) := by
  unfold zB
  by_cases h : i < zrn u ∧ ((st >>> (nI i &&& 31)) &&& 1) = 1
  · rw [if_pos h]
    exact ⟨(hO.2.2.2.1 i h.1).2.2.2, fun _ => ⟨h.1, rfl⟩⟩
  · rw [if_neg h]
    exact ⟨⟨by decide, by decide⟩, fun h9 => absurd rfl h9⟩
theorem zMk_B {u : zS} (hO : zOk u) (st : Int32) : zMk (zB u st) 10 = zMk (zB u st) (zrn u) := by
  have h := zMk_ext (b := zB u st) (n := zrn u) (fun i hi => zB_ge hi) (10 - zrn u)
  rw [show zrn u + (10 - zrn u) = 10 by have := hO.2.2.1; omega] at h
  exact h
theorem zLa_no {u : zS} (hO : zOk u) (st : Int32) : zLa (zln u) (zB u st) 10 = -1 ↔ zMk (zB u st) (zrn u) = 0 := by
  rw [← zMk_B hO]
  unfold zLa
  by_cases h : zMk (zB u st) 10 = 0
  · rw [if_pos h]
    exact ⟨fun _ => h, fun _ => rfl⟩
  · rw [if_neg h]
    refine ⟨fun h9 => ?_, fun h9 => absurd h9 h⟩
    have h8 := (zLst_in (ln := zln u) (b := zB u st) 10 fun i _ => ⟨(zB_in hO st i).1, fun h7 => by
      have := hO.2.2.2.1 i ((zB_in hO st i).2 h7).1
      exact ⟨by omega, by omega⟩⟩).1
    rw [h9] at h8
    exact absurd h8 (by decide)
end YB
