section YD
def zSm (g : Nat → Nat) (n : Nat) : Nat → Nat
  | 0 => 0
  | k + 1 => zSm g n k + g (n + k)
theorem zSm_le {g : Nat → Nat} {n : Nat} : ∀ k, n + k ≤ 61 → (∀ i, i < 61 → g i ≤ 10000) → zSm g n k ≤ 10000 * k
  | 0, _, _ => Nat.le_refl 0
  | k + 1, h, hg => by
    have ih := zSm_le (g := g) (n := n) k (by omega) hg
    have := hg (n + k) (by omega)
    show zSm g n k + g (n + k) ≤ _
    omega
theorem zSm_s (g : Nat → Nat) (n : Nat) : ∀ k, zSm g n (k + 1) = g n + zSm g (n + 1) k
  | 0 => by show 0 + g (n + 0) = g n + 0; rw [Nat.add_zero]; omega
  | k + 1 => by
    show zSm g n (k + 1) + g (n + (k + 1)) = g n + (zSm g (n + 1) k + g (n + 1 + k))
    rw [zSm_s g n k, show n + (k + 1) = n + 1 + k by omega]
    omega
abbrev zGG (g : Nat → Nat) (due be n k : Nat) : Prop := due ≤ zSm g n k * be
abbrev zWg (wt : Nat → Int32) (g : Nat → Nat) : Prop := ∀ k, k < 61 → wt k = nI (g k) ∧ g k ≤ 10000
theorem zAll_s {wt : Nat → Int32} {g : Nat → Nat} (hg : zWg wt g) : ∀ r n t, n + r ≤ 61 → zAll wt r n (lN t) = lN (t + zSm g n r)
  | 0, n, t, _ => rfl
  | r + 1, n, t, h => by
    show zAll wt r (n + 1) (lN t + (wt n).toInt64) = _
    have h1 := hg n (by omega)
    rw [h1.1, nI_l (by omega), lN_add, zAll_s hg r (n + 1) _ (by omega), zSm_s]
    congr 1
    omega
theorem zEnd_s {wt : Nat → Int32} {g : Nat → Nat} (hg : zWg wt g) {due be : Nat} (hd : due < 2 ^ 31) (hb : be ≤ 1000) : ∀ r n n0 j, n0 + j = n → n + r = 61 → (∀ k, 1 ≤ k → k ≤ j → ¬ zGG g due be n0 k) →
    (∃ e, n0 ≤ e ∧ e ≤ 60 ∧ zEnd wt (lN due) (lN be) r n (lN (zSm g n0 j)) = nI e ∧ zGG g due be n0 (e - n0 + 1) ∧ ∀ k, 1 ≤ k → k < e - n0 + 1 → ¬ zGG g due be n0 k) ∨ (zEnd wt (lN due) (lN be) r n (lN (zSm g n0 j)) = -1 ∧ ∀ k, 1 ≤ k → n0 + k ≤ 61 → ¬ zGG g due be n0 k)
  | 0, n, n0, j, h1, h2, h3 => Or.inr ⟨rfl, fun k k1 k2 => h3 k k1 (by omega)⟩
  | r + 1, n, n0, j, h1, h2, h3 => by
    have hgn := hg n (by omega)
    have e1 : lN (zSm g n0 j) + (wt n).toInt64 = lN (zSm g n0 (j + 1)) := by
      rw [hgn.1, nI_l (by omega), lN_add, ← h1]
      rfl
    have hle := zSm_le (g := g) (n := n0) (j + 1) (by omega) (fun i hi => (hg i hi).2)
    have hm : zSm g n0 (j + 1) * be ≤ 610000 * 1000 := Nat.mul_le_mul (by omega) hb
    have e2 : zEnd wt (lN due) (lN be) (r + 1) n (lN (zSm g n0 j)) = if zSm g n0 (j + 1) * be < due then zEnd wt (lN due) (lN be) r (n + 1) (lN (zSm g n0 (j + 1))) else nI n := by
      show (if (lN (zSm g n0 j) + (wt n).toInt64) * lN be < lN due then zEnd wt (lN due) (lN be) r (n + 1) (lN (zSm g n0 j) + (wt n).toInt64) else nI n) = _
      rw [e1, lN_mul]
      by_cases h9 : zSm g n0 (j + 1) * be < due
      · rw [if_pos ((lN_lt (by omega) hd).mpr h9), if_pos h9]
      · rw [if_neg (fun h8 => h9 ((lN_lt (by omega) hd).mp h8)), if_neg h9]
    rw [e2]
    by_cases h9 : zSm g n0 (j + 1) * be < due
    · rw [if_pos h9]
      refine zEnd_s hg hd hb r (n + 1) n0 (j + 1) (by omega) (by omega) fun k k1 k2 => ?_
      by_cases h8 : k = j + 1
      · rw [h8]
        exact Nat.not_le.mpr h9
      · exact h3 k k1 (by omega)
    · rw [if_neg h9]
      refine Or.inl ⟨n, by omega, by omega, rfl, ?_, fun k k1 k2 => h3 k k1 (by omega)⟩
      rw [show n - n0 + 1 = j + 1 by omega]
      exact Nat.not_lt.mp h9
abbrev zFi9 (g : Nat → Nat) (due be a F T : Nat) : Prop := a ≤ F ∧ F ≤ T ∧ T ≤ 60 ∧ zGG g due be F (T - F + 1)
abbrev zMi9 (g : Nat → Nat) (due be a n F T : Nat) : Prop := ∀ f k, a ≤ f → f < n → 1 ≤ k → f + k ≤ 61 → zGG g due be f k → T - F + 1 ≤ k ∧ (f < F → T - F + 1 < k)
theorem zShB_s {wt : Nat → Int32} {g : Nat → Nat} (hg : zWg wt g) {due be a : Nat} (hd : due < 2 ^ 31) (hb : be ≤ 1000) : ∀ r n F T, n + r = 61 → a ≤ n → zFi9 g due be a F T → (F < n ∨ F = a) → zMi9 g due be a n F T → ∃ F' T', zShB wt (lN due) (lN be) r n (nI F, nI T) = (nI F', nI T') ∧ zFi9 g due be a F' T' ∧ zMi9 g due be a 61 F' T'
  | 0, n, F, T, h1, _, h2, _, h3 => ⟨F, T, rfl, h2, by rw [show n = 61 by omega] at h3; exact h3⟩
  | r + 1, n, F, T, h1, han, h2, hFn, h3 => by
    obtain ⟨f1, f2, f3, f4⟩ := h2
    obtain ⟨en, een⟩ : ∃ z : Int32, z = zEnd wt (lN due) (lN be) (61 - n) n 0 := ⟨_, rfl⟩
    have es : zShB wt (lN due) (lN be) (r + 1) n (nI F, nI T) = zShB wt (lN due) (lN be) r (n + 1) (if en = -1 then (nI F, nI T) else if nI T - nI F ≤ en - nI n then (nI F, nI T) else (nI n, en)) := by
      rw [een]; rfl
    rw [es]
    have hsp := zEnd_s hg hd hb (61 - n) n n 0 (by omega) (by omega) (fun k k1 k2 => absurd k2 (by omega))
    rw [show lN (zSm g n 0) = 0 from rfl, ← een] at hsp
    rcases hsp with ⟨e, q1, q2, q3, q4, q5⟩ | ⟨q3, q5⟩
    · rw [if_neg (by rw [q3]; exact fun h9 => by have h8 := congrArg Int32.toInt h9; rw [nI_toInt (by omega)] at h8; have : (-1 : Int32).toInt = -1 := rfl; omega), q3, pk_sub f2, pk_sub q1]
      by_cases h9 : T - F ≤ e - n
      · rw [if_pos ((nI_leI (by omega) (by omega)).mpr h9)]
        refine zShB_s hg hd hb r (n + 1) F T (by omega) (by omega) ⟨f1, f2, f3, f4⟩ (by omega) fun f k g1 g2 g3 g4 g5 => ?_
        by_cases h8 : f = n
        · subst h8
          have h7 : e - f + 1 ≤ k := Nat.not_lt.mp fun h6 => q5 k g3 h6 g5
          exact ⟨by omega, fun h6 => by omega⟩
        · exact h3 f k g1 (by omega) g3 g4 g5
      · rw [if_neg (fun h8 => h9 ((nI_leI (by omega) (by omega)).mp h8))]
        refine zShB_s hg hd hb r (n + 1) n e (by omega) (by omega) ⟨han, q1, q2, q4⟩ (by omega) fun f k g1 g2 g3 g4 g5 => ?_
        by_cases h8 : f = n
        · subst h8
          have h7 : e - f + 1 ≤ k := Nat.not_lt.mp fun h6 => q5 k g3 h6 g5
          exact ⟨h7, fun h6 => by omega⟩
        · have h7 := (h3 f k g1 (by omega) g3 g4 g5).1
          exact ⟨by omega, fun _ => by omega⟩
    · rw [if_pos q3]
      refine zShB_s hg hd hb r (n + 1) F T (by omega) (by omega) ⟨f1, f2, f3, f4⟩ (by omega) fun f k g1 g2 g3 g4 g5 => ?_
      by_cases h8 : f = n
      · subst h8
        exact absurd g5 (q5 k g3 g4)
      · exact h3 f k g1 (by omega) g3 g4 g5
theorem zSh_spec {wt : Nat → Int32} {g : Nat → Nat} (hg : zWg wt g) {a ab be : Nat} (ha : a ≤ 30) (h1 : 1 ≤ ab) (h2 : ab ≤ be) (h3 : be ≤ 1000) (last : Int32) :
    (zSm g a (61 - a) = 0 → zSh wt last a (nI ab) (nI be) = -1) ∧ (0 < zSm g a (61 - a) → ∃ F T, zFi9 g (zSm g a (61 - a) * ab) be a F T ∧ zMi9 g (zSm g a (61 - a) * ab) be a 61 F T ∧ zSh wt last a (nI ab) (nI be) = 1000 * (last + nI F) + last + nI T) := by
  have hA := zAll_s hg (61 - a) a 0 (by omega)
  rw [show lN 0 = 0 from rfl, Nat.zero_add] at hA
  have hle := zSm_le (g := g) (n := a) (61 - a) (by omega) (fun i hi => (hg i hi).2)
  have hm : zSm g a (61 - a) * ab ≤ 610000 * 1000 := Nat.mul_le_mul (by omega) (by omega)
  constructor
  · intro h0
    unfold zSh
    rw [hA, h0, if_pos (by decide)]
  · intro h0
    obtain ⟨F, T, e1, e2, e3⟩ := zShB_s hg (due := zSm g a (61 - a) * ab) (be := be) (a := a) (by omega) h3 (61 - a) a a 60 (by omega) (by omega) ⟨by omega, by omega, by omega, by rw [show 60 - a + 1 = 61 - a by omega]; exact Nat.mul_le_mul_left _ h2⟩ (by omega) (fun f k g1 g2 => absurd g2 (by omega))
    refine ⟨F, T, e2, e3, ?_⟩
    unfold zSh
    rw [hA, if_neg (fun h9 => by
      have h8 := (lg_cmp_eq _ _).mp h9
      have h7 := (lN_eq (b := 0) (by omega) (by omega)).mp h8
      omega), nI_l (by omega), nI_l (by omega), lN_mul, Nat.mul_comm ab, show (60 : Int32) = nI 60 from rfl, e1]
theorem z_wt {u : zS} (hO : zOk u) : ∃ g : Nat → Nat, zWg (zwt u) g := by
  refine ⟨fun k => (zwt u k).toInt.toNat, fun k hk => ?_⟩
  obtain ⟨n, e, h1, h2⟩ := z_nat (hO.2.2.2.2.2.2 k hk)
  have h3 : (zwt u k).toInt.toNat = n := by rw [e, nI_toInt h2]; omega
  simp only [h3]
  exact ⟨e, by omega⟩
abbrev cFg (u : zS) (x sp ab be : Int32) : Prop := zIn x (zrn u) ∧ (¬ sp < 0 ∧ ¬ nI (zln u x.toNatClampNeg) < sp) ∧ ¬ ab < 1 ∧ ¬ be < ab ∧ ¬ 1000 < be
abbrev cFp (u : zS) (x : Int32) : Prop := zIn x (zrn u) ∧ ¬ zst u x.toNatClampNeg = -1
theorem g_fell (u : zS) (x sp ab be : Int32) : zGo (zBo (zIn x (zrn u))) (zBo (cFp u x)) (zBo (cFg u x sp ab be)) = nI (fFell u x sp ab be).1 := by
  unfold fFell
  by_cases h1 : zIn x (zrn u)
  · rw [if_pos h1, zBo_t h1]
    by_cases h2 : zst u x.toNatClampNeg = -1
    · rw [if_pos h2, zBo_f (fun h => h.2 h2)]; rfl
    · rw [if_neg h2, zBo_t ⟨h1, h2⟩]
      by_cases h3 : sp < 0 ∨ nI (zln u x.toNatClampNeg) < sp
      · rw [if_pos h3, zBo_f (fun h => h3.elim h.2.1.1 h.2.1.2)]; rfl
      · rw [if_neg h3]
        by_cases h4 : ab < 1 ∨ be < ab ∨ 1000 < be
        · rw [if_pos h4, zBo_f (fun h => h4.elim h.2.2.1 (fun h9 => h9.elim h.2.2.2.1 h.2.2.2.2))]; rfl
        · rw [if_neg h4, zBo_t ⟨h1, ⟨fun h => h3 (Or.inl h), fun h => h3 (Or.inr h)⟩, fun h => h4 (Or.inl h), fun h => h4 (Or.inr (Or.inl h)), fun h => h4 (Or.inr (Or.inr h))⟩]; rfl
  · rw [zBo_f h1, if_neg h1]; rfl
theorem z_fa {x : Int32} {n : Nat} (h : ¬ x < 0 ∧ ¬ nI n < x) (hn : n ≤ 30) : ∃ a : Nat, a = x.toNatClampNeg ∧ a ≤ n ∧ x = nI a := by
  obtain ⟨a, h1, h2, h3⟩ := z_in (x := x) (n := n + 1) ⟨h.1, fun h9 => h.2 (Int32.lt_of_lt_of_le ((nI_ltI (by omega) (by omega)).mpr (Nat.lt_succ_self n)) h9)⟩ (by omega)
  exact ⟨a, h1, by omega, h3⟩
theorem z_fb {ab be : Int32} (h1 : ¬ ab < 1) (h2 : ¬ be < ab) (h3 : ¬ 1000 < be) : ∃ a b : Nat, ab = nI a ∧ be = nI b ∧ 1 ≤ a ∧ a ≤ b ∧ b ≤ 1000 := by
  have e1 : (1 : Int32).toInt = 1 := rfl
  have e2 : (1000 : Int32).toInt = 1000 := rfl
  rw [z_lt0, e1] at h1
  rw [z_lt0] at h2
  rw [z_lt0, e2] at h3
  obtain ⟨a, ea, ha, ha2⟩ := z_nat (x := ab) (b := 1000) ⟨by omega, by omega⟩
  obtain ⟨b, eb, hb, hb2⟩ := z_nat (x := be) (b := 1000) ⟨by omega, by omega⟩
  have t1 : ab.toInt = a := by rw [ea, nI_toInt ha2]
  have t2 : be.toInt = b := by rw [eb, nI_toInt hb2]
  exact ⟨a, b, ea, eb, by omega, by omega, by omega⟩
end YD
