section ZV
def zSk (u : zS) (i j : Nat) (w : Int32) (init : zN3) (y0 : Int) : Nat → zN3
  | 0 => init
  | n + 1 => zNst w (Int32.ofInt (y0 + n)) (zMea u i j (y0 + n)) (zSk u i j w init y0 n)
theorem zSk_nea (u : zS) (i j : Nat) (w : Int32) (y0 : Int) : ∀ n, zSk u i j w (-1000, 0, 0) y0 n = zNea u i j w y0 n
  | 0 => rfl
  | n + 1 => by
    show zNst _ _ _ _ = zNst _ _ _ _
    rw [zSk_nea u i j w y0 n]
theorem zSk_split (u : zS) (i j : Nat) (w : Int32) (init : zN3) (y0 : Int) (a : Nat) : ∀ n, zSk u i j w init y0 (a + n) = zSk u i j w (zSk u i j w init y0 a) (y0 + a) n
  | 0 => rfl
  | n + 1 => by
    show zNst w (Int32.ofInt (y0 + ((a + n : Nat) : Int))) (zMea u i j (y0 + ((a + n : Nat) : Int))) (zSk u i j w init y0 (a + n)) = zNst w (Int32.ofInt (y0 + a + n)) (zMea u i j (y0 + a + n)) _
    rw [zSk_split u i j w init y0 a n, show y0 + ((a + n : Nat) : Int) = y0 + a + n by omega]
theorem zSk_idle {u : zS} {i j : Nat} {w : Int32} {init : zN3} {y0 : Int} : ∀ a, (∀ m : Nat, m < a → (zMea u i j (y0 + m)).2 < w) → zSk u i j w init y0 a = init
  | 0, _ => rfl
  | a + 1, h => by
    show zNst _ _ _ _ = _
    rw [zSk_idle a fun m hm => h m (by omega)]
    unfold zNst
    rw [if_pos (h a (by omega))]
theorem zSk_rel {u : zS} {i j : Nat} {w : Int32} {s s' : zN3} {y0 : Int} (h0 : s.1 = -1000) (h0' : s'.1 = -1000) : ∀ n, (zSk u i j w s y0 n).1 = (zSk u i j w s' y0 n).1 ∧ ((zSk u i j w s' y0 n).1 ≠ -1000 → (zSk u i j w s y0 n).2 = (zSk u i j w s' y0 n).2)
  | 0 => ⟨h0.trans h0'.symm, fun h => absurd h0' h⟩
  | n + 1 => by
    obtain ⟨h1, h2⟩ := zSk_rel (u := u) (i := i) (j := j) (w := w) (y0 := y0) h0 h0' n
    show (zNst _ _ _ (zSk u i j w s y0 n)).1 = (zNst _ _ _ (zSk u i j w s' y0 n)).1 ∧ _
    show _ ∧ ((zNst _ _ _ (zSk u i j w s' y0 n)).1 ≠ -1000 → (zNst _ _ _ (zSk u i j w s y0 n)).2 = (zNst _ _ _ (zSk u i j w s' y0 n)).2)
    unfold zNst
    by_cases h3 : (zMea u i j (y0 + n)).2 < w
    · rw [if_pos h3, if_pos h3]
      exact ⟨h1, h2⟩
    · rw [if_neg h3, if_neg h3]
      by_cases h4 : (zSk u i j w s' y0 n).1 = -1000
      · rw [if_pos (Or.inl (h1.trans h4)), if_pos (Or.inl h4)]
        exact ⟨rfl, fun _ => rfl⟩
      · have h5 := h2 h4
        rw [h1, h5]
        split
        · exact ⟨rfl, fun _ => rfl⟩
        · exact ⟨h1, h2⟩
theorem zMea_low {u : zS} {i j : Nat} {y : Int} (h : y < zY0 u i j) : zMea u i j y = (0, 0) := by
  unfold zY0 at h
  have h2 : ∀ n, n ≤ zln u i → zDist (zev u i) (fun k => zVz u j (y + k)) n = (0, 0) := by
    intro n
    induction n with
    | zero => intro _; rfl
    | succ n ih =>
      intro hn
      show (if zVz u j (y + n) = -1 then zDist _ _ n else _) = _
      rw [if_pos, ih (by omega)]
      unfold zVz
      rw [if_pos (Or.inl (by omega))]
  exact h2 _ (Nat.le_refl _)
theorem zSk_dat {u : zS} (hO : zOk u) {i j : Nat} (hi : i < zrn u) (hj : j < zmn u) {w : Int32} (hw : zLe w) (s : zN3) (hs : s.1 = -1000) :
    (zSk u i j w s ((zFst (zms u j) 10).toInt - 30) (((zLst (zln u) (zms u j) 10).toInt - ((zFst (zms u j) 10).toInt - 30) + 1).toNat)).1 = (zDat u i j w).1 ∧ ((zDat u i j w).1 ≠ -1000 → (zSk u i j w s ((zFst (zms u j) 10).toInt - 30) (((zLst (zln u) (zms u j) 10).toInt - ((zFst (zms u j) 10).toInt - 30) + 1).toNat)).2 = (zDat u i j w).2) := by
  have hl := hO.2.2.2.1 i hi
  have hZ : ∀ y : Int, y < zY0 u i j → (zMea u i j y).2 < w := fun y hy => by
    rw [zMea_low hy]
    have h1 := z_le0.mp (Int32.not_lt.mp hw.1)
    have h2 : (2 : Int32).toInt = 2 := rfl
    rw [z_lt0]
    show (0 : Int) < _
    omega
  have hy0 : zY0 u i j = (zFst (zms u j) 10).toInt - zln u i + 1 := rfl
  unfold zDat
  rw [← zSk_nea]
  by_cases h : 31 - zln u i ≤ ((zLst (zln u) (zms u j) 10).toInt - ((zFst (zms u j) 10).toInt - 30) + 1).toNat
  · obtain ⟨n, hn⟩ := Nat.exists_eq_add_of_le h
    have hN : n = zYN u i j := by unfold zYN; omega
    rw [hn, zSk_split, zSk_idle (31 - zln u i) (fun m hm => hZ _ (by omega)), show (zFst (zms u j) 10).toInt - 30 + ((31 - zln u i : Nat) : Int) = zY0 u i j by omega, hN]
    exact zSk_rel hs rfl _
  · have hN : zYN u i j = 0 := by unfold zYN; omega
    rw [hN, zSk_idle _ (fun m hm => hZ _ (by omega))]
    exact ⟨hs, fun h9 => absurd rfl h9⟩
theorem z_m30 {f : Int32} (hf : inR f 0 500) : (f - 30).toInt = f.toInt - 30 := z_sub (hf.w (by omega) (by omega)) ⟨by decide, by decide⟩
end ZV
