section ZN
def xOff2 (r1 r2 : Nat) (M M' : xM) : Prop := ∀ (b r : Nat) (e : va_E), M b = some (r, e) → r ≠ r1 → r ≠ r2 → M' b = some (r, e)
theorem xOff2.refl {r1 r2 : Nat} {M : xM} : xOff2 r1 r2 M M := fun _ _ _ h _ _ => h
theorem xOff2.up1 {r1 r2 : Nat} {M M1 M2 : xM} {a : Nat} {e : va_E} {x : Option (Nat × va_E)} (h : xOff2 r1 r2 M M1) (ha : M1 a = some (r1, e)) (hm : M2 = va_up M1 a x) : xOff2 r1 r2 M M2 := fun b r e' hb h1 h2 => xw_upE hm (h b r e' hb h1 h2) ha h1
theorem xOff2.up2 {r1 r2 : Nat} {M M1 M2 : xM} {a : Nat} {e : va_E} {x : Option (Nat × va_E)} (h : xOff2 r1 r2 M M1) (ha : M1 a = some (r2, e)) (hm : M2 = va_up M1 a x) : xOff2 r1 r2 M M2 := fun b r e' hb h1 h2 => xw_upE hm (h b r e' hb h1 h2) ha h2
theorem xOff2.keep {r1 r2 : Nat} {M M' : xM} (h : xOff2 r1 r2 M M') (h1 : zScr r1 = true) (h2 : zScr r2 = true) : xKeep M M' := fun a r e ha hr => h a r e ha (fun z => by rw [z, h1] at hr; cases hr) (fun z => by rw [z, h2] at hr; cases hr)
theorem xOff2.trans {r1 r2 : Nat} {M M1 M2 : xM} (h1 : xOff2 r1 r2 M M1) (h2 : xOff2 r1 r2 M1 M2) : xOff2 r1 r2 M M2 := fun b r e hb e1 e2 => h2 b r e (h1 b r e hb e1 e2) e1 e2
abbrev zN3 : Type := Int32 × Int32 × Int32
def zNst (least y : Int32) (d : Int32 × Int32) (q : zN3) : zN3 := if d.2 < least then q else if q.1 = -1000 ∨ zLess d.1 d.2 q.2.1 q.2.2 then (y, d.1, d.2) else q
def zNea (u : zS) (i j : Nat) (least : Int32) (y0 : Int) : Nat → zN3
  | 0 => (-1000, 0, 0)
  | n + 1 => zNst least (Int32.ofInt (y0 + n)) (zMea u i j (y0 + n)) (zNea u i j least y0 n)
def zY0 (u : zS) (i j : Nat) : Int := (zFst (zms u j) 10).toInt - zln u i + 1
def zYN (u : zS) (i j : Nat) : Nat := ((zLst (zln u) (zms u j) 10).toInt - zY0 u i j + 1).toNat
def zDat (u : zS) (i j : Nat) (least : Int32) : zN3 := zNea u i j least (zY0 u i j) (zYN u i j)
theorem z_y0 {f : Int32} {n : Nat} (hf : inR f 0 500) (hn : n ≤ 30) : (f - nI n + 1).toInt = f.toInt - n + 1 := by
  obtain ⟨a, rfl, ha, ha2⟩ := z_nat hf
  rw [z_swap, pk_sub_toInt (by omega) (by omega), nI_toInt ha2]
  omega
theorem z_inc {y : Int32} (h1 : -1000 ≤ y.toInt) (h2 : y.toInt ≤ 1000) : (y + 1).toInt = y.toInt + 1 := by
  rw [Int32.toInt_add, show (1 : Int32).toInt = 1 from rfl]
  exact Int.bmod_eq_of_le (by omega) (by omega)
end ZN
