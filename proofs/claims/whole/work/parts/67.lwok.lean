section XZ
theorem zOk.r1 {u : zS} (hO : zOk u) {w : Int32} (h9 : (fRing u w).1 = 0) : zOk (uRing u w) := by
  unfold fRing at h9
  by_cases h1 : 30 ≤ zpn u
  · rw [if_pos h1] at h9; cases h9
  · rw [if_neg h1] at h9
    by_cases h2 : w < 1 ∨ 900 < w
    · rw [if_pos h2] at h9; cases h9
    · exact hO.ring (by omega) h2
theorem zOk.r2 {u : zS} (hO : zOk u) {x y : Int32} (h9 : (fPlace u x y).1 = 0) : zOk (uPlace u x y) := by
  unfold fPlace at h9
  by_cases h1 : zIn x (zrn u)
  · rw [if_pos h1] at h9
    by_cases h2 : y < -1 ∨ 500 < y
    · rw [if_pos h2] at h9; cases h9
    · exact hO.place h2
  · rw [if_neg h1] at h9; cases h9
theorem zOk.r3 {u : zS} (hO : zOk u) {x w : Int32} (h9 : (fSap u x w).1 = 0) : zOk (uSap u x w) := by
  unfold fSap at h9
  by_cases h1 : x < 0 ∨ 60 < x
  · rw [if_pos h1] at h9; cases h9
  · rw [if_neg h1] at h9
    by_cases h2 : w < 0 ∨ 10000 < w
    · rw [if_pos h2] at h9; cases h9
    · exact hO.sap h2
theorem fSer_r {u : zS} (h9 : (fSer u).1 = 0) : zrn u < 10 := by
  unfold fSer at h9
  by_cases h1 : 10 ≤ zrn u
  · rw [if_pos h1] at h9; cases h9
  · omega
theorem fMas_r {u : zS} {st : Int32} (h9 : (fMas u st).1 = 0) : zmn u < 8 := by
  unfold fMas at h9
  by_cases h1 : 8 ≤ zmn u
  · rw [if_pos h1] at h9; cases h9
  · omega
end XZ
theorem rm_c : 3000 ≤ room_1.cells := by decide +kernel
theorem rm_s : 600000 ≤ room_1.slots := by decide +kernel
