/-! pure: what moving and resizing keep -/
theorem u2_ne {B : FF} {j b v i c : Nat} (h : c ≠ b) : u2 B j b v i c = B i c := by simp [u2, h]
theorem WB.up {B : FF} {n j b v : Nat} (h : WB B n) (hv : v < 128) (h6 : b ≠ 6) (h7 : b ≠ 7) : WB (u2 B j b v) n := by
  obtain ⟨h1, h2, h3, h4⟩ := h
  refine ⟨h1, fun a c => ?_, fun i y hi he => ?_, fun i y hi he => ?_⟩
  · unfold u2
    split
    · exact hv
    · exact h2 a c
  · rw [u2_ne (Ne.symm h6)] at he
    rw [u2_ne (Ne.symm h7)]
    exact h3 i y hi he
  · rw [u2_ne (Ne.symm h7)] at he
    rw [u2_ne (Ne.symm h6)]
    exact h4 i y hi he
theorem WB.mv {B : FF} {n j x y : Nat} (h : WB B n) (hx : x < 128) (hy : y < 128) : WB (mvB B j x y) n := (h.up hx (by decide) (by decide)).up hy (by decide) (by decide)
theorem WB.sz {B : FF} {n j x y : Nat} (h : WB B n) (hx : x < 128) (hy : y < 128) : WB (szB B j x y) n := (h.up hx (by decide) (by decide)).up hy (by decide) (by decide)
theorem mvB_7 {B : FF} {j x y i : Nat} : mvB B j x y i 7 = B i 7 := by unfold mvB; rw [u2_ne (by decide), u2_ne (by decide)]
theorem szB_7 {B : FF} {j x y i : Nat} : szB B j x y i 7 = B i 7 := by unfold szB; rw [u2_ne (by decide), u2_ne (by decide)]
theorem inP.mv {B : FF} {n j x y : Nat} (h : inP B n) (h3 : x + B j 3 ≤ 60) (h4 : y + B j 4 ≤ 80) : inP (mvB B j x y) n := by
  intro i hi
  obtain ⟨a1, a2, a3, a4⟩ := h i hi
  by_cases hij : i = j
  · subst hij
    simp only [mvB, u2]
    simp
    omega
  · simp only [mvB, u2]
    simp [hij]
    omega
theorem inP.sz {B : FF} {n j x y : Nat} (h : inP B n) (h1 : 1 ≤ x) (h2 : 1 ≤ y) (h3 : B j 1 + x ≤ 60) (h4 : B j 2 + y ≤ 80) : inP (szB B j x y) n := by
  intro i hi
  obtain ⟨a1, a2, a3, a4⟩ := h i hi
  by_cases hij : i = j
  · subst hij
    simp only [szB, u2]
    simp
    omega
  · simp only [szB, u2]
    simp [hij]
    omega
