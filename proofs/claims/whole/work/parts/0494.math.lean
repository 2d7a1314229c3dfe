/-! pure: a box that goes is untied alike on both sides -/
theorem u2_at {B : FF} {i j v a b : Nat} : u2 B i j v a b = if a = i ∧ b = j then v else B a b := rfl
theorem unk_eq {B : FF} {n j : Nat} (hB : WB B n) (hj : j < n) (hy : ∀ y, B j 6 = y + 1 → y ≠ j) (hz : ∀ z, B j 7 = z + 1 → z ≠ j) : unk B j = unf (unl B j) j := by
  cases h7 : B j 7 with
  | zero =>
    have e1 : unk B j = unl B j := by simp [unk, h7]
    have e2 : unl B j j 7 = 0 := by
      cases h6 : B j 6 with
      | zero => rw [show unl B j = B by simp [unl, h6]]; exact h7
      | succ y =>
        rw [show unl B j = u2 (u2 B y 7 0) j 6 0 by simp [unl, h6], u2_at, if_neg (by omega), u2_at]
        split
        · rfl
        · exact h7
    rw [e1, show unf (unl B j) j = unl B j by simp [unf, e2]]
  | succ z =>
    have hzj := hz z h7
    have hz6 : B z 6 = j + 1 := (hB.2.2.2 j z hj h7).2
    have e1 : unk B j = unl (u2 (u2 B j 7 0) z 6 0) j := by simp [unk, h7, unl, hz6]
    have e6 : u2 (u2 B j 7 0) z 6 0 j 6 = B j 6 := by rw [u2_at, if_neg (by omega), u2_at, if_neg (by omega)]
    cases h6 : B j 6 with
    | zero =>
      rw [h6] at e6
      rw [e1, show unl B j = B by simp [unl, h6], show unf B j = u2 (u2 B z 6 0) j 7 0 by simp [unf, h7], show unl (u2 (u2 B j 7 0) z 6 0) j = u2 (u2 B j 7 0) z 6 0 by simp [unl, e6]]
      funext a b
      simp only [u2_at]
      by_cases c1 : a = z ∧ b = 6 <;> by_cases c2 : a = j ∧ b = 7 <;> simp [c1, c2]
    | succ y =>
      have hyj := hy y h6
      rw [h6] at e6
      have e7 : u2 (u2 B y 7 0) j 6 0 j 7 = z + 1 := by rw [u2_at, if_neg (by omega), u2_at, if_neg (by omega)]; exact h7
      rw [e1, show unl B j = u2 (u2 B y 7 0) j 6 0 by simp [unl, h6], show unf (u2 (u2 B y 7 0) j 6 0) j = u2 (u2 (u2 (u2 B y 7 0) j 6 0) z 6 0) j 7 0 by simp [unf, e7], show unl (u2 (u2 B j 7 0) z 6 0) j = u2 (u2 (u2 (u2 B j 7 0) z 6 0) y 7 0) j 6 0 by simp [unl, e6]]
      funext a b
      simp only [u2_at]
      by_cases c1 : a = z ∧ b = 6 <;> by_cases c2 : a = j ∧ b = 7 <;> by_cases c3 : a = y ∧ b = 7 <;> by_cases c4 : a = j ∧ b = 6 <;> simp [c1, c2, c3, c4]
/-- the class's bounds of a page are the reference's -/
theorem inPg_iff {x y w h : Int32} : ¬ inPg x y w h ↔ ¬ inPm x y w h := not_congr inPm_iff.symm
/-- a list without doubles: the first place is the last -/
theorem plR_at {u : List Nat} {j q : Nat} (hq : q < u.length) (hj : u.getD q 0 = j) (hd : ∀ a b, a < u.length → b < u.length → u.getD a 0 = u.getD b 0 → a = b) : plR u j u.length = q + 1 := by
  have h : ∀ i, i ≤ u.length → plR u j i = if q < i then q + 1 else 0 := by
    intro i
    induction i with
    | zero => intro _; rfl
    | succ i ih =>
      intro hi
      have h1 := ih (by omega)
      unfold plR at h1 ⊢
      rw [fl_s, h1]
      by_cases he : u.getD i 0 = j
      · have := hd i q (by omega) hq (he.trans hj.symm)
        rw [if_pos he, if_pos (by omega), this]
      · have hne : q ≠ i := fun h => he (by rw [← h]; exact hj)
        rw [if_neg he]
        by_cases hlt : q < i
        · rw [if_pos hlt, if_pos (by omega)]
        · rw [if_neg hlt, if_neg (by omega)]
  rw [h _ (Nat.le_refl _), if_pos hq]
/-- overlaps: the class looks for another number, the reference for another place -/
theorem mtA_eq {B : FF} {u : List Nat} {j : Nat} (hj : j < u.length) (hs : ∀ x y, ovl B x y = ovl B y x) (hd : ∀ a b, a < u.length → b < u.length → u.getD a 0 = u.getD b 0 → a = b) : mtA B u j u.length = ovA B u (u.getD j 0) := by
  have h : ∀ i, mtA B u j i = true ↔ ∃ q, q < i ∧ q ≠ j ∧ ovl B (u.getD q 0) (u.getD j 0) = true := by
    intro i
    induction i with
    | zero => exact ⟨fun h => (by cases h), fun ⟨q, h, _⟩ => absurd h (Nat.not_lt_zero _)⟩
    | succ i ih =>
      have e : mtA B u j (i + 1) = (mtA B u j i || (!decide (i = j) && ovl B (u.getD i 0) (u.getD j 0))) := rfl
      rw [e, Bool.or_eq_true, ih]
      constructor
      · rintro (⟨q, h1, h2⟩ | h1)
        · exact ⟨q, by omega, h2⟩
        · rw [Bool.and_eq_true, Bool.not_eq_true', decide_eq_false_iff_not] at h1
          exact ⟨i, by omega, h1.1, h1.2⟩
      · rintro ⟨q, h1, h2, h3⟩
        by_cases hqi : q = i
        · subst hqi
          right
          rw [Bool.and_eq_true, Bool.not_eq_true', decide_eq_false_iff_not]
          exact ⟨h2, h3⟩
        · exact Or.inl ⟨q, by omega, h2, h3⟩
  rw [Bool.eq_iff_iff, h, ovA, any_getD]
  constructor
  · rintro ⟨q, h1, h2, h3⟩
    refine ⟨q, h1, ?_⟩
    rw [Bool.and_eq_true, Bool.not_eq_true', beq_eq_false_iff_ne]
    exact ⟨fun he => h2 (hd q j h1 hj he), by rw [hs]; exact h3⟩
  · rintro ⟨q, h1, h2⟩
    rw [Bool.and_eq_true, Bool.not_eq_true', beq_eq_false_iff_ne] at h2
    exact ⟨q, h1, fun he => h2.1 (by rw [he]), by rw [hs]; exact h2.2⟩
theorem ovl_sym (B : FF) (x y : Nat) : ovl B x y = ovl B y x := by
  unfold ovl
  cases decide (B x 1 < B y 1 + B y 3) <;> cases decide (B y 1 < B x 1 + B x 3) <;> cases decide (B x 2 < B y 2 + B y 4) <;> cases decide (B y 2 < B x 2 + B x 4) <;> rfl
