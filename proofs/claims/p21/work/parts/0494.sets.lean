/-! pure: sets of boxes, counted; the pile of sets -/
/-- how many bits a set has -/
def pc (s : Nat) : Nat → Nat := fl (fun c i => if s.testBit i then c + 1 else c) 0
theorem pc_le (s : Nat) : ∀ n, pc s n ≤ n := by
  intro n
  induction n with
  | zero => exact Nat.le_refl 0
  | succ n ih => unfold pc at ih ⊢; rw [fl_s]; split <;> omega
theorem pc_nd {s y : Nat} (hy : s.testBit y = true) : ∀ n, y < n → pc (nd s (2 ^ y)) n + 1 = pc s n := by
  have e : ∀ i, (nd s (2 ^ y)).testBit i = (s.testBit i && !decide (y = i)) := fun i => by rw [nd_tb, Nat.testBit_two_pow]
  have h0 : ∀ n, n ≤ y → pc (nd s (2 ^ y)) n = pc s n := by
    intro n
    induction n with
    | zero => intro _; rfl
    | succ n ih =>
      intro hn
      have h1 := ih (by omega)
      unfold pc at h1 ⊢
      rw [fl_s, fl_s, h1, e n]
      have h2 : decide (y = n) = false := decide_eq_false (by omega)
      rw [h2]
      simp
  intro n
  induction n with
  | zero => intro h; exact absurd h (Nat.not_lt_zero _)
  | succ n ih =>
    intro hn
    by_cases hyn : y = n
    · subst hyn
      have h1 := h0 y (Nat.le_refl _)
      unfold pc at h1 ⊢
      rw [fl_s, fl_s, h1, e y, hy]
      simp
    · have h1 := ih (by omega)
      unfold pc at h1 ⊢
      rw [fl_s, fl_s, e n]
      have h2 : decide (y = n) = false := decide_eq_false hyn
      rw [h2]
      cases s.testBit n <;> simp <;> omega
theorem pc_pos {s i : Nat} (hi : s.testBit i = true) : ∀ n, i < n → 0 < pc s n := fun n hn => by have := pc_nd hi n hn; omega
theorem ex_bit {s n : Nat} (hs : s < 2 ^ n) (h : s ≠ 0) : ∃ i, i < n ∧ s.testBit i = true := by
  by_cases hex : ∃ i, i < n ∧ s.testBit i = true
  · exact hex
  · refine absurd (Nat.eq_of_testBit_eq fun i => ?_) h
    rw [Nat.zero_testBit]
    by_cases hi : i < n
    · cases hb : s.testBit i with
      | false => rfl
      | true => exact absurd ⟨i, hi, hb⟩ hex
    · exact Nat.testBit_lt_two_pow (Nat.lt_of_lt_of_le hs (Nat.pow_le_pow_right (by decide) (by omega)))
theorem fbe_in {B : FF} {s : Nat} : ∀ {n y}, fbe B s n = y + 1 → s.testBit y = true ∧ y < n := by
  intro n
  induction n with
  | zero => intro y h; cases h
  | succ n ih =>
    intro y h
    unfold fbe at ih h
    rw [fl_s] at h
    split at h
    · next hc => rw [show y = n by omega]; exact ⟨hc.1, by omega⟩
    · obtain ⟨h1, h2⟩ := ih h; exact ⟨h1, by omega⟩
theorem fbe_ne {B : FF} {s i : Nat} (hb : s.testBit i = true) : ∀ n, i < n → fbe B s n ≠ 0 := by
  intro n
  induction n with
  | zero => intro h; exact absurd h (Nat.not_lt_zero _)
  | succ n ih =>
    intro hi
    unfold fbe at ih ⊢
    rw [fl_s]
    by_cases hin : i = n
    · subst hin
      split
      · omega
      · next hc => intro h0; exact hc ⟨hb, Or.inl h0⟩
    · split
      · omega
      · exact ih (by omega)
theorem nd_lt2 {s f n : Nat} (h : s < 2 ^ n) : nd s f < 2 ^ n := by
  apply Nat.lt_pow_two_of_testBit
  intro i hi
  rw [nd_tb, Nat.testBit_lt_two_pow (Nat.lt_of_lt_of_le h (Nat.pow_le_pow_right (by decide) hi))]
  rfl
theorem enb_ltn (B : FF) (c s : Nat) (ac : Bool) (n : Nat) : enb B c s ac n < 2 ^ n := by
  apply Nat.lt_pow_two_of_testBit
  intro i hi
  rw [enb_tb, decide_eq_false (by omega)]
  rfl
theorem cuo_ltn (B : FF) (n s : Nat) : cuo B n s < 2 ^ n := by
  unfold cuo
  split
  · split
    · exact Nat.two_pow_pos n
    · exact enb_ltn _ _ _ _ _
  · exact enb_ltn _ _ _ _ _
theorem bfn_ltn (B : FF) (p : Nat) : ∀ n, bfn B p n < 2 ^ n := by
  intro n
  induction n with
  | zero => exact Nat.one_pos
  | succ n ih =>
    have h1 : bfn B p n < 2 ^ (n + 1) := Nat.lt_of_lt_of_le ih (Nat.pow_le_pow_right (by decide) (by omega))
    have e : bfn B p (n + 1) = if B n 8 = 0 ∧ B n 0 = p ∧ B n 6 = 0 then bfn B p n ||| 2 ^ n else bfn B p n := rfl
    rw [e]
    split
    · exact or_lt h1 (by omega)
    · exact h1
/-- the pile is empty in time -/
def saE (B : FF) (n : Nat) : Nat → List Nat → Prop
  | _, [] => True
  | 0, _ :: _ => False
  | f + 1, s :: t => if cuo B n s = 0 then saE B n f t else saE B n f (cuo B n s :: nd s (cuo B n s) :: t)
theorem saE_1 {B : FF} {n f s : Nat} {t : List Nat} (h : cuo B n s = 0) (h2 : saE B n (f + 1) (s :: t)) : saE B n f t := by simpa [saE, h] using h2
theorem saE_2 {B : FF} {n f s : Nat} {t : List Nat} (h : cuo B n s ≠ 0) (h2 : saE B n (f + 1) (s :: t)) : saE B n f (cuo B n s :: nd s (cuo B n s) :: t) := by simpa [saE, h] using h2
