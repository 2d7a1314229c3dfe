/-! pure: an order depends on its own boxes alone -/
def Ag (B B' : FF) (s : Nat) : Prop := ∀ i, s.testBit i = true → ∀ b, B' i b = B i b
theorem Ag.E {B B' : FF} {s : Nat} (h : Ag B B' s) {ac : Bool} {i : Nat} (hi : s.testBit i = true) : Eb B' ac i = Eb B ac i ∧ Gb B' ac i = Gb B ac i := by
  have := h i hi
  unfold Eb Gb
  rw [this, this, this, this, this]
  exact ⟨rfl, rfl⟩
theorem lc1_cg {B B' : FF} {s : Nat} (h : Ag B B' s) (ac : Bool) : ∀ n, lc1 B' s ac n = lc1 B s ac n := by
  intro n
  induction n with
  | zero => rfl
  | succ n ih =>
    unfold lc1 at ih ⊢
    rw [fl_s, fl_s, ih]
    by_cases hb : s.testBit n = true
    · rw [if_pos hb, if_pos hb, (h.E hb).1]
    · rw [if_neg hb, if_neg hb]
theorem lcp_cg {B B' : FF} {s : Nat} (h : Ag B B' s) (ac : Bool) (c : Nat) : ∀ n, lcp B' s ac c n = lcp B s ac c n := by
  intro n
  induction n with
  | zero => rfl
  | succ n ih =>
    unfold lcp at ih ⊢
    rw [fl_s, fl_s, ih]
    by_cases hb : s.testBit n = true
    · rw [(h.E hb).1, (h.E hb).2]
    · rw [if_neg (fun h => hb h.1), if_neg (fun h => hb h.1)]
theorem enb_cg {B B' : FF} {s : Nat} (h : Ag B B' s) (ac : Bool) (c : Nat) : ∀ n, enb B' c s ac n = enb B c s ac n := by
  intro n
  induction n with
  | zero => rfl
  | succ n ih =>
    unfold enb at ih ⊢
    rw [fl_s, fl_s, ih]
    by_cases hb : s.testBit n = true
    · rw [(h.E hb).1]
    · rw [if_neg (fun h => hb h.1), if_neg (fun h => hb h.1)]
theorem lcs_cg {B B' : FF} {s : Nat} (h : Ag B B' s) (ac : Bool) (n : Nat) : ∀ f cm, lcs B' s ac n f cm = lcs B s ac n f cm := by
  intro f
  induction f with
  | zero => intro cm; rfl
  | succ f ih =>
    intro cm
    unfold lcs
    rw [lcp_cg h, ih]
theorem cuo_cg {B B' : FF} {s n : Nat} (h : Ag B B' s) : cuo B' n s = cuo B n s := by
  unfold cuo lcut
  simp only [lc1_cg h, lcs_cg h, enb_cg h]
theorem fbe_cg {B B' : FF} {s : Nat} (h : Ag B B' s) : ∀ n, fbe B' s n = fbe B s n := by
  intro n
  induction n with
  | zero => rfl
  | succ n ih =>
    have e : ∀ D : FF, fbe D s (n + 1) = if s.testBit n = true ∧ (fbe D s n = 0 ∨ ahd D n (fbe D s n - 1) = true) then n + 1 else fbe D s n := fun D => rfl
    rw [e, e, ih]
    by_cases hb : s.testBit n = true
    · cases hf : fbe B s n with
      | zero => simp
      | succ y =>
        have hy := (fbe_in hf).1
        have h1 := h n hb
        have h2 := h y hy
        rw [show ahd B' n (y + 1 - 1) = ahd B n (y + 1 - 1) by rw [Nat.add_sub_cancel]; unfold ahd; rw [h1, h1, h2, h2]]
    · rw [if_neg (fun h => hb h.1), if_neg (fun h => hb h.1)]
