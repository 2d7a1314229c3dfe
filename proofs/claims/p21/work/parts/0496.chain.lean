/-! pure: chains of boxes that follow each other -/
theorem chn_lt {B : FF} {n : Nat} (hB : WB B n) : ∀ f y x, y < n → x ∈ chn B f (y + 1) → x < n := by
  intro f
  induction f with
  | zero => intro y x _ h; cases h
  | succ f ih =>
    intro y x hy h
    rw [chn_s] at h
    rcases List.mem_cons.mp h with h | h
    · omega
    · cases h7 : B y 7 with
      | zero => rw [h7, chn_0] at h; cases h
      | succ z => rw [h7] at h; exact ih z x (hB.2.2.2 y z hy h7).1 h
theorem chn_up {B : FF} {n : Nat} (hB : WB B n) : ∀ f y x, y < n → x ∈ chn B f (y + 1) → ∃ k, up B k x = y + 1 := by
  intro f
  induction f with
  | zero => intro y x _ h; cases h
  | succ f ih =>
    intro y x hy h
    rw [chn_s] at h
    rcases List.mem_cons.mp h with h | h
    · exact ⟨0, by rw [h]; rfl⟩
    · cases h7 : B y 7 with
      | zero => rw [h7, chn_0] at h; cases h
      | succ z =>
        rw [h7] at h
        obtain ⟨hz, hz6⟩ := hB.2.2.2 y z hy h7
        obtain ⟨k, hk⟩ := ih z x hz h
        exact ⟨k + 1, by rw [up_s hk]; exact hz6⟩
/-- two chains from boxes that follow none share no box -/
theorem chn_root {B : FF} {n : Nat} (hB : WB B n) {f f' y y' x : Nat} (hy : y < n) (hy' : y' < n) (h6 : B y 6 = 0) (h6' : B y' 6 = 0) (h : x ∈ chn B f (y + 1)) (h' : x ∈ chn B f' (y' + 1)) : y = y' := by
  obtain ⟨k, hk⟩ := chn_up hB f y x hy h
  obtain ⟨k', hk'⟩ := chn_up hB f' y' x hy' h'
  have e : up B (k + 1) x = 0 := by rw [up_s hk]; exact h6
  have e' : up B (k' + 1) x = 0 := by rw [up_s hk']; exact h6'
  rcases Nat.lt_trichotomy k k' with hlt | heq | hlt
  · have := up_z e k' (by omega); omega
  · subst heq; omega
  · have := up_z e' k (by omega); omega
theorem chn_rank {B : FF} {n : Nat} (hB : WB B n) {ρ : Nat → Nat} (hρ : ∀ i y, i < n → B i 7 = y + 1 → ρ y < ρ i) : ∀ f y x, y < n → x ∈ chn B f (y + 1) → ρ x ≤ ρ y := by
  intro f
  induction f with
  | zero => intro y x _ h; cases h
  | succ f ih =>
    intro y x hy h
    rw [chn_s] at h
    rcases List.mem_cons.mp h with h | h
    · rw [h]; exact Nat.le_refl _
    · cases h7 : B y 7 with
      | zero => rw [h7, chn_0] at h; cases h
      | succ z =>
        rw [h7] at h
        have h1 := ih z x (hB.2.2.2 y z hy h7).1 h
        have h2 := hρ y z hy h7
        omega
theorem chn_nodup {B : FF} {n : Nat} (hB : WB B n) {ρ : Nat → Nat} (hρ : ∀ i y, i < n → B i 7 = y + 1 → ρ y < ρ i) : ∀ f y, y < n → (chn B f (y + 1)).Nodup := by
  intro f
  induction f with
  | zero => intro y _; exact List.nodup_nil
  | succ f ih =>
    intro y hy
    rw [chn_s, List.nodup_cons]
    cases h7 : B y 7 with
    | zero => rw [chn_0]; exact ⟨fun h => (by cases h), List.nodup_nil⟩
    | succ z =>
      obtain ⟨hz, -⟩ := hB.2.2.2 y z hy h7
      refine ⟨fun h => ?_, ih z hz⟩
      have h1 := chn_rank hB hρ f z y hz h
      have h2 := hρ y z hy h7
      omega
/-- the boxes of a set of roots, read uncut: each belongs to the chain of a root of the set -/
theorem unc_mem {B : FF} {n : Nat} : ∀ f s x, x ∈ unc B n f s → ∃ y, y < n ∧ s.testBit y = true ∧ x ∈ chn B 24 (y + 1) := by
  intro f
  induction f with
  | zero => intro s x h; cases h
  | succ f ih =>
    intro s x h
    by_cases hs : s = 0
    · rw [hs, unc_0] at h; cases h
    · cases hf : fbe B s n with
      | zero => rw [unc_n hf] at h; cases h
      | succ y =>
        rw [unc_s hs hf, List.mem_append] at h
        obtain ⟨h1, h2⟩ := fbe_in hf
        rcases h with h | h
        · exact ⟨y, h2, h1, h⟩
        · obtain ⟨y2, a1, a2, a3⟩ := ih _ _ h
          rw [nd_tb, Bool.and_eq_true] at a2
          exact ⟨y2, a1, a2.1, a3⟩
theorem rs_mem {B : FF} {n : Nat} : ∀ f s x, x ∈ rs B n f s → ∃ y, y < n ∧ s.testBit y = true ∧ x ∈ chn B 24 (y + 1) := by
  intro f
  induction f with
  | zero => intro s x h; exact unc_mem 24 s x h
  | succ f ih =>
    intro s x h
    by_cases hc : cuo B n s = 0
    · rw [show rs B n (f + 1) s = unc B n 24 s by simp [rs, hc]] at h
      exact unc_mem 24 s x h
    · rw [show rs B n (f + 1) s = rs B n f (cuo B n s) ++ rs B n f (nd s (cuo B n s)) by simp [rs, hc], List.mem_append] at h
      rcases h with h | h
      · obtain ⟨y, a1, a2, a3⟩ := ih _ _ h
        exact ⟨y, a1, cuo_sub a2, a3⟩
      · obtain ⟨y, a1, a2, a3⟩ := ih _ _ h
        rw [nd_tb, Bool.and_eq_true] at a2
        exact ⟨y, a1, a2.1, a3⟩
theorem ordF_lt {B : FF} {n p : Nat} (hB : WB B n) : ∀ x, x ∈ ordF B n p → x < n := by
  intro x h
  obtain ⟨y, h1, -, h3⟩ := rs_mem 24 _ x h
  exact chn_lt hB 24 y x h1 h3
