/-! pure: an order has no doubles, and at most n boxes -/
theorem nodup_len : ∀ (n : Nat) (l : List Nat), l.Nodup → (∀ x, x ∈ l → x < n) → l.length ≤ n := by
  intro n
  induction n with
  | zero =>
    intro l _ h
    cases l with
    | nil => exact Nat.le_refl 0
    | cons x t => exact absurd (h x (List.mem_cons_self ..)) (Nat.not_lt_zero _)
  | succ n ih =>
    intro l hd h
    by_cases hn : n ∈ l
    · have h1 := ih (l.erase n) (hd.erase n) (fun x hx => by
        have h2 := h x (List.mem_of_mem_erase hx)
        have h3 : x ≠ n := fun e => by rw [e] at hx; exact hd.not_mem_erase hx
        omega)
      rw [List.length_erase_of_mem hn] at h1
      omega
    · have h1 := ih l hd (fun x hx => by
        have h2 := h x hx
        have h3 : x ≠ n := fun e => hn (by rw [← e]; exact hx)
        omega)
      omega
theorem bfn_tb (B : FF) (p : Nat) : ∀ n i, (bfn B p n).testBit i = true ↔ i < n ∧ B i 8 = 0 ∧ B i 0 = p ∧ B i 6 = 0 := by
  intro n
  induction n with
  | zero => intro i; exact ⟨fun h => (by rw [show bfn B p 0 = 0 from rfl, Nat.zero_testBit] at h; cases h), fun h => absurd h.1 (Nat.not_lt_zero _)⟩
  | succ n ih =>
    intro i
    have e : bfn B p (n + 1) = if B n 8 = 0 ∧ B n 0 = p ∧ B n 6 = 0 then bfn B p n ||| 2 ^ n else bfn B p n := rfl
    rw [e]
    by_cases hc : B n 8 = 0 ∧ B n 0 = p ∧ B n 6 = 0
    · rw [if_pos hc, Nat.testBit_or, Bool.or_eq_true, ih, Nat.testBit_two_pow, decide_eq_true_eq]
      constructor
      · rintro (h | h)
        · exact ⟨by omega, h.2⟩
        · subst h; exact ⟨by omega, hc⟩
      · rintro ⟨h1, h2⟩
        by_cases hin : n = i
        · exact Or.inr hin
        · exact Or.inl ⟨by omega, h2⟩
    · rw [if_neg hc, ih]
      constructor
      · rintro ⟨h1, h2⟩; exact ⟨by omega, h2⟩
      · rintro ⟨h1, h2⟩
        by_cases hin : i = n
        · subst hin; exact absurd h2 hc
        · exact ⟨by omega, h2⟩
section
variable {B : FF} {n : Nat} (hB : WB B n) {ρ : Nat → Nat} (hρ : ∀ i y, i < n → B i 7 = y + 1 → ρ y < ρ i)
theorem unc_nodup (hB : WB B n) (hρ : ∀ i y, i < n → B i 7 = y + 1 → ρ y < ρ i) : ∀ f s, (∀ y, y < n → s.testBit y = true → B y 6 = 0) → (unc B n f s).Nodup := by
  intro f
  induction f with
  | zero => intro s _; exact List.nodup_nil
  | succ f ih =>
    intro s hr
    by_cases hs : s = 0
    · rw [hs, unc_0]; exact List.nodup_nil
    · cases hf : fbe B s n with
      | zero => rw [unc_n hf]; exact List.nodup_nil
      | succ y =>
        rw [unc_s hs hf, List.nodup_append]
        obtain ⟨h1, h2⟩ := fbe_in hf
        have hsub : ∀ q, (nd s (2 ^ y)).testBit q = true → s.testBit q = true ∧ q ≠ y := fun q hq => by
          rw [nd_tb, Nat.testBit_two_pow, Bool.and_eq_true, Bool.not_eq_true', decide_eq_false_iff_not] at hq
          exact ⟨hq.1, fun e => hq.2 e.symm⟩
        refine ⟨chn_nodup hB hρ 24 y h2, ih _ (fun q hq hb => hr q hq (hsub q hb).1), fun a ha b hb hab => ?_⟩
        subst hab
        obtain ⟨y2, a1, a2, a3⟩ := unc_mem f _ a hb
        exact (hsub y2 a2).2 (chn_root hB a1 h2 (hr y2 a1 (hsub y2 a2).1) (hr y h2 h1) a3 ha)
theorem rs_nodup (hB : WB B n) (hρ : ∀ i y, i < n → B i 7 = y + 1 → ρ y < ρ i) : ∀ f s, (∀ y, y < n → s.testBit y = true → B y 6 = 0) → (rs B n f s).Nodup := by
  intro f
  induction f with
  | zero => intro s hr; exact unc_nodup hB hρ 24 s hr
  | succ f ih =>
    intro s hr
    by_cases hc : cuo B n s = 0
    · rw [show rs B n (f + 1) s = unc B n 24 s by simp [rs, hc]]
      exact unc_nodup hB hρ 24 s hr
    · rw [show rs B n (f + 1) s = rs B n f (cuo B n s) ++ rs B n f (nd s (cuo B n s)) by simp [rs, hc], List.nodup_append]
      have hsub : ∀ q, (nd s (cuo B n s)).testBit q = true → s.testBit q = true ∧ (cuo B n s).testBit q = false := fun q hq => by
        rw [nd_tb, Bool.and_eq_true, Bool.not_eq_true'] at hq
        exact hq
      refine ⟨ih _ (fun q hq hb => hr q hq (cuo_sub hb)), ih _ (fun q hq hb => hr q hq (hsub q hb).1), fun a ha b hb hab => ?_⟩
      subst hab
      obtain ⟨y1, a1, a2, a3⟩ := rs_mem f _ a ha
      obtain ⟨y2, b1, b2, b3⟩ := rs_mem f _ a hb
      have := chn_root hB a1 b1 (hr y1 a1 (cuo_sub a2)) (hr y2 b1 (hsub y2 b2).1) a3 b3
      rw [this, (hsub y2 b2).2] at a2
      cases a2
theorem ordF_nodup (hB : WB B n) (hρ : ∀ i y, i < n → B i 7 = y + 1 → ρ y < ρ i) (p : Nat) : (ordF B n p).Nodup := rs_nodup hB hρ 24 _ (fun y _ h => ((bfn_tb B p n y).mp h).2.2.2)
theorem ordF_len (hB : WB B n) (hρ : ∀ i y, i < n → B i 7 = y + 1 → ρ y < ρ i) (p : Nat) : (ordF B n p).length ≤ 24 := Nat.le_trans (nodup_len n _ (ordF_nodup hB hρ p) (ordF_lt hB)) hB.1
end
theorem PF.of {B : FF} {n : Nat} (hB : WB B n) {ρ : Nat → Nat} (hρ0 : ∀ i, ρ i < 24) (hρ : ∀ i y, i < n → B i 7 = y + 1 → ρ y < ρ i) : PF B n := ⟨⟨ρ, hρ0, hρ⟩, fun p _ => ⟨ordF_len hB hρ p, ordF_lt hB⟩⟩
