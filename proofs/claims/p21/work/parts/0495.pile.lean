/-! pure: the pile of sets reads as the recursion does -/
theorem pc_split {s a : Nat} (ha : ∀ i, a.testBit i = true → s.testBit i = true) : ∀ n, pc a n + pc (nd s a) n = pc s n := by
  intro n
  induction n with
  | zero => rfl
  | succ n ih =>
    unfold pc at ih ⊢
    rw [fl_s, fl_s, fl_s, nd_tb]
    have h := ha n
    cases h1 : a.testBit n with
    | true => rw [h h1]; simp; omega
    | false => cases h2 : s.testBit n <;> simp <;> omega
theorem cuo_sub {B : FF} {n s i : Nat} (h : (cuo B n s).testBit i = true) : s.testBit i = true := by
  have e : ∀ {c ac}, (enb B c s ac n).testBit i = true → s.testBit i = true := by
    intro c ac h
    rw [enb_tb, Bool.and_eq_true, Bool.and_eq_true] at h
    exact h.2.1
  unfold cuo at h
  split at h
  · split at h
    · rw [Nat.zero_testBit] at h; cases h
    · exact e h
  · exact e h
theorem cuo_ne {B : FF} {n s : Nat} (h : cuo B n s ≠ 0) : cuo B n s ≠ s := by
  unfold cuo at h ⊢
  split
  · next h1 =>
    rw [if_pos h1] at h
    split
    · next h2 => rw [if_pos h2] at h; exact absurd rfl h
    · next h2 => exact h2
  · next h1 => exact h1
theorem nd_ne {s a : Nat} (ha : ∀ i, a.testBit i = true → s.testBit i = true) (hne : a ≠ s) : nd s a ≠ 0 := by
  intro h
  refine hne (Nat.eq_of_testBit_eq fun i => ?_)
  have h1 := nd_tb s a i
  rw [h, Nat.zero_testBit] at h1
  cases h2 : s.testBit i with
  | false => cases h3 : a.testBit i with
    | false => rfl
    | true => rw [ha i h3] at h2; cases h2
  | true => cases h3 : a.testBit i with
    | true => rfl
    | false => rw [h2, h3] at h1; cases h1
theorem pile (B : FF) (n : Nat) : ∀ m s, s < 2 ^ n → pc s n ≤ m → ∃ st, st + 1 ≤ 2 * (max 1 (pc s n)) ∧ (∀ f, pc s n ≤ f + 1 → ∀ F t, sa B n (F + st) (s :: t) = rs B n f s ++ sa B n F t) ∧ (∀ F t, saO B n F t → t.length + max 1 (pc s n) ≤ 24 → saO B n (F + st) (s :: t)) ∧ (∀ F t, saE B n F t → saE B n (F + st) (s :: t)) := by
  intro m
  induction m with
  | zero =>
    intro s hs hp
    have hc : cuo B n s = 0 := by
      by_cases hc : cuo B n s = 0
      · exact hc
      · obtain ⟨i, hi, hb⟩ := ex_bit (cuo_ltn B n s) hc
        have := pc_pos (cuo_sub hb) n hi
        omega
    refine ⟨1, by omega, fun f _ F t => ?_, fun F t h _ => ?_, fun F t h => ?_⟩
    · rw [sa_1 hc]
      cases f with
      | zero => rfl
      | succ f => simp [rs, hc]
    · show saO B n (F + 1) (s :: t)
      simp [saO, hc]; exact h
    · show saE B n (F + 1) (s :: t)
      simp [saE, hc]; exact h
  | succ m ih =>
    intro s hs hp
    by_cases hc : cuo B n s = 0
    · refine ⟨1, by omega, fun f _ F t => ?_, fun F t h _ => ?_, fun F t h => ?_⟩
      · rw [sa_1 hc]
        cases f with
        | zero => rfl
        | succ f => simp [rs, hc]
      · show saO B n (F + 1) (s :: t)
        simp [saO, hc]; exact h
      · show saE B n (F + 1) (s :: t)
        simp [saE, hc]; exact h
    · have hsub : ∀ i, (cuo B n s).testBit i = true → s.testBit i = true := fun i h => cuo_sub h
      have hsp := pc_split hsub n
      obtain ⟨i, hi, hb⟩ := ex_bit (cuo_ltn B n s) hc
      have h1 := pc_pos hb n hi
      obtain ⟨i2, hi2, hb2⟩ := ex_bit (nd_lt2 (f := cuo B n s) hs) (nd_ne hsub (cuo_ne hc))
      have h2 := pc_pos hb2 n hi2
      obtain ⟨sa1, a1, a2, a3, a4⟩ := ih (cuo B n s) (cuo_ltn B n s) (by omega)
      obtain ⟨sb1, b1, b2, b3, b4⟩ := ih (nd s (cuo B n s)) (nd_lt2 hs) (by omega)
      refine ⟨sb1 + sa1 + 1, by omega, fun f hf F t => ?_, fun F t h ht => ?_, fun F t h => ?_⟩
      · obtain ⟨f2, rfl⟩ : ∃ q, f = q + 1 := ⟨f - 1, by omega⟩
        rw [show F + (sb1 + sa1 + 1) = (F + sb1) + sa1 + 1 by omega, sa_2 hc, a2 f2 (by omega), b2 f2 (by omega), ← List.append_assoc]
        congr 1
        simp [rs, hc]
      · rw [show F + (sb1 + sa1 + 1) = (F + sb1) + sa1 + 1 by omega]
        simp only [saO, hc, if_false]
        exact ⟨by omega, a3 _ _ (b3 F t h (by omega)) (by rw [List.length_cons]; omega)⟩
      · rw [show F + (sb1 + sa1 + 1) = (F + sb1) + sa1 + 1 by omega]
        simp only [saE, hc, if_false]
        exact a4 _ _ (b4 F t h)
/-- of a page: the order anew is the order; the pile is never too high, and empty in time -/
theorem pile_page {B : FF} {n p : Nat} (hn : n ≤ 24) : sa B n 48 [bfn B p n] = ordF B n p ∧ saO B n 48 [bfn B p n] ∧ saE B n 48 [bfn B p n] := by
  have hp := pc_le (bfn B p n) n
  obtain ⟨st, h1, h2, h3, h4⟩ := pile B n n (bfn B p n) (bfn_ltn B p n) hp
  obtain ⟨F, hF⟩ : ∃ F, 48 = F + st := ⟨48 - st, by omega⟩
  rw [hF]
  refine ⟨?_, h3 F [] (by cases F <;> trivial) (by rw [List.length_nil]; omega), h4 F [] (by cases F <;> trivial)⟩
  rw [h2 24 (by omega), sa_n, List.append_nil]
  rfl
