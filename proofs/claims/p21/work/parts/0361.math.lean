/-! pure: the least cut, by the class's way and by the reference's -/
theorem enb_tb (B : FF) (c s : Nat) (ac : Bool) : ∀ n i, (enb B c s ac n).testBit i = (decide (i < n) && (s.testBit i && decide (Eb B ac i ≤ c))) := by
  intro n
  induction n with
  | zero => intro i; simp [enb, fl]
  | succ n ih =>
    intro i
    unfold enb at ih ⊢
    rw [fl_s]
    by_cases hin : i = n
    · subst hin
      by_cases h : s.testBit i = true ∧ Eb B ac i ≤ c
      · rw [if_pos h, Nat.testBit_or, Nat.testBit_two_pow]
        simp [h.1, h.2]
      · rw [if_neg h, ih]
        have h2 : (s.testBit i && decide (Eb B ac i ≤ c)) = false := by
          rw [Bool.eq_false_iff]
          intro h3
          rw [Bool.and_eq_true, decide_eq_true_eq] at h3
          exact h h3
        simp [h2]
    · have h3 : i < n + 1 ↔ i < n := by omega
      by_cases h : s.testBit n = true ∧ Eb B ac n ≤ c
      · rw [if_pos h, Nat.testBit_or, ih, Nat.testBit_two_pow]
        have h4 : ¬ n = i := fun e => hin e.symm
        simp [h3, h4]
      · rw [if_neg h, ih]
        simp [h3]
def cln (B : FF) (s : Nat) (ac : Bool) (n c : Nat) : Prop := ∀ q, q < n → s.testBit q = true → ¬ (Gb B ac q < c ∧ c < Eb B ac q)
/-- how many end beyond c -/
def cab (B : FF) (s : Nat) (ac : Bool) (c : Nat) : Nat → Nat := fl (fun k i => if s.testBit i = true ∧ c < Eb B ac i then k + 1 else k) 0
theorem cab_mono {B : FF} {s : Nat} {ac : Bool} {c c' : Nat} (h : c ≤ c') : ∀ n, cab B s ac c' n ≤ cab B s ac c n := by
  intro n
  induction n with
  | zero => exact Nat.le_refl _
  | succ n ih =>
    unfold cab at ih ⊢
    rw [fl_s, fl_s]
    by_cases h1 : s.testBit n = true ∧ c' < Eb B ac n
    · rw [if_pos h1, if_pos ⟨h1.1, by omega⟩]; omega
    · rw [if_neg h1]; split <;> omega
theorem cab_lt {B : FF} {s : Nat} {ac : Bool} {c c' q : Nat} (h : c ≤ c') (hs : s.testBit q = true) (h1 : c < Eb B ac q) (h2 : Eb B ac q ≤ c') : ∀ n, q < n → cab B s ac c' n < cab B s ac c n := by
  intro n
  induction n with
  | zero => intro hq; exact absurd hq (Nat.not_lt_zero _)
  | succ n ih =>
    intro hq
    have hm := cab_mono (B := B) (s := s) (ac := ac) h n
    unfold cab at ih hm ⊢
    rw [fl_s, fl_s]
    by_cases hqn : q = n
    · subst hqn
      rw [if_neg (by omega), if_pos ⟨hs, h1⟩]; omega
    · have := ih (by omega)
      by_cases h3 : s.testBit n = true ∧ c' < Eb B ac n
      · rw [if_pos h3, if_pos ⟨h3.1, by omega⟩]; omega
      · rw [if_neg h3]; split <;> omega
theorem cab_le (B : FF) (s : Nat) (ac : Bool) (c : Nat) : ∀ n, cab B s ac c n ≤ n := by
  intro n
  induction n with
  | zero => exact Nat.le_refl _
  | succ n ih =>
    unfold cab at ih ⊢
    rw [fl_s]
    split <;> omega
theorem cab_ltn {B : FF} {s : Nat} {ac : Bool} {c q : Nat} (h : Eb B ac q ≤ c) : ∀ n, q < n → cab B s ac c n < n := by
  intro n
  induction n with
  | zero => intro hq; exact absurd hq (Nat.not_lt_zero _)
  | succ n ih =>
    intro hq
    have hl := cab_le B s ac c n
    unfold cab at ih hl ⊢
    rw [fl_s]
    by_cases hqn : q = n
    · subst hqn
      rw [if_neg (by omega)]; omega
    · have := ih (by omega)
      split <;> omega
theorem cab_none {B : FF} {s : Nat} {ac : Bool} {c : Nat} : ∀ n, (∀ q, q < n → s.testBit q = false) → cab B s ac c n = 0 := by
  intro n
  induction n with
  | zero => intro _; rfl
  | succ n ih =>
    intro h
    have := ih (fun q hq => h q (by omega))
    unfold cab at this ⊢
    rw [fl_s, if_neg (by rw [h n (by omega)]; simp)]
    exact this
theorem lcp_inv (B : FF) (s : Nat) (ac : Bool) (c : Nat) : ∀ i, c ≤ (lcp B s ac c i).1 ∧ ((lcp B s ac c i).2 = 0 ∨ (lcp B s ac c i).2 = 1) ∧ ((lcp B s ac c i).2 = 0 → (lcp B s ac c i).1 = c ∧ ∀ q, q < i → s.testBit q = true → ¬ (Gb B ac q < c ∧ c < Eb B ac q)) ∧ ((lcp B s ac c i).2 = 1 → c < (lcp B s ac c i).1 ∧ ∃ q, q < i ∧ s.testBit q = true ∧ (lcp B s ac c i).1 = Eb B ac q) ∧ (∀ d, c ≤ d → (∀ q, q < i → s.testBit q = true → ¬ (Gb B ac q < d ∧ d < Eb B ac q)) → (lcp B s ac c i).1 ≤ d) := by
  intro i
  induction i with
  | zero => exact ⟨Nat.le_refl _, Or.inl rfl, fun _ => ⟨rfl, fun q hq => absurd hq (Nat.not_lt_zero _)⟩, fun h => (by cases h), fun d hd _ => hd⟩
  | succ i ih =>
    obtain ⟨i1, i2, i3, i4, i5⟩ := ih
    by_cases h : s.testBit i = true ∧ Gb B ac i < (lcp B s ac c i).1 ∧ (lcp B s ac c i).1 < Eb B ac i
    · have e : lcp B s ac c (i + 1) = (Eb B ac i, 1) := by
        unfold lcp at h ⊢
        rw [fl_s, if_pos h]
      rw [e]
      refine ⟨(by show c ≤ Eb B ac i; omega), Or.inr rfl, fun h0 => (by cases h0), fun _ => ⟨(by show c < Eb B ac i; omega), i, (by omega), h.1, rfl⟩, fun d hd hc => ?_⟩
      have h1 := i5 d hd (fun q hq => hc q (by omega))
      have h2 := hc i (by omega) h.1
      show Eb B ac i ≤ d
      omega
    · have e : lcp B s ac c (i + 1) = lcp B s ac c i := by
        unfold lcp at h ⊢
        rw [fl_s, if_neg h]
      rw [e]
      refine ⟨i1, i2, fun h0 => ⟨(i3 h0).1, fun q hq hs => ?_⟩, fun h1 => ?_, fun d hd hc => i5 d hd (fun q hq => hc q (by omega))⟩
      · by_cases hqi : q = i
        · subst hqi
          intro h2
          exact h ⟨hs, by rw [(i3 h0).1]; exact h2⟩
        · exact (i3 h0).2 q (by omega) hs
      · obtain ⟨h2, q, h3, h4, h5⟩ := i4 h1
        exact ⟨h2, q, by omega, h4, h5⟩
theorem lcs_0 (B : FF) (s : Nat) (ac : Bool) (n f x : Nat) : lcs B s ac n f (x, 0) = x := by cases f <;> simp [lcs]
theorem lcs_spec (B : FF) (s : Nat) (ac : Bool) (n : Nat) : ∀ f c, cab B s ac c n < f → c ≤ lcs B s ac n f (c, 1) ∧ cln B s ac n (lcs B s ac n f (c, 1)) ∧ ∀ d, c ≤ d → cln B s ac n d → lcs B s ac n f (c, 1) ≤ d := by
  intro f
  induction f with
  | zero => intro c h; exact absurd h (Nat.not_lt_zero _)
  | succ f ih =>
    intro c h
    obtain ⟨i1, i2, i3, i4, i5⟩ := lcp_inv B s ac c n
    have e : lcs B s ac n (f + 1) (c, 1) = lcs B s ac n f (lcp B s ac c n) := by simp [lcs]
    rw [e]
    rcases i2 with h0 | h0
    · obtain ⟨j1, j2⟩ := i3 h0
      have e2 : lcp B s ac c n = (c, 0) := Prod.ext j1 h0
      rw [e2, lcs_0]
      exact ⟨Nat.le_refl _, j2, fun d hd _ => hd⟩
    · obtain ⟨j1, q, j2, j3, j4⟩ := i4 h0
      have e2 : lcp B s ac c n = ((lcp B s ac c n).1, 1) := Prod.ext rfl h0
      have hlt := cab_lt (B := B) (s := s) (ac := ac) (c := c) (c' := (lcp B s ac c n).1) i1 j3 (by omega) (by omega) n j2
      obtain ⟨k1, k2, k3⟩ := ih (lcp B s ac c n).1 (by omega)
      rw [e2]
      exact ⟨by omega, k2, fun d hd hc => k3 d (i5 d hd hc) hc⟩
theorem lc1_inv (B : FF) (s : Nat) (ac : Bool) : ∀ n, lc1 B s ac n ≤ c0 ac ∧ (∀ q, q < n → s.testBit q = true → lc1 B s ac n ≤ Eb B ac q) ∧ (lc1 B s ac n = c0 ac ∨ ∃ q, q < n ∧ s.testBit q = true ∧ lc1 B s ac n = Eb B ac q) := by
  intro n
  induction n with
  | zero => exact ⟨Nat.le_refl _, fun q hq => absurd hq (Nat.not_lt_zero _), Or.inl rfl⟩
  | succ n ih =>
    obtain ⟨i1, i2, i3⟩ := ih
    have e : lc1 B s ac (n + 1) = if s.testBit n = true then (if Eb B ac n < lc1 B s ac n then Eb B ac n else lc1 B s ac n) else lc1 B s ac n := rfl
    by_cases hs : s.testBit n = true
    · rw [if_pos hs] at e
      by_cases hE : Eb B ac n < lc1 B s ac n
      · rw [if_pos hE] at e
        rw [e]
        refine ⟨by omega, fun q hq hq2 => ?_, Or.inr ⟨n, by omega, hs, rfl⟩⟩
        by_cases hqn : q = n
        · rw [hqn]; exact Nat.le_refl _
        · have := i2 q (by omega) hq2; omega
      · rw [if_neg hE] at e
        rw [e]
        refine ⟨i1, fun q hq hq2 => ?_, ?_⟩
        · by_cases hqn : q = n
          · rw [hqn]; omega
          · exact i2 q (by omega) hq2
        · rcases i3 with h | ⟨q, h1, h2, h3⟩
          · exact Or.inl h
          · exact Or.inr ⟨q, by omega, h2, h3⟩
    · rw [if_neg hs] at e
      rw [e]
      refine ⟨i1, fun q hq hq2 => ?_, ?_⟩
      · by_cases hqn : q = n
        · rw [hqn] at hq2; exact absurd hq2 hs
        · exact i2 q (by omega) hq2
      · rcases i3 with h | ⟨q, h1, h2, h3⟩
        · exact Or.inl h
        · exact Or.inr ⟨q, by omega, h2, h3⟩
/-- the boxes of a set lie within the page, and are no points -/
def inP (B : FF) (n : Nat) : Prop := ∀ i, i < n → B i 1 + B i 3 ≤ 60 ∧ B i 2 + B i 4 ≤ 80 ∧ 1 ≤ B i 3 ∧ 1 ≤ B i 4
theorem inP.e {B : FF} {n : Nat} (h : inP B n) (ac : Bool) {i : Nat} (hi : i < n) : Gb B ac i < Eb B ac i ∧ Eb B ac i ≤ c0 ac := by
  obtain ⟨h1, h2, h3, h4⟩ := h i hi
  cases ac <;> simp [Gb, Eb, c0] <;> omega
theorem lcut_spec {B : FF} {n : Nat} (hn : n ≤ 24) (hP : inP B n) (s : Nat) (ac : Bool) {q : Nat} (hq : q < n) (hs : s.testBit q = true) :
    (∃ r, r < n ∧ s.testBit r = true ∧ Eb B ac r ≤ lcut B n s ac) ∧ cln B s ac n (lcut B n s ac) ∧ ∀ d, (∃ r, r < n ∧ s.testBit r = true ∧ Eb B ac r ≤ d) → cln B s ac n d → lcut B n s ac ≤ d := by
  obtain ⟨i1, i2, i3⟩ := lc1_inv B s ac n
  have hat : ∃ r, r < n ∧ s.testBit r = true ∧ lc1 B s ac n = Eb B ac r := by
    rcases i3 with h | h
    · refine ⟨q, hq, hs, ?_⟩
      have h1 := i2 q hq hs
      have h2 := (hP.e ac hq).2
      omega
    · exact h
  obtain ⟨r, hr, hrs, hre⟩ := hat
  have hc : cab B s ac (lc1 B s ac n) n < 24 := by
    have := cab_ltn (B := B) (s := s) (ac := ac) (c := lc1 B s ac n) (q := r) (by omega) n hr
    omega
  obtain ⟨k1, k2, k3⟩ := lcs_spec B s ac n 24 (lc1 B s ac n) hc
  refine ⟨⟨r, hr, hrs, ?_⟩, k2, fun d hd hcl => ?_⟩
  · show Eb B ac r ≤ lcs B s ac n 24 (lc1 B s ac n, 1)
    omega
  · obtain ⟨r2, h1, h2, h3⟩ := hd
    exact k3 d (Nat.le_trans (i2 r2 h1 h2) h3) hcl
theorem enb_eq {B : FF} {c s n : Nat} {ac : Bool} (hs : s < 2 ^ n) : enb B c s ac n = s ↔ ∀ q, q < n → s.testBit q = true → Eb B ac q ≤ c := by
  constructor
  · intro h q hq hqs
    have h1 := enb_tb B c s ac n q
    rw [h, hqs] at h1
    simp [hq] at h1
    exact h1
  · intro h
    apply Nat.eq_of_testBit_eq
    intro i
    rw [enb_tb]
    by_cases hi : i < n
    · cases hsi : s.testBit i with
      | false => simp
      | true => simp [hi, h i hi hsi]
    · rw [Nat.testBit_lt_two_pow (Nat.lt_of_lt_of_le hs (Nat.pow_le_pow_right (by decide) (by omega)))]
      simp
theorem enb_ne0 {B : FF} {c s n : Nat} {ac : Bool} : enb B c s ac n ≠ 0 ↔ ∃ q, q < n ∧ s.testBit q = true ∧ Eb B ac q ≤ c := by
  constructor
  · intro h
    by_cases hex : ∃ q, q < n ∧ s.testBit q = true ∧ Eb B ac q ≤ c
    · exact hex
    · refine absurd (Nat.eq_of_testBit_eq fun i => ?_) h
      rw [enb_tb, Nat.zero_testBit, Bool.eq_false_iff]
      intro h2
      simp only [Bool.and_eq_true, decide_eq_true_eq] at h2
      exact hex ⟨i, h2.1, h2.2.1, h2.2.2⟩
  · rintro ⟨q, h1, h2, h3⟩ h
    have h4 := enb_tb B c s ac n q
    rw [h, Nat.zero_testBit, h2] at h4
    simp [h1, h3] at h4
/-- the reference: what a cut at w leaves ahead; whether it can be -/
def cta (B : FF) (s w : Nat) (ac : Bool) : Nat → Nat × Bool := fl (fun fc k => if s.testBit k then (fc.1 ||| (if Eb B ac k ≤ w then 2 ^ k else 0), fc.2 && (decide (Eb B ac k ≤ w) || decide (w ≤ Gb B ac k))) else fc) (0, true)
def ctAt (B : FF) (n s w : Nat) (ac : Bool) : Nat := if (cta B s w ac n).2 = true ∧ (cta B s w ac n).1 ≠ s then (cta B s w ac n).1 else 0
def ctm (B : FF) (n s : Nat) (ac : Bool) : Nat → Nat := fl (fun f w => if f = 0 then ctAt B n s (w + 1) ac else f) 0
theorem cta_1 (B : FF) (s w : Nat) (ac : Bool) : ∀ n, (cta B s w ac n).1 = enb B w s ac n := by
  intro n
  induction n with
  | zero => rfl
  | succ n ih =>
    unfold cta enb at ih ⊢
    rw [fl_s, fl_s, ← ih]
    by_cases h1 : s.testBit n = true
    · by_cases h2 : Eb B ac n ≤ w <;> simp [h1, h2]
    · simp [h1]
theorem cta_2 (B : FF) (s w : Nat) (ac : Bool) : ∀ n, (cta B s w ac n).2 = true ↔ cln B s ac n w := by
  intro n
  induction n with
  | zero => exact ⟨fun _ q hq => absurd hq (Nat.not_lt_zero _), fun _ => rfl⟩
  | succ n ih =>
    have e : (cta B s w ac (n + 1)).2 = if s.testBit n then ((cta B s w ac n).2 && (decide (Eb B ac n ≤ w) || decide (w ≤ Gb B ac n))) else (cta B s w ac n).2 := by
      unfold cta
      rw [fl_s]
      split <;> rfl
    rw [e]
    constructor
    · intro h q hq hqs
      by_cases hqn : q = n
      · subst hqn
        rw [if_pos hqs] at h
        simp only [Bool.and_eq_true, Bool.or_eq_true, decide_eq_true_eq] at h
        omega
      · have h2 : (cta B s w ac n).2 = true := by
          split at h
          · exact (Bool.and_eq_true _ _ ▸ h).1
          · exact h
        exact ih.mp h2 q (by omega) hqs
    · intro h
      have h2 := ih.mpr (fun q hq => h q (by omega))
      by_cases hs : s.testBit n = true
      · rw [if_pos hs, h2]
        have h3 := h n (by omega) hs
        simp only [Bool.true_and, Bool.or_eq_true, decide_eq_true_eq]
        omega
      · rw [if_neg hs]; exact h2
theorem ctAt_t {B : FF} {n s w : Nat} {ac : Bool} (h : cln B s ac n w ∧ enb B w s ac n ≠ s) : ctAt B n s w ac = enb B w s ac n := by
  unfold ctAt
  rw [cta_1, if_pos ⟨(cta_2 B s w ac n).mpr h.1, h.2⟩]
theorem ctAt_f {B : FF} {n s w : Nat} {ac : Bool} (h : ¬ (cln B s ac n w ∧ enb B w s ac n ≠ s)) : ctAt B n s w ac = 0 := by
  unfold ctAt
  rw [cta_1, if_neg (fun h2 => h ⟨(cta_2 B s w ac n).mp h2.1, h2.2⟩)]
theorem ctm_0 {B : FF} {n s : Nat} {ac : Bool} : ∀ i, (∀ w, w < i → ctAt B n s (w + 1) ac = 0) → ctm B n s ac i = 0 := by
  intro i
  induction i with
  | zero => intro _; rfl
  | succ i ih =>
    intro h
    have h1 := ih (fun w hw => h w (by omega))
    unfold ctm at h1 ⊢
    rw [fl_s, if_pos h1]
    exact h i (by omega)
theorem ctm_1 {B : FF} {n s v : Nat} {ac : Bool} (hv : ctAt B n s (v + 1) ac ≠ 0) (h0 : ∀ w, w < v → ctAt B n s (w + 1) ac = 0) : ∀ i, v < i → ctm B n s ac i = ctAt B n s (v + 1) ac := by
  intro i
  induction i with
  | zero => intro h; exact absurd h (Nat.not_lt_zero _)
  | succ i ih =>
    intro h
    by_cases hvi : v = i
    · subst hvi
      have h1 := ctm_0 v h0
      unfold ctm at h1 ⊢
      rw [fl_s, if_pos h1]
    · have h1 := ih (by omega)
      unfold ctm at h1 ⊢
      rw [fl_s, h1, if_neg hv]
theorem ctm_eq {B : FF} {n s : Nat} (hn : n ≤ 24) (hP : inP B n) (hs : s < 2 ^ n) (ac : Bool) : ctm B n s ac 79 = if enb B (lcut B n s ac) s ac n = s then 0 else enb B (lcut B n s ac) s ac n := by
  by_cases hex : ∃ q, q < n ∧ s.testBit q = true
  · obtain ⟨q, hq, hqs⟩ := hex
    obtain ⟨k1, k2, k3⟩ := lcut_spec hn hP s ac hq hqs
    by_cases he : enb B (lcut B n s ac) s ac n = s
    · rw [if_pos he]
      refine ctm_0 79 (fun w _ => ?_)
      by_cases hc : cln B s ac n (w + 1) ∧ enb B (w + 1) s ac n ≠ s
      · rw [ctAt_t hc]
        by_cases h0 : enb B (w + 1) s ac n = 0
        · exact h0
        · have hle := k3 (w + 1) (enb_ne0.mp h0) hc.1
          refine absurd ((enb_eq hs).mpr fun r hr hrs => ?_) hc.2
          have := (enb_eq hs).mp he r hr hrs
          omega
      · exact ctAt_f hc
    · rw [if_neg he]
      have hlt : lcut B n s ac < 80 := by
        by_cases h80 : lcut B n s ac < 80
        · exact h80
        · refine absurd ((enb_eq hs).mpr fun r hr hrs => ?_) he
          have h1 := (hP.e ac hr).2
          have h2 : c0 ac ≤ 80 := by cases ac <;> decide
          omega
      obtain ⟨r, hr, hrs, hre⟩ := k1
      have hpos : 1 ≤ lcut B n s ac := by
        have := (hP.e ac hr).1
        omega
      have e1 : lcut B n s ac - 1 + 1 = lcut B n s ac := by omega
      have hv : ctAt B n s (lcut B n s ac - 1 + 1) ac = enb B (lcut B n s ac) s ac n := by
        rw [e1, ctAt_t ⟨k2, he⟩]
      have hne : enb B (lcut B n s ac) s ac n ≠ 0 := enb_ne0.mpr ⟨r, hr, hrs, hre⟩
      rw [ctm_1 (v := lcut B n s ac - 1) (by rw [hv]; exact hne) (fun w hw => ?_) 79 (by omega), hv]
      by_cases hc : cln B s ac n (w + 1) ∧ enb B (w + 1) s ac n ≠ s
      · rw [ctAt_t hc]
        by_cases h0 : enb B (w + 1) s ac n = 0
        · exact h0
        · have hle := k3 (w + 1) (enb_ne0.mp h0) hc.1
          omega
      · exact ctAt_f hc
  · have hz : s = 0 := by
      apply Nat.eq_of_testBit_eq
      intro i
      rw [Nat.zero_testBit]
      by_cases hi : i < n
      · cases hsi : s.testBit i with
        | false => rfl
        | true => exact absurd ⟨i, hi, hsi⟩ hex
      · exact Nat.testBit_lt_two_pow (Nat.lt_of_lt_of_le hs (Nat.pow_le_pow_right (by decide) (by omega)))
    have he : ∀ c, enb B c s ac n = s := fun c => (enb_eq hs).mpr (fun q hq hqs => absurd ⟨q, hq, hqs⟩ hex)
    rw [if_pos (he _)]
    refine ctm_0 79 (fun w _ => ?_)
    exact ctAt_f (fun h => h.2 (he _))
/-- the class's cut is the reference's -/
theorem cuo_eq {B : FF} {n s : Nat} (hn : n ≤ 24) (hP : inP B n) (hs : s < 2 ^ n) : cuo B n s = if ctm B n s true 79 = 0 then ctm B n s false 79 else ctm B n s true 79 := by
  unfold cuo
  rw [ctm_eq hn hP hs true, ctm_eq hn hP hs false]
  by_cases he : enb B (lcut B n s true) s true n = s
  · rw [if_pos he, if_pos he, if_pos rfl]
  · rw [if_neg he, if_neg he]
    have hne : enb B (lcut B n s true) s true n ≠ 0 := by
      have hex : ∃ q, q < n ∧ s.testBit q = true := by
        by_cases hex : ∃ q, q < n ∧ s.testBit q = true
        · exact hex
        · exact absurd ((enb_eq hs).mpr (fun q hq hqs => absurd ⟨q, hq, hqs⟩ hex)) he
      obtain ⟨q, hq, hqs⟩ := hex
      exact enb_ne0.mpr (lcut_spec hn hP s true hq hqs).1
    rw [if_neg hne]
