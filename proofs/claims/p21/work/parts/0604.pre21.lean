/-! what the walks of the law's checks need -/
theorem fy_1 {B : FF} {u : List Nat} {j : Nat} (h : ¬ ftA B u j = 0) : nI (fyF B u j + 1) = nI (fyF B u (j + 1)) := by
  unfold fyF; rw [fl_s, if_pos h]
theorem fy_0 {B : FF} {u : List Nat} {j : Nat} (h : ftA B u j = 0) : nI (fyF B u j + 0) = nI (fyF B u (j + 1)) := by
  unfold fyF; rw [fl_s, if_neg (fun h2 => h2 h), Nat.add_zero]
theorem ct_1 {f : Nat → Nat} {p i c : Nat} (hc : c = ctF f p i) (h : f i = p) : c + 1 = ctF f p (i + 1) := by rw [ctF_s, if_pos h, hc]
theorem ct_0 {f : Nat → Nat} {p i c : Nat} (hc : c = ctF f p i) (h : ¬ f i = p) : c + 0 = ctF f p (i + 1) := by rw [ctF_s, if_neg h, hc, Nat.add_zero]
theorem mk_1 {f g : Nat → Nat} {p i c : Nat} (hc : c = mkF f g p i) (h : f i = p) : c ||| 2 ^ g i = mkF f g p (i + 1) := by rw [mkF_s, if_pos h, hc]
theorem mk_0 {f g : Nat → Nat} {p i c : Nat} (hc : c = mkF f g p i) (h : ¬ f i = p) : c ||| 0 = mkF f g p (i + 1) := by rw [mkF_s, if_neg h, hc, Nat.or_zero]
theorem ld_eq {B : FF} {n p j : Nat} {ah : Int32} (hG : GB B n) (hj : j < (ordF B n p).length) (hah : 0 < j → ah = nI ((ordF B n p).getD (j - 1) 0)) (h : ¬ lkI (B ((ordF B n p).getD j 0) 6) < 0) : lkI (B ((ordF B n p).getD j 0) 6) = ah := by
  cases h6 : B ((ordF B n p).getD j 0) 6 with
  | zero => rw [h6] at h; exact absurd (by decide) h
  | succ y =>
    obtain ⟨h1, h2⟩ := hG.le hj h6
    rw [hah h1, h2]
    rfl
theorem fl_eq {B : FF} {n p j : Nat} (hG : GB B n) (hj : j < (ordF B n p).length) (h0 : 0 < j) (h : ¬ lkI (B ((ordF B n p).getD (j - 1) 0) 7) < 0) : lkI (B ((ordF B n p).getD (j - 1) 0) 7) = nI ((ordF B n p).getD j 0) := by
  cases h7 : B ((ordF B n p).getD (j - 1) 0) 7 with
  | zero => rw [h7] at h; exact absurd (by decide) h
  | succ z =>
    obtain ⟨h1, h2⟩ := hG.fo (show j - 1 < (ordF B n p).length by omega) h7
    rw [show j - 1 + 1 = j by omega] at h2
    rw [h2]
    rfl
theorem and1_lt {a b : Nat} (h : b < 2 ^ 31) : a &&& b < 2 ^ 31 := Nat.lt_of_le_of_lt Nat.and_le_right h
theorem fall_1 {P : FF} {f2 : Nat → Int32} {p q k : Nat} (h : ∀ x, x < k → f2 x = if x < q ∧ pgP P x = p then nI 9 else nI (pgP P x)) (hq : pgP P q = p) : ∀ x, x < k → upd f2 q (nI 9) x = if x < q + 1 ∧ pgP P x = p then nI 9 else nI (pgP P x) := by
  intro x hx
  by_cases hxq : x = q
  · subst hxq; rw [pk_us, if_pos ⟨by omega, hq⟩]
  · rw [pk_un hxq, h x hx]
    by_cases h1 : x < q ∧ pgP P x = p
    · rw [if_pos h1, if_pos ⟨by omega, h1.2⟩]
    · rw [if_neg h1, if_neg (fun h2 => h1 ⟨by omega, h2.2⟩)]
theorem fall_0 {P : FF} {f2 : Nat → Int32} {p q k : Nat} (h : ∀ x, x < k → f2 x = if x < q ∧ pgP P x = p then nI 9 else nI (pgP P x)) (hq : ¬ pgP P q = p) : ∀ x, x < k → upd f2 q (nI (pgP P q)) x = if x < q + 1 ∧ pgP P x = p then nI 9 else nI (pgP P x) := by
  intro x hx
  by_cases hxq : x = q
  · subst hxq; rw [pk_us, if_neg (fun h2 => hq h2.2)]
  · rw [pk_un hxq, h x hx]
    by_cases h1 : x < q ∧ pgP P x = p
    · rw [if_pos h1, if_pos ⟨by omega, h1.2⟩]
    · rw [if_neg h1, if_neg (fun h2 => h1 ⟨by omega, h2.2⟩)]
theorem fall_e {P P9 : FF} {f2 : Nat → Int32} {p q k c : Nat} {s : Prop} (hF : Fall P p k s c P9) (hp : p < 5) (hk : k ≤ 20) (h : ∀ x, x < k → f2 x = if x < q ∧ pgP P x = p then nI 9 else nI (pgP P x)) (hq0 : 0 < q → 0 < c) (he : q = k ∨ c = 0) : RP f2 P9 k := by
  intro x hx
  rw [h x hx]
  rcases hF.rp hp hk with ⟨h0, h1⟩ | ⟨h0, -, h1⟩
  · rw [h1 x hx, if_neg (fun h2 => by omega)]
  · rw [h1 x hx]
    by_cases h2 : pgP P x = p
    · rw [if_pos ⟨by omega, h2⟩, if_pos h2]
    · rw [if_neg (fun h3 => h2 h3.2), if_neg h2]
theorem fall_c {P P9 : FF} {p k c c5 : Nat} {s : Prop} (hF : Fall P p k s c P9) (hp : p < 5) (hk : k ≤ 20) (h0 : ¬ c = 0) (hc : c5 = ctF (pgP P) p k) : c = c5 := by
  rcases hF.rp hp hk with ⟨h1, -⟩ | ⟨-, h1, -⟩
  · exact absurd h1 h0
  · rw [hc]; exact h1
theorem lk_y {x : Nat} (h : ¬ lkI x < 0) : ∃ y, x = y + 1 ∧ lkI x = nI y := by
  cases x with
  | zero => exact absurd (by decide) h
  | succ y => exact ⟨y, rfl, rfl⟩
theorem st_0 {P : FF} {i k : Nat} (hQ : GQ P k) (hi : i < k) (h : 9 ≤ pgP P i) : P i 2 = 0 := by
  have := hQ i hi
  unfold pgP at h
  by_cases h2 : P i 2 = 0
  · exact h2
  · rw [if_neg h2] at h; omega
theorem st_1 {P : FF} {i k : Nat} (hP : GP P k) (h : ¬ 9 ≤ pgP P i) : P i 2 = 1 := by
  have := hP.2.1 i
  unfold pgP at h
  by_cases h2 : P i 2 = 0
  · rw [if_pos h2] at h; omega
  · omega
