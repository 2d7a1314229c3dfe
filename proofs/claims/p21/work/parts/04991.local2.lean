/-! pure: an order depends on its own page alone -/
theorem Ag.sub {B B' : FF} {s a : Nat} (h : Ag B B' s) (ha : ∀ i, a.testBit i = true → s.testBit i = true) : Ag B B' a := fun i hi => h i (ha i hi)
theorem nd_sub {s a i : Nat} (h : (nd s a).testBit i = true) : s.testBit i = true := by
  rw [nd_tb, Bool.and_eq_true] at h
  exact h.1
theorem chn_cg {B B' : FF} : ∀ f c, (∀ x, x ∈ chn B f c → B' x 7 = B x 7) → chn B' f c = chn B f c := by
  intro f
  induction f with
  | zero => intro c _; rfl
  | succ f ih =>
    intro c h
    cases c with
    | zero => rfl
    | succ y =>
      rw [chn_s] at h
      rw [chn_s, chn_s, h y (List.mem_cons_self ..), ih _ (fun x hx => h x (List.mem_cons_of_mem _ hx))]
theorem unc_cg {B B' : FF} {n : Nat} : ∀ f s, Ag B B' s → (∀ y, y < n → s.testBit y = true → chn B' 24 (y + 1) = chn B 24 (y + 1)) → unc B' n f s = unc B n f s := by
  intro f
  induction f with
  | zero => intro s _ _; rfl
  | succ f ih =>
    intro s h hc
    by_cases hs : s = 0
    · rw [hs, unc_0, unc_0]
    · have hf' := fbe_cg h n
      cases hf : fbe B s n with
      | zero => rw [unc_n hf, unc_n (hf'.trans hf)]
      | succ y =>
        obtain ⟨h1, h2⟩ := fbe_in hf
        rw [unc_s hs hf, unc_s hs (hf'.trans hf), hc y h2 h1, ih _ (h.sub (fun i => nd_sub)) (fun q hq hb => hc q hq (nd_sub hb))]
theorem rs_cg {B B' : FF} {n : Nat} : ∀ f s, Ag B B' s → (∀ y, y < n → s.testBit y = true → chn B' 24 (y + 1) = chn B 24 (y + 1)) → rs B' n f s = rs B n f s := by
  intro f
  induction f with
  | zero => intro s h hc; exact unc_cg 24 s h hc
  | succ f ih =>
    intro s h hc
    have e : ∀ D : FF, rs D n (f + 1) s = if cuo D n s = 0 then unc D n 24 s else rs D n f (cuo D n s) ++ rs D n f (nd s (cuo D n s)) := fun D => rfl
    rw [e, e, cuo_cg h, unc_cg 24 s h hc, ih _ (h.sub (fun i => cuo_sub)) (fun q hq hb => hc q hq (cuo_sub hb)), ih _ (h.sub (fun i => nd_sub)) (fun q hq hb => hc q hq (nd_sub hb))]
/-- boxes that follow each other are of one page -/
def PL (B : FF) (n : Nat) : Prop := ∀ i y, i < n → B i 7 = y + 1 → B y 0 = B i 0
theorem chn_page {B : FF} {n : Nat} (hB : WB B n) (hL : PL B n) : ∀ f y x, y < n → x ∈ chn B f (y + 1) → B x 0 = B y 0 := by
  intro f
  induction f with
  | zero => intro y x _ h; cases h
  | succ f ih =>
    intro y x hy h
    rw [chn_s] at h
    rcases List.mem_cons.mp h with h | h
    · rw [h]
    · cases h7 : B y 7 with
      | zero => rw [h7, chn_0] at h; cases h
      | succ z =>
        rw [h7] at h
        rw [ih z x (hB.2.2.2 y z hy h7).1 h]
        exact hL y z hy h7
theorem bfn_cg {B B' : FF} {q : Nat} : ∀ n, (∀ i, i < n → (B' i 8 = 0 ∧ B' i 0 = q ∧ B' i 6 = 0 ↔ B i 8 = 0 ∧ B i 0 = q ∧ B i 6 = 0)) → bfn B' q n = bfn B q n := by
  intro n
  induction n with
  | zero => intro _; rfl
  | succ n ih =>
    intro h
    have e : ∀ D : FF, bfn D q (n + 1) = if D n 8 = 0 ∧ D n 0 = q ∧ D n 6 = 0 then bfn D q n ||| 2 ^ n else bfn D q n := fun D => rfl
    rw [e, e, ih (fun i hi => h i (by omega))]
    have := h n (by omega)
    by_cases hc : B n 8 = 0 ∧ B n 0 = q ∧ B n 6 = 0
    · rw [if_pos hc, if_pos (this.mpr hc)]
    · rw [if_neg hc, if_neg (fun h => hc (this.mp h))]
/-- where the boxes of a page are the same, and others keep their page, its order is the same -/
theorem ordF_cg {B B' : FF} {n q : Nat} (hB : WB B n) (hL : PL B n) (hpg : ∀ i, i < n → B' i 0 = B i 0) (hs : ∀ i, i < n → B i 0 = q → ∀ b, B' i b = B i b) : ordF B' n q = ordF B n q := by
  have hb : bfn B' q n = bfn B q n := bfn_cg n (fun i hi => by
    by_cases hq : B i 0 = q
    · have := hs i hi hq
      rw [this, this, this]
    · exact ⟨fun h => absurd ((hpg i hi).symm.trans h.2.1) hq, fun h => absurd h.2.1 hq⟩)
  unfold ordF
  rw [hb]
  refine rs_cg 24 _ (fun i hi => ?_) (fun y hy hyb => chn_cg 24 _ (fun x hx => ?_))
  · have := (bfn_tb B q n i).mp hi
    exact hs i this.1 this.2.2.1
  · have h1 := (bfn_tb B q n y).mp hyb
    exact hs x (chn_lt hB 24 y x hy hx) ((chn_page hB hL 24 y x hy hx).trans h1.2.2.1) 7
