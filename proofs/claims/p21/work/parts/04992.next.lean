/-! pure: one box more of another page changes nothing -/
section
theorem lc1_nx {B : FF} {s n : Nat} (hs : s.testBit n = false) (ac : Bool) : lc1 B s ac (n + 1) = lc1 B s ac n := by
  unfold lc1
  rw [fl_s, if_neg (by rw [hs]; exact Bool.false_ne_true)]
theorem lcp_nx {B : FF} {s n : Nat} (hs : s.testBit n = false) (ac : Bool) (c : Nat) : lcp B s ac c (n + 1) = lcp B s ac c n := by
  unfold lcp
  rw [fl_s, if_neg (fun h => by rw [hs] at h; exact Bool.false_ne_true h.1)]
theorem enb_nx {B : FF} {s n : Nat} (hs : s.testBit n = false) (ac : Bool) (c : Nat) : enb B c s ac (n + 1) = enb B c s ac n := by
  unfold enb
  rw [fl_s, if_neg (fun h => by rw [hs] at h; exact Bool.false_ne_true h.1)]
theorem lcs_nx {B : FF} {s n : Nat} (hs : s.testBit n = false) (ac : Bool) : ∀ f cm, lcs B s ac (n + 1) f cm = lcs B s ac n f cm := by
  intro f
  induction f with
  | zero => intro cm; rfl
  | succ f ih =>
    intro cm
    unfold lcs
    rw [lcp_nx hs, ih]
theorem cuo_nx {B : FF} {s n : Nat} (hs : s.testBit n = false) : cuo B (n + 1) s = cuo B n s := by
  unfold cuo lcut
  simp only [lc1_nx hs, lcs_nx hs, enb_nx hs]
theorem fbe_nx {B : FF} {s n : Nat} (hs : s.testBit n = false) : fbe B s (n + 1) = fbe B s n := by
  unfold fbe
  rw [fl_s, if_neg (fun h => by rw [hs] at h; exact Bool.false_ne_true h.1)]
theorem nd_f {s a i : Nat} (h : s.testBit i = false) : (nd s a).testBit i = false := by rw [nd_tb, h]; rfl
theorem cuo_f {B : FF} {s n i : Nat} (h : s.testBit i = false) : (cuo B n s).testBit i = false := by
  cases hc : (cuo B n s).testBit i with
  | false => rfl
  | true => rw [cuo_sub hc] at h; cases h
theorem unc_nx {B : FF} {n : Nat} : ∀ f s, s.testBit n = false → unc B (n + 1) f s = unc B n f s := by
  intro f
  induction f with
  | zero => intro s _; rfl
  | succ f ih =>
    intro s hs
    by_cases h0 : s = 0
    · rw [h0, unc_0, unc_0]
    · have hf' := fbe_nx (B := B) hs
      cases hf : fbe B s n with
      | zero => rw [unc_n hf, unc_n (hf'.trans hf)]
      | succ y => rw [unc_s h0 hf, unc_s h0 (hf'.trans hf), ih _ (nd_f hs)]
theorem rs_nx {B : FF} {n : Nat} : ∀ f s, s.testBit n = false → rs B (n + 1) f s = rs B n f s := by
  intro f
  induction f with
  | zero => intro s hs; exact unc_nx 24 s hs
  | succ f ih =>
    intro s hs
    have e : ∀ m, rs B m (f + 1) s = if cuo B m s = 0 then unc B m 24 s else rs B m f (cuo B m s) ++ rs B m f (nd s (cuo B m s)) := fun m => rfl
    rw [e, e, cuo_nx hs, unc_nx 24 s hs, ih _ (cuo_f hs), ih _ (nd_f hs)]
theorem ordF_nx {B : FF} {n q : Nat} (h : ¬ (B n 8 = 0 ∧ B n 0 = q ∧ B n 6 = 0)) : ordF B (n + 1) q = ordF B n q := by
  have hb : bfn B q (n + 1) = bfn B q n := by
    have e : bfn B q (n + 1) = if B n 8 = 0 ∧ B n 0 = q ∧ B n 6 = 0 then bfn B q n ||| 2 ^ n else bfn B q n := rfl
    rw [e, if_neg h]
  unfold ordF
  rw [hb]
  exact rs_nx 24 _ (Nat.testBit_lt_two_pow (bfn_ltn B q n))
/-- a new box changes the order of no other page -/
theorem ordF_new {B : FF} {n p x y w h kd q : Nat} (hB : WB B n) (hL : PL B n) (hq : q ≠ p) : ordF (nwB B n p x y w h kd) (n + 1) q = ordF B n q := by
  have hi : ∀ i, i < n → nwB B n p x y w h kd i = B i := fun i hi => by funext b; simp [nwB, show i ≠ n by omega]
  rw [ordF_nx (fun h => hq (by have h1 := h.2.1; simp [nwB] at h1; exact h1.symm))]
  exact ordF_cg hB hL (fun i h => by rw [hi i h]) (fun i h _ b => by rw [hi i h])
end
