/-! pure: what an order holds; orders of other pages -/
theorem GB.pf {B : FF} {n : Nat} (h : GB B n) : PF B n := by
  obtain ⟨ρ, h0, hρ⟩ := h.2.2.2.1.bd h.1
  exact PF.of h.1 h0 hρ
theorem GB.nd {B : FF} {n p : Nat} (h : GB B n) : (ordF B n p).Nodup := by
  obtain ⟨ρ, h0, hρ⟩ := h.2.2.2.1.bd h.1
  exact ordF_nodup h.1 hρ p
theorem GB.len {B : FF} {n p : Nat} (h : GB B n) : (ordF B n p).length ≤ 24 := by
  obtain ⟨ρ, h0, hρ⟩ := h.2.2.2.1.bd h.1
  exact ordF_len h.1 hρ p
theorem GB.in {B : FF} {n p : Nat} (h : GB B n) : ∀ x, x ∈ ordF B n p → x < n := ordF_lt h.1
theorem nodup_at {u : List Nat} (h : u.Nodup) : ∀ a b, a < u.length → b < u.length → u.getD a 0 = u.getD b 0 → a = b := by
  intro a b ha hb he
  rw [List.getD_eq_getElem?_getD, List.getD_eq_getElem?_getD, List.getElem?_eq_getElem ha, List.getElem?_eq_getElem hb] at he
  exact (List.getElem_inj h).mp he
theorem chn_more {B : FF} {x : Nat} : ∀ f c, x ∈ chn B f c → ∀ f', f ≤ f' → x ∈ chn B f' c := by
  intro f
  induction f with
  | zero => intro c h; cases h
  | succ f ih =>
    intro c h f' hf
    cases c with
    | zero => rw [chn_0] at h; cases h
    | succ y =>
      obtain ⟨f2, rfl⟩ : ∃ q, f' = q + 1 := ⟨f' - 1, by omega⟩
      rw [chn_s] at h ⊢
      rcases List.mem_cons.mp h with h | h
      · rw [h]; exact List.mem_cons_self ..
      · exact List.mem_cons_of_mem _ (ih _ h f2 (by omega))
/-- the box that a chain begins with -/
theorem GB.root {B : FF} {n j : Nat} (hG : GB B n) (hj : j < n) (hg : B j 8 = 0) : ∃ y, y < n ∧ B y 6 = 0 ∧ B y 8 = 0 ∧ B y 0 = B j 0 ∧ j ∈ chn B 24 (y + 1) := by
  obtain ⟨ρ, h0, hρ⟩ := hG.2.2.2.1.bd hG.1
  have H : ∀ m y, 24 - ρ y ≤ m → y < n → B y 8 = 0 → B y 0 = B j 0 → j ∈ chn B (ρ y + 1) (y + 1) → ∃ y, y < n ∧ B y 6 = 0 ∧ B y 8 = 0 ∧ B y 0 = B j 0 ∧ j ∈ chn B 24 (y + 1) := by
    intro m
    induction m with
    | zero => intro y hm; have := h0 y; omega
    | succ m ih =>
      intro y hm hy h8 hp hc
      have hy24 := h0 y
      cases h6 : B y 6 with
      | zero => exact ⟨y, hy, h6, h8, hp, chn_more _ _ hc 24 (by omega)⟩
      | succ z =>
        obtain ⟨hz, hz7⟩ := hG.1.2.2.1 y z hy h6
        have hr := hρ z y hz hz7
        refine ih z (by omega) hz (Decidable.byContradiction fun h => by have := (hG.2.2.2.2.2 z hz h).2; rw [hz7] at this; cases this) ((hG.2.2.1 z y hz hz7).symm.trans hp) ?_
        rw [chn_s, hz7]
        exact List.mem_cons_of_mem _ (chn_more _ _ hc _ (by omega))
  exact H 24 j (by omega) hj hg rfl (by rw [chn_s]; exact List.mem_cons_self ..)
theorem unc_all {B : FF} {n x y : Nat} (hy : y < n) (hx : x ∈ chn B 24 (y + 1)) : ∀ f s, pc s n ≤ f → s.testBit y = true → x ∈ unc B n f s := by
  intro f
  induction f with
  | zero => intro s hs hb; have := pc_pos hb n hy; omega
  | succ f ih =>
    intro s hs hb
    have h0 : s ≠ 0 := fun h => by rw [h, Nat.zero_testBit] at hb; cases hb
    cases hf : fbe B s n with
    | zero => exact absurd hf (fbe_ne hb n hy)
    | succ z =>
      obtain ⟨hz1, hz2⟩ := fbe_in hf
      rw [unc_s h0 hf, List.mem_append]
      by_cases hzy : z = y
      · subst hzy; exact Or.inl hx
      · right
        have hsub : ∀ i, (2 ^ z).testBit i = true → s.testBit i = true := fun i hi => by
          rw [Nat.testBit_two_pow, decide_eq_true_eq] at hi
          rw [← hi]; exact hz1
        have hsp := pc_split hsub n
        have hp1 := pc_pos (s := 2 ^ z) (i := z) (by rw [Nat.testBit_two_pow, decide_eq_true_eq]) n hz2
        refine ih _ (by omega) ?_
        rw [nd_tb, hb, Nat.testBit_two_pow, decide_eq_false hzy]
        rfl
theorem rs_all {B : FF} {n x y : Nat} (hn : n ≤ 24) (hy : y < n) (hx : x ∈ chn B 24 (y + 1)) : ∀ f s, s.testBit y = true → x ∈ rs B n f s := by
  intro f
  induction f with
  | zero => intro s hb; exact unc_all hy hx 24 s (by have := pc_le s n; omega) hb
  | succ f ih =>
    intro s hb
    by_cases hc : cuo B n s = 0
    · rw [show rs B n (f + 1) s = unc B n 24 s by simp [rs, hc]]
      exact unc_all hy hx 24 s (by have := pc_le s n; omega) hb
    · rw [show rs B n (f + 1) s = rs B n f (cuo B n s) ++ rs B n f (nd s (cuo B n s)) by simp [rs, hc], List.mem_append]
      cases hq : (cuo B n s).testBit y with
      | true => exact Or.inl (ih _ hq)
      | false => exact Or.inr (ih _ (by rw [nd_tb, hb, hq]; rfl))
/-- a box that is there is read on its page -/
theorem GB.mem {B : FF} {n j : Nat} (hG : GB B n) (hj : j < n) (hg : B j 8 = 0) : j ∈ ordF B n (B j 0) := by
  obtain ⟨y, h1, h2, h3, h4, h5⟩ := hG.root hj hg
  exact rs_all hG.1.1 h1 h5 24 _ ((bfn_tb B (B j 0) n y).mpr ⟨h1, h3, h4, h2⟩)
theorem ord_mv {B : FF} {n j x y q : Nat} (hG : GB B n) (hj : j < n) (hq : q ≠ B j 0) : ordF (mvB B j x y) n q = ordF B n q := by
  refine ordF_cg hG.1 hG.2.2.1 (fun i _ => by unfold mvB; rw [u2_ne (by decide), u2_ne (by decide)]) (fun i hi hiq b => ?_)
  have : i ≠ j := fun h => hq (by rw [← hiq, h])
  simp [mvB, u2, this]
theorem ord_sz {B : FF} {n j x y q : Nat} (hG : GB B n) (hj : j < n) (hq : q ≠ B j 0) : ordF (szB B j x y) n q = ordF B n q := by
  refine ordF_cg hG.1 hG.2.2.1 (fun i _ => by unfold szB; rw [u2_ne (by decide), u2_ne (by decide)]) (fun i hi hiq b => ?_)
  have : i ≠ j := fun h => hq (by rw [← hiq, h])
  simp [szB, u2, this]
theorem ord_cut {B : FF} {n j y q : Nat} (hG : GB B n) (hj : j < n) (h6 : B j 6 = y + 1) (hq : q ≠ B j 0) : ordF (cutT B y j) n q = ordF B n q := by
  obtain ⟨hy, h7⟩ := hG.1.2.2.1 j y hj h6
  have hp := hG.2.2.1 y j hy h7
  refine ordF_cg hG.1 hG.2.2.1 (fun i _ => cutT_c (by decide) (by decide)) (fun i hi hiq b => ?_)
  have h1 : i ≠ j := fun h => hq (by rw [← hiq, h])
  have h2 : i ≠ y := fun h => hq (by rw [← hiq, h, hp])
  rw [cutT_at, if_neg (fun h => h1 h.1), if_neg (fun h => h2 h.1)]
theorem ord_ul {B : FF} {n j q : Nat} (hG : GB B n) (hj : j < n) (hq : q ≠ B j 0) : ordF (unl B j) n q = ordF B n q := by
  cases h : B j 6 with
  | zero => rw [ulc_0 h]
  | succ y => rw [ulc_1 h]; exact ord_cut hG hj h hq
theorem ord_uf {B : FF} {n j q : Nat} (hG : GB B n) (hj : j < n) (hq : q ≠ B j 0) : ordF (unf B j) n q = ordF B n q := by
  cases h : B j 7 with
  | zero => rw [ufc_0 h]
  | succ z =>
    obtain ⟨h1, h2⟩ := hG.1.2.2.2 j z hj h
    rw [ufc_1 h]
    exact ord_cut hG h1 h2 (by rw [hG.2.2.1 j z hj h]; exact hq)
theorem ord_rm {B : FF} {n j q : Nat} (hG : GB B n) (hj : j < n) (hq : q ≠ B j 0) : ordF (rmB B j) n q = ordF B n q := by
  have h1 := hG.ul (j := j) hj
  have h2 := h1.uf (j := j) hj
  have e1 : unl B j j 0 = B j 0 := ul_c (by decide) (by decide)
  have e2 : unf (unl B j) j j 0 = B j 0 := (uf_c (by decide) (by decide)).trans e1
  have s1 : ordF (rmB B j) n q = ordF (unf (unl B j) j) n q := by
    refine ordF_cg h2.1 h2.2.2.1 (fun i _ => u2_ne (by decide)) (fun i hi hiq b => ?_)
    have : i ≠ j := fun h => hq (by rw [← hiq, h, e2])
    show u2 (unf (unl B j) j) j 8 1 i b = _
    unfold u2
    rw [if_neg (fun h => this h.1)]
  rw [s1, ord_uf h1 hj (by rw [e1]; exact hq), ord_ul hG hj hq]
theorem ord_ti {B : FF} {n j t q : Nat} (hG : GB B n) (hj : j < n) (ht : t < n) (hpp : B j 0 = B t 0) (hq : q ≠ B j 0) : ordF (tieB B j t) n q = ordF B n q := by
  refine ordF_cg hG.1 hG.2.2.1 (fun i _ => by rw [tieB_at, if_neg (fun h2 => by cases h2.2), if_neg (fun h2 => by cases h2.2)]) (fun i hi hiq b => ?_)
  have h1 : i ≠ j := fun h => hq (by rw [← hiq, h])
  have h2 : i ≠ t := fun h => hq (by rw [← hiq, h, hpp])
  rw [tieB_at, if_neg (fun h => h2 h.1), if_neg (fun h => h1 h.1)]
/-- approvals between calls -/
def GP (P : FF) (k : Nat) : Prop := (∀ i, P i 0 < 6) ∧ (∀ i, P i 2 ≤ 1) ∧ k ≤ 20 ∧ ∀ i j, P i j < 128
theorem GP.lf {P : FF} {k p q : Nat} (h : GP P k) : GP (lfP P p q) k := by
  refine ⟨fun i => ?_, fun i => ?_, h.2.2.1, fun i j => ?_⟩
  · have := h.1 i; simp [lfP]; omega
  · have := h.2.1 i; unfold lfP; split <;> omega
  · have := h.2.2.2 i j; unfold lfP; split <;> omega
theorem GP.nw {P : FF} {k a p : Nat} (h : GP P k) (hk : k < 20) (ha : a < 6) (hp : p < 5) : GP (nwP P k a p) (k + 1) := by
  refine ⟨fun i => ?_, fun i => ?_, by omega, fun i j => ?_⟩
  · have := h.1 i; unfold nwP; (repeat' split) <;> omega
  · have := h.2.1 i; unfold nwP; (repeat' split) <;> omega
  · have := h.2.2.2 i j; unfold nwP; (repeat' split) <;> omega
theorem Fall.one {P : FF} {p k c c' : Nat} {s : Prop} {P9 P9' : FF} (h : Fall P p k s c P9) (h' : Fall P p k s c' P9') : c = c' ∧ P9 = P9' := by
  rcases h with ⟨a, b, e⟩ | ⟨a, b, e⟩ <;> rcases h' with ⟨a', b', e'⟩ | ⟨a', b', e'⟩
  · exact ⟨by rw [b, b'], by rw [e, e']⟩
  · exact absurd a a'
  · exact absurd a' a
  · exact ⟨by rw [b, b'], by rw [e, e']⟩
theorem GP.fall {P : FF} {p k q c : Nat} {s : Prop} {P9 : FF} (h : GP P k) (hF : Fall P p k s c P9) : GP P9 k := by
  rcases hF with ⟨-, -, rfl⟩ | ⟨-, -, rfl⟩
  · exact h
  · exact h.lf
