/-! pure: what a page's order holds; who follows whom stands right behind -/
theorem chn_here {B : FF} {n : Nat} (hG : GB B n) : ∀ f y x, y < n → B y 8 = 0 → x ∈ chn B f (y + 1) → B x 8 = 0 := by
  intro f
  induction f with
  | zero => intro y x _ _ h; cases h
  | succ f ih =>
    intro y x hy h8 h
    rw [chn_s] at h
    rcases List.mem_cons.mp h with h | h
    · rw [h]; exact h8
    · cases h7 : B y 7 with
      | zero => rw [h7, chn_0] at h; cases h
      | succ z =>
        rw [h7] at h
        obtain ⟨hz, hz6⟩ := hG.1.2.2.2 y z hy h7
        refine ih z x hz (Decidable.byContradiction fun h9 => ?_) h
        have := (hG.2.2.2.2.2 z hz h9).1
        rw [hz6] at this
        cases this
theorem GB.pg {B : FF} {n p x : Nat} (hG : GB B n) (hx : x ∈ ordF B n p) : x < n ∧ B x 8 = 0 ∧ B x 0 = p := by
  obtain ⟨y, h1, h2, h3⟩ := rs_mem 24 _ x hx
  obtain ⟨-, b2, b3, -⟩ := (bfn_tb B p n y).mp h2
  exact ⟨chn_lt hG.1 24 y x h1 h3, chn_here hG 24 y x h1 b2 h3, (chn_page hG.1 hG.2.2.1 24 y x h1 h3).trans b3⟩
def Nx (B : FF) (u : List Nat) : Prop := ∀ j y z, u[j]? = some y → B y 7 = z + 1 → u[j + 1]? = some z
theorem Nx.nil {B : FF} : Nx B [] := fun j y z h => by simp at h
theorem Nx.app {B : FF} {a b : List Nat} (ha : Nx B a) (hb : Nx B b) : Nx B (a ++ b) := by
  intro j y z h h7
  by_cases hj : j < a.length
  · rw [List.getElem?_append_left hj] at h
    have h2 := ha j y z h h7
    rw [List.getElem?_append_left (List.getElem?_eq_some_iff.mp h2).1]
    exact h2
  · rw [List.getElem?_append_right (by omega)] at h
    rw [List.getElem?_append_right (by omega), show j + 1 - a.length = j - a.length + 1 by omega]
    exact hb _ y z h h7
theorem chn_nx {B : FF} {n : Nat} (hB : WB B n) {ρ : Nat → Nat} (hρ : ∀ i y, i < n → B i 7 = y + 1 → ρ y < ρ i) : ∀ f y, y < n → ρ y < f → Nx B (chn B f (y + 1)) := by
  intro f
  induction f with
  | zero => intro y _ h; exact absurd h (Nat.not_lt_zero _)
  | succ f ih =>
    intro y hy hf j a z h h7
    rw [chn_s] at h ⊢
    cases j with
    | zero =>
      simp at h
      subst h
      have hz := hρ y z hy h7
      obtain ⟨f2, rfl⟩ : ∃ q, f = q + 1 := ⟨f - 1, by omega⟩
      rw [h7, chn_s]
      rfl
    | succ j =>
      simp only [List.getElem?_cons_succ] at h ⊢
      cases hy7 : B y 7 with
      | zero => rw [hy7, chn_0] at h; simp at h
      | succ w =>
        rw [hy7] at h
        have hw := hρ y w hy hy7
        exact ih w (hB.2.2.2 y w hy hy7).1 (by omega) j a z h h7
theorem unc_nxt {B : FF} {n : Nat} (hB : WB B n) {ρ : Nat → Nat} (h0 : ∀ i, ρ i < 24) (hρ : ∀ i y, i < n → B i 7 = y + 1 → ρ y < ρ i) : ∀ f s, Nx B (unc B n f s) := by
  intro f
  induction f with
  | zero => intro s; exact Nx.nil
  | succ f ih =>
    intro s
    by_cases hs : s = 0
    · rw [hs, unc_0]; exact Nx.nil
    · cases hf : fbe B s n with
      | zero => rw [unc_n hf]; exact Nx.nil
      | succ y =>
        rw [unc_s hs hf]
        exact (chn_nx hB hρ 24 y (fbe_in hf).2 (h0 y)).app (ih _)
theorem rs_nxt {B : FF} {n : Nat} (hB : WB B n) {ρ : Nat → Nat} (h0 : ∀ i, ρ i < 24) (hρ : ∀ i y, i < n → B i 7 = y + 1 → ρ y < ρ i) : ∀ f s, Nx B (rs B n f s) := by
  intro f
  induction f with
  | zero => intro s; exact unc_nxt hB h0 hρ 24 s
  | succ f ih =>
    intro s
    by_cases hc : cuo B n s = 0
    · rw [show rs B n (f + 1) s = unc B n 24 s by simp [rs, hc]]
      exact unc_nxt hB h0 hρ 24 s
    · rw [show rs B n (f + 1) s = rs B n f (cuo B n s) ++ rs B n f (nd s (cuo B n s)) by simp [rs, hc]]
      exact (ih _).app (ih _)
theorem GB.nx {B : FF} {n p : Nat} (hG : GB B n) : Nx B (ordF B n p) := by
  obtain ⟨ρ, h0, hρ⟩ := hG.2.2.2.1.bd hG.1
  exact rs_nxt hG.1 h0 hρ 24 _
theorem gD {u : List Nat} {j : Nat} (h : j < u.length) : u[j]? = some (u.getD j 0) := by
  rw [List.getD_eq_getElem?_getD, List.getElem?_eq_getElem h]; rfl
theorem gDm {u : List Nat} {j : Nat} (h : j < u.length) : u.getD j 0 ∈ u := List.mem_of_getElem? (gD h)
theorem gDo {u : List Nat} {j x : Nat} (h : u[j]? = some x) : j < u.length ∧ u.getD j 0 = x := ⟨(List.getElem?_eq_some_iff.mp h).1, by rw [List.getD_eq_getElem?_getD, h]; rfl⟩
/-- the box that one leads is read right behind it -/
theorem GB.fo {B : FF} {n p j z : Nat} (hG : GB B n) (hj : j < (ordF B n p).length) (h7 : B ((ordF B n p).getD j 0) 7 = z + 1) : j + 1 < (ordF B n p).length ∧ (ordF B n p).getD (j + 1) 0 = z := gDo (hG.nx j _ z (gD hj) h7)
/-- the one that a box follows is read right ahead of it -/
theorem GB.le {B : FF} {n p j y : Nat} (hG : GB B n) (hj : j < (ordF B n p).length) (h6 : B ((ordF B n p).getD j 0) 6 = y + 1) : 0 < j ∧ (ordF B n p).getD (j - 1) 0 = y := by
  obtain ⟨h1, h2, h3⟩ := hG.pg (gDm hj)
  obtain ⟨hy, hy7⟩ := hG.1.2.2.1 _ y h1 h6
  have hy8 : B y 8 = 0 := Decidable.byContradiction fun h => by have := (hG.2.2.2.2.2 y hy h).2; rw [hy7] at this; cases this
  have hyp : B y 0 = p := (hG.2.2.1 y _ hy hy7).symm.trans h3
  have hm := hG.mem hy hy8
  rw [hyp] at hm
  obtain ⟨i, hi⟩ := List.getElem?_of_mem hm
  obtain ⟨hi1, hi2⟩ := gDo hi
  obtain ⟨q1, q2⟩ := gDo (hG.nx i y _ hi hy7)
  have := nodup_at (hG.nd (p := p)) (i + 1) j q1 hj q2
  subst this
  exact ⟨Nat.succ_pos _, hi2⟩
/-- how many of the first n a function takes to p -/
def ctF (f : Nat → Nat) (p : Nat) : Nat → Nat := fl (fun c i => if f i = p then c + 1 else c) 0
theorem ctF_s {f : Nat → Nat} {p n : Nat} : ctF f p (n + 1) = if f n = p then ctF f p n + 1 else ctF f p n := rfl
theorem ctF_le (f : Nat → Nat) (p : Nat) : ∀ n, ctF f p n ≤ n := by
  intro n
  induction n with
  | zero => exact Nat.le_refl _
  | succ n ih => rw [ctF_s]; split <;> omega
theorem ctF_len {f : Nat → Nat} {p : Nat} : ∀ (n : Nat) (u : List Nat), u.Nodup → (∀ x, x ∈ u ↔ x < n ∧ f x = p) → ctF f p n = u.length := by
  intro n
  induction n with
  | zero =>
    intro u _ h
    cases u with
    | nil => rfl
    | cons x t => exact absurd ((h x).mp (List.mem_cons_self ..)).1 (Nat.not_lt_zero _)
  | succ n ih =>
    intro u hd h
    rw [ctF_s]
    by_cases hn : f n = p
    · have hm : n ∈ u := (h n).mpr ⟨Nat.lt_succ_self n, hn⟩
      have h1 := ih (u.erase n) (hd.erase n) (fun x => by
        constructor
        · intro hx
          have h2 := (h x).mp (List.mem_of_mem_erase hx)
          have h3 : x ≠ n := fun e => by rw [e] at hx; exact hd.not_mem_erase hx
          exact ⟨by omega, h2.2⟩
        · rintro ⟨h2, h3⟩
          exact (List.mem_erase_of_ne (by omega)).mpr ((h x).mpr ⟨by omega, h3⟩))
      have h4 := List.length_pos_of_mem hm
      rw [List.length_erase_of_mem hm] at h1
      rw [if_pos hn]
      omega
    · rw [if_neg hn]
      refine ih u hd (fun x => ?_)
      rw [h x]
      constructor
      · rintro ⟨h1, h2⟩
        have : x ≠ n := fun e => hn (by rw [← e]; exact h2)
        exact ⟨by omega, h2⟩
      · rintro ⟨h1, h2⟩
        exact ⟨by omega, h2⟩
theorem ctF_c {f g : Nat → Nat} {p : Nat} : ∀ n, (∀ i, i < n → f i = g i) → ctF f p n = ctF g p n := by
  intro n
  induction n with
  | zero => intro _; rfl
  | succ n ih => intro h; rw [ctF_s, ctF_s, ih (fun i hi => h i (by omega)), h n (by omega)]
/-- the page of a box that is there, 9 of one that is gone; the page of an approval that stands, 9 of one that has fallen -/
def pgB (B : FF) (i : Nat) : Nat := if B i 8 = 0 then B i 0 else 9
def pgP (P : FF) (i : Nat) : Nat := if P i 2 = 0 then 9 else P i 1
theorem GB.many {B : FF} {n p : Nat} (hG : GB B n) (hp : p < 5) : ctF (pgB B) p n = (ordF B n p).length := by
  refine ctF_len n _ hG.nd (fun x => ⟨fun h => ?_, fun ⟨h1, h2⟩ => ?_⟩)
  · obtain ⟨h1, h2, h3⟩ := hG.pg h
    exact ⟨h1, by rw [pgB, if_pos h2]; exact h3⟩
  · unfold pgB at h2
    by_cases h8 : B x 8 = 0
    · rw [if_pos h8] at h2
      have := hG.mem h1 h8
      rw [h2] at this
      exact this
    · rw [if_neg h8] at h2; omega
theorem ctF_cnt {P : FF} {p k : Nat} (hp : p < 5) : ∀ m, cnt P p k m = ctF (pgP P) p (if m < k then m else k) := by
  intro m
  induction m with
  | zero =>
    by_cases h : 0 < k
    · rw [if_pos h]; rfl
    · rw [if_neg h, show k = 0 by omega]; rfl
  | succ m ih =>
    unfold cnt at ih ⊢
    rw [fl_s, ih]
    by_cases h1 : m < k
    · rw [if_pos h1]
      have e : (if m + 1 < k then m + 1 else k) = m + 1 := by split <;> omega
      rw [e, ctF_s]
      by_cases h2 : P m 2 = 0
      · rw [if_neg (fun h => h.2.1 h2), if_neg (by rw [pgP, if_pos h2]; omega)]
      · rw [pgP, if_neg h2]
        by_cases h3 : P m 1 = p
        · rw [if_pos ⟨h1, h2, h3⟩, if_pos h3]
        · rw [if_neg (fun h => h3 h.2.2), if_neg h3]
    · rw [if_neg h1, if_neg (fun h => h1 h.1), if_neg (by omega)]
theorem cnt_ct {P : FF} {p k : Nat} (hp : p < 5) (hk : k ≤ 20) : cnt P p k 20 = ctF (pgP P) p k := by
  rw [ctF_cnt hp]
  congr 1
  split <;> omega
/-- the persons whose approvals of p stand -/
def mkF (f g : Nat → Nat) (p : Nat) : Nat → Nat := fl (fun m i => if f i = p then m ||| 2 ^ g i else m) 0
theorem mkF_s {f g : Nat → Nat} {p n : Nat} : mkF f g p (n + 1) = if f n = p then mkF f g p n ||| 2 ^ g n else mkF f g p n := rfl
theorem mkF_msk {P : FF} {p k : Nat} (hp : p < 5) : ∀ m, msk P p k m = mkF (pgP P) (fun i => P i 0) p (if m < k then m else k) := by
  intro m
  induction m with
  | zero =>
    by_cases h : 0 < k
    · rw [if_pos h]; rfl
    · rw [if_neg h, show k = 0 by omega]; rfl
  | succ m ih =>
    unfold msk at ih ⊢
    rw [fl_s, ih]
    by_cases h1 : m < k
    · rw [if_pos h1]
      have e : (if m + 1 < k then m + 1 else k) = m + 1 := by split <;> omega
      rw [e, mkF_s]
      by_cases h2 : P m 2 = 0
      · rw [if_neg (fun h => h.2.1 h2), if_neg (by rw [pgP, if_pos h2]; omega)]
      · rw [pgP, if_neg h2]
        by_cases h3 : P m 1 = p
        · rw [if_pos ⟨h1, h2, h3⟩, if_pos h3]
        · rw [if_neg (fun h => h3 h.2.2), if_neg h3]
    · rw [if_neg h1, if_neg (fun h => h1 h.1), if_neg (by omega)]
theorem msk_mk {P : FF} {p k : Nat} (hp : p < 5) (hk : k ≤ 20) : msk P p k 20 = mkF (pgP P) (fun i => P i 0) p k := by
  rw [mkF_msk hp]
  congr 1
  split <;> omega
theorem mkF_lt {f g : Nat → Nat} {p : Nat} (hg : ∀ i, g i < 6) : ∀ n, mkF f g p n < 2 ^ 6 := by
  intro n
  induction n with
  | zero => exact Nat.two_pow_pos 6
  | succ n ih =>
    rw [mkF_s]
    split
    · exact or_lt ih (hg n)
    · exact ih
theorem mkF_tb {f g : Nat → Nat} {p i : Nat} (hf : f i = p) : ∀ n, i < n → (mkF f g p n).testBit (g i) = true := by
  intro n
  induction n with
  | zero => intro h; exact absurd h (Nat.not_lt_zero _)
  | succ n ih =>
    intro h
    rw [mkF_s]
    by_cases hin : i = n
    · subst hin
      rw [if_pos hf, Nat.testBit_or, Nat.testBit_two_pow]
      simp
    · have := ih (by omega)
      split
      · rw [Nat.testBit_or, this]; rfl
      · exact this
theorem mkF_0 {f g : Nat → Nat} {p : Nat} : ∀ n, (∀ i, i < n → f i ≠ p) → mkF f g p n = 0 := by
  intro n
  induction n with
  | zero => intro _; rfl
  | succ n ih => intro h; rw [mkF_s, if_neg (h n (by omega)), ih (fun i hi => h i (by omega))]
theorem pgP_lf {P : FF} {p i : Nat} (hi : i < 20) : pgP (lfP P p 20) i = if P i 1 = p then 9 else pgP P i := by
  unfold pgP lfP
  by_cases h : P i 1 = p
  · simp [h, hi]
  · simp [h]
/-- the bits of the boxes that are read ahead of place i -/
def stF (u : List Nat) : Nat → Nat := fl (fun m q => m ||| 2 ^ (u.getD q 0)) 0
theorem stF_s {u : List Nat} {i : Nat} : stF u (i + 1) = stF u i ||| 2 ^ (u.getD i 0) := rfl
theorem stF_tb {u : List Nat} {x : Nat} : ∀ i, (stF u i).testBit x = true → ∃ q, q < i ∧ u.getD q 0 = x := by
  intro i
  induction i with
  | zero => intro h; rw [show stF u 0 = 0 from rfl, Nat.zero_testBit] at h; cases h
  | succ i ih =>
    intro h
    rw [stF_s, Nat.testBit_or, Bool.or_eq_true, Nat.testBit_two_pow, decide_eq_true_eq] at h
    rcases h with h | h
    · obtain ⟨q, h1, h2⟩ := ih h
      exact ⟨q, by omega, h2⟩
    · exact ⟨i, by omega, h⟩
theorem stF_lt {u : List Nat} (hu : ∀ q, q < u.length → u.getD q 0 < 24) : ∀ i, i ≤ u.length → stF u i < 2 ^ 24 := by
  intro i
  induction i with
  | zero => intro _; exact Nat.two_pow_pos 24
  | succ i ih =>
    intro h
    rw [stF_s]
    exact or_lt (ih (by omega)) (hu i (by omega))
theorem stF_new {u : List Nat} (hd : u.Nodup) {i : Nat} (hi : i < u.length) : (stF u i / 2 ^ (u.getD i 0)) &&& 1 = 0 := by
  rw [tb_div]
  cases h : (stF u i).testBit (u.getD i 0) with
  | false => rfl
  | true =>
    obtain ⟨q, h1, h2⟩ := stF_tb i h
    have := nodup_at hd q i (by omega) hi h2
    omega
theorem five {a b c d e : Nat} (ha : a < 2) (hb : b < 2) (hc : c < 2) (hd : d < 2) (he : e < 2) : (a ||| 2 * b ||| 4 * c ||| 8 * d ||| 16 * e) < 32 ∧ (a ||| 2 * b ||| 4 * c ||| 8 * d ||| 16 * e) &&& 1 = a ∧ (a ||| 2 * b ||| 4 * c ||| 8 * d ||| 16 * e) &&& 2 = 2 * b ∧ (a ||| 2 * b ||| 4 * c ||| 8 * d ||| 16 * e) &&& 4 = 4 * c ∧ (a ||| 2 * b ||| 4 * c ||| 8 * d ||| 16 * e) &&& 16 = 16 * e := by
  rcases (show a = 0 ∨ a = 1 by omega) with rfl | rfl <;> rcases (show b = 0 ∨ b = 1 by omega) with rfl | rfl <;> rcases (show c = 0 ∨ c = 1 by omega) with rfl | rfl <;> rcases (show d = 0 ∨ d = 1 by omega) with rfl | rfl <;> rcases (show e = 0 ∨ e = 1 by omega) with rfl | rfl <;> decide
theorem ftA_5 (B : FF) (u : List Nat) (j : Nat) : ftA B u j < 32 ∧ ftA B u j &&& 1 = f1 B u j ∧ ftA B u j &&& 2 = f2 B u j ∧ ftA B u j &&& 4 = f3 B u j ∧ ftA B u j &&& 16 = f5 B u j := by
  obtain ⟨a, ha, ea⟩ : ∃ a, a < 2 ∧ f1 B u j = a := by unfold f1; split; exact ⟨1, by decide, rfl⟩; exact ⟨0, by decide, rfl⟩
  obtain ⟨b, hb, eb⟩ : ∃ a, a < 2 ∧ f2 B u j = 2 * a := by unfold f2; split; exact ⟨1, by decide, rfl⟩; exact ⟨0, by decide, rfl⟩
  obtain ⟨c, hc, ec⟩ : ∃ a, a < 2 ∧ f3 B u j = 4 * a := by unfold f3; split; exact ⟨1, by decide, rfl⟩; exact ⟨0, by decide, rfl⟩
  obtain ⟨d, hd, ed⟩ : ∃ a, a < 2 ∧ f4 B u j = 8 * a := by unfold f4; split; exact ⟨1, by decide, rfl⟩; exact ⟨0, by decide, rfl⟩
  obtain ⟨e, he, ee⟩ : ∃ a, a < 2 ∧ f5 B u j = 16 * a := by unfold f5; split; exact ⟨1, by decide, rfl⟩; exact ⟨0, by decide, rfl⟩
  unfold ftA
  rw [ea, eb, ec, ed, ee]
  exact five ha hb hc hd he
theorem ft_1 {B : FF} {u : List Nat} {j : Nat} (h : ¬ 3 < B (u.getD j 0) 5) : ftA B u j &&& 1 = 0 := by
  rw [(ftA_5 B u j).2.1, f1, if_neg (fun h2 => h (by omega))]
theorem ft_2 {B : FF} {u : List Nat} {j : Nat} (h : ¬ B (u.getD j 0) 5 = 1) : ftA B u j &&& 2 = 0 := by
  rw [(ftA_5 B u j).2.2.1, f2, if_neg (fun h2 => h h2.1)]
theorem ft_4 {B : FF} {u : List Nat} {j : Nat} (h : ¬ B (u.getD j 0) 5 = 3) : ftA B u j &&& 4 = 0 := by
  rw [(ftA_5 B u j).2.2.2.1, f3, if_neg (fun h2 => h h2.1)]
theorem ft_16 {B : FF} {u : List Nat} {j : Nat} (h : j = 0) : ftA B u j &&& 16 = 0 := by
  rw [(ftA_5 B u j).2.2.2.2, f5, if_neg (fun h2 => by omega)]
theorem mv_same {B : FF} {j x y : Nat} : mvB (mvB B j x y) j x y = mvB B j x y := by
  funext a b
  simp only [mvB, u2]
  split <;> (try rfl)
  split <;> rfl
/-- where a box is put or goes, the order is another one -/
theorem ord_new {B : FF} {n p x y w h kd : Nat} (hG : GB B n) (hG2 : GB (nwB B n p x y w h kd) (n + 1)) : ordF (nwB B n p x y w h kd) (n + 1) p ≠ ordF B n p := by
  intro he
  have h1 := hG2.mem (Nat.lt_succ_self n) (by simp [nwB])
  rw [show nwB B n p x y w h kd n 0 = p by simp [nwB], he] at h1
  exact absurd (hG.in n h1) (Nat.lt_irrefl _)
theorem ord_gone {B : FF} {n j : Nat} (hG : GB B n) (hj : j < n) (hg : B j 8 = 0) : ordF (rmB B j) n (B j 0) ≠ ordF B n (B j 0) := by
  intro he
  have h1 := hG.mem hj hg
  rw [← he] at h1
  have := ((hG.rm hj).pg h1).2.1
  rw [rmB, show u2 (unf (unl B j) j) j 8 1 j 8 = 1 by simp [u2]] at this
  cases this
