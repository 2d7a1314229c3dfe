/-! the law's calls that change something: what they answer, and where they leave the class -/
theorem CI.fr {ω : Om} {A B P : FF} {n k : Nat} {R : Nat → (Nat → Int32) × Nat} {Z : Nat → Prop} {M M' : MM} (h : CI ω A B P n k R Z M) (hf : ∀ z, Z z → M' z = M z) : CI ω A B P n k R Z M' := by
  obtain ⟨⟨x1, x2, x3, x4, x5, x6, x7⟩, h2, h3, h4, h5, h6, hZ, h8⟩ := h
  exact ⟨⟨by rw [hf _ (hZ 0 0)]; exact x1, by rw [hf _ (hZ 0 1)]; exact x2, by rw [hf _ (hZ 0 2)]; exact x3, by rw [hf _ (hZ 0 3)]; exact x4, fun i hi => by rw [hf _ (hZ 1 i)]; exact x5 i hi, fun p hp => ⟨by rw [hf _ (hZ 2 p)]; exact (x6 p hp).1, by rw [hf _ (hZ 3 p)]; exact (x6 p hp).2⟩, fun i hi => by rw [hf _ (hZ 4 i)]; exact x7 i hi⟩, h2, h3, h4, h5, h6, hZ, h8⟩
theorem fr_or {Z : Nat → Prop} {M M9 : MM} {q z : Nat} {e : va_E} (hF : Fr (fun z => Z z ∨ z = q) M M9) (hq : M q = none) (hz : ¬ Z z) (he : M z = some e) : M9 z = some e := (hF z (fun h => h.elim hz (fun h => by rw [h, hq] at he; cases he))).trans he
theorem z_or {Z : Nat → Prop} {M : MM} {q z : Nat} {e : va_E} (hq : M q = none) (hz : ¬ Z z) (he : M z = some e) : ¬ (Z z ∨ z = q) := fun h => h.elim hz (fun h => by rw [h, hq] at he; cases he)
theorem Fall.no {P P9 : FF} {p k c : Nat} {s : Prop} (hF : Fall P p k s c P9) (hs : ¬ s) (hp : p < 5) (hk : k ≤ 20) : c = ctF (pgP P) p k := by
  rcases hF with ⟨h, -⟩ | ⟨-, rfl, -⟩
  · exact absurd h hs
  · exact cnt_ct hp hk
theorem Fall.none {P P9 : FF} {p k c : Nat} {s : Prop} (hF : Fall P p k s c P9) (hs : ¬ s) (hp : p < 5) (hk : k ≤ 20) : ∀ i, i < k → pgP P9 i ≠ p := by
  rcases hF with ⟨h, -⟩ | ⟨-, -, rfl⟩
  · exact absurd h hs
  · intro i hi h
    rw [pgP_lf (by omega)] at h
    by_cases h1 : P i 1 = p
    · rw [if_pos h1] at h; omega
    · rw [if_neg h1] at h
      unfold pgP at h
      by_cases h2 : P i 2 = 0
      · rw [if_pos h2] at h; omega
      · rw [if_neg h2] at h; exact h1 h
theorem brk_eq {P P9 : FF} {p k c cb : Nat} {s : Prop} (hF : Fall P p k s c P9) (hb : (s ∧ cb = 0) ∨ (¬ s ∧ cb = cnt P p k 20)) : cb = c := by
  rcases hF with ⟨h1, h2, -⟩ | ⟨h1, h2, -⟩ <;> rcases hb with ⟨h3, h4⟩ | ⟨h3, h4⟩
  · rw [h2, h4]
  · exact absurd h1 h3
  · exact absurd h3 h1
  · rw [h2, h4]
theorem RB.geo {f : Nat → Int32} {B B' : FF} {n : Nat} (h : RB f B n) (hc : ∀ i, B' i 0 = B i 0 ∧ B' i 8 = B i 8) : RB f B' n := by
  intro i hi
  rw [h i hi, pgB, pgB, (hc i).1, (hc i).2]
theorem RB.new {f : Nat → Int32} {B : FF} {n p x y w hh kd : Nat} (h : RB f B n) : RB (upd f n (nI p)) (nwB B n p x y w hh kd) (n + 1) := by
  intro i hi
  by_cases hin : i = n
  · subst hin
    rw [pk_us, pgB, if_pos (by simp [nwB])]
    simp [nwB]
  · rw [pk_un hin, h i (by omega), pgB, pgB, nwB_lt (by omega)]
theorem RB.rm {f : Nat → Int32} {B : FF} {n j : Nat} (h : RB f B n) : RB (upd f j (nI 9)) (rmB B j) n := by
  intro i hi
  by_cases hij : i = j
  · subst hij
    rw [pk_us, pgB, if_neg (by simp [rmB, u2])]
  · rw [pk_un hij, h i hi, pgB, pgB]
    have e8 : rmB B j i 8 = B i 8 := by
      unfold rmB u2
      rw [if_neg (fun h => hij h.1), uf_c (by decide) (by decide), ul_c (by decide) (by decide)]
    have e0 : rmB B j i 0 = B i 0 := by
      unfold rmB u2
      rw [if_neg (fun h => by cases h.2), uf_c (by decide) (by decide), ul_c (by decide) (by decide)]
    rw [e8, e0]
theorem RW.fall {f : Nat → Int32} {P P9 : FF} {p k c : Nat} {s : Prop} (h : RW f P k) (hF : Fall P p k s c P9) : RW f P9 k := by
  intro i hi
  rw [hF.w]
  exact h i hi
theorem RP.nw {f : Nat → Int32} {P : FF} {k a p : Nat} (h : RP f P k) : RP (upd f k (nI p)) (nwP P k a p) (k + 1) := by
  intro i hi
  by_cases hik : i = k
  · subst hik
    rw [pk_us, pgP, if_neg (by simp [nwP])]
    simp [nwP]
  · rw [pk_un hik, h i (by omega), pgP, pgP]
    simp [nwP, hik]
theorem RW.nw {f : Nat → Int32} {P : FF} {k a p : Nat} (h : RW f P k) : RW (upd f k (nI a)) (nwP P k a p) (k + 1) := by
  intro i hi
  by_cases hik : i = k
  · subst hik
    rw [pk_us]
    simp [nwP]
  · rw [pk_un hik, h i (by omega)]
    simp [nwP, hik]
theorem GQ.nw {P : FF} {k a p : Nat} (h : GQ P k) (hp : p < 5) : GQ (nwP P k a p) (k + 1) := by
  intro i hi
  by_cases hik : i = k
  · subst hik
    simp [nwP]; exact hp
  · have := h i (by omega)
    simp [nwP, hik]; exact this
theorem inPg_no {x y w h : Nat} (hx : x < 2 ^ 30) (hy : y < 2 ^ 30) (hw : w < 2 ^ 30) (hh : h < 2 ^ 30) (hn : ¬ (x + w ≤ 60 ∧ y + h ≤ 80)) : ¬ inPg (nI x) (nI y) (nI w) (nI h) := by
  rintro ⟨-, -, -, -, p5, p6, p7, p8⟩
  rw [nI_ltI (by decide) (by omega)] at p5 p7
  rw [pk_sub (by omega), nI_ltI (by omega) (by omega)] at p6
  rw [pk_sub (by omega), nI_leI (by omega) (by omega)] at p8
  omega
theorem nI_nn {c : Nat} (h : c ≤ 20) : ¬ nI c = -1000003 := fun e => nI_pos (n := c) (by omega) (by rw [e]; decide)
section
variable {l : Launch} {ω : Om} {A B P : FF} {n k : Nat} {R : Nat → (Nat → Int32) × Nat} {Z : Nat → Prop} {M : MM}
theorem b_box (hl9 : l.stackTraces = false) (hC : CI ω A B P n k R Z M) (hG : GB B n) {p x y w h kd : Nat} (hp : p < 5) (hkd : kd ≤ 6) (h1 : 1 ≤ w) (h2 : 1 ≤ h) (h3 : x + w ≤ 60) (h4 : y + h ≤ 80) (hn : n < 24) : CtN l ω yL_box wsL_box rmL_box [.ref (A 0 0), .int (nI p), .int (nI x), .int (nI y), .int (nI w), .int (nI h), .int (nI kd)] M (fun v M9 => ∃ q R9 P9 c9, M q = none ∧ v = some (.int (nI n)) ∧ CI ω (u2 A 1 n q) (nwB B n p x y w h kd) P9 (n + 1) k R9 (fun z => Z z ∨ z = q) M9 ∧ Fr (fun z => Z z ∨ z = q) M M9 ∧ Fall P p k (ordF (nwB B n p x y w h kd) (n + 1) p = ordF B n p) c9 P9) 5 34 := by
  have hG2 := hG.new (x := x) (y := y) hp hkd h1 h2 h3 h4 hn
  exact h_box_ok hC.1.x (c_box_ok hl9 hC hp hkd h1 h2 h3 h4 hn hG2.1 hG2.pf (fun q _ hq => ordF_new hG.1 hG.2.2.1 hq)) (fun v M9 ⟨_, _, _, _, _, e, _⟩ => ⟨_, e⟩)
theorem b_box_full (hl9 : l.stackTraces = false) (hC : CI ω A B P n k R Z M) {p x y w h kd : Nat} (hp : p < 5) (hkd : kd ≤ 6) (h1 : 1 ≤ w) (h2 : 1 ≤ h) (h3 : x + w ≤ 60) (h4 : y + h ≤ 80) (hn : ¬ n < 24) : CtN l ω yL_box wsL_box rmL_box [.ref (A 0 0), .int (nI p), .int (nI x), .int (nI y), .int (nI w), .int (nI h), .int (nI kd)] M (fun v M9 => v = some (.int (-1000003)) ∧ M9 = M) 5 34 := h_box_xs hC.1.x (c_box_full hl9 hC hp hkd h1 h2 h3 h4 hn)
theorem b_move (hl9 : l.stackTraces = false) (hC : CI ω A B P n k R Z M) (hG : GB B n) {j x y : Nat} (hj : j < n) (hg : B j 8 = 0) (h3 : x + B j 3 ≤ 60) (h4 : y + B j 4 ≤ 80) : CtN l ω yL_move wsL_move rmL_move [.ref (A 0 0), .int (nI j), .int (nI x), .int (nI y)] M (fun v M9 => ∃ R9 P9 c9, v = some (.int (nI c9)) ∧ CI ω A (mvB B j x y) P9 n k R9 Z M9 ∧ Fr Z M M9 ∧ Fall P (B j 0) k (ordF (mvB B j x y) n (B j 0) = ordF B n (B j 0)) c9 P9) 3 18 := by
  have hG2 := hG.mv (x := x) (y := y) hj h3 h4
  obtain ⟨-, -, h1, h2⟩ := hG.2.1 j hj
  exact h_move_ok hC.1.x (c_move_ok hl9 hC hj hg (hG.2.2.2.2.1 j hj).1 h1 h2 h3 h4 hG2.1 hG2.pf (fun q _ hq => ord_mv hG hj hq)) (fun v M9 ⟨_, _, _, e, _⟩ => ⟨_, e⟩)
theorem b_move_gone (hl9 : l.stackTraces = false) (hC : CI ω A B P n k R Z M) {j : Nat} (hj : j < n) (hg : ¬ B j 8 = 0) {x y : Int32} : CtN l ω yL_move wsL_move rmL_move [.ref (A 0 0), .int (nI j), .int x, .int y] M (fun v M9 => v = some (.int (-1000001)) ∧ M9 = M) 3 18 := h_move_xi hC.1.x (c_move_gone hl9 hC hj hg)
theorem b_move_bad (hl9 : l.stackTraces = false) (hC : CI ω A B P n k R Z M) {j : Nat} (hj : j < n) (hg : B j 8 = 0) {x y : Int32} (hb : ¬ inPg x y (nI (B j 3)) (nI (B j 4))) : CtN l ω yL_move wsL_move rmL_move [.ref (A 0 0), .int (nI j), .int x, .int y] M (fun v M9 => v = some (.int (-1000002)) ∧ M9 = M) 3 18 := h_move_xa hC.1.x (c_move_bad hl9 hC hj hg hb)
theorem b_breaks (hl9 : l.stackTraces = false) (hC : CI ω A B P n k R Z M) (hG : GB B n) {j x y : Nat} (hj : j < n) (hg : B j 8 = 0) (h3 : x + B j 3 ≤ 60) (h4 : y + B j 4 ≤ 80) : CtN l ω yL_breaks wsL_breaks rmL_breaks [.ref (A 0 0), .int (nI j), .int (nI x), .int (nI y)] M (fun v M9 => ∃ R9 c9, v = some (.int (nI c9)) ∧ CI ω A B P n k R9 Z M9 ∧ Fr Z M M9 ∧ ((ordF (mvB B j x y) n (B j 0) = ordF B n (B j 0) ∧ c9 = 0) ∨ (ordF (mvB B j x y) n (B j 0) ≠ ordF B n (B j 0) ∧ c9 = cnt P (B j 0) k 20))) 3 18 := by
  have hG2 := hG.mv (x := x) (y := y) hj h3 h4
  obtain ⟨-, -, h1, h2⟩ := hG.2.1 j hj
  exact h_breaks_ok hC.1.x (c_breaks_ok hl9 hC hj hg (hG.2.2.2.2.1 j hj).1 h1 h2 h3 h4 hG2.1 hG2.pf) (fun v M9 ⟨_, _, e, _⟩ => ⟨_, e⟩)
theorem b_breaks_gone (hl9 : l.stackTraces = false) (hC : CI ω A B P n k R Z M) {j : Nat} (hj : j < n) (hg : ¬ B j 8 = 0) {x y : Int32} : CtN l ω yL_breaks wsL_breaks rmL_breaks [.ref (A 0 0), .int (nI j), .int x, .int y] M (fun v M9 => v = some (.int (-1000001)) ∧ M9 = M) 3 18 := h_breaks_xi hC.1.x (c_breaks_gone hl9 hC hj hg)
theorem b_breaks_bad (hl9 : l.stackTraces = false) (hC : CI ω A B P n k R Z M) {j : Nat} (hj : j < n) (hg : B j 8 = 0) {x y : Int32} (hb : ¬ inPg x y (nI (B j 3)) (nI (B j 4))) : CtN l ω yL_breaks wsL_breaks rmL_breaks [.ref (A 0 0), .int (nI j), .int x, .int y] M (fun v M9 => v = some (.int (-1000002)) ∧ M9 = M) 3 18 := h_breaks_xa hC.1.x (c_breaks_bad hl9 hC hj hg hb)
/-- where a box has just been put, nothing would break -/
theorem b_breaks_0 (hl9 : l.stackTraces = false) {j x y : Nat} (hC : CI ω A (mvB B j x y) P n k R Z M) (hG : GB B n) (hj : j < n) (hg : B j 8 = 0) (h3 : x + B j 3 ≤ 60) (h4 : y + B j 4 ≤ 80) : CtN l ω yL_breaks wsL_breaks rmL_breaks [.ref (A 0 0), .int (nI j), .int (nI x), .int (nI y)] M (fun v M9 => v = some (.int (nI 0)) ∧ ∃ R9, CI ω A (mvB B j x y) P n k R9 Z M9 ∧ Fr Z M M9) 3 18 := by
  have hG2 := hG.mv (x := x) (y := y) hj h3 h4
  have e8 : mvB B j x y j 8 = 0 := by simp [mvB, u2]; exact hg
  have e3 : mvB B j x y j 3 = B j 3 := by simp [mvB, u2]
  have e4 : mvB B j x y j 4 = B j 4 := by simp [mvB, u2]
  refine (b_breaks hl9 hC hG2 hj e8 (by rw [e3]; exact h3) (by rw [e4]; exact h4)).imp (fun v M9 h => ?_)
  obtain ⟨R9, c9, e, h1, h2, h5⟩ := h
  rw [mv_same] at h5
  rcases h5 with ⟨-, h5⟩ | ⟨h5, -⟩
  · exact ⟨by rw [e, h5], R9, h1, h2⟩
  · exact absurd rfl h5
theorem b_resize (hl9 : l.stackTraces = false) (hC : CI ω A B P n k R Z M) (hG : GB B n) {j x y : Nat} (hj : j < n) (hg : B j 8 = 0) (h1 : 1 ≤ x) (h2 : 1 ≤ y) (h3 : B j 1 + x ≤ 60) (h4 : B j 2 + y ≤ 80) : CtN l ω yL_resize wsL_resize rmL_resize [.ref (A 0 0), .int (nI j), .int (nI x), .int (nI y)] M (fun v M9 => ∃ R9 P9 c9, v = some (.int (nI c9)) ∧ CI ω A (szB B j x y) P9 n k R9 Z M9 ∧ Fr Z M M9 ∧ Fall P (B j 0) k (ordF (szB B j x y) n (B j 0) = ordF B n (B j 0)) c9 P9) 3 18 := by
  have hG2 := hG.sz (x := x) (y := y) hj h1 h2 h3 h4
  exact h_resize_ok hC.1.x (c_resize_ok hl9 hC hj hg (hG.2.2.2.2.1 j hj).1 h1 h2 h3 h4 hG2.1 hG2.pf (fun q _ hq => ord_sz hG hj hq)) (fun v M9 ⟨_, _, _, e, _⟩ => ⟨_, e⟩)
theorem b_resize_gone (hl9 : l.stackTraces = false) (hC : CI ω A B P n k R Z M) {j : Nat} (hj : j < n) (hg : ¬ B j 8 = 0) {x y : Int32} : CtN l ω yL_resize wsL_resize rmL_resize [.ref (A 0 0), .int (nI j), .int x, .int y] M (fun v M9 => v = some (.int (-1000001)) ∧ M9 = M) 3 18 := h_resize_xi hC.1.x (c_resize_gone hl9 hC hj hg)
theorem b_resize_bad (hl9 : l.stackTraces = false) (hC : CI ω A B P n k R Z M) {j : Nat} (hj : j < n) (hg : B j 8 = 0) {x y : Int32} (hb : ¬ inPg (nI (B j 1)) (nI (B j 2)) x y) : CtN l ω yL_resize wsL_resize rmL_resize [.ref (A 0 0), .int (nI j), .int x, .int y] M (fun v M9 => v = some (.int (-1000002)) ∧ M9 = M) 3 18 := h_resize_xa hC.1.x (c_resize_bad hl9 hC hj hg hb)
theorem rm_pg {B : FF} {j : Nat} : rmB B j j 0 = B j 0 := by unfold rmB; rw [u2_ne (by decide), uf_c (by decide) (by decide), ul_c (by decide) (by decide)]
theorem b_remove (hl9 : l.stackTraces = false) (hC : CI ω A B P n k R Z M) (hG : GB B n) {j : Nat} (hj : j < n) (hg : B j 8 = 0) : CtN l ω yL_remove wsL_remove rmL_remove [.ref (A 0 0), .int (nI j)] M (fun v M9 => ∃ R9 P9 c9, v = some (.int (nI c9)) ∧ CI ω A (rmB B j) P9 n k R9 Z M9 ∧ Fr Z M M9 ∧ Fall P (B j 0) k (ordF (rmB B j) n (B j 0) = ordF B n (B j 0)) c9 P9) 2 12 := by
  have hG2 := hG.rm hj
  exact h_remove_ok hC.1.x (c_remove_ok hl9 hC hj hg (fun y h => hG.n6 hj h) (fun y h => (hG.ul hj).n7 hj h) rm_pg (hG.2.2.2.2.1 j hj).1 hG2.1 hG2.pf (fun q _ hq => ord_rm hG hj hq)) (fun v M9 ⟨_, _, _, e, _⟩ => ⟨_, e⟩)
theorem b_remove_gone (hl9 : l.stackTraces = false) (hC : CI ω A B P n k R Z M) {j : Nat} (hj : j < n) (hg : ¬ B j 8 = 0) : CtN l ω yL_remove wsL_remove rmL_remove [.ref (A 0 0), .int (nI j)] M (fun v M9 => v = some (.int (-1000001)) ∧ M9 = M) 2 12 := h_remove_xi hC.1.x (c_remove_gone hl9 hC hj hg)
theorem b_untie (hl9 : l.stackTraces = false) (hC : CI ω A B P n k R Z M) (hG : GB B n) {j y0 : Nat} (hj : j < n) (hg : B j 8 = 0) (h6 : B j 6 = y0 + 1) : CtN l ω yL_untie wsL_untie rmL_untie [.ref (A 0 0), .int (nI j)] M (fun v M9 => ∃ R9 P9 c9, v = some (.int (nI c9)) ∧ CI ω A (unl B j) P9 n k R9 Z M9 ∧ Fr Z M M9 ∧ Fall P (B j 0) k (ordF (unl B j) n (B j 0) = ordF B n (B j 0)) c9 P9) 3 18 := by
  have hG2 := hG.ul (j := j) hj
  have hpg : unl B j j 0 = B j 0 := ul_c (by decide) (by decide)
  exact h_untie_ok hC.1.x (c_untie_ok hl9 hC hj hg h6 (fun y h => hG.n6 hj h) hpg (hG.2.2.2.2.1 j hj).1 hG2.1 hG2.pf (fun q _ hq => ord_ul hG hj hq)) (fun v M9 ⟨_, _, _, e, _⟩ => ⟨_, e⟩)
theorem b_untie_gone (hl9 : l.stackTraces = false) (hC : CI ω A B P n k R Z M) {j : Nat} (hj : j < n) (hg : ¬ B j 8 = 0) : CtN l ω yL_untie wsL_untie rmL_untie [.ref (A 0 0), .int (nI j)] M (fun v M9 => v = some (.int (-1000001)) ∧ M9 = M) 3 18 := h_untie_xi hC.1.x (c_untie_gone hl9 hC hj hg)
theorem b_untie_no (hl9 : l.stackTraces = false) (hC : CI ω A B P n k R Z M) {j : Nat} (hj : j < n) (hg : B j 8 = 0) (h6 : B j 6 = 0) : CtN l ω yL_untie wsL_untie rmL_untie [.ref (A 0 0), .int (nI j)] M (fun v M9 => v = some (.int (-1000003)) ∧ M9 = M) 3 18 := h_untie_xs hC.1.x (c_untie_x hl9 hC hj hg h6)
theorem b_tie (hl9 : l.stackTraces = false) (hC : CI ω A B P n k R Z M) (hG : GB B n) {j t : Nat} (hj : j < n) (ht : t < n) (hg : B j 8 = 0) (hgt : B t 8 = 0) (hjt : j ≠ t) (hpp : B j 0 = B t 0) (h7 : B j 7 = 0) (h6 : B t 6 = 0) (hup : ∀ q, up B q j ≠ t + 1) : CtN l ω yL_tie wsL_tie rmL_tie [.ref (A 0 0), .int (nI j), .int (nI t)] M (fun v M9 => ∃ R9 P9 c9, v = some (.int (nI c9)) ∧ CI ω A (tieB B j t) P9 n k R9 Z M9 ∧ Fr Z M M9 ∧ Fall P (B j 0) k (ordF (tieB B j t) n (B j 0) = ordF B n (B j 0)) c9 P9) 3 18 := by
  obtain ⟨ρ6, hρ6⟩ := hG.2.2.2.1.six hG.1
  have hG2 := hG.ti hj ht hg hgt hpp h7 h6 hup
  exact h_tie_ok hC.1.x (c_tie_ok hl9 hC hj hg ht hgt hjt hpp h7 h6 (fun q => hup (q + 1)) ρ6 hρ6 (hG.2.2.2.2.1 j hj).1 hG2.1 hG2.pf (fun q _ hq => ord_ti hG hj ht hpp hq)) (fun v M9 ⟨_, _, _, e, _⟩ => ⟨_, e⟩)
theorem b_tie_gone (hl9 : l.stackTraces = false) (hC : CI ω A B P n k R Z M) {j t : Nat} (hj : j < n) (ht : t < n) (hg : ¬ (B j 8 = 0 ∧ B t 8 = 0)) : CtN l ω yL_tie wsL_tie rmL_tie [.ref (A 0 0), .int (nI j), .int (nI t)] M (fun v M9 => v = some (.int (-1000001)) ∧ M9 = M) 3 18 := by
  by_cases h : B j 8 = 0
  · exact h_tie_xi hC.1.x (c_tie_x2g hl9 hC hj h ht (fun h2 => hg ⟨h, h2⟩))
  · exact h_tie_xi hC.1.x (c_tie_x1g hl9 hC hj h)
theorem b_tie_bad (hl9 : l.stackTraces = false) (hC : CI ω A B P n k R Z M) {j t : Nat} (hj : j < n) (ht : t < n) (hg : B j 8 = 0) (hgt : B t 8 = 0) (hb : j = t ∨ B j 0 ≠ B t 0) : CtN l ω yL_tie wsL_tie rmL_tie [.ref (A 0 0), .int (nI j), .int (nI t)] M (fun v M9 => v = some (.int (-1000002)) ∧ M9 = M) 3 18 := h_tie_xa hC.1.x (c_tie_iae hl9 hC hj hg ht hgt hb)
theorem b_tie_no (hl9 : l.stackTraces = false) (hC : CI ω A B P n k R Z M) (hG : GB B n) {j t : Nat} (hj : j < n) (ht : t < n) (hg : B j 8 = 0) (hgt : B t 8 = 0) (hjt : j ≠ t) (hpp : B j 0 = B t 0) (hb : ¬ (B j 7 = 0 ∧ B t 6 = 0 ∧ ∀ q, up B q j ≠ t + 1)) : CtN l ω yL_tie wsL_tie rmL_tie [.ref (A 0 0), .int (nI j), .int (nI t)] M (fun v M9 => v = some (.int (-1000003)) ∧ M9 = M) 3 18 := by
  obtain ⟨ρ6, hρ6⟩ := hG.2.2.2.1.six hG.1
  refine h_tie_xs hC.1.x (c_tie_ise hl9 hC hj hg ht hgt hjt hpp ?_ ρ6 hρ6)
  by_cases h7 : B j 7 = 0
  · by_cases h6 : B t 6 = 0
    · refine Or.inr (Or.inr (Classical.byContradiction fun hx => hb ⟨h7, h6, fun q hq => ?_⟩))
      cases q with
      | zero => exact absurd (show j + 1 = t + 1 from hq) (by omega)
      | succ q => exact hx ⟨q, hq⟩
    · exact Or.inr (Or.inl h6)
  · exact Or.inl h7
theorem b_approve (hl9 : l.stackTraces = false) (hC : CI ω A B P n k R Z M) {a p : Nat} (ha : a < 6) (hp : p < 5) (hne : 0 < (ordF B n p).length) (hk : k < 20) : CtN l ω yL_approve wsL_approve rmL_approve [.ref (A 0 0), .int (nI a), .int (nI p)] M (fun v M9 => ∃ q, M q = none ∧ v = some (.int (nI k)) ∧ CI ω (u2 A 4 k q) B (nwP P k a p) n (k + 1) R (fun z => Z z ∨ z = q) M9 ∧ Fr (fun z => Z z ∨ z = q) M M9) 3 15 :=
  (h_approve_ok hC.1.x (c_approve_ok hl9 hC ha hp hne hk) (fun v M9 ⟨_, _, e, _⟩ => ⟨_, e⟩)).imp (fun v M9 ⟨q, hq, e, hX, hF⟩ => ⟨q, hq, e, hC.nextApp hq hk ha hp hX, hF⟩)
theorem b_approve_no (hl9 : l.stackTraces = false) (hC : CI ω A B P n k R Z M) {a p : Nat} (ha : a < 6) (hp : p < 5) (hne : ¬ (0 < (ordF B n p).length ∧ k < 20)) : CtN l ω yL_approve wsL_approve rmL_approve [.ref (A 0 0), .int (nI a), .int (nI p)] M (fun v M9 => v = some (.int (-1000003)) ∧ M9 = M) 3 15 := h_approve_xs hC.1.x (c_approve_none hl9 hC ha hp hne)
end
theorem unl_7 {B : FF} {j y : Nat} (h6 : B j 6 = y + 1) : unl B j y 7 = 0 := by rw [ulc_1 h6, cutT_at, if_neg (fun h => by cases h.2), if_pos ⟨rfl, rfl⟩]
theorem tie_7 {B : FF} {j t : Nat} : tieB B j t j 7 = t + 1 := by rw [tieB_at, if_neg (fun h => by cases h.2), if_pos ⟨rfl, rfl⟩]
theorem tie_6 {B : FF} {j t : Nat} : tieB B j t t 6 = j + 1 := by rw [tieB_at, if_pos ⟨rfl, rfl⟩]
theorem tie_c {B : FF} {j t a b : Nat} (h6 : b ≠ 6) (h7 : b ≠ 7) : tieB B j t a b = B a b := by rw [tieB_at, if_neg (fun h => h6 h.2), if_neg (fun h => h7 h.2)]
theorem who_bit {P : FF} {k p a : Nat} : mkF (pgP (nwP P k a p)) (fun i => nwP P k a p i 0) p (k + 1) / 2 ^ a &&& 1 = 1 := by
  have h := mkF_tb (f := pgP (nwP P k a p)) (g := fun i => nwP P k a p i 0) (p := p) (i := k) (by rw [pgP, if_neg (by simp [nwP])]; simp [nwP]) (k + 1) (Nat.lt_succ_self k)
  have e : nwP P k a p k 0 = a := by simp [nwP]
  rw [e] at h
  rw [tb_div, h]
  rfl
theorem un_3 (B : FF) (j : Nat) : (¬ B j 8 = 0) ∨ (B j 8 = 0 ∧ B j 6 = 0) ∨ (∃ y0, B j 8 = 0 ∧ B j 6 = y0 + 1) := by
  by_cases h8 : B j 8 = 0
  · cases h6 : B j 6 with
    | zero => exact Or.inr (Or.inl ⟨h8, rfl⟩)
    | succ y => exact Or.inr (Or.inr ⟨y, h8, rfl⟩)
  · exact Or.inl h8
theorem ti_4 (B : FF) (j t : Nat) : (¬ (B j 8 = 0 ∧ B t 8 = 0)) ∨ (B j 8 = 0 ∧ B t 8 = 0 ∧ (j = t ∨ B j 0 ≠ B t 0)) ∨ (B j 8 = 0 ∧ B t 8 = 0 ∧ ¬ (j = t ∨ B j 0 ≠ B t 0) ∧ B j 0 = B t 0 ∧ ¬ (B j 7 = 0 ∧ B t 6 = 0 ∧ ∀ q, up B q j ≠ t + 1)) ∨ (B j 8 = 0 ∧ B t 8 = 0 ∧ ¬ (j = t ∨ B j 0 ≠ B t 0) ∧ B j 0 = B t 0 ∧ (B j 7 = 0 ∧ B t 6 = 0 ∧ ∀ q, up B q j ≠ t + 1)) := by
  by_cases h : B j 8 = 0 ∧ B t 8 = 0
  · by_cases h2 : j = t ∨ B j 0 ≠ B t 0
    · exact Or.inr (Or.inl ⟨h.1, h.2, h2⟩)
    · have h3 : B j 0 = B t 0 := Decidable.byContradiction fun h3 => h2 (Or.inr h3)
      rcases Classical.em (B j 7 = 0 ∧ B t 6 = 0 ∧ ∀ q, up B q j ≠ t + 1) with h4 | h4
      · exact Or.inr (Or.inr (Or.inr ⟨h.1, h.2, h2, h3, h4⟩))
      · exact Or.inr (Or.inr (Or.inl ⟨h.1, h.2, h2, h3, h4⟩))
  · exact Or.inl h
