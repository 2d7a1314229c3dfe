/-! the law's rows of numbers beside the class's state; its calls, by what they answer -/
def RB (f : Nat → Int32) (B : FF) (n : Nat) : Prop := ∀ i, i < n → f i = nI (pgB B i)
def RP (f : Nat → Int32) (P : FF) (k : Nat) : Prop := ∀ i, i < k → f i = nI (pgP P i)
def RW (f : Nat → Int32) (P : FF) (k : Nat) : Prop := ∀ i, i < k → f i = nI (P i 0)
def GQ (P : FF) (k : Nat) : Prop := ∀ i, i < k → P i 1 < 5
/-- where the law stands -/
def LSt (ω : Om) (G Pp Aa Ww : Nat) (A B P : FF) (n k : Nat) (R : Nat → (Nat → Int32) × Nat) (Z : Nat → Prop) (fg fp fa fw : Nat → Int32) (M : MM) : Prop :=
  CI ω A B P n k R Z M ∧ GB B n ∧ GP P k ∧ GQ P k ∧ (¬ Z G ∧ ¬ Z Pp ∧ ¬ Z Aa ∧ ¬ Z Ww) ∧ (M G = some (.inl (ω.2.2 0, 3, .inl fg)) ∧ M Pp = some (.inl (ω.2.2 0, 25, .inl fp)) ∧ M Aa = some (.inl (ω.2.2 0, 21, .inl fa)) ∧ M Ww = some (.inl (ω.2.2 0, 21, .inl fw))) ∧ (fg 0 = nI n ∧ fg 1 = nI k) ∧ RB fp B n ∧ RP fa P k ∧ RW fw P k
def LW (ω : Om) (a G Pp Aa Ww : Nat) (M : MM) : Prop := ∃ (A B P : FF) (n k : Nat) (R : Nat → (Nat → Int32) × Nat) (Z : Nat → Prop) (fg fp fa fw : Nat → Int32), A 0 0 = a ∧ LSt ω G Pp Aa Ww A B P n k R Z fg fp fa fw M
def D4 (G Pp Aa Ww : Nat) : Prop := G ≠ Pp ∧ G ≠ Aa ∧ G ≠ Ww ∧ Pp ≠ Aa ∧ Pp ≠ Ww ∧ Aa ≠ Ww
theorem LSt.anew {ω : Om} {G Pp Aa Ww : Nat} {A B P : FF} {n k : Nat} {R R9 : Nat → (Nat → Int32) × Nat} {Z : Nat → Prop} {fg fp fa fw : Nat → Int32} {M M9 : MM} (h : LSt ω G Pp Aa Ww A B P n k R Z fg fp fa fw M) (hC : CI ω A B P n k R9 Z M9) (hF : Fr Z M M9) : LSt ω G Pp Aa Ww A B P n k R9 Z fg fp fa fw M9 := by
  obtain ⟨-, h2, h3, h4, h5, ⟨a1, a2, a3, a4⟩, h7⟩ := h
  exact ⟨hC, h2, h3, h4, h5, ⟨(hF _ h5.1).trans a1, (hF _ h5.2.1).trans a2, (hF _ h5.2.2.1).trans a3, (hF _ h5.2.2.2).trans a4⟩, h7⟩
theorem pgB_lt {B : FF} {n i : Nat} (hG : GB B n) (hi : i < n) : pgB B i < 10 := by
  have := (hG.2.2.2.2.1 i hi).1
  unfold pgB; split <;> omega
theorem pgB_0 {B : FF} {i : Nat} (h : B i 8 = 0) : pgB B i = B i 0 := by rw [pgB, if_pos h]
theorem pgB_9 {B : FF} {i : Nat} (h : ¬ B i 8 = 0) : pgB B i = 9 := by rw [pgB, if_neg h]
theorem pgB_n9 {B : FF} {n i : Nat} (hG : GB B n) (hi : i < n) (h : B i 8 = 0) : pgB B i < 5 := by
  rw [pgB_0 h]; exact (hG.2.2.2.2.1 i hi).1
theorem pgP_lt {P : FF} {k i : Nat} (hQ : GQ P k) (hi : i < k) : pgP P i < 10 := by
  have := hQ i hi
  unfold pgP; split <;> omega
def lkI : Nat → Int32
  | 0 => -1
  | y + 1 => nI y
theorem lkI_neg {x : Nat} (hx : x < 128) : lkI x < 0 ↔ x = 0 := by
  cases x with
  | zero => exact ⟨fun _ => rfl, fun _ => by decide⟩
  | succ y =>
    show nI y < 0 ↔ _
    exact ⟨fun h => absurd h (nI_pos (by omega)), fun h => by omega⟩
/-- the row of approvals, behind a call by which some may have fallen -/
theorem Fall.rp {P P9 : FF} {p k c : Nat} {s : Prop} (hF : Fall P p k s c P9) (hp : p < 5) (hk : k ≤ 20) : (c = 0 ∧ (∀ i, i < k → pgP P9 i = pgP P i)) ∨ (0 < c ∧ c = ctF (pgP P) p k ∧ ∀ i, i < k → pgP P9 i = if pgP P i = p then 9 else pgP P i) := by
  rcases hF with ⟨-, rfl, rfl⟩ | ⟨-, rfl, rfl⟩
  · exact Or.inl ⟨rfl, fun _ _ => rfl⟩
  · have e : ∀ i, i < k → pgP (lfP P p 20) i = if pgP P i = p then 9 else pgP P i := by
      intro i hi
      rw [pgP_lf (by omega)]
      by_cases h1 : P i 1 = p
      · rw [if_pos h1]
        by_cases h2 : P i 2 = 0
        · rw [if_neg (by rw [pgP, if_pos h2]; omega), pgP, if_pos h2]
        · rw [if_pos (by rw [pgP, if_neg h2]; exact h1)]
      · rw [if_neg h1]
        by_cases h2 : P i 2 = 0
        · rw [if_neg (by rw [pgP, if_pos h2]; omega)]
        · rw [if_neg (by rw [pgP, if_neg h2]; exact h1)]
    rw [cnt_ct hp hk]
    by_cases h0 : ctF (pgP P) p k = 0
    · refine Or.inl ⟨h0, fun i hi => ?_⟩
      rw [e i hi, if_neg]
      intro h
      have : ∀ m, i < m → 0 < ctF (pgP P) p m := by
        intro m
        induction m with
        | zero => intro h; exact absurd h (Nat.not_lt_zero _)
        | succ m ih =>
          intro hm
          rw [ctF_s]
          by_cases him : i = m
          · subst him; rw [if_pos h]; omega
          · have := ih (by omega)
            split <;> omega
      have := this k hi
      omega
    · exact Or.inr ⟨by omega, rfl, e⟩
theorem Fall.gq {P P9 : FF} {p k c : Nat} {s : Prop} (hF : Fall P p k s c P9) (hQ : GQ P k) : GQ P9 k := by
  rcases hF with ⟨-, -, rfl⟩ | ⟨-, -, rfl⟩
  · exact hQ
  · intro i hi
    have := hQ i hi
    unfold lfP
    rw [if_neg (fun h => by cases h.1)]
    exact this
theorem Fall.w {P P9 : FF} {p k c : Nat} {s : Prop} (hF : Fall P p k s c P9) (i : Nat) : P9 i 0 = P i 0 := by
  rcases hF with ⟨-, -, rfl⟩ | ⟨-, -, rfl⟩
  · rfl
  · unfold lfP; rw [if_neg (fun h => by cases h.1)]
theorem Fall.le20 {P P9 : FF} {p k c : Nat} {s : Prop} (hF : Fall P p k s c P9) (hp : p < 5) (hk : k ≤ 20) : c ≤ 20 := by
  rcases hF with ⟨-, rfl, -⟩ | ⟨-, rfl, -⟩
  · exact Nat.zero_le _
  · rw [cnt_ct hp hk]; exact Nat.le_trans (ctF_le _ _ _) hk
section
variable {l : Launch} {ω : Om} {A B P : FF} {n k : Nat} {R : Nat → (Nat → Int32) × Nat} {Z : Nat → Prop} {M : MM}
theorem a_boxes (hl9 : l.stackTraces = false) (hC : CI ω A B P n k R Z M) {p : Nat} (hp : p < 5) : CtN l ω yL_boxes wsL_boxes rmL_boxes [.ref (A 0 0), .int (nI p)] M (fun v M9 => v = some (.int (nI (ordF B n p).length)) ∧ M9 = M) 1 6 := h_boxes_ok hC.1.x ((c_boxes_ok hl9 hC hp).noX (fun _ h => h)) (fun v M9 h => ⟨_, h.1⟩)
theorem a_order_at (hl9 : l.stackTraces = false) (hC : CI ω A B P n k R Z M) {p j : Nat} (hp : p < 5) (hj : j < (ordF B n p).length) : CtN l ω yL_order wsL_order rmL_order [.ref (A 0 0), .int (nI p), .int (nI j)] M (fun v M9 => v = some (.int (nI ((ordF B n p).getD j 0))) ∧ M9 = M) 2 12 := by
  have h24 := (hC.2.2.2.2.2.2.2.2.2 p hp).1
  exact h_order_ok hC.1.x ((c_order_in hl9 hC hp hj (nI_pos' (by omega))).noX (fun _ h => h)) (fun v M9 h => ⟨_, h.1⟩)
theorem a_order_end (hl9 : l.stackTraces = false) (hC : CI ω A B P n k R Z M) {p : Nat} (hp : p < 5) : CtN l ω yL_order wsL_order rmL_order [.ref (A 0 0), .int (nI p), .int (nI (ordF B n p).length)] M (fun v M9 => v = some (.int (-1)) ∧ M9 = M) 2 12 := by
  have h24 := (hC.2.2.2.2.2.2.2.2.2 p hp).1
  exact h_order_ok hC.1.x ((c_order_out hl9 hC hp (nI_pos' (by omega)) (Int32.le_refl _)).noX (fun _ h => h)) (fun v M9 h => ⟨_, h.1⟩)
theorem a_anew_at (hl9 : l.stackTraces = false) (hC : CI ω A B P n k R Z M) {p j : Nat} (hp : p < 5) (hj : j < (ordF B n p).length) : CtN l ω yL_orderAnew wsL_orderAnew rmL_orderAnew [.ref (A 0 0), .int (nI p), .int (nI j)] M (fun v M9 => (∃ R9, CI ω A B P n k R9 Z M9) ∧ Fr Z M M9 ∧ v = some (.int (nI ((ordF B n p).getD j 0)))) 2 12 := by
  have h24 := (hC.2.2.2.2.2.2.2.2.2 p hp).1
  obtain ⟨e1, e2, -⟩ := pile_page (B := B) (p := p) hC.2.1.1
  have := c_orderAnew_in (l := l) hl9 hC hp (by rw [e1]; exact h24) e2 (by rw [e1]; exact hj) (nI_pos' (by omega))
  rw [e1] at this
  exact h_orderAnew_ok hC.1.x this (fun v M9 h => ⟨_, h.2.2⟩)
theorem a_anew_end (hl9 : l.stackTraces = false) (hC : CI ω A B P n k R Z M) {p : Nat} (hp : p < 5) : CtN l ω yL_orderAnew wsL_orderAnew rmL_orderAnew [.ref (A 0 0), .int (nI p), .int (nI (ordF B n p).length)] M (fun v M9 => (∃ R9, CI ω A B P n k R9 Z M9) ∧ Fr Z M M9 ∧ v = some (.int (-1))) 2 12 := by
  have h24 := (hC.2.2.2.2.2.2.2.2.2 p hp).1
  obtain ⟨e1, e2, -⟩ := pile_page (B := B) (p := p) hC.2.1.1
  exact h_orderAnew_ok hC.1.x (c_orderAnew_out (l := l) hl9 hC hp (by rw [e1]; exact h24) e2 (nI_pos' (by omega)) (by rw [e1]; exact Int32.le_refl _)) (fun v M9 h => ⟨_, h.2.2⟩)
theorem a_place (hC : CI ω A B P n k R Z M) (hl9 : l.stackTraces = false) (hG : GB B n) {p j : Nat} (hp : p < 5) (hj : j < (ordF B n p).length) : CtN l ω yL_placeOf wsL_placeOf rmL_placeOf [.ref (A 0 0), .int (nI ((ordF B n p).getD j 0))] M (fun v M9 => v = some (.int (nI j)) ∧ M9 = M) 2 12 := by
  obtain ⟨h1, h2, h3⟩ := hG.pg (gDm hj)
  refine h_placeOf_ok hC.1.x (Ct.imp (c_placeOf_ok hl9 hC h1 h2 h3 hp ⟨j, hj, rfl⟩) (fun v M9 h => ?_)) (fun v M9 h => ⟨_, h.1⟩)
  obtain ⟨⟨q, q1, q2, -, q3⟩, e⟩ := h
  have := nodup_at (hG.nd (p := p)) q j q1 hj q2
  subst this
  exact ⟨q3, e⟩
theorem a_faults (hC : CI ω A B P n k R Z M) (hl9 : l.stackTraces = false) (hG : GB B n) {p j : Nat} (hp : p < 5) (hj : j < (ordF B n p).length) : CtN l ω yL_faults wsL_faults rmL_faults [.ref (A 0 0), .int (nI ((ordF B n p).getD j 0))] M (fun v M9 => v = some (.int (nI (ftA B (ordF B n p) j))) ∧ M9 = M) 2 12 := by
  obtain ⟨h1, h2, h3⟩ := hG.pg (gDm hj)
  refine h_faults_ok hC.1.x (Ct.imp (c_faults_ok hl9 hC h1 h2 h3 hp ⟨j, hj, rfl⟩) (fun v M9 h => ?_)) (fun v M9 h => ⟨_, h.1⟩)
  obtain ⟨⟨q, q1, q2, -, q3⟩, e⟩ := h
  have := nodup_at (hG.nd (p := p)) q j q1 hj q2
  subst this
  exact ⟨q3, e⟩
theorem a_faulty (hl9 : l.stackTraces = false) (hC : CI ω A B P n k R Z M) {p : Nat} (hp : p < 5) : CtN l ω yL_faulty wsL_faulty rmL_faulty [.ref (A 0 0), .int (nI p)] M (fun v M9 => v = some (.int (nI (fyF B (ordF B n p) (ordF B n p).length))) ∧ M9 = M) 1 6 := h_faulty_ok hC.1.x (c_faulty_ok hl9 hC hp) (fun v M9 h => ⟨_, h.1⟩)
theorem a_way (hl9 : l.stackTraces = false) (hC : CI ω A B P n k R Z M) {p : Nat} (hp : p < 5) : CtN l ω yL_way wsL_way rmL_way [.ref (A 0 0), .int (nI p)] M (fun v M9 => v = some (.int (nI (wyF B (ordF B n p) ((ordF B n p).length - 1)))) ∧ M9 = M) 1 6 := h_way_ok hC.1.x (c_way_ok hl9 hC hp) (fun v M9 h => ⟨_, h.1⟩)
theorem a_about_0 (hC : CI ω A B P n k R Z M) {j : Nat} (hj : j < n) : CtN l ω yL_about wsL_about rmL_about [.ref (A 0 0), .int (nI j), .int (nI 0)] M (fun v M9 => v = some (.int (nI (B j 0))) ∧ M9 = M) 1 6 := h_about_ok hC.1.x (c_about_0 hC hj) (fun v M9 h => ⟨_, h.1⟩)
theorem a_about_1 (hC : CI ω A B P n k R Z M) {j : Nat} (hj : j < n) : CtN l ω yL_about wsL_about rmL_about [.ref (A 0 0), .int (nI j), .int (nI 1)] M (fun v M9 => v = some (.int (nI (B j 1))) ∧ M9 = M) 1 6 := h_about_ok hC.1.x (c_about_1 hC hj) (fun v M9 h => ⟨_, h.1⟩)
theorem a_about_2 (hC : CI ω A B P n k R Z M) {j : Nat} (hj : j < n) : CtN l ω yL_about wsL_about rmL_about [.ref (A 0 0), .int (nI j), .int (nI 2)] M (fun v M9 => v = some (.int (nI (B j 2))) ∧ M9 = M) 1 6 := h_about_ok hC.1.x (c_about_2 hC hj) (fun v M9 h => ⟨_, h.1⟩)
theorem a_about_3 (hC : CI ω A B P n k R Z M) {j : Nat} (hj : j < n) : CtN l ω yL_about wsL_about rmL_about [.ref (A 0 0), .int (nI j), .int (nI 3)] M (fun v M9 => v = some (.int (nI (B j 3))) ∧ M9 = M) 1 6 := h_about_ok hC.1.x (c_about_3 hC hj) (fun v M9 h => ⟨_, h.1⟩)
theorem a_about_4 (hC : CI ω A B P n k R Z M) {j : Nat} (hj : j < n) : CtN l ω yL_about wsL_about rmL_about [.ref (A 0 0), .int (nI j), .int (nI 4)] M (fun v M9 => v = some (.int (nI (B j 4))) ∧ M9 = M) 1 6 := h_about_ok hC.1.x (c_about_4 hC hj) (fun v M9 h => ⟨_, h.1⟩)
theorem a_about_5 (hC : CI ω A B P n k R Z M) {j : Nat} (hj : j < n) : CtN l ω yL_about wsL_about rmL_about [.ref (A 0 0), .int (nI j), .int (nI 5)] M (fun v M9 => v = some (.int (nI (B j 5))) ∧ M9 = M) 1 6 := h_about_ok hC.1.x (c_about_5 hC hj) (fun v M9 h => ⟨_, h.1⟩)
theorem a_about_8 (hC : CI ω A B P n k R Z M) (hG : GB B n) {j : Nat} (hj : j < n) : CtN l ω yL_about wsL_about rmL_about [.ref (A 0 0), .int (nI j), .int (nI 8)] M (fun v M9 => v = some (.int (nI (B j 8))) ∧ M9 = M) 1 6 := h_about_ok hC.1.x (c_about_8 hC hj (by have := (hG.2.2.2.2.1 j hj).2.2; omega)) (fun v M9 h => ⟨_, h.1⟩)
theorem a_about_6 (hC : CI ω A B P n k R Z M) (hG : GB B n) {j : Nat} (hj : j < n) : CtN l ω yL_about wsL_about rmL_about [.ref (A 0 0), .int (nI j), .int (nI 6)] M (fun v M9 => v = some (.int (lkI (B j 6))) ∧ M9 = M) 1 6 := by
  cases h0 : B j 6 with
  | zero => exact h_about_ok hC.1.x (c_about_60 hC hj h0) (fun v M9 h => ⟨_, h.1⟩)
  | succ y => exact h_about_ok hC.1.x (c_about_61 hC hj h0 (hG.n6 hj h0).1) (fun v M9 h => ⟨_, h.1⟩)
theorem a_about_7 (hC : CI ω A B P n k R Z M) (hG : GB B n) {j : Nat} (hj : j < n) : CtN l ω yL_about wsL_about rmL_about [.ref (A 0 0), .int (nI j), .int (nI 7)] M (fun v M9 => v = some (.int (lkI (B j 7))) ∧ M9 = M) 1 6 := by
  cases h0 : B j 7 with
  | zero => exact h_about_ok hC.1.x (c_about_70 hC hj h0) (fun v M9 h => ⟨_, h.1⟩)
  | succ y => exact h_about_ok hC.1.x (c_about_71 hC hj h0 (hG.n7 hj h0).1) (fun v M9 h => ⟨_, h.1⟩)
theorem a_about_out (hl9 : l.stackTraces = false) (hC : CI ω A B P n k R Z M) {w : Int32} : CtN l ω yL_about wsL_about rmL_about [.ref (A 0 0), .int (nI n), .int w] M (fun v M9 => v = some (.int (-1000001)) ∧ M9 = M) 1 6 := h_about_xi hC.1.x (c_about_out hl9 hC (Or.inr (Int32.le_refl _)))
theorem a_faults_out (hl9 : l.stackTraces = false) (hC : CI ω A B P n k R Z M) : CtN l ω yL_faults wsL_faults rmL_faults [.ref (A 0 0), .int (nI n)] M (fun v M9 => v = some (.int (-1000001)) ∧ M9 = M) 2 12 := h_faults_xi hC.1.x (c_faults_out hl9 hC (Or.inr (Int32.le_refl _)))
theorem a_place_out (hl9 : l.stackTraces = false) (hC : CI ω A B P n k R Z M) : CtN l ω yL_placeOf wsL_placeOf rmL_placeOf [.ref (A 0 0), .int (-1)] M (fun v M9 => v = some (.int (-1000001)) ∧ M9 = M) 2 12 := h_placeOf_xi hC.1.x (c_placeOf_out hl9 hC (Or.inl (by decide)))
theorem a_stands (hC : CI ω A B P n k R Z M) (hP : GP P k) {i : Nat} (hi : i < k) : CtN l ω yL_stands wsL_stands rmL_stands [.ref (A 0 0), .int (nI i)] M (fun v M9 => v = some (.int (nI (P i 2))) ∧ M9 = M) 1 6 := by
  have h1 := hP.2.1 i
  refine h_stands_ok hC.1.x (c_stands_ok hC hi (by omega)) (fun v M9 h => ⟨decide (P i 2 = 1), ?_⟩)
  rw [h.1]
  rcases (show P i 2 = 0 ∨ P i 2 = 1 by omega) with e | e <;> rw [e] <;> rfl
theorem a_stands_out (hl9 : l.stackTraces = false) (hC : CI ω A B P n k R Z M) : CtN l ω yL_stands wsL_stands rmL_stands [.ref (A 0 0), .int (nI k)] M (fun v M9 => v = some (.int (-1000001)) ∧ M9 = M) 1 6 := h_stands_xi hC.1.x (c_stands_x hl9 hC (Or.inr (Int32.le_refl _)))
theorem a_who (hl9 : l.stackTraces = false) (hC : CI ω A B P n k R Z M) (hP : GP P k) {p : Nat} (hp : p < 5) : CtN l ω yL_approvers wsL_approvers rmL_approvers [.ref (A 0 0), .int (nI p)] M (fun v M9 => v = some (.int (nI (mkF (pgP P) (fun i => P i 0) p k))) ∧ M9 = M) 1 6 := by
  have := c_approvers_ok hl9 hC hp hP.1
  rw [msk_mk hp hP.2.2.1] at this
  exact h_approvers_ok hC.1.x this (fun v M9 h => ⟨_, h.1⟩)
end
