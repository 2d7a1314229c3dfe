/-! the law's step, call by call -/
section
variable {l : Launch} {ω : Om} {O : Nat} {A : FF} {Y : Nat → Nat} {B P : FF} {n k : Nat} {R : Nat → (Nat → Int32) × Nat} {Z : Nat → Prop} {t : Nat} {M : MM} {ym : MethodName} {wsm : List Cond} {rmm : Room} {avm : List Value}
theorem OkN.out {v : Option Value} {M8 : MM} {g : Nat → Int64} (h : OkN l ω A Y B P n k t Z M ym wsm rmm avm v M8) (hL : LJ ω O A Y B P n k R Z t M) (hO : M O = some (.inl (ω.2.2 2, 1, .inr (.inl g)))) : ∃ x : Int32, v = some (.int x) ∧ M8 O = some (.inl (ω.2.2 2, 1, .inr (.inl g))) := by
  obtain ⟨hC, hS, hG, hP, hZY, hZO, hYO, hY, -⟩ := hL
  obtain ⟨x', A', B', P', n', k', R', Z', ex, hA, hC', hG', hP', hfr, hZ', hmo⟩ := h
  exact ⟨x', ex, (hfr O (fun h => (hZ' _ h).elim hZO (fun h => by rw [hO] at h; cases h))).trans hO⟩
theorem OkN.same {v : Option Value} {M9 : MM} {x : Int32} (hL : LJ ω O A Y B P n k R Z t M) (e1 : v = some (.int x)) (e2 : M9 = M) (hm : ∀ M1, MS ω Y B P n k t M1 → Ct l ω ym wsm rmm avm M1 (fun v M9 => v = some (.int x) ∧ MS ω Y B P n k 0 M9 ∧ Fr (Yw Y) M1 M9) 0 0) : OkN l ω A Y B P n k t Z M ym wsm rmm avm v M9 := by
  subst e2
  exact ⟨x, A, B, P, n, k, R, Z, e1, rfl, hL.1, hL.2.2.1, hL.2.2.2.1, fun z _ => rfl, fun z h => Or.inl h, hm⟩
theorem OkN.anew {v : Option Value} {M9 : MM} {x : Int32} {R9 : Nat → (Nat → Int32) × Nat} (hL : LJ ω O A Y B P n k R Z t M) (e1 : v = some (.int x)) (hC' : CI ω A B P n k R9 Z M9) (hF : Fr Z M M9) (hm : ∀ M1, MS ω Y B P n k t M1 → Ct l ω ym wsm rmm avm M1 (fun v M9 => v = some (.int x) ∧ MS ω Y B P n k 0 M9 ∧ Fr (Yw Y) M1 M9) 0 0) : OkN l ω A Y B P n k t Z M ym wsm rmm avm v M9 :=
  ⟨x, A, B, P, n, k, R9, Z, e1, rfl, hC', hL.2.2.1, hL.2.2.2.1, hF, fun z h => Or.inl h, hm⟩
theorem OkN.fall {v : Option Value} {M9 : MM} {B' : FF} {p : Nat} {s : Prop} (hL : LJ ω O A Y B P n k R Z t M) (hc : ∃ R9 P9 c9, v = some (.int (nI c9)) ∧ CI ω A B' P9 n k R9 Z M9 ∧ Fr Z M M9 ∧ Fall P p k s c9 P9) (hG' : GB B' n)
    (hm : ∀ M1, MS ω Y B P n k t M1 → Ct l ω ym wsm rmm avm M1 (fun v M9 => ∃ P9 c9, v = some (.int (nI c9)) ∧ MS ω Y B' P9 n k 0 M9 ∧ Fr (Yw Y) M1 M9 ∧ Fall P p k s c9 P9) 0 0) : OkN l ω A Y B P n k t Z M ym wsm rmm avm v M9 := by
  obtain ⟨R9, P9, c9, e1, hC', hF, hFl⟩ := hc
  refine ⟨nI c9, A, B', P9, n, k, R9, Z, e1, rfl, hC', hG', hL.2.2.2.1.fall (q := 0) hFl, hF, fun z h => Or.inl h, fun M1 h1 => (hm M1 h1).imp (fun v2 M2 h2 => ?_)⟩
  obtain ⟨P9', c9', e2, hS2, hF2, hFl2⟩ := h2
  obtain ⟨rfl, rfl⟩ := hFl2.one hFl
  exact ⟨e2, hS2, hF2⟩
end
theorem nI0_le {y : Int32} {m : Nat} (h : nI m ≤ y) (hm : m < 2 ^ 31) : ¬ y < 0 := fun h2 => i32_nlt (nI_le (a := 0) (b := m) (Nat.zero_le _) hm) (i32_lt2 h h2)
theorem rm_pg {B : FF} {j : Nat} : rmB B j j 0 = B j 0 := by unfold rmB; rw [u2_ne (by decide), uf_c (by decide) (by decide), ul_c (by decide) (by decide)]
theorem st_move {l : Launch} {ω : Om} {O : Nat} {A : FF} {Y : Nat → Nat} {B P : FF} {n k : Nat} {R : Nat → (Nat → Int32) × Nat} {Z : Nat → Prop} {t : Nat} {M : MM} (hl9 : l.stackTraces = false) (hL : LJ ω O A Y B P n k R Z t M) (p0 p1 p2 : Int32) : Step l ω (A 0 0) (Y 0) O yL_move wsL_move rmL_move 3 18 yX5_move wsX5_move rmX5_move (fun x => x.toInt64) [.int p0, .int p1, .int p2] M := by
  obtain ⟨hC, hS, hG, hP, hZY, hZO, hYO, hY, g, hO⟩ := id hL
  have hWf : ∀ f, Yw Y (Y f) := fun f => ⟨f, rfl⟩
  have hX := hC.1.x
  have hn24 : n ≤ 24 := hG.1.1
  rcases pk_ix p0 (n := n) (by omega) with hy | hy | ⟨j, hj, rfl⟩
  · exact Step.no hL (kk := 1) (by decide) (by decide) (h_move_x1 hX (c_move_out hl9 hC (Or.inl hy))) (c_Mmove_out hS hWf (Or.inl hy))
  · exact Step.no hL (kk := 1) (by decide) (by decide) (h_move_x1 hX (c_move_out hl9 hC (Or.inr hy))) (c_Mmove_out hS hWf (Or.inr hy))
  · by_cases hg : B j 8 = 0
    · have hp5 := (hG.2.2.2.2.1 j hj).1
      have h128 := hG.1.2.1
      have hin := hG.2.1 j hj
      by_cases hb : inPg p1 p2 (nI (B j 3)) (nI (B j 4))
      · obtain ⟨x, y, w, h, rfl, rfl, ew, eh, h1, h2, h3, h4⟩ := inPg_nat hb
        have ew := nI_inj (Nat.lt_trans (h128 j 3) (by decide)) (by omega) ew
        have eh := nI_inj (Nat.lt_trans (h128 j 4) (by decide)) (by omega) eh
        subst ew
        subst eh
        have hG2 := hG.mv (x := x) (y := y) hj h3 h4
        exact Step.ok hL (h_move_ok hX (Ct.imp (PQ' := OkN l ω A Y B P n k t Z M yX5_move wsX5_move rmX5_move _) (c_move_ok hl9 hC hj hg hp5 h1 h2 h3 h4 hG2.1 hG2.pf (fun q _ hq => ord_mv hG hj hq)) (fun v M9 h => OkN.fall hL h hG2 (fun M1 h1' => c_Mmove h1' hWf hj hg hp5 h1 h2 h3 h4 hG2.1 hG.ok hG2.ok))) (fun v M9 h => h.out hL hO))
      · exact Step.no hL (kk := 2) (by decide) (by decide) (h_move_x2 hX (c_move_bad hl9 hC hj hg hb)) (c_Mmove_bad hS hWf hj hg (inPg_iff.mp hb))
    · exact Step.no hL (kk := 1) (by decide) (by decide) (h_move_x1 hX (c_move_gone hl9 hC hj hg)) (c_Mmove_gone hS hWf hj hg)
theorem st_resize {l : Launch} {ω : Om} {O : Nat} {A : FF} {Y : Nat → Nat} {B P : FF} {n k : Nat} {R : Nat → (Nat → Int32) × Nat} {Z : Nat → Prop} {t : Nat} {M : MM} (hl9 : l.stackTraces = false) (hL : LJ ω O A Y B P n k R Z t M) (p0 p1 p2 : Int32) : Step l ω (A 0 0) (Y 0) O yL_resize wsL_resize rmL_resize 3 18 yX5_resize wsX5_resize rmX5_resize (fun x => x.toInt64) [.int p0, .int p1, .int p2] M := by
  obtain ⟨hC, hS, hG, hP, hZY, hZO, hYO, hY, g, hO⟩ := id hL
  have hWf : ∀ f, Yw Y (Y f) := fun f => ⟨f, rfl⟩
  have hX := hC.1.x
  have hn24 : n ≤ 24 := hG.1.1
  rcases pk_ix p0 (n := n) (by omega) with hy | hy | ⟨j, hj, rfl⟩
  · exact Step.no hL (kk := 1) (by decide) (by decide) (h_resize_x1 hX (c_resize_out hl9 hC (Or.inl hy))) (c_Mresize_out hS hWf (Or.inl hy))
  · exact Step.no hL (kk := 1) (by decide) (by decide) (h_resize_x1 hX (c_resize_out hl9 hC (Or.inr hy))) (c_Mresize_out hS hWf (Or.inr hy))
  · by_cases hg : B j 8 = 0
    · have hp5 := (hG.2.2.2.2.1 j hj).1
      have h128 := hG.1.2.1
      have hin := hG.2.1 j hj
      by_cases hb : inPg (nI (B j 1)) (nI (B j 2)) p1 p2
      · obtain ⟨x, y, w, h, ew, eh, rfl, rfl, h1, h2, h3, h4⟩ := inPg_nat hb
        have ew := nI_inj (Nat.lt_trans (h128 j 1) (by decide)) (by omega) ew
        have eh := nI_inj (Nat.lt_trans (h128 j 2) (by decide)) (by omega) eh
        subst ew
        subst eh
        have hG2 := hG.sz (x := w) (y := h) hj h1 h2 h3 h4
        exact Step.ok hL (h_resize_ok hX (Ct.imp (PQ' := OkN l ω A Y B P n k t Z M yX5_resize wsX5_resize rmX5_resize _) (c_resize_ok hl9 hC hj hg hp5 h1 h2 h3 h4 hG2.1 hG2.pf (fun q _ hq => ord_sz hG hj hq)) (fun v M9 h => OkN.fall hL h hG2 (fun M1 h1' => c_Mresize h1' hWf hj hg hp5 h1 h2 h3 h4 hG2.1 hG.ok hG2.ok))) (fun v M9 h => h.out hL hO))
      · exact Step.no hL (kk := 2) (by decide) (by decide) (h_resize_x2 hX (c_resize_bad hl9 hC hj hg hb)) (c_Mresize_bad hS hWf hj hg (inPg_iff.mp hb))
    · exact Step.no hL (kk := 1) (by decide) (by decide) (h_resize_x1 hX (c_resize_gone hl9 hC hj hg)) (c_Mresize_gone hS hWf hj hg)
theorem st_remove {l : Launch} {ω : Om} {O : Nat} {A : FF} {Y : Nat → Nat} {B P : FF} {n k : Nat} {R : Nat → (Nat → Int32) × Nat} {Z : Nat → Prop} {t : Nat} {M : MM} (hl9 : l.stackTraces = false) (hL : LJ ω O A Y B P n k R Z t M) (p0 : Int32) : Step l ω (A 0 0) (Y 0) O yL_remove wsL_remove rmL_remove 2 12 yX5_remove wsX5_remove rmX5_remove (fun x => x.toInt64) [.int p0] M := by
  obtain ⟨hC, hS, hG, hP, hZY, hZO, hYO, hY, g, hO⟩ := id hL
  have hWf : ∀ f, Yw Y (Y f) := fun f => ⟨f, rfl⟩
  have hX := hC.1.x
  have hn24 : n ≤ 24 := hG.1.1
  rcases pk_ix p0 (n := n) (by omega) with hy | hy | ⟨j, hj, rfl⟩
  · exact Step.no hL (kk := 1) (by decide) (by decide) (h_remove_x1 hX (c_remove_out hl9 hC (Or.inl hy))) (c_Mremove_out hS hWf (Or.inl hy))
  · exact Step.no hL (kk := 1) (by decide) (by decide) (h_remove_x1 hX (c_remove_out hl9 hC (Or.inr hy))) (c_Mremove_out hS hWf (Or.inr hy))
  · by_cases hg : B j 8 = 0
    · have hp5 := (hG.2.2.2.2.1 j hj).1
      have hG2 := hG.rm hj
      have e : u2 (unk B j) j 8 1 = rmB B j := by unfold rmB; rw [unk_eq hG.1 hj (fun y h => (hG.n6 hj h).2) (fun z h => (hG.n7 hj h).2)]
      have hz : ∀ y, unl B j j 7 = y + 1 → y < n ∧ y ≠ j := fun y h => (hG.ul hj).n7 hj h
      have hm : ∀ M1, MS ω Y B P n k t M1 → Ct l ω yX5_remove wsX5_remove rmX5_remove [.ref (Y 0), .int (nI j)] M1 (fun v M9 => ∃ P9 c9, v = some (.int (nI c9)) ∧ MS ω Y (rmB B j) P9 n k 0 M9 ∧ Fr (Yw Y) M1 M9 ∧ Fall P (B j 0) k (ordF (rmB B j) n (B j 0) = ordF B n (B j 0)) c9 P9) 0 0 := fun M1 h1 => by
        have := c_Mremove (l := l) h1 hWf hj hg hp5 (by rw [e]; exact rm_pg) (by rw [e]; exact hG2.1) hG.ok (by rw [e]; exact hG2.ok)
        rw [e] at this
        exact this
      exact Step.ok hL (h_remove_ok hX (Ct.imp (PQ' := OkN l ω A Y B P n k t Z M yX5_remove wsX5_remove rmX5_remove _) (c_remove_ok hl9 hC hj hg (fun y h => hG.n6 hj h) hz rm_pg hp5 hG2.1 hG2.pf (fun q _ hq => ord_rm hG hj hq)) (fun v M9 h => OkN.fall hL h hG2 hm)) (fun v M9 h => h.out hL hO))
    · exact Step.no hL (kk := 1) (by decide) (by decide) (h_remove_x1 hX (c_remove_gone hl9 hC hj hg)) (c_Mremove_gone hS hWf hj hg)
theorem st_untie {l : Launch} {ω : Om} {O : Nat} {A : FF} {Y : Nat → Nat} {B P : FF} {n k : Nat} {R : Nat → (Nat → Int32) × Nat} {Z : Nat → Prop} {t : Nat} {M : MM} (hl9 : l.stackTraces = false) (hL : LJ ω O A Y B P n k R Z t M) (p0 : Int32) : Step l ω (A 0 0) (Y 0) O yL_untie wsL_untie rmL_untie 3 18 yX5_untie wsX5_untie rmX5_untie (fun x => x.toInt64) [.int p0] M := by
  obtain ⟨hC, hS, hG, hP, hZY, hZO, hYO, hY, g, hO⟩ := id hL
  have hWf : ∀ f, Yw Y (Y f) := fun f => ⟨f, rfl⟩
  have hX := hC.1.x
  have hn24 : n ≤ 24 := hG.1.1
  rcases pk_ix p0 (n := n) (by omega) with hy | hy | ⟨j, hj, rfl⟩
  · exact Step.no hL (kk := 1) (by decide) (by decide) (h_untie_x1 hX (c_untie_out hl9 hC (Or.inl hy))) (c_Muntie_out hS hWf (Or.inl hy))
  · exact Step.no hL (kk := 1) (by decide) (by decide) (h_untie_x1 hX (c_untie_out hl9 hC (Or.inr hy))) (c_Muntie_out hS hWf (Or.inr hy))
  · by_cases hg : B j 8 = 0
    · have hp5 := (hG.2.2.2.2.1 j hj).1
      cases h6 : B j 6 with
      | zero => exact Step.no hL (kk := 2) (by decide) (by decide) (h_untie_x2 hX (c_untie_x hl9 hC hj hg h6)) (c_Muntie_none hS hWf hj hg h6)
      | succ y0 =>
        have hG2 := hG.ul (j := j) hj
        have hpg : unl B j j 0 = B j 0 := ul_c (by decide) (by decide)
        exact Step.ok hL (h_untie_ok hX (Ct.imp (PQ' := OkN l ω A Y B P n k t Z M yX5_untie wsX5_untie rmX5_untie _) (c_untie_ok hl9 hC hj hg h6 (fun y h => hG.n6 hj h) hpg hp5 hG2.1 hG2.pf (fun q _ hq => ord_ul hG hj hq)) (fun v M9 h => OkN.fall hL h hG2 (fun M1 h1 => c_Muntie h1 hWf hj hg h6 hp5 hpg hG2.1 hG.ok hG2.ok))) (fun v M9 h => h.out hL hO))
    · exact Step.no hL (kk := 1) (by decide) (by decide) (h_untie_x1 hX (c_untie_gone hl9 hC hj hg)) (c_Muntie_gone hS hWf hj hg)
theorem st_tie {l : Launch} {ω : Om} {O : Nat} {A : FF} {Y : Nat → Nat} {B P : FF} {n k : Nat} {R : Nat → (Nat → Int32) × Nat} {Z : Nat → Prop} {t : Nat} {M : MM} (hl9 : l.stackTraces = false) (hL : LJ ω O A Y B P n k R Z t M) (p0 p1 : Int32) : Step l ω (A 0 0) (Y 0) O yL_tie wsL_tie rmL_tie 3 18 yX5_tie wsX5_tie rmX5_tie (fun x => x.toInt64) [.int p0, .int p1] M := by
  obtain ⟨hC, hS, hG, hP, hZY, hZO, hYO, hY, g, hO⟩ := id hL
  have hWf : ∀ f, Yw Y (Y f) := fun f => ⟨f, rfl⟩
  have hX := hC.1.x
  have hn24 : n ≤ 24 := hG.1.1
  rcases pk_ix p0 (n := n) (by omega) with hy | hy | ⟨j, hj, rfl⟩
  · exact Step.no hL (kk := 1) (by decide) (by decide) (h_tie_x1 hX (c_tie_x1o hl9 hC (Or.inl hy))) (c_Mtie_x1 hS hWf (Or.inl hy))
  · exact Step.no hL (kk := 1) (by decide) (by decide) (h_tie_x1 hX (c_tie_x1o hl9 hC (Or.inr hy))) (c_Mtie_x1 hS hWf (Or.inr hy))
  · by_cases hg : B j 8 = 0
    · have hp5 := (hG.2.2.2.2.1 j hj).1
      rcases pk_ix p1 (n := n) (by omega) with hy | hy | ⟨i, hi, rfl⟩
      · exact Step.no hL (kk := 1) (by decide) (by decide) (h_tie_x1 hX (c_tie_x2o hl9 hC hj hg (Or.inl hy))) (c_Mtie_x2 hS hWf hj hg (Or.inl hy))
      · exact Step.no hL (kk := 1) (by decide) (by decide) (h_tie_x1 hX (c_tie_x2o hl9 hC hj hg (Or.inr hy))) (c_Mtie_x2 hS hWf hj hg (Or.inr hy))
      · by_cases hgi : B i 8 = 0
        · obtain ⟨ρ6, hρ6⟩ := hG.2.2.2.1.six hG.1
          by_cases hpp : B j 0 = B i 0
          · by_cases hji : j = i
            · subst hji
              exact Step.no hL (kk := 2) (by decide) (by decide) (h_tie_x2 hX (c_tie_iae hl9 hC hj hg hi hgi (Or.inl rfl))) (c_Mtie_own hS hWf hj hg)
            · by_cases h7 : B j 7 = 0
              · by_cases h6 : B i 6 = 0
                · by_cases hup : ∃ q, up B q j = i + 1
                  · obtain ⟨q, hq⟩ := hup
                    have hq2 : ∃ q, up B (q + 1) j = i + 1 := by
                      cases q with
                      | zero => exact absurd (show j + 1 = i + 1 from hq) (by omega)
                      | succ q => exact ⟨q, hq⟩
                    exact Step.no hL (kk := 3) (by decide) (by decide) (h_tie_x3 hX (c_tie_ise hl9 hC hj hg hi hgi hji hpp (Or.inr (Or.inr hq2)) ρ6 hρ6)) (c_Mtie_up hS hWf hj hg hi hgi hji hpp h7 h6 hq ρ6 hρ6)
                  · have hup2 : ∀ q, up B q j ≠ i + 1 := fun q hq => hup ⟨q, hq⟩
                    have hG2 := hG.ti hj hi hg hgi hpp h7 h6 hup2
                    exact Step.ok hL (h_tie_ok hX (Ct.imp (PQ' := OkN l ω A Y B P n k t Z M yX5_tie wsX5_tie rmX5_tie _) (c_tie_ok hl9 hC hj hg hi hgi hji hpp h7 h6 (fun q => hup2 (q + 1)) ρ6 hρ6 hp5 hG2.1 hG2.pf (fun q _ hq => ord_ti hG hj hi hpp hq)) (fun v M9 h => OkN.fall hL h hG2 (fun M1 h1 => c_Mtie h1 hWf hj hg hi hgi hji hpp h7 h6 hup2 ρ6 hρ6 hp5 hG2.1 hG.ok hG2.ok))) (fun v M9 h => h.out hL hO))
                · exact Step.no hL (kk := 3) (by decide) (by decide) (h_tie_x3 hX (c_tie_ise hl9 hC hj hg hi hgi hji hpp (Or.inr (Or.inl h6)) ρ6 hρ6)) (c_Mtie_h6 hS hWf hj hg hi hgi hji hpp h7 h6)
              · exact Step.no hL (kk := 3) (by decide) (by decide) (h_tie_x3 hX (c_tie_ise hl9 hC hj hg hi hgi hji hpp (Or.inl h7) ρ6 hρ6)) (c_Mtie_h7 hS hWf hj hg hi hgi hji hpp h7)
          · exact Step.no hL (kk := 2) (by decide) (by decide) (h_tie_x2 hX (c_tie_iae hl9 hC hj hg hi hgi (Or.inr hpp))) (c_Mtie_pg hS hWf hj hg hi hgi hpp)
        · exact Step.no hL (kk := 1) (by decide) (by decide) (h_tie_x1 hX (c_tie_x2g hl9 hC hj hg hi hgi)) (c_Mtie_g2 hS hWf hj hg hi hgi)
    · exact Step.no hL (kk := 1) (by decide) (by decide) (h_tie_x1 hX (c_tie_x1g hl9 hC hj hg)) (c_Mtie_g1 hS hWf hj hg)
theorem st_order {l : Launch} {ω : Om} {O : Nat} {A : FF} {Y : Nat → Nat} {B P : FF} {n k : Nat} {R : Nat → (Nat → Int32) × Nat} {Z : Nat → Prop} {t : Nat} {M : MM} (hl9 : l.stackTraces = false) (hL : LJ ω O A Y B P n k R Z t M) (p0 p1 : Int32) : Step l ω (A 0 0) (Y 0) O yL_order wsL_order rmL_order 2 12 yX5_order wsX5_order rmX5_order (fun x => x.toInt64) [.int p0, .int p1] M := by
  obtain ⟨hC, hS, hG, hP, hZY, hZO, hYO, hY, g, hO⟩ := id hL
  have hWf : ∀ f, Yw Y (Y f) := fun f => ⟨f, rfl⟩
  have hX := hC.1.x
  have hn24 : n ≤ 24 := hG.1.1
  rcases pk_ix p0 (n := 5) (by decide) with hy | hy | ⟨p, hp, rfl⟩
  · exact Step.no hL (kk := 1) (by decide) (by decide) (h_order_x1 hX (c_order_x1 hl9 hC (Or.inl hy))) (c_Morder_x1 hS hWf (Or.inl hy))
  · exact Step.no hL (kk := 1) (by decide) (by decide) (h_order_x1 hX (c_order_x1 hl9 hC (Or.inr hy))) (c_Morder_x1 hS hWf (Or.inr hy))
  · have hlen : (ordF B n p).length ≤ 24 := hG.len
    by_cases hy0 : p1 < 0
    · exact Step.no hL (kk := 1) (by decide) (by decide) (h_order_x1 hX (c_order_x2 hl9 hC hp (fun h => i32_nlt h hy0))) (c_Morder_x2 hS hWf hp hy0)
    · rcases pk_ix p1 (n := (ordF B n p).length) (by omega) with hy | hy | ⟨j, hj, rfl⟩
      · exact absurd hy hy0
      · exact Step.ok hL (h_order_ok hX (Ct.imp (PQ' := OkN l ω A Y B P n k t Z M yX5_order wsX5_order rmX5_order _) ((c_order_out hl9 hC hp (i32_nle hy0) hy).noX (fun _ h => h)) (fun v M9 h => OkN.same hL h.1 h.2 (fun M1 h1 => c_Morder_out h1 hWf hp hG.ok hy0 hy))) (fun v M9 h => h.out hL hO))
      · exact Step.ok hL (h_order_ok hX (Ct.imp (PQ' := OkN l ω A Y B P n k t Z M yX5_order wsX5_order rmX5_order _) ((c_order_in hl9 hC hp hj (nI_le (a := 0) (Nat.zero_le _) (by omega))).noX (fun _ h => h)) (fun v M9 h => OkN.same hL h.1 h.2 (fun M1 h1 => c_Morder_in h1 hWf hp hG.ok hj))) (fun v M9 h => h.out hL hO))
theorem st_orderAnew {l : Launch} {ω : Om} {O : Nat} {A : FF} {Y : Nat → Nat} {B P : FF} {n k : Nat} {R : Nat → (Nat → Int32) × Nat} {Z : Nat → Prop} {t : Nat} {M : MM} (hl9 : l.stackTraces = false) (hL : LJ ω O A Y B P n k R Z t M) (p0 p1 : Int32) : Step l ω (A 0 0) (Y 0) O yL_orderAnew wsL_orderAnew rmL_orderAnew 2 12 yX5_orderAnew wsX5_orderAnew rmX5_orderAnew (fun x => x.toInt64) [.int p0, .int p1] M := by
  obtain ⟨hC, hS, hG, hP, hZY, hZO, hYO, hY, g, hO⟩ := id hL
  have hWf : ∀ f, Yw Y (Y f) := fun f => ⟨f, rfl⟩
  have hX := hC.1.x
  have hn24 : n ≤ 24 := hG.1.1
  rcases pk_ix p0 (n := 5) (by decide) with hy | hy | ⟨p, hp, rfl⟩
  · exact Step.no hL (kk := 1) (by decide) (by decide) (h_orderAnew_x1 hX (c_orderAnew_x1 hl9 hC (Or.inl hy))) (c_MorderAnew_x1 hS hWf (Or.inl hy))
  · exact Step.no hL (kk := 1) (by decide) (by decide) (h_orderAnew_x1 hX (c_orderAnew_x1 hl9 hC (Or.inr hy))) (c_MorderAnew_x1 hS hWf (Or.inr hy))
  · have hlen : (ordF B n p).length ≤ 24 := hG.len
    by_cases hy0 : p1 < 0
    · exact Step.no hL (kk := 1) (by decide) (by decide) (h_orderAnew_x1 hX (c_orderAnew_x2 hl9 hC hp (fun h => i32_nlt h hy0))) (c_MorderAnew_x2 hS hWf hp hy0)
    · rcases pk_ix p1 (n := (ordF B n p).length) (by omega) with hy | hy | ⟨j, hj, rfl⟩
      · exact absurd hy hy0
      · obtain ⟨e1, e2, -⟩ := pile_page (B := B) (p := p) hG.1.1
        exact Step.ok hL (h_orderAnew_ok hX (Ct.imp (PQ' := OkN l ω A Y B P n k t Z M yX5_orderAnew wsX5_orderAnew rmX5_orderAnew _) (c_orderAnew_out hl9 hC hp (by rw [e1]; exact hlen) e2 (i32_nle hy0) (by rw [e1]; exact hy)) (fun v M9 ⟨⟨R9, hC9⟩, hF9, e⟩ => OkN.anew hL e hC9 hF9 (fun M1 h1 => c_MorderAnew_out h1 hWf hp hG.ok hy0 hy))) (fun v M9 h => h.out hL hO))
      · obtain ⟨e1, e2, -⟩ := pile_page (B := B) (p := p) hG.1.1
        exact Step.ok hL (h_orderAnew_ok hX (Ct.imp (PQ' := OkN l ω A Y B P n k t Z M yX5_orderAnew wsX5_orderAnew rmX5_orderAnew _) (c_orderAnew_in hl9 hC hp (by rw [e1]; exact hlen) e2 (by rw [e1]; exact hj) (nI_le (a := 0) (Nat.zero_le _) (by omega))) (fun v M9 ⟨⟨R9, hC9⟩, hF9, e⟩ => OkN.anew hL (e.trans (by rw [e1])) hC9 hF9 (fun M1 h1 => c_MorderAnew_in h1 hWf hp hG.ok hj))) (fun v M9 h => h.out hL hO))
theorem st_placeOf {l : Launch} {ω : Om} {O : Nat} {A : FF} {Y : Nat → Nat} {B P : FF} {n k : Nat} {R : Nat → (Nat → Int32) × Nat} {Z : Nat → Prop} {t : Nat} {M : MM} (hl9 : l.stackTraces = false) (hL : LJ ω O A Y B P n k R Z t M) (p0 : Int32) : Step l ω (A 0 0) (Y 0) O yL_placeOf wsL_placeOf rmL_placeOf 2 12 yX5_placeOf wsX5_placeOf rmX5_placeOf (fun x => x.toInt64) [.int p0] M := by
  obtain ⟨hC, hS, hG, hP, hZY, hZO, hYO, hY, g, hO⟩ := id hL
  have hWf : ∀ f, Yw Y (Y f) := fun f => ⟨f, rfl⟩
  have hX := hC.1.x
  have hn24 : n ≤ 24 := hG.1.1
  rcases pk_ix p0 (n := n) (by omega) with hy | hy | ⟨j, hj, rfl⟩
  · exact Step.no hL (kk := 1) (by decide) (by decide) (h_placeOf_x1 hX (c_placeOf_out hl9 hC (Or.inl hy))) (c_MplaceOf_out hS hWf (Or.inl hy))
  · exact Step.no hL (kk := 1) (by decide) (by decide) (h_placeOf_x1 hX (c_placeOf_out hl9 hC (Or.inr hy))) (c_MplaceOf_out hS hWf (Or.inr hy))
  · by_cases hg : B j 8 = 0
    · have hp5 := (hG.2.2.2.2.1 j hj).1
      obtain ⟨q, hq, hqj, hq0, hpl⟩ := hG.at hj hg
      have hd := nodup_at (hG.nd (p := B j 0))
      exact Step.ok hL (h_placeOf_ok hX (Ct.imp (PQ' := OkN l ω A Y B P n k t Z M yX5_placeOf wsX5_placeOf rmX5_placeOf _) (c_placeOf_ok hl9 hC hj hg rfl hp5 ⟨q, hq, hqj⟩) (fun v M9 h => OkN.same hL (x := nI q) (by obtain ⟨⟨q2, a1, a2, -, a4⟩, -⟩ := h; rw [a4, hd q2 q a1 hq (a2.trans hqj.symm)]) h.2 (fun M1 h1 => (c_MplaceOf h1 hWf hj hg hp5 hG.ok).imp (fun v2 M2 h2 => ⟨by rw [h2.1, hpl]; rfl, h2.2⟩)))) (fun v M9 h => h.out hL hO))
    · exact Step.no hL (kk := 1) (by decide) (by decide) (h_placeOf_x1 hX (c_placeOf_gone hl9 hC hj hg)) (c_MplaceOf_gone hS hWf hj hg)
theorem st_faults {l : Launch} {ω : Om} {O : Nat} {A : FF} {Y : Nat → Nat} {B P : FF} {n k : Nat} {R : Nat → (Nat → Int32) × Nat} {Z : Nat → Prop} {t : Nat} {M : MM} (hl9 : l.stackTraces = false) (hL : LJ ω O A Y B P n k R Z t M) (p0 : Int32) : Step l ω (A 0 0) (Y 0) O yL_faults wsL_faults rmL_faults 2 12 yX5_faults wsX5_faults rmX5_faults (fun x => x.toInt64) [.int p0] M := by
  obtain ⟨hC, hS, hG, hP, hZY, hZO, hYO, hY, g, hO⟩ := id hL
  have hWf : ∀ f, Yw Y (Y f) := fun f => ⟨f, rfl⟩
  have hX := hC.1.x
  have hn24 : n ≤ 24 := hG.1.1
  rcases pk_ix p0 (n := n) (by omega) with hy | hy | ⟨j, hj, rfl⟩
  · exact Step.no hL (kk := 1) (by decide) (by decide) (h_faults_x1 hX (c_faults_out hl9 hC (Or.inl hy))) (c_Mfaults_out hS hWf (Or.inl hy))
  · exact Step.no hL (kk := 1) (by decide) (by decide) (h_faults_x1 hX (c_faults_out hl9 hC (Or.inr hy))) (c_Mfaults_out hS hWf (Or.inr hy))
  · by_cases hg : B j 8 = 0
    · have hp5 := (hG.2.2.2.2.1 j hj).1
      obtain ⟨q, hq, hqj, hq0, hpl⟩ := hG.at hj hg
      have hd := nodup_at (hG.nd (p := B j 0))
      exact Step.ok hL (h_faults_ok hX (Ct.imp (PQ' := OkN l ω A Y B P n k t Z M yX5_faults wsX5_faults rmX5_faults _) (c_faults_ok hl9 hC hj hg rfl hp5 ⟨q, hq, hqj⟩) (fun v M9 h => OkN.same hL (x := nI (ftA B (ordF B n (B j 0)) q)) (by obtain ⟨⟨q2, a1, a2, -, a4⟩, -⟩ := h; rw [a4, hd q2 q a1 hq (a2.trans hqj.symm)]) h.2 (fun M1 h1 => c_Mfaults h1 hWf hj hg hp5 hG.ok hq hpl hd))) (fun v M9 h => h.out hL hO))
    · exact Step.no hL (kk := 1) (by decide) (by decide) (h_faults_x1 hX (c_faults_gone hl9 hC hj hg)) (c_Mfaults_gone hS hWf hj hg)
theorem st_boxes {l : Launch} {ω : Om} {O : Nat} {A : FF} {Y : Nat → Nat} {B P : FF} {n k : Nat} {R : Nat → (Nat → Int32) × Nat} {Z : Nat → Prop} {t : Nat} {M : MM} (hl9 : l.stackTraces = false) (hL : LJ ω O A Y B P n k R Z t M) (p0 : Int32) : Step l ω (A 0 0) (Y 0) O yL_boxes wsL_boxes rmL_boxes 1 6 yX5_boxes wsX5_boxes rmX5_boxes (fun x => x.toInt64) [.int p0] M := by
  obtain ⟨hC, hS, hG, hP, hZY, hZO, hYO, hY, g, hO⟩ := id hL
  have hWf : ∀ f, Yw Y (Y f) := fun f => ⟨f, rfl⟩
  have hX := hC.1.x
  have hn24 : n ≤ 24 := hG.1.1
  rcases pk_ix p0 (n := 5) (by decide) with hy | hy | ⟨p, hp, rfl⟩
  · exact Step.no hL (kk := 1) (by decide) (by decide) (h_boxes_x1 hX (c_boxes_x hl9 hC (Or.inl hy))) (c_Mboxes_x hS hWf (Or.inl hy))
  · exact Step.no hL (kk := 1) (by decide) (by decide) (h_boxes_x1 hX (c_boxes_x hl9 hC (Or.inr hy))) (c_Mboxes_x hS hWf (Or.inr hy))
  · exact Step.ok hL (h_boxes_ok hX (Ct.imp (PQ' := OkN l ω A Y B P n k t Z M yX5_boxes wsX5_boxes rmX5_boxes _) ((c_boxes_ok hl9 hC hp).noX (fun _ h => h)) (fun v M9 h => OkN.same hL h.1 h.2 (fun M1 h1 => c_Mboxes h1 hWf hp hG.ok))) (fun v M9 h => h.out hL hO))
theorem st_way {l : Launch} {ω : Om} {O : Nat} {A : FF} {Y : Nat → Nat} {B P : FF} {n k : Nat} {R : Nat → (Nat → Int32) × Nat} {Z : Nat → Prop} {t : Nat} {M : MM} (hl9 : l.stackTraces = false) (hL : LJ ω O A Y B P n k R Z t M) (p0 : Int32) : Step l ω (A 0 0) (Y 0) O yL_way wsL_way rmL_way 1 6 yX5_way wsX5_way rmX5_way (fun x => x.toInt64) [.int p0] M := by
  obtain ⟨hC, hS, hG, hP, hZY, hZO, hYO, hY, g, hO⟩ := id hL
  have hWf : ∀ f, Yw Y (Y f) := fun f => ⟨f, rfl⟩
  have hX := hC.1.x
  have hn24 : n ≤ 24 := hG.1.1
  rcases pk_ix p0 (n := 5) (by decide) with hy | hy | ⟨p, hp, rfl⟩
  · exact Step.no hL (kk := 1) (by decide) (by decide) (h_way_x1 hX (c_way_x hl9 hC (Or.inl hy))) (c_Mway_x hS hWf (Or.inl hy))
  · exact Step.no hL (kk := 1) (by decide) (by decide) (h_way_x1 hX (c_way_x hl9 hC (Or.inr hy))) (c_Mway_x hS hWf (Or.inr hy))
  · exact Step.ok hL (h_way_ok hX (Ct.imp (PQ' := OkN l ω A Y B P n k t Z M yX5_way wsX5_way rmX5_way _) (c_way_ok hl9 hC hp) (fun v M9 h => OkN.same hL h.1 h.2 (fun M1 h1 => c_Mway h1 hWf hp hG.ok))) (fun v M9 h => h.out hL hO))
theorem st_faulty {l : Launch} {ω : Om} {O : Nat} {A : FF} {Y : Nat → Nat} {B P : FF} {n k : Nat} {R : Nat → (Nat → Int32) × Nat} {Z : Nat → Prop} {t : Nat} {M : MM} (hl9 : l.stackTraces = false) (hL : LJ ω O A Y B P n k R Z t M) (p0 : Int32) : Step l ω (A 0 0) (Y 0) O yL_faulty wsL_faulty rmL_faulty 1 6 yX5_faulty wsX5_faulty rmX5_faulty (fun x => x.toInt64) [.int p0] M := by
  obtain ⟨hC, hS, hG, hP, hZY, hZO, hYO, hY, g, hO⟩ := id hL
  have hWf : ∀ f, Yw Y (Y f) := fun f => ⟨f, rfl⟩
  have hX := hC.1.x
  have hn24 : n ≤ 24 := hG.1.1
  rcases pk_ix p0 (n := 5) (by decide) with hy | hy | ⟨p, hp, rfl⟩
  · exact Step.no hL (kk := 1) (by decide) (by decide) (h_faulty_x1 hX (c_faulty_x hl9 hC (Or.inl hy))) (c_Mfaulty_x hS hWf (Or.inl hy))
  · exact Step.no hL (kk := 1) (by decide) (by decide) (h_faulty_x1 hX (c_faulty_x hl9 hC (Or.inr hy))) (c_Mfaulty_x hS hWf (Or.inr hy))
  · exact Step.ok hL (h_faulty_ok hX (Ct.imp (PQ' := OkN l ω A Y B P n k t Z M yX5_faulty wsX5_faulty rmX5_faulty _) (c_faulty_ok hl9 hC hp) (fun v M9 h => OkN.same hL h.1 h.2 (fun M1 h1 => c_Mfaulty h1 hWf hp hG.ok (nodup_at hG.nd)))) (fun v M9 h => h.out hL hO))
theorem st_approvers {l : Launch} {ω : Om} {O : Nat} {A : FF} {Y : Nat → Nat} {B P : FF} {n k : Nat} {R : Nat → (Nat → Int32) × Nat} {Z : Nat → Prop} {t : Nat} {M : MM} (hl9 : l.stackTraces = false) (hL : LJ ω O A Y B P n k R Z t M) (p0 : Int32) : Step l ω (A 0 0) (Y 0) O yL_approvers wsL_approvers rmL_approvers 1 6 yX5_approvers wsX5_approvers rmX5_approvers (fun x => x.toInt64) [.int p0] M := by
  obtain ⟨hC, hS, hG, hP, hZY, hZO, hYO, hY, g, hO⟩ := id hL
  have hWf : ∀ f, Yw Y (Y f) := fun f => ⟨f, rfl⟩
  have hX := hC.1.x
  have hn24 : n ≤ 24 := hG.1.1
  rcases pk_ix p0 (n := 5) (by decide) with hy | hy | ⟨p, hp, rfl⟩
  · exact Step.no hL (kk := 1) (by decide) (by decide) (h_approvers_x1 hX (c_approvers_x hl9 hC (Or.inl hy))) (c_Mapprovers_x hS hWf (Or.inl hy))
  · exact Step.no hL (kk := 1) (by decide) (by decide) (h_approvers_x1 hX (c_approvers_x hl9 hC (Or.inr hy))) (c_Mapprovers_x hS hWf (Or.inr hy))
  · exact Step.ok hL (h_approvers_ok hX (Ct.imp (PQ' := OkN l ω A Y B P n k t Z M yX5_approvers wsX5_approvers rmX5_approvers _) (c_approvers_ok hl9 hC hp hP.1) (fun v M9 h => OkN.same hL h.1 h.2 (fun M1 h1 => c_Mapprovers h1 hWf hp (fun i _ => hP.1 i)))) (fun v M9 h => h.out hL hO))
theorem st_about {l : Launch} {ω : Om} {O : Nat} {A : FF} {Y : Nat → Nat} {B P : FF} {n k : Nat} {R : Nat → (Nat → Int32) × Nat} {Z : Nat → Prop} {t : Nat} {M : MM} (hl9 : l.stackTraces = false) (hL : LJ ω O A Y B P n k R Z t M) (p0 p1 : Int32) : Step l ω (A 0 0) (Y 0) O yL_about wsL_about rmL_about 1 6 yX5_about wsX5_about rmX5_about (fun x => x.toInt64) [.int p0, .int p1] M := by
  obtain ⟨hC, hS, hG, hP, hZY, hZO, hYO, hY, g, hO⟩ := id hL
  have hWf : ∀ f, Yw Y (Y f) := fun f => ⟨f, rfl⟩
  have hX := hC.1.x
  have hn24 : n ≤ 24 := hG.1.1
  have hem : (¬ p1 < nI 0 ∧ ¬ nI 8 < p1) ∨ (p1 < nI 0 ∨ nI 8 < p1) := by
    by_cases h1 : p1 < nI 0
    · exact Or.inr (Or.inl h1)
    · by_cases h2 : nI 8 < p1
      · exact Or.inr (Or.inr h2)
      · exact Or.inl ⟨h1, h2⟩
  rcases pk_ix p0 (n := n) (by omega) with hy | hy | ⟨j, hj, rfl⟩
  · exact Step.no hL (kk := 1) (by decide) (by decide) (h_about_x1 hX (c_about_out hl9 hC (Or.inl hy))) (c_Mabout_out hS hWf (Or.inl hy) (b := true) hem)
  · exact Step.no hL (kk := 1) (by decide) (by decide) (h_about_x1 hX (c_about_out hl9 hC (Or.inr hy))) (c_Mabout_out hS hWf (Or.inr hy) (b := true) hem)
  · rcases pk_ix p1 (n := 9) (by decide) with hy | hy | ⟨w, hw, rfl⟩
    · exact Step.no hL (kk := 2) (by decide) (by decide) (h_about_x2 hX (c_about_bad hl9 hC hj (Or.inl (by rw [Int32.lt_iff_toInt_lt] at hy; exact hy)))) (c_Mabout_bad hS hWf hj (Or.inl hy))
    · have h8 : nI 8 < p1 := i32_lt (show nI 8 < nI 9 by decide) hy
      exact Step.no hL (kk := 2) (by decide) (by decide) (h_about_x2 hX (c_about_bad hl9 hC hj (Or.inr (by rw [Int32.lt_iff_toInt_lt] at h8; exact h8)))) (c_Mabout_bad hS hWf hj (Or.inr h8))
    · clear hem
      match w, hw with
      | 0, _ =>
        exact Step.ok hL (h_about_ok hX (Ct.imp (PQ' := OkN l ω A Y B P n k t Z M yX5_about wsX5_about rmX5_about _) (c_about_0 hC hj) (fun v M9 h => OkN.same hL h.1 h.2 (fun M1 h1 => c_Mabout_0 h1 hWf hj))) (fun v M9 h => h.out hL hO))
      | 1, _ =>
        exact Step.ok hL (h_about_ok hX (Ct.imp (PQ' := OkN l ω A Y B P n k t Z M yX5_about wsX5_about rmX5_about _) (c_about_1 hC hj) (fun v M9 h => OkN.same hL h.1 h.2 (fun M1 h1 => c_Mabout_1 h1 hWf hj))) (fun v M9 h => h.out hL hO))
      | 2, _ =>
        exact Step.ok hL (h_about_ok hX (Ct.imp (PQ' := OkN l ω A Y B P n k t Z M yX5_about wsX5_about rmX5_about _) (c_about_2 hC hj) (fun v M9 h => OkN.same hL h.1 h.2 (fun M1 h1 => c_Mabout_2 h1 hWf hj))) (fun v M9 h => h.out hL hO))
      | 3, _ =>
        exact Step.ok hL (h_about_ok hX (Ct.imp (PQ' := OkN l ω A Y B P n k t Z M yX5_about wsX5_about rmX5_about _) (c_about_3 hC hj) (fun v M9 h => OkN.same hL h.1 h.2 (fun M1 h1 => c_Mabout_3 h1 hWf hj))) (fun v M9 h => h.out hL hO))
      | 4, _ =>
        exact Step.ok hL (h_about_ok hX (Ct.imp (PQ' := OkN l ω A Y B P n k t Z M yX5_about wsX5_about rmX5_about _) (c_about_4 hC hj) (fun v M9 h => OkN.same hL h.1 h.2 (fun M1 h1 => c_Mabout_4 h1 hWf hj))) (fun v M9 h => h.out hL hO))
      | 5, _ =>
        exact Step.ok hL (h_about_ok hX (Ct.imp (PQ' := OkN l ω A Y B P n k t Z M yX5_about wsX5_about rmX5_about _) (c_about_5 hC hj) (fun v M9 h => OkN.same hL h.1 h.2 (fun M1 h1 => c_Mabout_5 h1 hWf hj))) (fun v M9 h => h.out hL hO))
      | 6, _ =>
        have hz : B j 8 ≠ 0 → B j 6 = 0 := fun h => (hG.2.2.2.2.2 j hj h).1
        cases h0 : B j 6 with
        | zero => exact Step.ok hL (h_about_ok hX (Ct.imp (PQ' := OkN l ω A Y B P n k t Z M yX5_about wsX5_about rmX5_about _) (c_about_60 hC hj h0) (fun v M9 h => OkN.same hL h.1 h.2 (fun M1 h1 => (c_Mabout_6 h1 hWf hj hz).imp (fun v2 M2 h2 => ⟨by rw [h2.1, h0]; rfl, h2.2⟩)))) (fun v M9 h => h.out hL hO))
        | succ y =>
          have hyn : y < n := (hG.n6 hj h0).1
          exact Step.ok hL (h_about_ok hX (Ct.imp (PQ' := OkN l ω A Y B P n k t Z M yX5_about wsX5_about rmX5_about _) (c_about_61 hC hj h0 hyn) (fun v M9 h => OkN.same hL h.1 h.2 (fun M1 h1 => (c_Mabout_6 h1 hWf hj hz).imp (fun v2 M2 h2 => ⟨by rw [h2.1, h0]; rfl, h2.2⟩)))) (fun v M9 h => h.out hL hO))
      | 7, _ =>
        have hz : B j 8 ≠ 0 → B j 7 = 0 := fun h => (hG.2.2.2.2.2 j hj h).2
        cases h0 : B j 7 with
        | zero => exact Step.ok hL (h_about_ok hX (Ct.imp (PQ' := OkN l ω A Y B P n k t Z M yX5_about wsX5_about rmX5_about _) (c_about_70 hC hj h0) (fun v M9 h => OkN.same hL h.1 h.2 (fun M1 h1 => (c_Mabout_7 h1 hWf hj hz).imp (fun v2 M2 h2 => ⟨by rw [h2.1, h0]; rfl, h2.2⟩)))) (fun v M9 h => h.out hL hO))
        | succ y =>
          have hyn : y < n := (hG.n7 hj h0).1
          exact Step.ok hL (h_about_ok hX (Ct.imp (PQ' := OkN l ω A Y B P n k t Z M yX5_about wsX5_about rmX5_about _) (c_about_71 hC hj h0 hyn) (fun v M9 h => OkN.same hL h.1 h.2 (fun M1 h1 => (c_Mabout_7 h1 hWf hj hz).imp (fun v2 M2 h2 => ⟨by rw [h2.1, h0]; rfl, h2.2⟩)))) (fun v M9 h => h.out hL hO))
      | 8, _ =>
        exact Step.ok hL (h_about_ok hX (Ct.imp (PQ' := OkN l ω A Y B P n k t Z M yX5_about wsX5_about rmX5_about _) (c_about_8 hC hj (by have := (hG.2.2.2.2.1 j hj).2.2; omega)) (fun v M9 h => OkN.same hL h.1 h.2 (fun M1 h1 => c_Mabout_8 h1 hWf hj (hG.2.2.2.2.1 j hj).2.2))) (fun v M9 h => h.out hL hO))
      | w + 9, hw => exact absurd hw (by omega)
theorem st_approve {l : Launch} {ω : Om} {O : Nat} {A : FF} {Y : Nat → Nat} {B P : FF} {n k : Nat} {R : Nat → (Nat → Int32) × Nat} {Z : Nat → Prop} {t : Nat} {M : MM} (hl9 : l.stackTraces = false) (hL : LJ ω O A Y B P n k R Z t M) (p0 p1 : Int32) : Step l ω (A 0 0) (Y 0) O yL_approve wsL_approve rmL_approve 3 15 yX5_approve wsX5_approve rmX5_approve (fun x => x.toInt64) [.int p0, .int p1] M := by
  obtain ⟨hC, hS, hG, hP, hZY, hZO, hYO, hY, g, hO⟩ := id hL
  have hWf : ∀ f, Yw Y (Y f) := fun f => ⟨f, rfl⟩
  have hX := hC.1.x
  have hn24 : n ≤ 24 := hG.1.1
  rcases pk_ix p0 (n := 6) (by decide) with hy | hy | ⟨a, ha, rfl⟩
  · exact Step.no hL (kk := 1) (by decide) (by decide) (h_approve_x1 hX (c_approve_who hl9 hC (Or.inl hy))) (c_Mapprove_who hS hWf (Or.inl hy))
  · exact Step.no hL (kk := 1) (by decide) (by decide) (h_approve_x1 hX (c_approve_who hl9 hC (Or.inr hy))) (c_Mapprove_who hS hWf (Or.inr (i32_lt (show nI 5 < nI 6 by decide) hy)))
  · rcases pk_ix p1 (n := 5) (by decide) with hy | hy | ⟨p, hp, rfl⟩
    · exact Step.no hL (kk := 1) (by decide) (by decide) (h_approve_x1 hX (c_approve_x hl9 hC ha (Or.inl hy))) (c_Mapprove_x hS hWf ha (Or.inl hy))
    · exact Step.no hL (kk := 1) (by decide) (by decide) (h_approve_x1 hX (c_approve_x hl9 hC ha (Or.inr hy))) (c_Mapprove_x hS hWf ha (Or.inr hy))
    · by_cases hne : 0 < (ordF B n p).length ∧ k < 20
      · have hP2 := hP.nw hne.2 ha hp
        refine Step.ok hL (h_approve_ok hX (Ct.imp (PQ' := OkN l ω A Y B P n k t Z M yX5_approve wsX5_approve rmX5_approve _) (c_approve_ok hl9 hC ha hp hne.1 hne.2) (fun v M9 h => ?_)) (fun v M9 h => h.out hL hO))
        obtain ⟨q, hq, e1, hX9, hF9⟩ := h
        have hC9 := hC.nextApp hq hne.2 ha hp hX9
        exact ⟨nI k, u2 A 4 k q, B, nwP P k a p, n, k + 1, R, fun z => Z z ∨ z = q, e1, by simp [u2], hC9, hG, hP2, hF9, fun z hz => hz.elim Or.inl (fun h => Or.inr (by rw [h]; exact hq)), fun M1 h1 => c_Mapprove h1 hWf ha hp hG.ok hne.1 hne.2⟩
      · exact Step.no hL (kk := 2) (by decide) (by decide) (h_approve_x2 hX (c_approve_none hl9 hC ha hp hne)) (c_Mapprove_none hS hWf ha hp hG.ok hne)
theorem st_stands {l : Launch} {ω : Om} {O : Nat} {A : FF} {Y : Nat → Nat} {B P : FF} {n k : Nat} {R : Nat → (Nat → Int32) × Nat} {Z : Nat → Prop} {t : Nat} {M : MM} (hl9 : l.stackTraces = false) (hL : LJ ω O A Y B P n k R Z t M) (p0 : Int32) : Step l ω (A 0 0) (Y 0) O yL_stands wsL_stands rmL_stands 1 6 yX5_stands wsX5_stands rmX5_stands (fun x => if x = 0 then 0 else 1) [.int p0] M := by
  obtain ⟨hC, hS, hG, hP, hZY, hZO, hYO, hY, g, hO⟩ := id hL
  have hWf : ∀ f, Yw Y (Y f) := fun f => ⟨f, rfl⟩
  have hX := hC.1.x
  have hn24 : n ≤ 24 := hG.1.1
  have hk20 := hP.2.2.1
  rcases pk_ix p0 (n := k) (by omega) with hy | hy | ⟨i, hi, rfl⟩
  · exact Step.no hL (kk := 1) (by decide) (by decide) (h_stands_x1 hX (c_stands_x hl9 hC (Or.inl hy))) (c_Mstands_x hS hWf (Or.inl hy))
  · exact Step.no hL (kk := 1) (by decide) (by decide) (h_stands_x1 hX (c_stands_x hl9 hC (Or.inr hy))) (c_Mstands_x hS hWf (Or.inr hy))
  · have h01 := hP.2.1 i
    have eb : nI (P i 2) = bI (decide (1 - P i 2 = 0)) := by
      rcases (show P i 2 = 0 ∨ P i 2 = 1 by omega) with h | h <;> rw [h] <;> rfl
    have hc := Ct.imp (PQ' := fun v M9 => OkN l ω A Y B P n k t Z M yX5_stands wsX5_stands rmX5_stands [.ref (Y 0), .int (nI i)] v M9 ∧ ∃ b : Bool, v = some (.int (bI b))) (c_stands_ok (l := l) hC hi (by omega)) (fun v M9 h => ⟨OkN.same hL (x := bI (decide (1 - P i 2 = 0))) (by rw [h.1, eb]) h.2 (fun M1 h1 => c_Mstands h1 hWf hi), decide (1 - P i 2 = 0), by rw [h.1, eb]⟩)
    refine Step.ok hL (CtN.imp (h_stands_ok (g := g) hX hc (fun v M9 h => ?_)) (fun v M9 h => ?_))
    · obtain ⟨h1, b, hb⟩ := h
      obtain ⟨x, -, hx⟩ := h1.out hL hO
      exact ⟨b, hb, hx⟩
    · obtain ⟨b, M8, g8, h1, h2, h3, h4⟩ := h
      exact ⟨bI b, M8, g8, h1.1, h2, by rw [h3]; cases b <;> rfl, h4⟩
theorem st_breaks {l : Launch} {ω : Om} {O : Nat} {A : FF} {Y : Nat → Nat} {B P : FF} {n k : Nat} {R : Nat → (Nat → Int32) × Nat} {Z : Nat → Prop} {t : Nat} {M : MM} (hl9 : l.stackTraces = false) (hL : LJ ω O A Y B P n k R Z t M) (p0 p1 p2 : Int32) : Step l ω (A 0 0) (Y 0) O yL_breaks wsL_breaks rmL_breaks 3 18 yX5_breaks wsX5_breaks rmX5_breaks (fun x => x.toInt64) [.int p0, .int p1, .int p2] M := by
  obtain ⟨hC, hS, hG, hP, hZY, hZO, hYO, hY, g, hO⟩ := id hL
  have hWf : ∀ f, Yw Y (Y f) := fun f => ⟨f, rfl⟩
  have hX := hC.1.x
  have hn24 : n ≤ 24 := hG.1.1
  rcases pk_ix p0 (n := n) (by omega) with hy | hy | ⟨j, hj, rfl⟩
  · exact Step.no hL (kk := 1) (by decide) (by decide) (h_breaks_x1 hX (c_breaks_out hl9 hC (Or.inl hy))) (c_Mbreaks_out hS hWf (Or.inl hy))
  · exact Step.no hL (kk := 1) (by decide) (by decide) (h_breaks_x1 hX (c_breaks_out hl9 hC (Or.inr hy))) (c_Mbreaks_out hS hWf (Or.inr hy))
  · by_cases hg : B j 8 = 0
    · have hp5 := (hG.2.2.2.2.1 j hj).1
      have h128 := hG.1.2.1
      have hin := hG.2.1 j hj
      by_cases hb : inPg p1 p2 (nI (B j 3)) (nI (B j 4))
      · obtain ⟨x, y, w, h, rfl, rfl, ew, eh, h1, h2, h3, h4⟩ := inPg_nat hb
        have ew := nI_inj (Nat.lt_trans (h128 j 3) (by decide)) (by omega) ew
        have eh := nI_inj (Nat.lt_trans (h128 j 4) (by decide)) (by omega) eh
        subst ew
        subst eh
        have hG2 := hG.mv (x := x) (y := y) hj h3 h4
        exact Step.ok hL (h_breaks_ok hX (Ct.imp (PQ' := OkN l ω A Y B P n k t Z M yX5_breaks wsX5_breaks rmX5_breaks _) (c_breaks_ok hl9 hC hj hg hp5 h1 h2 h3 h4 hG2.1 hG2.pf) (fun v M9 ⟨R9, c9, e, hC9, hF9, hc9⟩ => OkN.anew hL (x := nI (if ordF (mvB B j x y) n (B j 0) = ordF B n (B j 0) then 0 else cnt P (B j 0) k 20)) (by rw [e]; rcases hc9 with ⟨a, b⟩ | ⟨a, b⟩; rw [if_pos a, b]; rw [if_neg a, b]) hC9 hF9 (fun M1 h1' => c_Mbreaks h1' hWf hj hg hp5 h1 h2 h3 h4 hG2.1 hG.ok hG2.ok))) (fun v M9 h => h.out hL hO))
      · exact Step.no hL (kk := 2) (by decide) (by decide) (h_breaks_x2 hX (c_breaks_bad hl9 hC hj hg hb)) (c_Mbreaks_bad hS hWf hj hg (inPg_iff.mp hb))
    · exact Step.no hL (kk := 1) (by decide) (by decide) (h_breaks_x1 hX (c_breaks_gone hl9 hC hj hg)) (c_Mbreaks_gone hS hWf hj hg)
theorem st_box {l : Launch} {ω : Om} {O : Nat} {A : FF} {Y : Nat → Nat} {B P : FF} {n k : Nat} {R : Nat → (Nat → Int32) × Nat} {Z : Nat → Prop} {t : Nat} {M : MM} (hl9 : l.stackTraces = false) (hL : LJ ω O A Y B P n k R Z t M) (p0 p1 p2 p3 p4 p5 : Int32) : Step l ω (A 0 0) (Y 0) O yL_box wsL_box rmL_box 5 34 yX5_box wsX5_box rmX5_box (fun x => x.toInt64) [.int p0, .int p1, .int p2, .int p3, .int p4, .int p5] M := by
  obtain ⟨hC, hS, hG, hP, hZY, hZO, hYO, hY, g, hO⟩ := id hL
  have hWf : ∀ f, Yw Y (Y f) := fun f => ⟨f, rfl⟩
  have hX := hC.1.x
  have hn24 : n ≤ 24 := hG.1.1
  rcases pk_ix p0 (n := 5) (by decide) with hy | hy | ⟨p, hp, rfl⟩
  · exact Step.no hL (kk := 1) (by decide) (by decide) (h_box_x1 hX (c_box_x hl9 hC (Or.inl hy))) (c_Mbox_x hS hWf (Or.inl hy))
  · exact Step.no hL (kk := 1) (by decide) (by decide) (h_box_x1 hX (c_box_x hl9 hC (Or.inr hy))) (c_Mbox_x hS hWf (Or.inr hy))
  · rcases pk_ix p5 (n := 7) (by decide) with hy | hy | ⟨kd, hkd, rfl⟩
    · exact Step.no hL (kk := 2) (by decide) (by decide) (h_box_x2 hX (c_box_kind hl9 hC hp (Or.inl hy))) (c_Mbox_kind hS hWf hp (Or.inl hy))
    · have h6 : nI 6 < p5 := i32_lt (show nI 6 < nI 7 by decide) hy
      exact Step.no hL (kk := 2) (by decide) (by decide) (h_box_x2 hX (c_box_kind hl9 hC hp (Or.inr h6))) (c_Mbox_kind hS hWf hp (Or.inr h6))
    · have hkd6 : kd ≤ 6 := by omega
      by_cases hb : inPg p1 p2 p3 p4
      · obtain ⟨x, y, w, h, rfl, rfl, rfl, rfl, h1, h2, h3, h4⟩ := inPg_nat hb
        by_cases hn : n < 24
        · have hG2 := hG.new (x := x) (y := y) hp hkd6 h1 h2 h3 h4 hn
          refine Step.ok hL (h_box_ok hX (Ct.imp (PQ' := OkN l ω A Y B P n k t Z M yX5_box wsX5_box rmX5_box _) (c_box_ok hl9 hC hp hkd6 h1 h2 h3 h4 hn hG2.1 hG2.pf (fun q _ hq => ordF_new hG.1 hG.2.2.1 hq)) (fun v M9 h => ?_)) (fun v M9 h => h.out hL hO))
          obtain ⟨q, R9, P9, c9, hq, e1, hC9, hF9, hFl⟩ := h
          refine ⟨nI n, u2 A 1 n q, nwB B n p x y w h kd, P9, n + 1, k, R9, fun z => Z z ∨ z = q, e1, by simp [u2], hC9, hG2, hP.fall (q := 0) hFl, hF9, fun z hz => hz.elim Or.inl (fun h => Or.inr (by rw [h]; exact hq)), fun M1 h1' => (c_Mbox h1' hWf hp hkd6 h1 h2 h3 h4 hn hG2.1 hG.ok hG2.ok).imp (fun v2 M2 h2' => ?_)⟩
          obtain ⟨P9', c9', e2, hS2, hF2, hFl2⟩ := h2'
          obtain ⟨rfl, rfl⟩ := hFl2.one hFl
          exact ⟨e2, hS2, hF2⟩
        · exact Step.no hL (kk := 3) (by decide) (by decide) (h_box_x3 hX (c_box_full hl9 hC hp hkd6 h1 h2 h3 h4 hn)) (c_Mbox_full hS hWf hp hkd6 h1 h2 h3 h4 hn)
      · exact Step.no hL (kk := 2) (by decide) (by decide) (h_box_x2 hX (c_box_bad hl9 hC hp hkd6 hb)) (c_Mbox_bad hS hWf hp hkd6 (inPg_iff.mp hb))
