/-! the class: what it asks first -/
def XI (ω : Om) (A B P : FF) (n k : Nat) (R : Nat → (Nat → Int32) × Nat) (M : MM) : Prop :=
  M (A 0 0) = some (.inr (4, [.ref (A 0 1), .int (nI n), .ref (A 0 2), .ref (A 2 5), .ref (A 2 6), .ref (A 0 3), .int (nI k)])) ∧
  M (A 0 1) = some (.inl (ω.2.2 3, 24, .inr (.inr (.inr (.inr (qa n (A 1))))))) ∧
  M (A 0 2) = some (.inl (ω.2.2 4, 5, .inr (.inr (.inr (.inr (qa 5 (A 2))))))) ∧
  M (A 0 3) = some (.inl (ω.2.2 5, 20, .inr (.inr (.inr (.inr (qa k (A 4))))))) ∧
  (∀ i, i < n → M (A 1 i) = some (.inr (1, bxF A B i))) ∧
  (∀ p, p < 7 → M (A 2 p) = some (rdE (if p = 6 then 2 else 3) (A 3 p) (R p).2) ∧ M (A 3 p) = some (rowE ω (R p).1)) ∧
  (∀ i, i < k → M (A 4 i) = some (.inr (0, apF P i)))
section
variable {ω : Om} {A B P : FF} {n k : Nat} {R : Nat → (Nat → Int32) × Nat} {M : MM}
theorem XI.x (h : XI ω A B P n k R M) : M (A 0 0) = some (.inr (4, [.ref (A 0 1), .int (nI n), .ref (A 0 2), .ref (A 2 5), .ref (A 2 6), .ref (A 0 3), .int (nI k)])) := h.1
theorem XI.made (h : XI ω A B P n k R M) : M (A 0 1) = some (.inl (ω.2.2 3, 24, .inr (.inr (.inr (.inr (qa n (A 1))))))) := h.2.1
theorem XI.rds (h : XI ω A B P n k R M) : M (A 0 2) = some (.inl (ω.2.2 4, 5, .inr (.inr (.inr (.inr (qa 5 (A 2))))))) := h.2.2.1
theorem XI.giv (h : XI ω A B P n k R M) : M (A 0 3) = some (.inl (ω.2.2 5, 20, .inr (.inr (.inr (.inr (qa k (A 4))))))) := h.2.2.2.1
theorem XI.box (h : XI ω A B P n k R M) {i : Nat} (hi : i < n) : M (A 1 i) = some (.inr (1, bxF A B i)) := h.2.2.2.2.1 i hi
theorem XI.rd (h : XI ω A B P n k R M) {p : Nat} (hp : p < 6) : M (A 2 p) = some (rdE 3 (A 3 p) (R p).2) := by
  have := (h.2.2.2.2.2.1 p (by omega)).1
  rwa [if_neg (by omega)] at this
theorem XI.row (h : XI ω A B P n k R M) {p : Nat} (hp : p < 7) : M (A 3 p) = some (rowE ω (R p).1) := (h.2.2.2.2.2.1 p hp).2
theorem XI.pile (h : XI ω A B P n k R M) : M (A 2 6) = some (rdE 2 (A 3 6) (R 6).2) := (h.2.2.2.2.2.1 6 (by omega)).1
theorem XI.app (h : XI ω A B P n k R M) {i : Nat} (hi : i < k) : M (A 4 i) = some (.inr (0, apF P i)) := h.2.2.2.2.2.2 i hi
theorem XI.inj (h : XI ω A B P n k R M) (hn : n ≤ 24) {i j : Nat} (hi : i < n) (hj : j < n) (e : A 1 i = A 1 j) : i = j := by
  have h1 := h.box hi
  rw [e, h.box hj] at h1
  have h2 : nI j = nI i := by
    simp [bxF] at h1
    exact h1.1
  exact ((nI_eq (by omega) (by omega)).mp h2).symm
end
def WB (B : FF) (n : Nat) : Prop := n ≤ 24 ∧ (∀ i j, B i j < 128) ∧ (∀ i y, i < n → B i 6 = y + 1 → y < n ∧ B y 7 = i + 1) ∧ (∀ i y, i < n → B i 7 = y + 1 → y < n ∧ B y 6 = i + 1)
def rmX4_madeBox : Room := { frames := 0, cells := 0, slots := 0, locals := 0 }
theorem hd_X4_madeBox : yX4_madeBox.cls = (RX4, TX4, 7).1 ∧ yX4_madeBox.cls ≠ "java/lang/invoke/MethodHandle" ∧ yX4_madeBox.cls ≠ "java/lang/invoke/VarHandle" ∧ (parseMethodDescriptor yX4_madeBox.desc).map (fun d => d.parameters.length) = some 1 := by decide +kernel
theorem fo_X4_madeBox_11 : FO wsX4_madeBox RX4 11 4 0 := ⟨_, _, _, rfl, by decide, by decide +kernel, by decide +kernel⟩
set_option maxHeartbeats 4000000 in
set_option maxRecDepth 100000 in
theorem c_madeBox_in {l : Launch} {ω : Om} {M : MM} {A B P : FF} {n k : Nat} {R : Nat → (Nat → Int32) × Nat} (hX : XI ω A B P n k R M) (hB : WB B n) {j : Nat} (hj : j < n) : Ct l ω yX4_madeBox wsX4_madeBox rmX4_madeBox [.ref (A 0 0), .int (nI j)] M (fun v M9 => v = some (.ref (A 1 j)) ∧ M9 = M) 0 0 := by
  refine Ct.ofV (cc := cX4_madeBox) (maxL := 2) (ret := (some (.object "Readingorder$Box"))) [some (.ref (A 0 0)), some (.int (nI j))] (by decide) rfl (Nat.le_of_ble_eq_true rfl) rfl (Lc.av (av := [.ref (A 0 0), .int (nI j)]) (k := 0) rfl) ?_
  intro σ F hl hr hname
  have F : Fx ω σ cX4_madeBox 2 wsX4_madeBox RX4 rmX4_madeBox := F
  have hn : n ≤ 24 := hB.1
  have hW : ∀ i j, B i j < 128 := hB.2.1
  refine v_iload_n F dX4_madeBox_0 rfl ?_
  refine v_if_lt_n F 22 dX4_madeBox_1 (by decide) (by first | omega | exact Nat.lt_trans (hW _ _) (by decide)) ?_
  refine v_iload_n F dX4_madeBox_4 rfl ?_
  refine v_aload_n F dX4_madeBox_5 rfl rfl ?_
  refine v_get F 4 0 fo_X4_madeBox_11 dX4_madeBox_6 hX.x rfl ?_
  refine v_alen F 3 dX4_madeBox_9 hX.made rfl ?_
  refine v_icmp_ge_n F 22 dX4_madeBox_10 (by decide) (by first | omega | exact Nat.lt_trans (hW _ _) (by decide)) (by first | omega | exact Nat.lt_trans (hW _ _) (by decide)) (fun c10 => ?_) (fun c10 => ?_)
  · exact absurd c10 (by omega)
  · refine v_aload_n F dX4_madeBox_13 rfl rfl ?_
    refine v_get F 4 0 fo_X4_madeBox_11 dX4_madeBox_14 hX.x rfl ?_
    refine v_iload_n F dX4_madeBox_17 rfl ?_
    refine v_aald_n F 3 dX4_madeBox_18 hX.made rfl (by first | omega | exact Nat.lt_trans (hW _ _) (by decide)) (by decide) (fun h18 => ?_) (fun a18 h18 => ?_)
    · exact absurd h18 (by rw [qa_in hj]; exact fun h => nomatch h)
    · refine v_goto F 23 dX4_madeBox_19 (by decide) ?_
      exact v_aret F hr dX4_madeBox_23 rfl (Nat.le_of_ble_eq_true rfl) (Nat.le_of_ble_eq_true rfl) ⟨by rw [qa_in hj] at h18; rw [Option.some.inj h18], rfl⟩
set_option maxHeartbeats 4000000 in
set_option maxRecDepth 100000 in
theorem c_madeBox_out {l : Launch} {ω : Om} {M : MM} {A B P : FF} {n k : Nat} {R : Nat → (Nat → Int32) × Nat} (hX : XI ω A B P n k R M) (hB : WB B n) {y : Int32} (hy : y < 0 ∨ nI n ≤ y) : Ct l ω yX4_madeBox wsX4_madeBox rmX4_madeBox [.ref (A 0 0), .int y] M (fun v M9 => v = some .null ∧ M9 = M) 0 0 := by
  refine Ct.ofV (cc := cX4_madeBox) (maxL := 2) (ret := (some (.object "Readingorder$Box"))) [some (.ref (A 0 0)), some (.int y)] (by decide) rfl (Nat.le_of_ble_eq_true rfl) rfl (Lc.av (av := [.ref (A 0 0), .int y]) (k := 0) rfl) ?_
  intro σ F hl hr hname
  have F : Fx ω σ cX4_madeBox 2 wsX4_madeBox RX4 rmX4_madeBox := F
  have hn : n ≤ 24 := hB.1
  have hW : ∀ i j, B i j < 128 := hB.2.1
  have hc : ¬ y < 0 → ¬ nI 24 ≤ y → ∃ j, y = nI j ∧ j < 24 ∧ ¬ j < n := by
    intro h1 h2
    rcases pk_ix y (n := 24) (by decide) with h | h | ⟨j, h, rfl⟩
    · exact absurd h h1
    · exact absurd h h2
    · refine ⟨j, rfl, h, fun h3 => ?_⟩
      rcases hy with h4 | h4
      · exact h1 h4
      · exact absurd ((nI_leI (by omega) (by omega)).mp h4) (by omega)
  refine v_iload_n F dX4_madeBox_0 rfl ?_
  refine v_if_lt F 22 dX4_madeBox_1 (by decide) (fun c1 => ?_) (fun c1 => ?_)
  · refine v_null F dX4_madeBox_22 ?_
    exact v_aret F hr dX4_madeBox_23 rfl (Nat.le_of_ble_eq_true rfl) (Nat.le_of_ble_eq_true rfl) ⟨rfl, rfl⟩
  · refine v_iload_n F dX4_madeBox_4 rfl ?_
    refine v_aload_n F dX4_madeBox_5 rfl rfl ?_
    refine v_get F 4 0 fo_X4_madeBox_11 dX4_madeBox_6 hX.x rfl ?_
    refine v_alen F 3 dX4_madeBox_9 hX.made rfl ?_
    refine v_icmp_ge F 22 dX4_madeBox_10 (by decide) (fun c10 => ?_) (fun c10 => ?_)
    · refine v_null F dX4_madeBox_22 ?_
      exact v_aret F hr dX4_madeBox_23 rfl (Nat.le_of_ble_eq_true rfl) (Nat.le_of_ble_eq_true rfl) ⟨rfl, rfl⟩
    · refine v_aload_n F dX4_madeBox_13 rfl rfl ?_
      refine v_get F 4 0 fo_X4_madeBox_11 dX4_madeBox_14 hX.x rfl ?_
      refine v_iload_n F dX4_madeBox_17 rfl ?_
      obtain ⟨j, rfl, hj, hjn⟩ := hc c1 c10
      refine v_aald_n F 3 dX4_madeBox_18 hX.made rfl (by first | omega | exact Nat.lt_trans (hW _ _) (by decide)) (by decide) (fun h18 => ?_) (fun a18 h18 => ?_)
      · refine v_goto F 23 dX4_madeBox_19 (by decide) ?_
        exact v_aret F hr dX4_madeBox_23 rfl (Nat.le_of_ble_eq_true rfl) (Nat.le_of_ble_eq_true rfl) ⟨rfl, rfl⟩
      · exact absurd h18 (by rw [qa_out hjn]; exact fun h => nomatch h)
def rmX4_boxOfSet : Room := { frames := 0, cells := 0, slots := 0, locals := 0 }
theorem hd_X4_boxOfSet : yX4_boxOfSet.cls = (RX4, TX4, 7).1 ∧ yX4_boxOfSet.cls ≠ "java/lang/invoke/MethodHandle" ∧ yX4_boxOfSet.cls ≠ "java/lang/invoke/VarHandle" ∧ (parseMethodDescriptor yX4_boxOfSet.desc).map (fun d => d.parameters.length) = some 2 := by decide +kernel
theorem fo_X4_boxOfSet_11 : FO wsX4_boxOfSet RX4 11 4 0 := ⟨_, _, _, rfl, by decide, by decide +kernel, by decide +kernel⟩
set_option maxHeartbeats 4000000 in
set_option maxRecDepth 100000 in
theorem c_boxOfSet_in {l : Launch} {ω : Om} {M : MM} {A B P : FF} {n k : Nat} {R : Nat → (Nat → Int32) × Nat} (hX : XI ω A B P n k R M) (hB : WB B n) {s j : Nat} (hs : s < 2 ^ 24) (hj : j < n) (hb : s.testBit j = true) : Ct l ω yX4_boxOfSet wsX4_boxOfSet rmX4_boxOfSet [.ref (A 0 0), .int (nI s), .int (nI j)] M (fun v M9 => v = some (.ref (A 1 j)) ∧ M9 = M) 0 0 := by
  refine Ct.ofV (cc := cX4_boxOfSet) (maxL := 4) (ret := (some (.object "Readingorder$Box"))) [some (.ref (A 0 0)), some (.int (nI s)), some (.int (nI j)), none] (by decide) rfl (Nat.le_of_ble_eq_true rfl) rfl (Lc.av (av := [.ref (A 0 0), .int (nI s), .int (nI j)]) (k := 1) rfl) ?_
  intro σ F hl hr hname
  have F : Fx ω σ cX4_boxOfSet 4 wsX4_boxOfSet RX4 rmX4_boxOfSet := F
  have hn : n ≤ 24 := hB.1
  have hW : ∀ i j, B i j < 128 := hB.2.1
  refine v_iload_n F dX4_boxOfSet_0 rfl ?_
  refine v_if_lt_n F 25 dX4_boxOfSet_1 (by decide) (by first | omega | exact Nat.lt_trans (hW _ _) (by decide)) ?_
  refine v_iload_n F dX4_boxOfSet_4 rfl ?_
  refine v_aload_n F dX4_boxOfSet_5 rfl rfl ?_
  refine v_get F 4 0 fo_X4_boxOfSet_11 dX4_boxOfSet_6 hX.x rfl ?_
  refine v_alen F 3 dX4_boxOfSet_9 hX.made rfl ?_
  refine v_icmp_ge_n F 25 dX4_boxOfSet_10 (by decide) (by first | omega | exact Nat.lt_trans (hW _ _) (by decide)) (by first | omega | exact Nat.lt_trans (hW _ _) (by decide)) (fun c10 => ?_) (fun c10 => ?_)
  · exact absurd c10 (by omega)
  · refine v_iload_n F dX4_boxOfSet_13 rfl ?_
    refine v_iload_n F dX4_boxOfSet_14 rfl ?_
    refine v_ishr_n F dX4_boxOfSet_15 (by first | omega | exact Nat.lt_trans (hW _ _) (by decide)) (by first | omega | exact Nat.lt_trans (hW _ _) (by decide)) ?_
    refine v_iconst (v := nI 1) F dX4_boxOfSet_16 (by decide) ?_
    refine v_iand_n F dX4_boxOfSet_17 ?_
    refine V.toI (show nI (s / 2 ^ j &&& 1) = nI (if s.testBit j then 1 else 0) by rw [tb_div]) ?_
    simp only [hb, ↓reduceIte, Bool.false_eq_true]
    refine v_if_eq_n F 25 dX4_boxOfSet_18 (by decide) (by first | omega | exact Nat.lt_trans (hW _ _) (by decide)) (fun c18 => ?_) (fun c18 => ?_)
    · exact absurd c18 (by simp)
    · refine v_iconst (v := nI 1) F dX4_boxOfSet_21 (by decide) ?_
      refine v_goto F 26 dX4_boxOfSet_22 (by decide) ?_
      refine v_istore_n F dX4_boxOfSet_26 (Nat.le_of_ble_eq_true rfl) (ok2_d rfl) ?_
      refine v_iload_n F dX4_boxOfSet_27 rfl ?_
      refine v_if_eq_n F 40 dX4_boxOfSet_28 (by decide) (by first | omega | exact Nat.lt_trans (hW _ _) (by decide)) (fun c28 => ?_) (fun c28 => ?_)
      · exact absurd c28 (by decide)
      · refine v_aload_n F dX4_boxOfSet_31 rfl rfl ?_
        refine v_get F 4 0 fo_X4_boxOfSet_11 dX4_boxOfSet_32 hX.x rfl ?_
        refine v_iload_n F dX4_boxOfSet_35 rfl ?_
        refine v_aald_n F 3 dX4_boxOfSet_36 hX.made rfl (by first | omega | exact Nat.lt_trans (hW _ _) (by decide)) (by decide) (fun h36 => ?_) (fun a36 h36 => ?_)
        · exact absurd h36 (by rw [qa_in hj]; exact fun h => nomatch h)
        · refine v_goto F 41 dX4_boxOfSet_37 (by decide) ?_
          exact v_aret F hr dX4_boxOfSet_41 rfl (Nat.le_of_ble_eq_true rfl) (Nat.le_of_ble_eq_true rfl) ⟨by rw [qa_in hj] at h36; rw [Option.some.inj h36], rfl⟩
set_option maxHeartbeats 4000000 in
set_option maxRecDepth 100000 in
theorem c_boxOfSet_out {l : Launch} {ω : Om} {M : MM} {A B P : FF} {n k : Nat} {R : Nat → (Nat → Int32) × Nat} (hX : XI ω A B P n k R M) (hB : WB B n) {s j : Nat} (hs : s < 2 ^ 24) (hj : j < n) (hb : s.testBit j = false) : Ct l ω yX4_boxOfSet wsX4_boxOfSet rmX4_boxOfSet [.ref (A 0 0), .int (nI s), .int (nI j)] M (fun v M9 => v = some .null ∧ M9 = M) 0 0 := by
  refine Ct.ofV (cc := cX4_boxOfSet) (maxL := 4) (ret := (some (.object "Readingorder$Box"))) [some (.ref (A 0 0)), some (.int (nI s)), some (.int (nI j)), none] (by decide) rfl (Nat.le_of_ble_eq_true rfl) rfl (Lc.av (av := [.ref (A 0 0), .int (nI s), .int (nI j)]) (k := 1) rfl) ?_
  intro σ F hl hr hname
  have F : Fx ω σ cX4_boxOfSet 4 wsX4_boxOfSet RX4 rmX4_boxOfSet := F
  have hn : n ≤ 24 := hB.1
  have hW : ∀ i j, B i j < 128 := hB.2.1
  refine v_iload_n F dX4_boxOfSet_0 rfl ?_
  refine v_if_lt_n F 25 dX4_boxOfSet_1 (by decide) (by first | omega | exact Nat.lt_trans (hW _ _) (by decide)) ?_
  refine v_iload_n F dX4_boxOfSet_4 rfl ?_
  refine v_aload_n F dX4_boxOfSet_5 rfl rfl ?_
  refine v_get F 4 0 fo_X4_boxOfSet_11 dX4_boxOfSet_6 hX.x rfl ?_
  refine v_alen F 3 dX4_boxOfSet_9 hX.made rfl ?_
  refine v_icmp_ge_n F 25 dX4_boxOfSet_10 (by decide) (by first | omega | exact Nat.lt_trans (hW _ _) (by decide)) (by first | omega | exact Nat.lt_trans (hW _ _) (by decide)) (fun c10 => ?_) (fun c10 => ?_)
  · exact absurd c10 (by omega)
  · refine v_iload_n F dX4_boxOfSet_13 rfl ?_
    refine v_iload_n F dX4_boxOfSet_14 rfl ?_
    refine v_ishr_n F dX4_boxOfSet_15 (by first | omega | exact Nat.lt_trans (hW _ _) (by decide)) (by first | omega | exact Nat.lt_trans (hW _ _) (by decide)) ?_
    refine v_iconst (v := nI 1) F dX4_boxOfSet_16 (by decide) ?_
    refine v_iand_n F dX4_boxOfSet_17 ?_
    refine V.toI (show nI (s / 2 ^ j &&& 1) = nI (if s.testBit j then 1 else 0) by rw [tb_div]) ?_
    simp only [hb, ↓reduceIte, Bool.false_eq_true]
    refine v_if_eq_n F 25 dX4_boxOfSet_18 (by decide) (by first | omega | exact Nat.lt_trans (hW _ _) (by decide)) (fun c18 => ?_) (fun c18 => ?_)
    · refine v_iconst (v := nI 0) F dX4_boxOfSet_25 (by decide) ?_
      refine v_istore_n F dX4_boxOfSet_26 (Nat.le_of_ble_eq_true rfl) (ok2_d rfl) ?_
      refine v_iload_n F dX4_boxOfSet_27 rfl ?_
      refine v_if_eq_n F 40 dX4_boxOfSet_28 (by decide) (by first | omega | exact Nat.lt_trans (hW _ _) (by decide)) (fun c28 => ?_) (fun c28 => ?_)
      · refine v_null F dX4_boxOfSet_40 ?_
        exact v_aret F hr dX4_boxOfSet_41 rfl (Nat.le_of_ble_eq_true rfl) (Nat.le_of_ble_eq_true rfl) ⟨rfl, rfl⟩
      · exact absurd rfl c28
    · exact absurd rfl c18
def rmX4_presentBox : Room := { frames := 6, cells := 1, slots := 6, locals := 90 }
theorem hd_X4_presentBox : yX4_presentBox.cls = (RX4, TX4, 7).1 ∧ yX4_presentBox.cls ≠ "java/lang/invoke/MethodHandle" ∧ yX4_presentBox.cls ≠ "java/lang/invoke/VarHandle" ∧ (parseMethodDescriptor yX4_presentBox.desc).map (fun d => d.parameters.length) = some 1 := by decide +kernel
theorem fo_X4_presentBox_98 : FO wsX4_presentBox RX4 98 1 7 := ⟨_, _, _, rfl, by decide, by decide +kernel, by decide +kernel⟩
set_option maxHeartbeats 4000000 in
set_option maxRecDepth 100000 in
theorem c_presentBox_ok {l : Launch} {ω : Om} {M : MM} (hl9 : l.stackTraces = false) {A B P : FF} {n k : Nat} {R : Nat → (Nat → Int32) × Nat} (hX : XI ω A B P n k R M) (hB : WB B n) {j : Nat} (hj : j < n) (hg : B j 8 = 0) : CtX l ω yX4_presentBox wsX4_presentBox rmX4_presentBox [.ref (A 0 0), .int (nI j)] M (fun v M9 => v = some (.ref (A 1 j)) ∧ M9 = M) (fun E => False) 1 6 := by
  refine CtX.ofV (cc := cX4_presentBox) (maxL := 3) (ret := (some (.object "Readingorder$Box"))) [some (.ref (A 0 0)), some (.int (nI j)), none] (by decide) rfl (Nat.le_of_ble_eq_true rfl) rfl (Lc.av (av := [.ref (A 0 0), .int (nI j)]) (k := 1) rfl) ?_
  intro σ F hl hr hnx
  have hl : σ.2.1.stackTraces = false := by rw [hl]; exact hl9
  have F : Fx ω σ cX4_presentBox 3 wsX4_presentBox RX4 rmX4_presentBox := F
  have hn : n ≤ 24 := hB.1
  have hW : ∀ i j, B i j < 128 := hB.2.1
  refine v_aload_n F dX4_presentBox_0 rfl rfl ?_
  refine v_iload_n F dX4_presentBox_1 rfl ?_
  refine v_callV F 1 [_] rfl rfl rfl (c_madeBox_in hX hB hj) gX4_presentBox_X4_madeBox rfl hd_X4_madeBox ⟨⟨rfl, rfl⟩, ⟨(Nat.le_of_ble_eq_true rfl), (Nat.le_of_ble_eq_true rfl)⟩, ⟨(Nat.le_of_ble_eq_true rfl), (Nat.le_of_ble_eq_true rfl)⟩, (Nat.le_of_ble_eq_true rfl)⟩ hX.x rfl dX4_presentBox_2 (fun v2 M2 q2 => ?_)
  obtain ⟨rfl, e2⟩ := q2
  replace e2 := e2.symm
  subst e2
  refine v_astore_n F dX4_presentBox_5 rfl (Nat.le_of_ble_eq_true rfl) (ok2_d rfl) ?_
  refine v_aload_n F dX4_presentBox_6 rfl rfl ?_
  refine v_ifnull_r F dX4_presentBox_7 ?_
  refine v_aload_n F dX4_presentBox_10 rfl rfl ?_
  refine v_get F 1 7 fo_X4_presentBox_98 dX4_presentBox_11 (hX.box hj) rfl ?_
  refine v_if_eq_n F 27 dX4_presentBox_14 (by decide) (by first | omega | exact Nat.lt_trans (hW _ _) (by decide)) (fun c14 => ?_) (fun c14 => ?_)
  · refine v_aload_n F dX4_presentBox_27 rfl rfl ?_
    exact v_x (v_aret F hr dX4_presentBox_28 rfl (Nat.le_of_ble_eq_true rfl) (Nat.le_of_ble_eq_true rfl) ⟨rfl, rfl⟩)
  · exact absurd hg c14
theorem hat_X4_presentBox_146 : ∀ w ∈ (vx_atS RX4 146 "java/lang/IndexOutOfBoundsException" nmE).filter goodWord, w ∈ wsX4_presentBox := by decide +kernel
set_option maxHeartbeats 4000000 in
set_option maxRecDepth 100000 in
theorem c_presentBox_gone {l : Launch} {ω : Om} {M : MM} (hl9 : l.stackTraces = false) {A B P : FF} {n k : Nat} {R : Nat → (Nat → Int32) × Nat} (hX : XI ω A B P n k R M) (hB : WB B n) {j : Nat} (hj : j < n) (hg : B j 8 ≠ 0) : CtX l ω yX4_presentBox wsX4_presentBox rmX4_presentBox [.ref (A 0 0), .int (nI j)] M (fun v M9 => False) (fun E => E = "java/lang/IndexOutOfBoundsException") 1 6 := by
  refine CtX.ofV (cc := cX4_presentBox) (maxL := 3) (ret := (some (.object "Readingorder$Box"))) [some (.ref (A 0 0)), some (.int (nI j)), none] (by decide) rfl (Nat.le_of_ble_eq_true rfl) rfl (Lc.av (av := [.ref (A 0 0), .int (nI j)]) (k := 1) rfl) ?_
  intro σ F hl hr hnx
  have hl : σ.2.1.stackTraces = false := by rw [hl]; exact hl9
  have F : Fx ω σ cX4_presentBox 3 wsX4_presentBox RX4 rmX4_presentBox := F
  have hn : n ≤ 24 := hB.1
  have hW : ∀ i j, B i j < 128 := hB.2.1
  refine v_aload_n F dX4_presentBox_0 rfl rfl ?_
  refine v_iload_n F dX4_presentBox_1 rfl ?_
  refine v_callV F 1 [_] rfl rfl rfl (c_madeBox_in hX hB hj) gX4_presentBox_X4_madeBox rfl hd_X4_madeBox ⟨⟨rfl, rfl⟩, ⟨(Nat.le_of_ble_eq_true rfl), (Nat.le_of_ble_eq_true rfl)⟩, ⟨(Nat.le_of_ble_eq_true rfl), (Nat.le_of_ble_eq_true rfl)⟩, (Nat.le_of_ble_eq_true rfl)⟩ hX.x rfl dX4_presentBox_2 (fun v2 M2 q2 => ?_)
  obtain ⟨rfl, e2⟩ := q2
  replace e2 := e2.symm
  subst e2
  refine v_astore_n F dX4_presentBox_5 rfl (Nat.le_of_ble_eq_true rfl) (ok2_d rfl) ?_
  refine v_aload_n F dX4_presentBox_6 rfl rfl ?_
  refine v_ifnull_r F dX4_presentBox_7 ?_
  refine v_aload_n F dX4_presentBox_10 rfl rfl ?_
  refine v_get F 1 7 fo_X4_presentBox_98 dX4_presentBox_11 (hX.box hj) rfl ?_
  refine v_if_eq_n F 27 dX4_presentBox_14 (by decide) (by first | omega | exact Nat.lt_trans (hW _ _) (by decide)) (fun c14 => ?_) (fun c14 => ?_)
  · exact absurd c14 hg
  · exact v_throw (cls := "java/lang/IndexOutOfBoundsException") (text := "there is no such box, or it is gone") F hl rfl hnx (by decide +kernel) (by decide +kernel) (by decide +kernel) (by decide +kernel) hat_X4_presentBox_146 hnw_146 hgd_142_146 dX4_presentBox_17 dX4_presentBox_20 dX4_presentBox_21 dX4_presentBox_23 dX4_presentBox_26 ⟨(Nat.le_of_ble_eq_true rfl), (Nat.le_of_ble_eq_true rfl), (Nat.le_of_ble_eq_true rfl), (Nat.le_of_ble_eq_true rfl)⟩ (Nat.le_of_ble_eq_true rfl) (Nat.le_of_ble_eq_true rfl) rfl
set_option maxHeartbeats 4000000 in
set_option maxRecDepth 100000 in
theorem c_presentBox_out {l : Launch} {ω : Om} {M : MM} (hl9 : l.stackTraces = false) {A B P : FF} {n k : Nat} {R : Nat → (Nat → Int32) × Nat} (hX : XI ω A B P n k R M) (hB : WB B n) {y : Int32} (hy : y < 0 ∨ nI n ≤ y) : CtX l ω yX4_presentBox wsX4_presentBox rmX4_presentBox [.ref (A 0 0), .int y] M (fun v M9 => False) (fun E => E = "java/lang/IndexOutOfBoundsException") 1 6 := by
  refine CtX.ofV (cc := cX4_presentBox) (maxL := 3) (ret := (some (.object "Readingorder$Box"))) [some (.ref (A 0 0)), some (.int y), none] (by decide) rfl (Nat.le_of_ble_eq_true rfl) rfl (Lc.av (av := [.ref (A 0 0), .int y]) (k := 1) rfl) ?_
  intro σ F hl hr hnx
  have hl : σ.2.1.stackTraces = false := by rw [hl]; exact hl9
  have F : Fx ω σ cX4_presentBox 3 wsX4_presentBox RX4 rmX4_presentBox := F
  have hn : n ≤ 24 := hB.1
  have hW : ∀ i j, B i j < 128 := hB.2.1
  refine v_aload_n F dX4_presentBox_0 rfl rfl ?_
  refine v_iload_n F dX4_presentBox_1 rfl ?_
  refine v_callV F 1 [_] rfl rfl rfl (c_madeBox_out hX hB hy) gX4_presentBox_X4_madeBox rfl hd_X4_madeBox ⟨⟨rfl, rfl⟩, ⟨(Nat.le_of_ble_eq_true rfl), (Nat.le_of_ble_eq_true rfl)⟩, ⟨(Nat.le_of_ble_eq_true rfl), (Nat.le_of_ble_eq_true rfl)⟩, (Nat.le_of_ble_eq_true rfl)⟩ hX.x rfl dX4_presentBox_2 (fun v2 M2 q2 => ?_)
  obtain ⟨rfl, e2⟩ := q2
  replace e2 := e2.symm
  subst e2
  refine v_astore_n F dX4_presentBox_5 rfl (Nat.le_of_ble_eq_true rfl) (ok2_d rfl) ?_
  refine v_aload_n F dX4_presentBox_6 rfl rfl ?_
  refine v_ifnull_n F 17 dX4_presentBox_7 (by decide) ?_
  exact v_throw (cls := "java/lang/IndexOutOfBoundsException") (text := "there is no such box, or it is gone") F hl rfl hnx (by decide +kernel) (by decide +kernel) (by decide +kernel) (by decide +kernel) hat_X4_presentBox_146 hnw_146 hgd_142_146 dX4_presentBox_17 dX4_presentBox_20 dX4_presentBox_21 dX4_presentBox_23 dX4_presentBox_26 ⟨(Nat.le_of_ble_eq_true rfl), (Nat.le_of_ble_eq_true rfl), (Nat.le_of_ble_eq_true rfl), (Nat.le_of_ble_eq_true rfl)⟩ (Nat.le_of_ble_eq_true rfl) (Nat.le_of_ble_eq_true rfl) rfl
def rmX4_readingOf : Room := { frames := 6, cells := 1, slots := 6, locals := 90 }
theorem hd_X4_readingOf : yX4_readingOf.cls = (RX4, TX4, 7).1 ∧ yX4_readingOf.cls ≠ "java/lang/invoke/MethodHandle" ∧ yX4_readingOf.cls ≠ "java/lang/invoke/VarHandle" ∧ (parseMethodDescriptor yX4_readingOf.desc).map (fun d => d.parameters.length) = some 1 := by decide +kernel
theorem fo_X4_readingOf_21 : FO wsX4_readingOf RX4 21 4 2 := ⟨_, _, _, rfl, by decide, by decide +kernel, by decide +kernel⟩
set_option maxHeartbeats 4000000 in
set_option maxRecDepth 100000 in
theorem c_readingOf_ok {l : Launch} {ω : Om} {M : MM} (hl9 : l.stackTraces = false) {A B P : FF} {n k : Nat} {R : Nat → (Nat → Int32) × Nat} (hX : XI ω A B P n k R M) (hB : WB B n) {p : Nat} (hp : p < 5) : CtX l ω yX4_readingOf wsX4_readingOf rmX4_readingOf [.ref (A 0 0), .int (nI p)] M (fun v M9 => v = some (.ref (A 2 p)) ∧ M9 = M) (fun E => False) 1 6 := by
  refine CtX.ofV (cc := cX4_readingOf) (maxL := 3) (ret := (some (.object "Readingorder$Reading"))) [some (.ref (A 0 0)), some (.int (nI p)), none] (by decide) rfl (Nat.le_of_ble_eq_true rfl) rfl (Lc.av (av := [.ref (A 0 0), .int (nI p)]) (k := 1) rfl) ?_
  intro σ F hl hr hnx
  have hl : σ.2.1.stackTraces = false := by rw [hl]; exact hl9
  have F : Fx ω σ cX4_readingOf 3 wsX4_readingOf RX4 rmX4_readingOf := F
  have hn : n ≤ 24 := hB.1
  have hW : ∀ i j, B i j < 128 := hB.2.1
  refine v_iload_n F dX4_readingOf_0 rfl ?_
  refine v_if_lt_n F 22 dX4_readingOf_1 (by decide) (by first | omega | exact Nat.lt_trans (hW _ _) (by decide)) ?_
  refine v_iload_n F dX4_readingOf_4 rfl ?_
  refine v_aload_n F dX4_readingOf_5 rfl rfl ?_
  refine v_get F 4 2 fo_X4_readingOf_21 dX4_readingOf_6 hX.x rfl ?_
  refine v_alen F 4 dX4_readingOf_9 hX.rds rfl ?_
  refine v_icmp_ge_n F 22 dX4_readingOf_10 (by decide) (by first | omega | exact Nat.lt_trans (hW _ _) (by decide)) (by first | omega | exact Nat.lt_trans (hW _ _) (by decide)) (fun c10 => ?_) (fun c10 => ?_)
  · exact absurd c10 (by omega)
  · refine v_aload_n F dX4_readingOf_13 rfl rfl ?_
    refine v_get F 4 2 fo_X4_readingOf_21 dX4_readingOf_14 hX.x rfl ?_
    refine v_iload_n F dX4_readingOf_17 rfl ?_
    refine v_aald_n F 4 dX4_readingOf_18 hX.rds rfl (by first | omega | exact Nat.lt_trans (hW _ _) (by decide)) (by decide) (fun h18 => ?_) (fun a18 h18 => ?_)
    · exact absurd h18 (by rw [qa_in hp]; exact fun h => nomatch h)
    · refine v_goto F 23 dX4_readingOf_19 (by decide) ?_
      refine v_astore_n F dX4_readingOf_23 rfl (Nat.le_of_ble_eq_true rfl) (ok2_d rfl) ?_
      refine v_aload_n F dX4_readingOf_24 rfl rfl ?_
      refine v_ifnonnull_r F 38 dX4_readingOf_25 (by decide) ?_
      refine v_aload_n F dX4_readingOf_38 rfl rfl ?_
      exact v_x (v_aret F hr dX4_readingOf_39 rfl (Nat.le_of_ble_eq_true rfl) (Nat.le_of_ble_eq_true rfl) ⟨by rw [qa_in hp] at h18; rw [Option.some.inj h18], rfl⟩)
theorem hat_X4_readingOf_146 : ∀ w ∈ (vx_atS RX4 146 "java/lang/IndexOutOfBoundsException" nmE).filter goodWord, w ∈ wsX4_readingOf := by decide +kernel
set_option maxHeartbeats 4000000 in
set_option maxRecDepth 100000 in
theorem c_readingOf_out {l : Launch} {ω : Om} {M : MM} (hl9 : l.stackTraces = false) {A B P : FF} {n k : Nat} {R : Nat → (Nat → Int32) × Nat} (hX : XI ω A B P n k R M) (hB : WB B n) {y : Int32} (hy : y < 0 ∨ nI 5 ≤ y) : CtX l ω yX4_readingOf wsX4_readingOf rmX4_readingOf [.ref (A 0 0), .int y] M (fun v M9 => False) (fun E => E = "java/lang/IndexOutOfBoundsException") 1 6 := by
  refine CtX.ofV (cc := cX4_readingOf) (maxL := 3) (ret := (some (.object "Readingorder$Reading"))) [some (.ref (A 0 0)), some (.int y), none] (by decide) rfl (Nat.le_of_ble_eq_true rfl) rfl (Lc.av (av := [.ref (A 0 0), .int y]) (k := 1) rfl) ?_
  intro σ F hl hr hnx
  have hl : σ.2.1.stackTraces = false := by rw [hl]; exact hl9
  have F : Fx ω σ cX4_readingOf 3 wsX4_readingOf RX4 rmX4_readingOf := F
  have hn : n ≤ 24 := hB.1
  have hW : ∀ i j, B i j < 128 := hB.2.1
  refine v_iload_n F dX4_readingOf_0 rfl ?_
  refine v_if_lt F 22 dX4_readingOf_1 (by decide) (fun c1 => ?_) (fun c1 => ?_)
  · refine v_null F dX4_readingOf_22 ?_
    refine v_astore_n F dX4_readingOf_23 rfl (Nat.le_of_ble_eq_true rfl) (ok2_d rfl) ?_
    refine v_aload_n F dX4_readingOf_24 rfl rfl ?_
    refine v_ifnonnull_n F dX4_readingOf_25 ?_
    exact v_throw (cls := "java/lang/IndexOutOfBoundsException") (text := "there is no such page") F hl rfl hnx (by decide +kernel) (by decide +kernel) (by decide +kernel) (by decide +kernel) hat_X4_readingOf_146 hnw_146 hgd_142_146 dX4_readingOf_28 dX4_readingOf_31 dX4_readingOf_32 dX4_readingOf_34 dX4_readingOf_37 ⟨(Nat.le_of_ble_eq_true rfl), (Nat.le_of_ble_eq_true rfl), (Nat.le_of_ble_eq_true rfl), (Nat.le_of_ble_eq_true rfl)⟩ (Nat.le_of_ble_eq_true rfl) (Nat.le_of_ble_eq_true rfl) rfl
  · refine v_iload_n F dX4_readingOf_4 rfl ?_
    refine v_aload_n F dX4_readingOf_5 rfl rfl ?_
    refine v_get F 4 2 fo_X4_readingOf_21 dX4_readingOf_6 hX.x rfl ?_
    refine v_alen F 4 dX4_readingOf_9 hX.rds rfl ?_
    refine v_icmp_ge F 22 dX4_readingOf_10 (by decide) (fun c10 => ?_) (fun c10 => ?_)
    · refine v_null F dX4_readingOf_22 ?_
      refine v_astore_n F dX4_readingOf_23 rfl (Nat.le_of_ble_eq_true rfl) (ok2_d rfl) ?_
      refine v_aload_n F dX4_readingOf_24 rfl rfl ?_
      refine v_ifnonnull_n F dX4_readingOf_25 ?_
      exact v_throw (cls := "java/lang/IndexOutOfBoundsException") (text := "there is no such page") F hl rfl hnx (by decide +kernel) (by decide +kernel) (by decide +kernel) (by decide +kernel) hat_X4_readingOf_146 hnw_146 hgd_142_146 dX4_readingOf_28 dX4_readingOf_31 dX4_readingOf_32 dX4_readingOf_34 dX4_readingOf_37 ⟨(Nat.le_of_ble_eq_true rfl), (Nat.le_of_ble_eq_true rfl), (Nat.le_of_ble_eq_true rfl), (Nat.le_of_ble_eq_true rfl)⟩ (Nat.le_of_ble_eq_true rfl) (Nat.le_of_ble_eq_true rfl) rfl
    · exact absurd hy (by rintro (h | h); exact c1 h; exact c10 h)
def rmX4_checkPlace : Room := { frames := 6, cells := 1, slots := 6, locals := 90 }
theorem hd_X4_checkPlace : yX4_checkPlace.cls ≠ "java/lang/invoke/MethodHandle" ∧ yX4_checkPlace.cls ≠ "java/lang/invoke/VarHandle" ∧ (parseMethodDescriptor yX4_checkPlace.desc).map (fun d => d.parameters.length) = some 1 := by decide +kernel
set_option maxHeartbeats 4000000 in
set_option maxRecDepth 100000 in
theorem c_checkPlace_ok {l : Launch} {ω : Om} {M : MM} (hl9 : l.stackTraces = false) {y : Int32} (hy : 0 ≤ y) : CtX l ω yX4_checkPlace wsX4_checkPlace rmX4_checkPlace [.int y] M (fun v M9 => v = none ∧ M9 = M) (fun E => False) 1 6 := by
  refine CtX.ofV (cc := cX4_checkPlace) (maxL := 1) (ret := none) [some (.int y)] (by decide) rfl (Nat.le_of_ble_eq_true rfl) rfl (Lc.av (av := [.int y]) (k := 0) rfl) ?_
  intro σ F hl hr hnx
  have hl : σ.2.1.stackTraces = false := by rw [hl]; exact hl9
  have F : Fx ω σ cX4_checkPlace 1 wsX4_checkPlace RX4 rmX4_checkPlace := F
  refine v_iload_n F dX4_checkPlace_0 rfl ?_
  refine v_if_ge F 14 dX4_checkPlace_1 (by decide) (fun c1 => ?_) (fun c1 => ?_)
  · exact v_x (v_vret F hr dX4_checkPlace_14 (Nat.le_of_ble_eq_true rfl) (Nat.le_of_ble_eq_true rfl) ⟨rfl, rfl⟩)
  · exact absurd hy c1
theorem hat_X4_checkPlace_146 : ∀ w ∈ (vx_atS RX4 146 "java/lang/IndexOutOfBoundsException" nmE).filter goodWord, w ∈ wsX4_checkPlace := by decide +kernel
set_option maxHeartbeats 4000000 in
set_option maxRecDepth 100000 in
theorem c_checkPlace_bad {l : Launch} {ω : Om} {M : MM} (hl9 : l.stackTraces = false) {y : Int32} (hy : ¬ 0 ≤ y) : CtX l ω yX4_checkPlace wsX4_checkPlace rmX4_checkPlace [.int y] M (fun v M9 => False) (fun E => E = "java/lang/IndexOutOfBoundsException") 1 6 := by
  refine CtX.ofV (cc := cX4_checkPlace) (maxL := 1) (ret := none) [some (.int y)] (by decide) rfl (Nat.le_of_ble_eq_true rfl) rfl (Lc.av (av := [.int y]) (k := 0) rfl) ?_
  intro σ F hl hr hnx
  have hl : σ.2.1.stackTraces = false := by rw [hl]; exact hl9
  have F : Fx ω σ cX4_checkPlace 1 wsX4_checkPlace RX4 rmX4_checkPlace := F
  refine v_iload_n F dX4_checkPlace_0 rfl ?_
  refine v_if_ge F 14 dX4_checkPlace_1 (by decide) (fun c1 => ?_) (fun c1 => ?_)
  · exact absurd c1 hy
  · exact v_throw (cls := "java/lang/IndexOutOfBoundsException") (text := "there is no such place") F hl rfl hnx (by decide +kernel) (by decide +kernel) (by decide +kernel) (by decide +kernel) hat_X4_checkPlace_146 hnw_146 hgd_142_146 dX4_checkPlace_4 dX4_checkPlace_7 dX4_checkPlace_8 dX4_checkPlace_10 dX4_checkPlace_13 ⟨(Nat.le_of_ble_eq_true rfl), (Nat.le_of_ble_eq_true rfl), (Nat.le_of_ble_eq_true rfl), (Nat.le_of_ble_eq_true rfl)⟩ (Nat.le_of_ble_eq_true rfl) (Nat.le_of_ble_eq_true rfl) rfl
def rmX4_checkWithinPage : Room := { frames := 6, cells := 1, slots := 6, locals := 90 }
theorem hd_X4_checkWithinPage : yX4_checkWithinPage.cls ≠ "java/lang/invoke/MethodHandle" ∧ yX4_checkWithinPage.cls ≠ "java/lang/invoke/VarHandle" ∧ (parseMethodDescriptor yX4_checkWithinPage.desc).map (fun d => d.parameters.length) = some 4 := by decide +kernel
set_option maxHeartbeats 4000000 in
set_option maxRecDepth 100000 in
theorem c_checkWithinPage_ok {l : Launch} {ω : Om} {M : MM} (hl9 : l.stackTraces = false) {x y w h : Nat} (h1 : 1 ≤ w) (h2 : 1 ≤ h) (h3 : x + w ≤ 60) (h4 : y + h ≤ 80) : CtX l ω yX4_checkWithinPage wsX4_checkWithinPage rmX4_checkWithinPage [.int (nI x), .int (nI y), .int (nI w), .int (nI h)] M (fun v M9 => v = none ∧ M9 = M) (fun E => False) 1 6 := by
  refine CtX.ofV (cc := cX4_checkWithinPage) (maxL := 4) (ret := none) [some (.int (nI x)), some (.int (nI y)), some (.int (nI w)), some (.int (nI h))] (by decide) rfl (Nat.le_of_ble_eq_true rfl) rfl (Lc.av (av := [.int (nI x), .int (nI y), .int (nI w), .int (nI h)]) (k := 0) rfl) ?_
  intro σ F hl hr hnx
  have hl : σ.2.1.stackTraces = false := by rw [hl]; exact hl9
  have F : Fx ω σ cX4_checkWithinPage 4 wsX4_checkWithinPage RX4 rmX4_checkWithinPage := F
  refine v_iload_n F dX4_checkWithinPage_0 rfl ?_
  refine v_if_lt_n F 46 dX4_checkWithinPage_1 (by decide) (by omega) ?_
  refine v_iload_n F dX4_checkWithinPage_4 rfl ?_
  refine v_if_lt_n F 46 dX4_checkWithinPage_5 (by decide) (by omega) ?_
  refine v_iload_n F dX4_checkWithinPage_8 rfl ?_
  refine v_iconst (v := nI 1) F dX4_checkWithinPage_9 (by decide) ?_
  refine v_icmp_lt_n F 46 dX4_checkWithinPage_10 (by decide) (by omega) (by omega) (fun c10 => ?_) (fun c10 => ?_)
  · exact absurd c10 (by omega)
  · refine v_iload_n F dX4_checkWithinPage_13 rfl ?_
    refine v_iconst (v := nI 1) F dX4_checkWithinPage_14 (by decide) ?_
    refine v_icmp_lt_n F 46 dX4_checkWithinPage_15 (by decide) (by omega) (by omega) (fun c15 => ?_) (fun c15 => ?_)
    · exact absurd c15 (by omega)
    · refine v_iload_n F dX4_checkWithinPage_18 rfl ?_
      refine v_bipush (v := nI 60) F dX4_checkWithinPage_19 (by decide) ?_
      refine v_icmp_gt_n F 46 dX4_checkWithinPage_21 (by decide) (by omega) (by omega) (fun c21 => ?_) (fun c21 => ?_)
      · exact absurd c21 (by omega)
      · refine v_iload_n F dX4_checkWithinPage_24 rfl ?_
        refine v_bipush (v := nI 60) F dX4_checkWithinPage_25 (by decide) ?_
        refine v_iload_n F dX4_checkWithinPage_27 rfl ?_
        refine v_isub_n F dX4_checkWithinPage_28 (by omega) ?_
        refine v_icmp_gt_n F 46 dX4_checkWithinPage_29 (by decide) (by omega) (by omega) (fun c29 => ?_) (fun c29 => ?_)
        · exact absurd c29 (by omega)
        · refine v_iload_n F dX4_checkWithinPage_32 rfl ?_
          refine v_bipush (v := nI 80) F dX4_checkWithinPage_33 (by decide) ?_
          refine v_icmp_gt_n F 46 dX4_checkWithinPage_35 (by decide) (by omega) (by omega) (fun c35 => ?_) (fun c35 => ?_)
          · exact absurd c35 (by omega)
          · refine v_iload_n F dX4_checkWithinPage_38 rfl ?_
            refine v_bipush (v := nI 80) F dX4_checkWithinPage_39 (by decide) ?_
            refine v_iload_n F dX4_checkWithinPage_41 rfl ?_
            refine v_isub_n F dX4_checkWithinPage_42 (by omega) ?_
            refine v_icmp_le_n F 56 dX4_checkWithinPage_43 (by decide) (by omega) (by omega) (fun c43 => ?_) (fun c43 => ?_)
            · exact v_x (v_vret F hr dX4_checkWithinPage_56 (Nat.le_of_ble_eq_true rfl) (Nat.le_of_ble_eq_true rfl) ⟨rfl, rfl⟩)
            · exact absurd c43 (by omega)
/-- whether a box lies within a page, as the class asks it -/
def inPg (x y w h : Int32) : Prop := ¬ x < 0 ∧ ¬ y < 0 ∧ ¬ w < nI 1 ∧ ¬ h < nI 1 ∧ ¬ nI 60 < x ∧ ¬ nI 60 - x < w ∧ ¬ nI 80 < y ∧ h ≤ nI 80 - y
theorem hat_X4_checkWithinPage_54 : ∀ w ∈ (vx_atS RX4 54 "java/lang/IllegalArgumentException" nmE).filter goodWord, w ∈ wsX4_checkWithinPage := by decide +kernel
set_option maxHeartbeats 4000000 in
set_option maxRecDepth 100000 in
theorem c_checkWithinPage_bad {l : Launch} {ω : Om} {M : MM} (hl9 : l.stackTraces = false) {x y w h : Int32} (hb : ¬ inPg x y w h) : CtX l ω yX4_checkWithinPage wsX4_checkWithinPage rmX4_checkWithinPage [.int x, .int y, .int w, .int h] M (fun v M9 => False) (fun E => E = "java/lang/IllegalArgumentException") 1 6 := by
  refine CtX.ofV (cc := cX4_checkWithinPage) (maxL := 4) (ret := none) [some (.int x), some (.int y), some (.int w), some (.int h)] (by decide) rfl (Nat.le_of_ble_eq_true rfl) rfl (Lc.av (av := [.int x, .int y, .int w, .int h]) (k := 0) rfl) ?_
  intro σ F hl hr hnx
  have hl : σ.2.1.stackTraces = false := by rw [hl]; exact hl9
  have F : Fx ω σ cX4_checkWithinPage 4 wsX4_checkWithinPage RX4 rmX4_checkWithinPage := F
  refine v_iload_n F dX4_checkWithinPage_0 rfl ?_
  refine v_if_lt F 46 dX4_checkWithinPage_1 (by decide) (fun c1 => ?_) (fun c1 => ?_)
  · exact v_throw (cls := "java/lang/IllegalArgumentException") (text := "the box is not within its page") F hl rfl hnx (by decide +kernel) (by decide +kernel) (by decide +kernel) (by decide +kernel) hat_X4_checkWithinPage_54 hnw_54 hgd_50_54 dX4_checkWithinPage_46 dX4_checkWithinPage_49 dX4_checkWithinPage_50 dX4_checkWithinPage_52 dX4_checkWithinPage_55 ⟨(Nat.le_of_ble_eq_true rfl), (Nat.le_of_ble_eq_true rfl), (Nat.le_of_ble_eq_true rfl), (Nat.le_of_ble_eq_true rfl)⟩ (Nat.le_of_ble_eq_true rfl) (Nat.le_of_ble_eq_true rfl) rfl
  · refine v_iload_n F dX4_checkWithinPage_4 rfl ?_
    refine v_if_lt F 46 dX4_checkWithinPage_5 (by decide) (fun c5 => ?_) (fun c5 => ?_)
    · exact v_throw (cls := "java/lang/IllegalArgumentException") (text := "the box is not within its page") F hl rfl hnx (by decide +kernel) (by decide +kernel) (by decide +kernel) (by decide +kernel) hat_X4_checkWithinPage_54 hnw_54 hgd_50_54 dX4_checkWithinPage_46 dX4_checkWithinPage_49 dX4_checkWithinPage_50 dX4_checkWithinPage_52 dX4_checkWithinPage_55 ⟨(Nat.le_of_ble_eq_true rfl), (Nat.le_of_ble_eq_true rfl), (Nat.le_of_ble_eq_true rfl), (Nat.le_of_ble_eq_true rfl)⟩ (Nat.le_of_ble_eq_true rfl) (Nat.le_of_ble_eq_true rfl) rfl
    · refine v_iload_n F dX4_checkWithinPage_8 rfl ?_
      refine v_iconst (v := nI 1) F dX4_checkWithinPage_9 (by decide) ?_
      refine v_icmp_lt F 46 dX4_checkWithinPage_10 (by decide) (fun c10 => ?_) (fun c10 => ?_)
      · exact v_throw (cls := "java/lang/IllegalArgumentException") (text := "the box is not within its page") F hl rfl hnx (by decide +kernel) (by decide +kernel) (by decide +kernel) (by decide +kernel) hat_X4_checkWithinPage_54 hnw_54 hgd_50_54 dX4_checkWithinPage_46 dX4_checkWithinPage_49 dX4_checkWithinPage_50 dX4_checkWithinPage_52 dX4_checkWithinPage_55 ⟨(Nat.le_of_ble_eq_true rfl), (Nat.le_of_ble_eq_true rfl), (Nat.le_of_ble_eq_true rfl), (Nat.le_of_ble_eq_true rfl)⟩ (Nat.le_of_ble_eq_true rfl) (Nat.le_of_ble_eq_true rfl) rfl
      · refine v_iload_n F dX4_checkWithinPage_13 rfl ?_
        refine v_iconst (v := nI 1) F dX4_checkWithinPage_14 (by decide) ?_
        refine v_icmp_lt F 46 dX4_checkWithinPage_15 (by decide) (fun c15 => ?_) (fun c15 => ?_)
        · exact v_throw (cls := "java/lang/IllegalArgumentException") (text := "the box is not within its page") F hl rfl hnx (by decide +kernel) (by decide +kernel) (by decide +kernel) (by decide +kernel) hat_X4_checkWithinPage_54 hnw_54 hgd_50_54 dX4_checkWithinPage_46 dX4_checkWithinPage_49 dX4_checkWithinPage_50 dX4_checkWithinPage_52 dX4_checkWithinPage_55 ⟨(Nat.le_of_ble_eq_true rfl), (Nat.le_of_ble_eq_true rfl), (Nat.le_of_ble_eq_true rfl), (Nat.le_of_ble_eq_true rfl)⟩ (Nat.le_of_ble_eq_true rfl) (Nat.le_of_ble_eq_true rfl) rfl
        · refine v_iload_n F dX4_checkWithinPage_18 rfl ?_
          refine v_bipush (v := nI 60) F dX4_checkWithinPage_19 (by decide) ?_
          refine v_icmp_gt F 46 dX4_checkWithinPage_21 (by decide) (fun c21 => ?_) (fun c21 => ?_)
          · exact v_throw (cls := "java/lang/IllegalArgumentException") (text := "the box is not within its page") F hl rfl hnx (by decide +kernel) (by decide +kernel) (by decide +kernel) (by decide +kernel) hat_X4_checkWithinPage_54 hnw_54 hgd_50_54 dX4_checkWithinPage_46 dX4_checkWithinPage_49 dX4_checkWithinPage_50 dX4_checkWithinPage_52 dX4_checkWithinPage_55 ⟨(Nat.le_of_ble_eq_true rfl), (Nat.le_of_ble_eq_true rfl), (Nat.le_of_ble_eq_true rfl), (Nat.le_of_ble_eq_true rfl)⟩ (Nat.le_of_ble_eq_true rfl) (Nat.le_of_ble_eq_true rfl) rfl
          · refine v_iload_n F dX4_checkWithinPage_24 rfl ?_
            refine v_bipush (v := nI 60) F dX4_checkWithinPage_25 (by decide) ?_
            refine v_iload_n F dX4_checkWithinPage_27 rfl ?_
            refine v_isub F dX4_checkWithinPage_28 ?_
            refine v_icmp_gt F 46 dX4_checkWithinPage_29 (by decide) (fun c29 => ?_) (fun c29 => ?_)
            · exact v_throw (cls := "java/lang/IllegalArgumentException") (text := "the box is not within its page") F hl rfl hnx (by decide +kernel) (by decide +kernel) (by decide +kernel) (by decide +kernel) hat_X4_checkWithinPage_54 hnw_54 hgd_50_54 dX4_checkWithinPage_46 dX4_checkWithinPage_49 dX4_checkWithinPage_50 dX4_checkWithinPage_52 dX4_checkWithinPage_55 ⟨(Nat.le_of_ble_eq_true rfl), (Nat.le_of_ble_eq_true rfl), (Nat.le_of_ble_eq_true rfl), (Nat.le_of_ble_eq_true rfl)⟩ (Nat.le_of_ble_eq_true rfl) (Nat.le_of_ble_eq_true rfl) rfl
            · refine v_iload_n F dX4_checkWithinPage_32 rfl ?_
              refine v_bipush (v := nI 80) F dX4_checkWithinPage_33 (by decide) ?_
              refine v_icmp_gt F 46 dX4_checkWithinPage_35 (by decide) (fun c35 => ?_) (fun c35 => ?_)
              · exact v_throw (cls := "java/lang/IllegalArgumentException") (text := "the box is not within its page") F hl rfl hnx (by decide +kernel) (by decide +kernel) (by decide +kernel) (by decide +kernel) hat_X4_checkWithinPage_54 hnw_54 hgd_50_54 dX4_checkWithinPage_46 dX4_checkWithinPage_49 dX4_checkWithinPage_50 dX4_checkWithinPage_52 dX4_checkWithinPage_55 ⟨(Nat.le_of_ble_eq_true rfl), (Nat.le_of_ble_eq_true rfl), (Nat.le_of_ble_eq_true rfl), (Nat.le_of_ble_eq_true rfl)⟩ (Nat.le_of_ble_eq_true rfl) (Nat.le_of_ble_eq_true rfl) rfl
              · refine v_iload_n F dX4_checkWithinPage_38 rfl ?_
                refine v_bipush (v := nI 80) F dX4_checkWithinPage_39 (by decide) ?_
                refine v_iload_n F dX4_checkWithinPage_41 rfl ?_
                refine v_isub F dX4_checkWithinPage_42 ?_
                refine v_icmp_le F 56 dX4_checkWithinPage_43 (by decide) (fun c43 => ?_) (fun c43 => ?_)
                · exact absurd ⟨c1, c5, c10, c15, c21, c29, c35, c43⟩ hb
                · exact v_throw (cls := "java/lang/IllegalArgumentException") (text := "the box is not within its page") F hl rfl hnx (by decide +kernel) (by decide +kernel) (by decide +kernel) (by decide +kernel) hat_X4_checkWithinPage_54 hnw_54 hgd_50_54 dX4_checkWithinPage_46 dX4_checkWithinPage_49 dX4_checkWithinPage_50 dX4_checkWithinPage_52 dX4_checkWithinPage_55 ⟨(Nat.le_of_ble_eq_true rfl), (Nat.le_of_ble_eq_true rfl), (Nat.le_of_ble_eq_true rfl), (Nat.le_of_ble_eq_true rfl)⟩ (Nat.le_of_ble_eq_true rfl) (Nat.le_of_ble_eq_true rfl) rfl
def rmX4_numberOf : Room := { frames := 0, cells := 0, slots := 0, locals := 0 }
theorem hd_X4_numberOf : yX4_numberOf.cls ≠ "java/lang/invoke/MethodHandle" ∧ yX4_numberOf.cls ≠ "java/lang/invoke/VarHandle" ∧ (parseMethodDescriptor yX4_numberOf.desc).map (fun d => d.parameters.length) = some 1 := by decide +kernel
set_option maxHeartbeats 4000000 in
set_option maxRecDepth 100000 in
theorem c_numberOf_0 {l : Launch} {ω : Om} {M : MM}  : Ct l ω yX4_numberOf wsX4_numberOf rmX4_numberOf [.null] M (fun v M9 => v = some (.int (-1)) ∧ M9 = M) 0 0 := by
  refine Ct.ofV (cc := cX4_numberOf) (maxL := 1) (ret := (some .int)) [some (.null)] (by decide) rfl (Nat.le_of_ble_eq_true rfl) rfl (Lc.av (av := [.null]) (k := 0) rfl) ?_
  intro σ F hl hr hname
  have F : Fx ω σ cX4_numberOf 1 wsX4_numberOf RX4 rmX4_numberOf := F
  refine v_aload_n F dX4_numberOf_0 rfl rfl ?_
  refine v_ifnonnull_n F dX4_numberOf_1 ?_
  refine v_iconst (v := (-1)) F dX4_numberOf_4 (by decide) ?_
  refine v_goto F 12 dX4_numberOf_5 (by decide) ?_
  exact v_iret F hr dX4_numberOf_12 (Nat.le_of_ble_eq_true rfl) (Nat.le_of_ble_eq_true rfl) ⟨rfl, rfl⟩
theorem fo_X4_numberOf_130 : FO wsX4_numberOf RX4 130 1 0 := ⟨_, _, _, rfl, by decide, by decide +kernel, by decide +kernel⟩
set_option maxHeartbeats 4000000 in
set_option maxRecDepth 100000 in
theorem c_numberOf_1 {l : Launch} {ω : Om} {M : MM} {j n : Nat} {A B : FF} (hb : M (A 1 j) = some (.inr (1, bxF A B j))) : Ct l ω yX4_numberOf wsX4_numberOf rmX4_numberOf [.ref (A 1 j)] M (fun v M9 => v = some (.int (nI j)) ∧ M9 = M) 0 0 := by
  refine Ct.ofV (cc := cX4_numberOf) (maxL := 1) (ret := (some .int)) [some (.ref (A 1 j))] (by decide) rfl (Nat.le_of_ble_eq_true rfl) rfl (Lc.av (av := [.ref (A 1 j)]) (k := 0) rfl) ?_
  intro σ F hl hr hname
  have F : Fx ω σ cX4_numberOf 1 wsX4_numberOf RX4 rmX4_numberOf := F
  refine v_aload_n F dX4_numberOf_0 rfl rfl ?_
  refine v_ifnonnull_r F 8 dX4_numberOf_1 (by decide) ?_
  refine v_aload_n F dX4_numberOf_8 rfl rfl ?_
  refine v_get F 1 0 fo_X4_numberOf_130 dX4_numberOf_9 hb rfl ?_
  exact v_iret F hr dX4_numberOf_12 (Nat.le_of_ble_eq_true rfl) (Nat.le_of_ble_eq_true rfl) ⟨rfl, rfl⟩
def rmX4_isOfKind : Room := { frames := 0, cells := 0, slots := 0, locals := 0 }
theorem hd_X4_isOfKind : yX4_isOfKind.cls ≠ "java/lang/invoke/MethodHandle" ∧ yX4_isOfKind.cls ≠ "java/lang/invoke/VarHandle" ∧ (parseMethodDescriptor yX4_isOfKind.desc).map (fun d => d.parameters.length) = some 2 := by decide +kernel
set_option maxHeartbeats 4000000 in
set_option maxRecDepth 100000 in
theorem c_isOfKind_0 {l : Launch} {ω : Om} {M : MM} {q : Nat} : Ct l ω yX4_isOfKind wsX4_isOfKind rmX4_isOfKind [.null, .int (nI q)] M (fun v M9 => v = some (.int (bI false)) ∧ M9 = M) 0 0 := by
  refine Ct.ofV (cc := cX4_isOfKind) (maxL := 2) (ret := (some .boolean)) [some (.null), some (.int (nI q))] (by decide) rfl (Nat.le_of_ble_eq_true rfl) rfl (Lc.av (av := [.null, .int (nI q)]) (k := 0) rfl) ?_
  intro σ F hl hr hname
  have F : Fx ω σ cX4_isOfKind 2 wsX4_isOfKind RX4 rmX4_isOfKind := F
  refine v_aload_n F dX4_isOfKind_0 rfl rfl ?_
  refine v_ifnull_n F 16 dX4_isOfKind_1 (by decide) ?_
  refine v_iconst (v := nI 0) F dX4_isOfKind_16 (by decide) ?_
  exact v_zret F hr dX4_isOfKind_17 rfl (Nat.le_of_ble_eq_true rfl) (Nat.le_of_ble_eq_true rfl) ⟨rfl, rfl⟩
theorem fo_X4_isOfKind_147 : FO wsX4_isOfKind RX4 147 1 2 := ⟨_, _, _, rfl, by decide, by decide +kernel, by decide +kernel⟩
set_option maxHeartbeats 4000000 in
set_option maxRecDepth 100000 in
theorem c_isOfKind_1 {l : Launch} {ω : Om} {M : MM} {j q : Nat} {A B : FF} (hb : M (A 1 j) = some (.inr (1, bxF A B j))) (hW : ∀ i j, B i j < 128) (hq : q < 128) : Ct l ω yX4_isOfKind wsX4_isOfKind rmX4_isOfKind [.ref (A 1 j), .int (nI q)] M (fun v M9 => v = some (.int (bI (decide (B j 5 = q)))) ∧ M9 = M) 0 0 := by
  refine Ct.ofV (cc := cX4_isOfKind) (maxL := 2) (ret := (some .boolean)) [some (.ref (A 1 j)), some (.int (nI q))] (by decide) rfl (Nat.le_of_ble_eq_true rfl) rfl (Lc.av (av := [.ref (A 1 j), .int (nI q)]) (k := 0) rfl) ?_
  intro σ F hl hr hname
  have F : Fx ω σ cX4_isOfKind 2 wsX4_isOfKind RX4 rmX4_isOfKind := F
  refine v_aload_n F dX4_isOfKind_0 rfl rfl ?_
  refine v_ifnull_r F dX4_isOfKind_1 ?_
  refine v_aload_n F dX4_isOfKind_4 rfl rfl ?_
  refine v_get F 1 2 fo_X4_isOfKind_147 dX4_isOfKind_5 hb rfl ?_
  refine v_iload_n F dX4_isOfKind_8 rfl ?_
  refine v_icmp_ne_n F 16 dX4_isOfKind_9 (by decide) (by first | omega | exact Nat.lt_trans (hW _ _) (by decide)) (by first | omega | exact Nat.lt_trans (hW _ _) (by decide)) (fun c9 => ?_) (fun c9 => ?_)
  · refine v_iconst (v := nI 0) F dX4_isOfKind_16 (by decide) ?_
    exact v_zret F hr dX4_isOfKind_17 rfl (Nat.le_of_ble_eq_true rfl) (Nat.le_of_ble_eq_true rfl) (by first | (refine ⟨zl1 ?_, rfl⟩; simp [*]; done) | (refine ⟨zl1 ?_, rfl⟩; simp [*]; omega) | (refine ⟨zl0 ?_, rfl⟩; simp [*]; done) | (refine ⟨zl0 ?_, rfl⟩; simp [*]; omega))
  · refine v_iconst (v := nI 1) F dX4_isOfKind_12 (by decide) ?_
    refine v_goto F 17 dX4_isOfKind_13 (by decide) ?_
    exact v_zret F hr dX4_isOfKind_17 rfl (Nat.le_of_ble_eq_true rfl) (Nat.le_of_ble_eq_true rfl) (by first | (refine ⟨zl1 ?_, rfl⟩; simp [*]; done) | (refine ⟨zl1 ?_, rfl⟩; simp [*]; omega) | (refine ⟨zl0 ?_, rfl⟩; simp [*]; done) | (refine ⟨zl0 ?_, rfl⟩; simp [*]; omega))
