/-! the class: its face, first half -/
/-- what the order of pages needs of the boxes -/
def PF (B : FF) (n : Nat) : Prop := (∃ ρ : Nat → Nat, (∀ i, ρ i < 24) ∧ ∀ i y, i < n → B i 7 = y + 1 → ρ y < ρ i) ∧ ∀ p, p < 5 → (ordF B n p).length ≤ 24 ∧ (∀ x, x ∈ ordF B n p → x < n)
/-- the class stands at a state -/
def CI (ω : Om) (A B P : FF) (n k : Nat) (R : Nat → (Nat → Int32) × Nat) (Z : Nat → Prop) (M : MM) : Prop := XI ω A B P n k R M ∧ WB B n ∧ AD A ∧ (∀ i j, i < k → j < k → A 4 i = A 4 j → i = j) ∧ k ≤ 20 ∧ (∀ i j, P i j < 128) ∧ (∀ i j, Z (A i j)) ∧ (∀ p, p < 5 → (R p).2 = (ordF B n p).length ∧ Pf (R p).1 (ordF B n p)) ∧ PF B n
/-- what falls where the order of a page is another one, or not -/
def Fall (P : FF) (p k : Nat) (same : Prop) (c : Nat) (P9 : FF) : Prop := (same ∧ c = 0 ∧ P9 = P) ∨ (¬ same ∧ c = cnt P p k 20 ∧ P9 = lfP P p 20)
theorem CI.next {ω : Om} {A B B' P P9 : FF} {n k p c9 : Nat} {R R9 : Nat → (Nat → Int32) × Nat} {Z : Nat → Prop} {M M9 : MM} {same : Prop} (h : CI ω A B P n k R Z M) (hX : XI ω A B' P9 n k R9 M9) (hB : WB B' n) (hO : PF B' n) (hq : ∀ q, q < 5 → q ≠ p → ordF B' n q = ordF B n q) (h1 : (R9 p).2 = (ordF B' n p).length) (h2 : Pf (R9 p).1 (ordF B' n p)) (h3 : ∀ q, q < 5 → q ≠ p → R9 q = R q) (hF : Fall P p k same c9 P9) : CI ω A B' P9 n k R9 Z M9 := by
  obtain ⟨-, -, hA, hA4, hk, hP, hZ, hR, -⟩ := h
  refine ⟨hX, hB, hA, hA4, hk, ?_, hZ, fun q hq5 => ?_, hO⟩
  · rcases hF with ⟨-, -, rfl⟩ | ⟨-, -, rfl⟩
    · exact hP
    · exact lfP_lt hP p 20
  · by_cases hqp : q = p
    · subst hqp; exact ⟨h1, h2⟩
    · rw [h3 q hq5 hqp, hq q hq5 hqp]; exact hR q hq5
def mvB (B : FF) (j x y : Nat) : FF := u2 (u2 B j 1 x) j 2 y
def szB (B : FF) (j w h : Nat) : FF := u2 (u2 B j 3 w) j 4 h
def rmX4_boxes : Room := { frames := 7, cells := 1, slots := 6, locals := 112 }
theorem hd_X4_boxes : yX4_boxes.cls = (RX4, TX4, 7).1 ∧ yX4_boxes.cls ≠ "java/lang/invoke/MethodHandle" ∧ yX4_boxes.cls ≠ "java/lang/invoke/VarHandle" ∧ (parseMethodDescriptor yX4_boxes.desc).map (fun d => d.parameters.length) = some 1 := by decide +kernel
theorem fo_X4_boxes_136 : FO wsX4_boxes RX4 136 3 1 := ⟨_, _, _, rfl, by decide, by decide +kernel, by decide +kernel⟩
set_option maxHeartbeats 4000000 in
set_option maxRecDepth 100000 in
theorem c_boxes_ok {l : Launch} {ω : Om} {M : MM} (hl9 : l.stackTraces = false) {A B P : FF} {n k : Nat} {R : Nat → (Nat → Int32) × Nat} {Z : Nat → Prop} (hC : CI ω A B P n k R Z M) {p : Nat} (hp : p < 5) : CtX l ω yX4_boxes wsX4_boxes rmX4_boxes [.ref (A 0 0), .int (nI p)] M (fun v M9 => v = some (.int (nI (ordF B n p).length)) ∧ M9 = M) (fun E => False) 1 6 := by
  refine CtX.ofV (cc := cX4_boxes) (maxL := 2) (ret := (some .int)) [some (.ref (A 0 0)), some (.int (nI p))] (by decide) rfl (Nat.le_of_ble_eq_true rfl) rfl (Lc.av (av := [.ref (A 0 0), .int (nI p)]) (k := 0) rfl) ?_
  intro σ F hl hr hnx
  have hl : σ.2.1.stackTraces = false := by rw [hl]; exact hl9
  have F : Fx ω σ cX4_boxes 2 wsX4_boxes RX4 rmX4_boxes := F
  obtain ⟨hX, hB, hA, hA4, hk, hWP, hZ, hR, hO⟩ := id hC
  have hn : n ≤ 24 := hB.1
  have hW : ∀ i j, B i j < 128 := hB.2.1
  refine v_aload_n F dX4_boxes_0 rfl rfl ?_
  refine v_iload_n F dX4_boxes_1 rfl ?_
  refine v_callVX F 1 [_] rfl rfl rfl ((c_readingOf_ok hl hX hB hp)) gX4_boxes_X4_readingOf rfl hd_X4_readingOf ⟨⟨rfl, rfl⟩, ⟨(Nat.le_of_ble_eq_true rfl), (Nat.le_of_ble_eq_true rfl)⟩, ⟨(Nat.le_of_ble_eq_true rfl), (Nat.le_of_ble_eq_true rfl)⟩, (Nat.le_of_ble_eq_true rfl)⟩ hX.x rfl dX4_boxes_2 (fun E h => h.elim) hnx (Nat.le_of_ble_eq_true rfl) (Nat.le_of_ble_eq_true rfl) (fun v2 M2 q2 => ?_)
  obtain ⟨rfl, e2⟩ := q2
  replace e2 := e2.symm
  subst e2
  refine v_get F 3 1 fo_X4_boxes_136 dX4_boxes_5 (hX.rd (p := p) (by omega)) rfl ?_
  exact v_x (v_iret F hr dX4_boxes_8 (Nat.le_of_ble_eq_true rfl) (Nat.le_of_ble_eq_true rfl) ⟨by rw [(hR p hp).1], rfl⟩)
set_option maxHeartbeats 4000000 in
set_option maxRecDepth 100000 in
theorem c_boxes_x {l : Launch} {ω : Om} {M : MM} (hl9 : l.stackTraces = false) {A B P : FF} {n k : Nat} {R : Nat → (Nat → Int32) × Nat} {Z : Nat → Prop} (hC : CI ω A B P n k R Z M) {y : Int32} (hy : y < 0 ∨ nI 5 ≤ y) : CtX l ω yX4_boxes wsX4_boxes rmX4_boxes [.ref (A 0 0), .int y] M (fun v M9 => False) (fun E => E = "java/lang/IndexOutOfBoundsException") 1 6 := by
  refine CtX.ofV (cc := cX4_boxes) (maxL := 2) (ret := (some .int)) [some (.ref (A 0 0)), some (.int y)] (by decide) rfl (Nat.le_of_ble_eq_true rfl) rfl (Lc.av (av := [.ref (A 0 0), .int y]) (k := 0) rfl) ?_
  intro σ F hl hr hnx
  have hl : σ.2.1.stackTraces = false := by rw [hl]; exact hl9
  have F : Fx ω σ cX4_boxes 2 wsX4_boxes RX4 rmX4_boxes := F
  obtain ⟨hX, hB, hA, hA4, hk, hWP, hZ, hR, hO⟩ := id hC
  have hn : n ≤ 24 := hB.1
  have hW : ∀ i j, B i j < 128 := hB.2.1
  refine v_aload_n F dX4_boxes_0 rfl rfl ?_
  refine v_iload_n F dX4_boxes_1 rfl ?_
  refine v_callVX F 1 [_] rfl rfl rfl (c_readingOf_out hl hX hB hy) gX4_boxes_X4_readingOf rfl hd_X4_readingOf ⟨⟨rfl, rfl⟩, ⟨(Nat.le_of_ble_eq_true rfl), (Nat.le_of_ble_eq_true rfl)⟩, ⟨(Nat.le_of_ble_eq_true rfl), (Nat.le_of_ble_eq_true rfl)⟩, (Nat.le_of_ble_eq_true rfl)⟩ hX.x rfl dX4_boxes_2 (fun E h => h) hnx (Nat.le_of_ble_eq_true rfl) (Nat.le_of_ble_eq_true rfl) (fun v2 M2 q2 => ?_)
  exact q2.elim
def rmX4_order : Room := { frames := 7, cells := 2, slots := 12, locals := 112 }
theorem hd_X4_order : yX4_order.cls = (RX4, TX4, 7).1 ∧ yX4_order.cls ≠ "java/lang/invoke/MethodHandle" ∧ yX4_order.cls ≠ "java/lang/invoke/VarHandle" ∧ (parseMethodDescriptor yX4_order.desc).map (fun d => d.parameters.length) = some 2 := by decide +kernel
set_option maxHeartbeats 4000000 in
set_option maxRecDepth 100000 in
theorem c_order_in {l : Launch} {ω : Om} {M : MM} (hl9 : l.stackTraces = false) {A B P : FF} {n k : Nat} {R : Nat → (Nat → Int32) × Nat} {Z : Nat → Prop} (hC : CI ω A B P n k R Z M) {p j : Nat} (hp : p < 5) (hj : j < (ordF B n p).length) (hpl : 0 ≤ nI j) : CtX l ω yX4_order wsX4_order rmX4_order [.ref (A 0 0), .int (nI p), .int (nI j)] M (fun v M9 => v = some (.int (nI ((ordF B n p).getD j 0))) ∧ M9 = M) (fun E => False) 2 12 := by
  refine CtX.ofV (cc := cX4_order) (maxL := 4) (ret := (some .int)) [some (.ref (A 0 0)), some (.int (nI p)), some (.int (nI j)), none] (by decide) rfl (Nat.le_of_ble_eq_true rfl) rfl (Lc.av (av := [.ref (A 0 0), .int (nI p), .int (nI j)]) (k := 1) rfl) ?_
  intro σ F hl hr hnx
  have hl : σ.2.1.stackTraces = false := by rw [hl]; exact hl9
  have F : Fx ω σ cX4_order 4 wsX4_order RX4 rmX4_order := F
  obtain ⟨hX, hB, hA, hA4, hk, hWP, hZ, hR, hO⟩ := id hC
  have hn : n ≤ 24 := hB.1
  have hW : ∀ i j, B i j < 128 := hB.2.1
  have hr1 : M (A 2 p) = some (rdE 3 (A 3 p) (ordF B n p).length) := by rw [← (hR p hp).1]; exact hX.rd (by omega)
  have hr2 : M (A 3 p) = some (rowE ω (R p).1) := hX.row (by omega)
  refine v_aload_n F dX4_order_0 rfl rfl ?_
  refine v_iload_n F dX4_order_1 rfl ?_
  refine v_callVX F 1 [_] rfl rfl rfl ((c_readingOf_ok hl hX hB hp)) gX4_order_X4_readingOf rfl hd_X4_readingOf ⟨⟨rfl, rfl⟩, ⟨(Nat.le_of_ble_eq_true rfl), (Nat.le_of_ble_eq_true rfl)⟩, ⟨(Nat.le_of_ble_eq_true rfl), (Nat.le_of_ble_eq_true rfl)⟩, (Nat.le_of_ble_eq_true rfl)⟩ hX.x rfl dX4_order_2 (fun E h => h.elim) hnx (Nat.le_of_ble_eq_true rfl) (Nat.le_of_ble_eq_true rfl) (fun v2 M2 q2 => ?_)
  obtain ⟨rfl, e2⟩ := q2
  replace e2 := e2.symm
  subst e2
  refine v_astore_n F dX4_order_5 rfl (Nat.le_of_ble_eq_true rfl) (ok2_d rfl) ?_
  refine v_iload_n F dX4_order_6 rfl ?_
  refine v_callSX F 1 [_] rfl rfl rfl (c_checkPlace_ok hl hpl) gX4_order_X4_checkPlace rfl hd_X4_checkPlace ⟨⟨rfl, rfl⟩, ⟨(Nat.le_of_ble_eq_true rfl), (Nat.le_of_ble_eq_true rfl)⟩, ⟨(Nat.le_of_ble_eq_true rfl), (Nat.le_of_ble_eq_true rfl)⟩, (Nat.le_of_ble_eq_true rfl)⟩ dX4_order_7 (fun E h => h.elim) hnx (Nat.le_of_ble_eq_true rfl) (Nat.le_of_ble_eq_true rfl) (fun v7 M7 q7 => ?_)
  obtain ⟨rfl, e7⟩ := q7
  replace e7 := e7.symm
  subst e7
  refine v_aload_n F dX4_order_10 rfl rfl ?_
  refine v_iload_n F dX4_order_11 rfl ?_
  refine v_callV F 1 [_] rfl rfl rfl (c_X3_at_in hr1 hr2 (hO.2 p hp).1 hj) gX4_order_X3_at rfl hd_X3_at ⟨⟨rfl, rfl⟩, ⟨(Nat.le_of_ble_eq_true rfl), (Nat.le_of_ble_eq_true rfl)⟩, ⟨(Nat.le_of_ble_eq_true rfl), (Nat.le_of_ble_eq_true rfl)⟩, (Nat.le_of_ble_eq_true rfl)⟩ hr1 rfl dX4_order_12 (fun v12 M12 q12 => ?_)
  obtain ⟨rfl, e12⟩ := q12
  replace e12 := e12.symm
  subst e12
  refine V.toI ((hR p hp).2 j hj) ?_
  exact v_x (v_iret F hr dX4_order_15 (Nat.le_of_ble_eq_true rfl) (Nat.le_of_ble_eq_true rfl) ⟨rfl, rfl⟩)
set_option maxHeartbeats 4000000 in
set_option maxRecDepth 100000 in
theorem c_order_out {l : Launch} {ω : Om} {M : MM} (hl9 : l.stackTraces = false) {A B P : FF} {n k : Nat} {R : Nat → (Nat → Int32) × Nat} {Z : Nat → Prop} (hC : CI ω A B P n k R Z M) {p : Nat} {y : Int32} (hp : p < 5) (hpl : 0 ≤ y) (hy : nI (ordF B n p).length ≤ y) : CtX l ω yX4_order wsX4_order rmX4_order [.ref (A 0 0), .int (nI p), .int y] M (fun v M9 => v = some (.int (-1)) ∧ M9 = M) (fun E => False) 2 12 := by
  refine CtX.ofV (cc := cX4_order) (maxL := 4) (ret := (some .int)) [some (.ref (A 0 0)), some (.int (nI p)), some (.int y), none] (by decide) rfl (Nat.le_of_ble_eq_true rfl) rfl (Lc.av (av := [.ref (A 0 0), .int (nI p), .int y]) (k := 1) rfl) ?_
  intro σ F hl hr hnx
  have hl : σ.2.1.stackTraces = false := by rw [hl]; exact hl9
  have F : Fx ω σ cX4_order 4 wsX4_order RX4 rmX4_order := F
  obtain ⟨hX, hB, hA, hA4, hk, hWP, hZ, hR, hO⟩ := id hC
  have hn : n ≤ 24 := hB.1
  have hW : ∀ i j, B i j < 128 := hB.2.1
  have hr1 : M (A 2 p) = some (rdE 3 (A 3 p) (ordF B n p).length) := by rw [← (hR p hp).1]; exact hX.rd (by omega)
  have hr2 : M (A 3 p) = some (rowE ω (R p).1) := hX.row (by omega)
  refine v_aload_n F dX4_order_0 rfl rfl ?_
  refine v_iload_n F dX4_order_1 rfl ?_
  refine v_callVX F 1 [_] rfl rfl rfl ((c_readingOf_ok hl hX hB hp)) gX4_order_X4_readingOf rfl hd_X4_readingOf ⟨⟨rfl, rfl⟩, ⟨(Nat.le_of_ble_eq_true rfl), (Nat.le_of_ble_eq_true rfl)⟩, ⟨(Nat.le_of_ble_eq_true rfl), (Nat.le_of_ble_eq_true rfl)⟩, (Nat.le_of_ble_eq_true rfl)⟩ hX.x rfl dX4_order_2 (fun E h => h.elim) hnx (Nat.le_of_ble_eq_true rfl) (Nat.le_of_ble_eq_true rfl) (fun v2 M2 q2 => ?_)
  obtain ⟨rfl, e2⟩ := q2
  replace e2 := e2.symm
  subst e2
  refine v_astore_n F dX4_order_5 rfl (Nat.le_of_ble_eq_true rfl) (ok2_d rfl) ?_
  refine v_iload_n F dX4_order_6 rfl ?_
  refine v_callSX F 1 [_] rfl rfl rfl (c_checkPlace_ok hl hpl) gX4_order_X4_checkPlace rfl hd_X4_checkPlace ⟨⟨rfl, rfl⟩, ⟨(Nat.le_of_ble_eq_true rfl), (Nat.le_of_ble_eq_true rfl)⟩, ⟨(Nat.le_of_ble_eq_true rfl), (Nat.le_of_ble_eq_true rfl)⟩, (Nat.le_of_ble_eq_true rfl)⟩ dX4_order_7 (fun E h => h.elim) hnx (Nat.le_of_ble_eq_true rfl) (Nat.le_of_ble_eq_true rfl) (fun v7 M7 q7 => ?_)
  obtain ⟨rfl, e7⟩ := q7
  replace e7 := e7.symm
  subst e7
  refine v_aload_n F dX4_order_10 rfl rfl ?_
  refine v_iload_n F dX4_order_11 rfl ?_
  refine v_callV F 1 [_] rfl rfl rfl (c_X3_at_out hr1 hr2 (Or.inr hy)) gX4_order_X3_at rfl hd_X3_at ⟨⟨rfl, rfl⟩, ⟨(Nat.le_of_ble_eq_true rfl), (Nat.le_of_ble_eq_true rfl)⟩, ⟨(Nat.le_of_ble_eq_true rfl), (Nat.le_of_ble_eq_true rfl)⟩, (Nat.le_of_ble_eq_true rfl)⟩ hr1 rfl dX4_order_12 (fun v12 M12 q12 => ?_)
  obtain ⟨rfl, e12⟩ := q12
  replace e12 := e12.symm
  subst e12
  exact v_x (v_iret F hr dX4_order_15 (Nat.le_of_ble_eq_true rfl) (Nat.le_of_ble_eq_true rfl) ⟨rfl, rfl⟩)
set_option maxHeartbeats 4000000 in
set_option maxRecDepth 100000 in
theorem c_order_x1 {l : Launch} {ω : Om} {M : MM} (hl9 : l.stackTraces = false) {A B P : FF} {n k : Nat} {R : Nat → (Nat → Int32) × Nat} {Z : Nat → Prop} (hC : CI ω A B P n k R Z M) {y q : Int32} (hy : y < 0 ∨ nI 5 ≤ y) : CtX l ω yX4_order wsX4_order rmX4_order [.ref (A 0 0), .int y, .int q] M (fun v M9 => False) (fun E => E = "java/lang/IndexOutOfBoundsException") 2 12 := by
  refine CtX.ofV (cc := cX4_order) (maxL := 4) (ret := (some .int)) [some (.ref (A 0 0)), some (.int y), some (.int q), none] (by decide) rfl (Nat.le_of_ble_eq_true rfl) rfl (Lc.av (av := [.ref (A 0 0), .int y, .int q]) (k := 1) rfl) ?_
  intro σ F hl hr hnx
  have hl : σ.2.1.stackTraces = false := by rw [hl]; exact hl9
  have F : Fx ω σ cX4_order 4 wsX4_order RX4 rmX4_order := F
  obtain ⟨hX, hB, hA, hA4, hk, hWP, hZ, hR, hO⟩ := id hC
  have hn : n ≤ 24 := hB.1
  have hW : ∀ i j, B i j < 128 := hB.2.1
  refine v_aload_n F dX4_order_0 rfl rfl ?_
  refine v_iload_n F dX4_order_1 rfl ?_
  refine v_callVX F 1 [_] rfl rfl rfl (c_readingOf_out hl hX hB hy) gX4_order_X4_readingOf rfl hd_X4_readingOf ⟨⟨rfl, rfl⟩, ⟨(Nat.le_of_ble_eq_true rfl), (Nat.le_of_ble_eq_true rfl)⟩, ⟨(Nat.le_of_ble_eq_true rfl), (Nat.le_of_ble_eq_true rfl)⟩, (Nat.le_of_ble_eq_true rfl)⟩ hX.x rfl dX4_order_2 (fun E h => h) hnx (Nat.le_of_ble_eq_true rfl) (Nat.le_of_ble_eq_true rfl) (fun v2 M2 q2 => ?_)
  exact q2.elim
set_option maxHeartbeats 4000000 in
set_option maxRecDepth 100000 in
theorem c_order_x2 {l : Launch} {ω : Om} {M : MM} (hl9 : l.stackTraces = false) {A B P : FF} {n k : Nat} {R : Nat → (Nat → Int32) × Nat} {Z : Nat → Prop} (hC : CI ω A B P n k R Z M) {p : Nat} {q : Int32} (hp : p < 5) (hpl : ¬ 0 ≤ q) : CtX l ω yX4_order wsX4_order rmX4_order [.ref (A 0 0), .int (nI p), .int q] M (fun v M9 => False) (fun E => E = "java/lang/IndexOutOfBoundsException") 2 12 := by
  refine CtX.ofV (cc := cX4_order) (maxL := 4) (ret := (some .int)) [some (.ref (A 0 0)), some (.int (nI p)), some (.int q), none] (by decide) rfl (Nat.le_of_ble_eq_true rfl) rfl (Lc.av (av := [.ref (A 0 0), .int (nI p), .int q]) (k := 1) rfl) ?_
  intro σ F hl hr hnx
  have hl : σ.2.1.stackTraces = false := by rw [hl]; exact hl9
  have F : Fx ω σ cX4_order 4 wsX4_order RX4 rmX4_order := F
  obtain ⟨hX, hB, hA, hA4, hk, hWP, hZ, hR, hO⟩ := id hC
  have hn : n ≤ 24 := hB.1
  have hW : ∀ i j, B i j < 128 := hB.2.1
  refine v_aload_n F dX4_order_0 rfl rfl ?_
  refine v_iload_n F dX4_order_1 rfl ?_
  refine v_callVX F 1 [_] rfl rfl rfl ((c_readingOf_ok hl hX hB hp)) gX4_order_X4_readingOf rfl hd_X4_readingOf ⟨⟨rfl, rfl⟩, ⟨(Nat.le_of_ble_eq_true rfl), (Nat.le_of_ble_eq_true rfl)⟩, ⟨(Nat.le_of_ble_eq_true rfl), (Nat.le_of_ble_eq_true rfl)⟩, (Nat.le_of_ble_eq_true rfl)⟩ hX.x rfl dX4_order_2 (fun E h => h.elim) hnx (Nat.le_of_ble_eq_true rfl) (Nat.le_of_ble_eq_true rfl) (fun v2 M2 q2 => ?_)
  obtain ⟨rfl, e2⟩ := q2
  replace e2 := e2.symm
  subst e2
  refine v_astore_n F dX4_order_5 rfl (Nat.le_of_ble_eq_true rfl) (ok2_d rfl) ?_
  refine v_iload_n F dX4_order_6 rfl ?_
  refine v_callSX F 1 [_] rfl rfl rfl (c_checkPlace_bad hl hpl) gX4_order_X4_checkPlace rfl hd_X4_checkPlace ⟨⟨rfl, rfl⟩, ⟨(Nat.le_of_ble_eq_true rfl), (Nat.le_of_ble_eq_true rfl)⟩, ⟨(Nat.le_of_ble_eq_true rfl), (Nat.le_of_ble_eq_true rfl)⟩, (Nat.le_of_ble_eq_true rfl)⟩ dX4_order_7 (fun E h => h) hnx (Nat.le_of_ble_eq_true rfl) (Nat.le_of_ble_eq_true rfl) (fun v7 M7 q7 => ?_)
  exact q7.elim
def rmX4_orderAnew : Room := { frames := 7, cells := 2, slots := 12, locals := 112 }
theorem hd_X4_orderAnew : yX4_orderAnew.cls = (RX4, TX4, 7).1 ∧ yX4_orderAnew.cls ≠ "java/lang/invoke/MethodHandle" ∧ yX4_orderAnew.cls ≠ "java/lang/invoke/VarHandle" ∧ (parseMethodDescriptor yX4_orderAnew.desc).map (fun d => d.parameters.length) = some 2 := by decide +kernel
set_option maxHeartbeats 4000000 in
set_option maxRecDepth 100000 in
theorem c_orderAnew_x1 {l : Launch} {ω : Om} {M : MM} (hl9 : l.stackTraces = false) {A B P : FF} {n k : Nat} {R : Nat → (Nat → Int32) × Nat} {Z : Nat → Prop} (hC : CI ω A B P n k R Z M) {y q : Int32} (hy : y < 0 ∨ nI 5 ≤ y) : CtX l ω yX4_orderAnew wsX4_orderAnew rmX4_orderAnew [.ref (A 0 0), .int y, .int q] M (fun v M9 => False) (fun E => E = "java/lang/IndexOutOfBoundsException") 2 12 := by
  refine CtX.ofV (cc := cX4_orderAnew) (maxL := 3) (ret := (some .int)) [some (.ref (A 0 0)), some (.int y), some (.int q)] (by decide) rfl (Nat.le_of_ble_eq_true rfl) rfl (Lc.av (av := [.ref (A 0 0), .int y, .int q]) (k := 0) rfl) ?_
  intro σ F hl hr hnx
  have hl : σ.2.1.stackTraces = false := by rw [hl]; exact hl9
  have F : Fx ω σ cX4_orderAnew 3 wsX4_orderAnew RX4 rmX4_orderAnew := F
  obtain ⟨hX, hB, hA, hA4, hk, hWP, hZ, hR, hO⟩ := id hC
  have hn : n ≤ 24 := hB.1
  have hW : ∀ i j, B i j < 128 := hB.2.1
  refine v_aload_n F dX4_orderAnew_0 rfl rfl ?_
  refine v_iload_n F dX4_orderAnew_1 rfl ?_
  refine v_callVX F 1 [_] rfl rfl rfl (c_readingOf_out hl hX hB hy) gX4_orderAnew_X4_readingOf rfl hd_X4_readingOf ⟨⟨rfl, rfl⟩, ⟨(Nat.le_of_ble_eq_true rfl), (Nat.le_of_ble_eq_true rfl)⟩, ⟨(Nat.le_of_ble_eq_true rfl), (Nat.le_of_ble_eq_true rfl)⟩, (Nat.le_of_ble_eq_true rfl)⟩ hX.x rfl dX4_orderAnew_2 (fun E h => h) hnx (Nat.le_of_ble_eq_true rfl) (Nat.le_of_ble_eq_true rfl) (fun v2 M2 q2 => ?_)
  exact q2.elim
set_option maxHeartbeats 4000000 in
set_option maxRecDepth 100000 in
theorem c_orderAnew_x2 {l : Launch} {ω : Om} {M : MM} (hl9 : l.stackTraces = false) {A B P : FF} {n k : Nat} {R : Nat → (Nat → Int32) × Nat} {Z : Nat → Prop} (hC : CI ω A B P n k R Z M) {p : Nat} {q : Int32} (hp : p < 5) (hpl : ¬ 0 ≤ q) : CtX l ω yX4_orderAnew wsX4_orderAnew rmX4_orderAnew [.ref (A 0 0), .int (nI p), .int q] M (fun v M9 => False) (fun E => E = "java/lang/IndexOutOfBoundsException") 2 12 := by
  refine CtX.ofV (cc := cX4_orderAnew) (maxL := 3) (ret := (some .int)) [some (.ref (A 0 0)), some (.int (nI p)), some (.int q)] (by decide) rfl (Nat.le_of_ble_eq_true rfl) rfl (Lc.av (av := [.ref (A 0 0), .int (nI p), .int q]) (k := 0) rfl) ?_
  intro σ F hl hr hnx
  have hl : σ.2.1.stackTraces = false := by rw [hl]; exact hl9
  have F : Fx ω σ cX4_orderAnew 3 wsX4_orderAnew RX4 rmX4_orderAnew := F
  obtain ⟨hX, hB, hA, hA4, hk, hWP, hZ, hR, hO⟩ := id hC
  have hn : n ≤ 24 := hB.1
  have hW : ∀ i j, B i j < 128 := hB.2.1
  refine v_aload_n F dX4_orderAnew_0 rfl rfl ?_
  refine v_iload_n F dX4_orderAnew_1 rfl ?_
  refine v_callVX F 1 [_] rfl rfl rfl ((c_readingOf_ok hl hX hB hp)) gX4_orderAnew_X4_readingOf rfl hd_X4_readingOf ⟨⟨rfl, rfl⟩, ⟨(Nat.le_of_ble_eq_true rfl), (Nat.le_of_ble_eq_true rfl)⟩, ⟨(Nat.le_of_ble_eq_true rfl), (Nat.le_of_ble_eq_true rfl)⟩, (Nat.le_of_ble_eq_true rfl)⟩ hX.x rfl dX4_orderAnew_2 (fun E h => h.elim) hnx (Nat.le_of_ble_eq_true rfl) (Nat.le_of_ble_eq_true rfl) (fun v2 M2 q2 => ?_)
  obtain ⟨rfl, e2⟩ := q2
  replace e2 := e2.symm
  subst e2
  refine v_pop F dX4_orderAnew_5 rfl ?_
  refine v_iload_n F dX4_orderAnew_6 rfl ?_
  refine v_callSX F 1 [_] rfl rfl rfl (c_checkPlace_bad hl hpl) gX4_orderAnew_X4_checkPlace rfl hd_X4_checkPlace ⟨⟨rfl, rfl⟩, ⟨(Nat.le_of_ble_eq_true rfl), (Nat.le_of_ble_eq_true rfl)⟩, ⟨(Nat.le_of_ble_eq_true rfl), (Nat.le_of_ble_eq_true rfl)⟩, (Nat.le_of_ble_eq_true rfl)⟩ dX4_orderAnew_7 (fun E h => h) hnx (Nat.le_of_ble_eq_true rfl) (Nat.le_of_ble_eq_true rfl) (fun v7 M7 q7 => ?_)
  exact q7.elim
theorem CI.same {ω : Om} {A B P : FF} {n k : Nat} {R R9 : Nat → (Nat → Int32) × Nat} {Z : Nat → Prop} {M M9 : MM} (h : CI ω A B P n k R Z M) (hX : XI ω A B P n k R9 M9) (hR : ∀ q, q < 5 → R9 q = R q) : CI ω A B P n k R9 Z M9 := by
  obtain ⟨-, hB, hA, hA4, hk, hP, hZ, hR0, hO⟩ := h
  exact ⟨hX, hB, hA, hA4, hk, hP, hZ, fun p hp => by rw [hR p hp]; exact hR0 p hp, hO⟩
theorem fo_X4_orderAnew_26 : FO wsX4_orderAnew RX4 26 4 3 := ⟨_, _, _, rfl, by decide, by decide +kernel, by decide +kernel⟩
set_option maxHeartbeats 4000000 in
set_option maxRecDepth 100000 in
theorem c_orderAnew_in {l : Launch} {ω : Om} {M : MM} (hl9 : l.stackTraces = false) {A B P : FF} {n k : Nat} {R : Nat → (Nat → Int32) × Nat} {Z : Nat → Prop} (hC : CI ω A B P n k R Z M) {p : Nat} (hp : p < 5) (htot : (sa B n 48 [bfn B p n]).length ≤ 24) (hso : saO B n 48 [bfn B p n]) {j : Nat} (hj : j < (sa B n 48 [bfn B p n]).length) (hpl : 0 ≤ nI j) : Ct l ω yX4_orderAnew wsX4_orderAnew rmX4_orderAnew [.ref (A 0 0), .int (nI p), .int (nI j)] M (fun v M9 => (∃ R9, CI ω A B P n k R9 Z M9) ∧ Fr Z M M9 ∧ v = some (.int (nI ((sa B n 48 [bfn B p n]).getD j 0)))) 2 12 := by
  refine Ct.ofV (cc := cX4_orderAnew) (maxL := 3) (ret := (some .int)) [some (.ref (A 0 0)), some (.int (nI p)), some (.int (nI j))] (by decide) rfl (Nat.le_of_ble_eq_true rfl) rfl (Lc.av (av := [.ref (A 0 0), .int (nI p), .int (nI j)]) (k := 0) rfl) ?_
  intro σ F hl hr hname
  have F : Fx ω σ cX4_orderAnew 3 wsX4_orderAnew RX4 rmX4_orderAnew := F
  obtain ⟨hX, hB, hA, hA4, hk, hWP, hZ, hR, hO⟩ := id hC
  have hn : n ≤ 24 := hB.1
  have hW : ∀ i j, B i j < 128 := hB.2.1
  obtain ⟨⟨ρ, hρ0, hρ⟩, -⟩ := id hO
  refine v_aload_n F dX4_orderAnew_0 rfl rfl ?_
  refine v_iload_n F dX4_orderAnew_1 rfl ?_
  refine v_callV F 1 [_] rfl rfl rfl ((c_readingOf_ok (by rw [hl]; exact hl9) hX hB hp).noX (fun _ h => h)) gX4_orderAnew_X4_readingOf rfl hd_X4_readingOf ⟨⟨rfl, rfl⟩, ⟨(Nat.le_of_ble_eq_true rfl), (Nat.le_of_ble_eq_true rfl)⟩, ⟨(Nat.le_of_ble_eq_true rfl), (Nat.le_of_ble_eq_true rfl)⟩, (Nat.le_of_ble_eq_true rfl)⟩ hX.x rfl dX4_orderAnew_2 (fun v2 M2 q2 => ?_)
  obtain ⟨rfl, e2⟩ := q2
  replace e2 := e2.symm
  subst e2
  refine v_pop F dX4_orderAnew_5 rfl ?_
  refine v_iload_n F dX4_orderAnew_6 rfl ?_
  refine v_callS F 1 [_] rfl rfl rfl ((c_checkPlace_ok (by rw [hl]; exact hl9) hpl).noX (fun _ h => h)) gX4_orderAnew_X4_checkPlace rfl hd_X4_checkPlace ⟨⟨rfl, rfl⟩, ⟨(Nat.le_of_ble_eq_true rfl), (Nat.le_of_ble_eq_true rfl)⟩, ⟨(Nat.le_of_ble_eq_true rfl), (Nat.le_of_ble_eq_true rfl)⟩, (Nat.le_of_ble_eq_true rfl)⟩ dX4_orderAnew_7 (fun v7 M7 q7 => ?_)
  obtain ⟨rfl, e7⟩ := q7
  replace e7 := e7.symm
  subst e7
  refine v_aload_n F dX4_orderAnew_10 rfl rfl ?_
  refine v_iload_n F dX4_orderAnew_11 rfl ?_
  refine v_aload_n F dX4_orderAnew_12 rfl rfl ?_
  refine v_get F 4 3 fo_X4_orderAnew_26 dX4_orderAnew_13 hX.x rfl ?_
  refine v_callV F 2 [_, _] rfl rfl rfl (c_rwa hX hB hA hp ρ hρ0 hρ htot hso) gX4_orderAnew_X4_readWithSetsAside rfl hd_X4_readWithSetsAside ⟨⟨rfl, rfl⟩, ⟨(Nat.le_of_ble_eq_true rfl), (Nat.le_of_ble_eq_true rfl)⟩, ⟨(Nat.le_of_ble_eq_true rfl), (Nat.le_of_ble_eq_true rfl)⟩, (Nat.le_of_ble_eq_true rfl)⟩ hX.x rfl dX4_orderAnew_16 (fun v16 M16 q16 => ?_)
  obtain ⟨rfl, g16, h16, n16, rfl, hp16⟩ := q16
  have hX1 := (hX.setT hA (p := 5) (ci := 3) (by decide) (by decide) g16 (sa B n 48 [bfn B p n]).length).setT hA (p := 6) (ci := 2) (by decide) (by decide) h16 n16
  have hq1 : setR ω 2 (setR ω 3 M (A 2 5) (A 3 5) g16 (sa B n 48 [bfn B p n]).length) (A 2 6) (A 3 6) h16 n16 (A 2 5) = some (rdE 3 (A 3 5) (sa B n 48 [bfn B p n]).length) := by have := hX1.rd (p := 5) (by decide); rwa [upR_n (by decide), upR_s] at this
  have hq2 : setR ω 2 (setR ω 3 M (A 2 5) (A 3 5) g16 (sa B n 48 [bfn B p n]).length) (A 2 6) (A 3 6) h16 n16 (A 3 5) = some (rowE ω g16) := by have := hX1.row (p := 5) (by decide); rwa [upR_n (by decide), upR_s] at this
  refine v_aload_n F dX4_orderAnew_19 rfl rfl ?_
  refine v_get F 4 3 fo_X4_orderAnew_26 dX4_orderAnew_20 hX1.x rfl ?_
  refine v_iload_n F dX4_orderAnew_23 rfl ?_
  refine v_callV F 1 [_] rfl rfl rfl (c_X3_at_in hq1 hq2 htot hj) gX4_orderAnew_X3_at rfl hd_X3_at ⟨⟨rfl, rfl⟩, ⟨(Nat.le_of_ble_eq_true rfl), (Nat.le_of_ble_eq_true rfl)⟩, ⟨(Nat.le_of_ble_eq_true rfl), (Nat.le_of_ble_eq_true rfl)⟩, (Nat.le_of_ble_eq_true rfl)⟩ hq1 rfl dX4_orderAnew_24 (fun v24 M24 q24 => ?_)
  obtain ⟨rfl, e24⟩ := q24
  replace e24 := e24.symm
  subst e24
  refine V.toI (hp16 j hj) ?_
  exact v_iret F hr dX4_orderAnew_27 (Nat.le_of_ble_eq_true rfl) (Nat.le_of_ble_eq_true rfl) ⟨⟨_, hC.same hX1 (fun q hq => by rw [upR_n (by omega), upR_n (by omega)])⟩, (Fr.rf.setR (hZ 2 5) (hZ 3 5)).setR (hZ 2 6) (hZ 3 6), rfl⟩
set_option maxHeartbeats 4000000 in
set_option maxRecDepth 100000 in
theorem c_orderAnew_out {l : Launch} {ω : Om} {M : MM} (hl9 : l.stackTraces = false) {A B P : FF} {n k : Nat} {R : Nat → (Nat → Int32) × Nat} {Z : Nat → Prop} (hC : CI ω A B P n k R Z M) {p : Nat} (hp : p < 5) (htot : (sa B n 48 [bfn B p n]).length ≤ 24) (hso : saO B n 48 [bfn B p n]) {y : Int32} (hpl : 0 ≤ y) (hy : nI (sa B n 48 [bfn B p n]).length ≤ y) : Ct l ω yX4_orderAnew wsX4_orderAnew rmX4_orderAnew [.ref (A 0 0), .int (nI p), .int y] M (fun v M9 => (∃ R9, CI ω A B P n k R9 Z M9) ∧ Fr Z M M9 ∧ v = some (.int (-1))) 2 12 := by
  refine Ct.ofV (cc := cX4_orderAnew) (maxL := 3) (ret := (some .int)) [some (.ref (A 0 0)), some (.int (nI p)), some (.int y)] (by decide) rfl (Nat.le_of_ble_eq_true rfl) rfl (Lc.av (av := [.ref (A 0 0), .int (nI p), .int y]) (k := 0) rfl) ?_
  intro σ F hl hr hname
  have F : Fx ω σ cX4_orderAnew 3 wsX4_orderAnew RX4 rmX4_orderAnew := F
  obtain ⟨hX, hB, hA, hA4, hk, hWP, hZ, hR, hO⟩ := id hC
  have hn : n ≤ 24 := hB.1
  have hW : ∀ i j, B i j < 128 := hB.2.1
  obtain ⟨⟨ρ, hρ0, hρ⟩, -⟩ := id hO
  refine v_aload_n F dX4_orderAnew_0 rfl rfl ?_
  refine v_iload_n F dX4_orderAnew_1 rfl ?_
  refine v_callV F 1 [_] rfl rfl rfl ((c_readingOf_ok (by rw [hl]; exact hl9) hX hB hp).noX (fun _ h => h)) gX4_orderAnew_X4_readingOf rfl hd_X4_readingOf ⟨⟨rfl, rfl⟩, ⟨(Nat.le_of_ble_eq_true rfl), (Nat.le_of_ble_eq_true rfl)⟩, ⟨(Nat.le_of_ble_eq_true rfl), (Nat.le_of_ble_eq_true rfl)⟩, (Nat.le_of_ble_eq_true rfl)⟩ hX.x rfl dX4_orderAnew_2 (fun v2 M2 q2 => ?_)
  obtain ⟨rfl, e2⟩ := q2
  replace e2 := e2.symm
  subst e2
  refine v_pop F dX4_orderAnew_5 rfl ?_
  refine v_iload_n F dX4_orderAnew_6 rfl ?_
  refine v_callS F 1 [_] rfl rfl rfl ((c_checkPlace_ok (by rw [hl]; exact hl9) hpl).noX (fun _ h => h)) gX4_orderAnew_X4_checkPlace rfl hd_X4_checkPlace ⟨⟨rfl, rfl⟩, ⟨(Nat.le_of_ble_eq_true rfl), (Nat.le_of_ble_eq_true rfl)⟩, ⟨(Nat.le_of_ble_eq_true rfl), (Nat.le_of_ble_eq_true rfl)⟩, (Nat.le_of_ble_eq_true rfl)⟩ dX4_orderAnew_7 (fun v7 M7 q7 => ?_)
  obtain ⟨rfl, e7⟩ := q7
  replace e7 := e7.symm
  subst e7
  refine v_aload_n F dX4_orderAnew_10 rfl rfl ?_
  refine v_iload_n F dX4_orderAnew_11 rfl ?_
  refine v_aload_n F dX4_orderAnew_12 rfl rfl ?_
  refine v_get F 4 3 fo_X4_orderAnew_26 dX4_orderAnew_13 hX.x rfl ?_
  refine v_callV F 2 [_, _] rfl rfl rfl (c_rwa hX hB hA hp ρ hρ0 hρ htot hso) gX4_orderAnew_X4_readWithSetsAside rfl hd_X4_readWithSetsAside ⟨⟨rfl, rfl⟩, ⟨(Nat.le_of_ble_eq_true rfl), (Nat.le_of_ble_eq_true rfl)⟩, ⟨(Nat.le_of_ble_eq_true rfl), (Nat.le_of_ble_eq_true rfl)⟩, (Nat.le_of_ble_eq_true rfl)⟩ hX.x rfl dX4_orderAnew_16 (fun v16 M16 q16 => ?_)
  obtain ⟨rfl, g16, h16, n16, rfl, hp16⟩ := q16
  have hX1 := (hX.setT hA (p := 5) (ci := 3) (by decide) (by decide) g16 (sa B n 48 [bfn B p n]).length).setT hA (p := 6) (ci := 2) (by decide) (by decide) h16 n16
  have hq1 : setR ω 2 (setR ω 3 M (A 2 5) (A 3 5) g16 (sa B n 48 [bfn B p n]).length) (A 2 6) (A 3 6) h16 n16 (A 2 5) = some (rdE 3 (A 3 5) (sa B n 48 [bfn B p n]).length) := by have := hX1.rd (p := 5) (by decide); rwa [upR_n (by decide), upR_s] at this
  have hq2 : setR ω 2 (setR ω 3 M (A 2 5) (A 3 5) g16 (sa B n 48 [bfn B p n]).length) (A 2 6) (A 3 6) h16 n16 (A 3 5) = some (rowE ω g16) := by have := hX1.row (p := 5) (by decide); rwa [upR_n (by decide), upR_s] at this
  refine v_aload_n F dX4_orderAnew_19 rfl rfl ?_
  refine v_get F 4 3 fo_X4_orderAnew_26 dX4_orderAnew_20 hX1.x rfl ?_
  refine v_iload_n F dX4_orderAnew_23 rfl ?_
  refine v_callV F 1 [_] rfl rfl rfl (c_X3_at_out hq1 hq2 (Or.inr hy)) gX4_orderAnew_X3_at rfl hd_X3_at ⟨⟨rfl, rfl⟩, ⟨(Nat.le_of_ble_eq_true rfl), (Nat.le_of_ble_eq_true rfl)⟩, ⟨(Nat.le_of_ble_eq_true rfl), (Nat.le_of_ble_eq_true rfl)⟩, (Nat.le_of_ble_eq_true rfl)⟩ hq1 rfl dX4_orderAnew_24 (fun v24 M24 q24 => ?_)
  obtain ⟨rfl, e24⟩ := q24
  replace e24 := e24.symm
  subst e24
  exact v_iret F hr dX4_orderAnew_27 (Nat.le_of_ble_eq_true rfl) (Nat.le_of_ble_eq_true rfl) ⟨⟨_, hC.same hX1 (fun q hq => by rw [upR_n (by omega), upR_n (by omega)])⟩, (Fr.rf.setR (hZ 2 5) (hZ 3 5)).setR (hZ 2 6) (hZ 3 6), rfl⟩
def rmX4_move : Room := { frames := 73, cells := 3, slots := 18, locals := 1668 }
theorem hd_X4_move : yX4_move.cls = (RX4, TX4, 7).1 ∧ yX4_move.cls ≠ "java/lang/invoke/MethodHandle" ∧ yX4_move.cls ≠ "java/lang/invoke/VarHandle" ∧ (parseMethodDescriptor yX4_move.desc).map (fun d => d.parameters.length) = some 3 := by decide +kernel
theorem fo_X4_move_77 : FO wsX4_move RX4 77 1 5 := ⟨_, _, _, rfl, by decide, by decide +kernel, by decide +kernel⟩
theorem fo_X4_move_80 : FO wsX4_move RX4 80 1 6 := ⟨_, _, _, rfl, by decide, by decide +kernel, by decide +kernel⟩
theorem fo_X4_move_89 : FO wsX4_move RX4 89 1 1 := ⟨_, _, _, rfl, by decide, by decide +kernel, by decide +kernel⟩
theorem fp_X4_move_83 : FP wsX4_move RX4 83 1 3 .int := ⟨_, _, _, tyX1, rfl, by decide, by decide +kernel, by decide +kernel, tyX1_ok, nmX1, rfl, by decide +kernel⟩
theorem fp_X4_move_86 : FP wsX4_move RX4 86 1 4 .int := ⟨_, _, _, tyX1, rfl, by decide, by decide +kernel, by decide +kernel, tyX1_ok, nmX1, rfl, by decide +kernel⟩
set_option maxHeartbeats 4000000 in
set_option maxRecDepth 100000 in
theorem c_move_ok {l : Launch} {ω : Om} {M : MM} (hl9 : l.stackTraces = false) {A B P : FF} {n k : Nat} {R : Nat → (Nat → Int32) × Nat} {Z : Nat → Prop} (hC : CI ω A B P n k R Z M) {j : Nat} (hj : j < n) (hg : B j 8 = 0) (hp5 : B j 0 < 5) {x y : Nat} (h1 : 1 ≤ B j 3) (h2 : 1 ≤ B j 4) (h3 : x + B j 3 ≤ 60) (h4 : y + B j 4 ≤ 80) (hB2 : WB (mvB B j x y) n) (hO2 : PF (mvB B j x y) n) (hq : ∀ q, q < 5 → q ≠ B j 0 → ordF (mvB B j x y) n q = ordF B n q) : Ct l ω yX4_move wsX4_move rmX4_move [.ref (A 0 0), .int (nI j), .int (nI x), .int (nI y)] M (fun v M9 => ∃ R9 P9 c9, v = some (.int (nI c9)) ∧ CI ω A (mvB B j x y) P9 n k R9 Z M9 ∧ Fr Z M M9 ∧ Fall P (B j 0) k (ordF (mvB B j x y) n (B j 0) = ordF B n (B j 0)) c9 P9) 3 18 := by
  refine Ct.ofV (cc := cX4_move) (maxL := 5) (ret := (some .int)) [some (.ref (A 0 0)), some (.int (nI j)), some (.int (nI x)), some (.int (nI y)), none] (by decide) rfl (Nat.le_of_ble_eq_true rfl) rfl (Lc.av (av := [.ref (A 0 0), .int (nI j), .int (nI x), .int (nI y)]) (k := 1) rfl) ?_
  intro σ F hl hr hname
  have F : Fx ω σ cX4_move 5 wsX4_move RX4 rmX4_move := F
  obtain ⟨hX, hB, hA, hA4, hk, hWP, hZ, hR, hO⟩ := id hC
  have hn : n ≤ 24 := hB.1
  have hW : ∀ i j, B i j < 128 := hB.2.1
  obtain ⟨⟨ρ2, hρ20, hρ2⟩, -⟩ := id hO2
  refine v_aload_n F dX4_move_0 rfl rfl ?_
  refine v_iload_n F dX4_move_1 rfl ?_
  refine v_callV F 1 [_] rfl rfl rfl ((c_presentBox_ok (by rw [hl]; exact hl9) hX hB hj hg).noX (fun _ h => h)) gX4_move_X4_presentBox rfl hd_X4_presentBox ⟨⟨rfl, rfl⟩, ⟨(Nat.le_of_ble_eq_true rfl), (Nat.le_of_ble_eq_true rfl)⟩, ⟨(Nat.le_of_ble_eq_true rfl), (Nat.le_of_ble_eq_true rfl)⟩, (Nat.le_of_ble_eq_true rfl)⟩ hX.x rfl dX4_move_2 (fun v2 M2 q2 => ?_)
  obtain ⟨rfl, e2⟩ := q2
  replace e2 := e2.symm
  subst e2
  refine v_astore F dX4_move_5 rfl (Nat.le_of_ble_eq_true rfl) (ok2_d rfl) ?_
  refine v_iload_n F dX4_move_7 rfl ?_
  refine v_iload_n F dX4_move_8 rfl ?_
  refine v_aload F dX4_move_9 rfl rfl ?_
  refine v_get F 1 5 fo_X4_move_77 dX4_move_11 (hX.box hj) rfl ?_
  refine v_aload F dX4_move_14 rfl rfl ?_
  refine v_get F 1 6 fo_X4_move_80 dX4_move_16 (hX.box hj) rfl ?_
  refine v_callS F 4 [_, _, _, _] rfl rfl rfl ((c_checkWithinPage_ok (by rw [hl]; exact hl9) h1 h2 h3 h4).noX (fun _ h => h)) gX4_move_X4_checkWithinPage rfl hd_X4_checkWithinPage ⟨⟨rfl, rfl⟩, ⟨(Nat.le_of_ble_eq_true rfl), (Nat.le_of_ble_eq_true rfl)⟩, ⟨(Nat.le_of_ble_eq_true rfl), (Nat.le_of_ble_eq_true rfl)⟩, (Nat.le_of_ble_eq_true rfl)⟩ dX4_move_19 (fun v19 M19 q19 => ?_)
  obtain ⟨rfl, e19⟩ := q19
  replace e19 := e19.symm
  subst e19
  refine v_aload F dX4_move_22 rfl rfl ?_
  refine v_iload_n F dX4_move_24 rfl ?_
  refine v_put F 1 3 fp_X4_move_83 dX4_move_25 (hX.box hj) rfl rfl (Nat.le_of_ble_eq_true rfl) ?_
  have e1 : (bxF A B j).set 3 (.int (nI x)) = bxF A (u2 B j 1 x) j := by simp [bxF, u2]
  rw [e1]
  have hX1 := hX.setB (B' := u2 B j 1 x) hn hj (fun q hqj => by simp [bxF, u2, hqj])
  refine v_aload F dX4_move_28 rfl rfl ?_
  refine v_iload_n F dX4_move_30 rfl ?_
  refine v_put F 1 4 fp_X4_move_86 dX4_move_31 (hX1.box hj) rfl rfl (Nat.le_of_ble_eq_true rfl) ?_
  have e2 : (bxF A (u2 B j 1 x) j).set 4 (.int (nI y)) = bxF A (mvB B j x y) j := by simp [bxF, u2, mvB]
  rw [e2]
  have hX2 := hX1.setB (B' := mvB B j x y) hn hj (fun q hqj => by simp [bxF, u2, mvB, hqj])
  refine v_aload_n F dX4_move_34 rfl rfl ?_
  refine v_aload F dX4_move_35 rfl rfl ?_
  refine v_get F 1 1 fo_X4_move_89 dX4_move_37 (hX2.box hj) rfl ?_
  refine V.toI (show nI ((mvB B j x y) j 0) = nI (B j 0) by simp [mvB, u2]) ?_
  refine v_callV F 1 [_] rfl rfl rfl (c_readAgain (by rw [hl]; exact hl9) hX2 hB2 hA4 hk hWP hA hp5 hZ ρ2 hρ20 hρ2 (hO2.2 _ hp5).1 (hO2.2 _ hp5).2 (hR _ hp5).1 (hO.2 _ hp5).1 (hR _ hp5).2 (hO.2 _ hp5).2) gX4_move_X4_readAgain rfl hd_X4_readAgain ⟨⟨rfl, rfl⟩, ⟨(Nat.le_of_ble_eq_true rfl), (Nat.le_of_ble_eq_true rfl)⟩, ⟨(Nat.le_of_ble_eq_true rfl), (Nat.le_of_ble_eq_true rfl)⟩, (Nat.le_of_ble_eq_true rfl)⟩ hX2.x rfl dX4_move_40 (fun v40 M40 q40 => ?_)
  obtain ⟨R9, P9, c9, rfl, hX9, hF9, g1, g2, g3, g4⟩ := q40
  exact v_iret F hr dX4_move_43 (Nat.le_of_ble_eq_true rfl) (Nat.le_of_ble_eq_true rfl) ⟨R9, P9, c9, rfl, hC.next hX9 hB2 hO2 hq g1 g2 g3 (by rcases g4 with h | h; exact Or.inl h; exact Or.inr h), (((Fr.rf.up (hZ 1 j)).up (hZ 1 j)).tr hF9), by rcases g4 with h | h; exact Or.inl h; exact Or.inr h⟩
set_option maxHeartbeats 4000000 in
set_option maxRecDepth 100000 in
theorem c_move_gone {l : Launch} {ω : Om} {M : MM} (hl9 : l.stackTraces = false) {A B P : FF} {n k : Nat} {R : Nat → (Nat → Int32) × Nat} {Z : Nat → Prop} (hC : CI ω A B P n k R Z M) {j : Nat} (hj : j < n) (hg : B j 8 ≠ 0) {x y : Int32} : CtX l ω yX4_move wsX4_move rmX4_move [.ref (A 0 0), .int (nI j), .int x, .int y] M (fun v M9 => False) (fun E => E = "java/lang/IndexOutOfBoundsException") 3 18 := by
  refine CtX.ofV (cc := cX4_move) (maxL := 5) (ret := (some .int)) [some (.ref (A 0 0)), some (.int (nI j)), some (.int x), some (.int y), none] (by decide) rfl (Nat.le_of_ble_eq_true rfl) rfl (Lc.av (av := [.ref (A 0 0), .int (nI j), .int x, .int y]) (k := 1) rfl) ?_
  intro σ F hl hr hnx
  have hl : σ.2.1.stackTraces = false := by rw [hl]; exact hl9
  have F : Fx ω σ cX4_move 5 wsX4_move RX4 rmX4_move := F
  obtain ⟨hX, hB, hA, hA4, hk, hWP, hZ, hR, hO⟩ := id hC
  have hn : n ≤ 24 := hB.1
  have hW : ∀ i j, B i j < 128 := hB.2.1
  refine v_aload_n F dX4_move_0 rfl rfl ?_
  refine v_iload_n F dX4_move_1 rfl ?_
  refine v_callVX F 1 [_] rfl rfl rfl (c_presentBox_gone hl hX hB hj hg) gX4_move_X4_presentBox rfl hd_X4_presentBox ⟨⟨rfl, rfl⟩, ⟨(Nat.le_of_ble_eq_true rfl), (Nat.le_of_ble_eq_true rfl)⟩, ⟨(Nat.le_of_ble_eq_true rfl), (Nat.le_of_ble_eq_true rfl)⟩, (Nat.le_of_ble_eq_true rfl)⟩ hX.x rfl dX4_move_2 (fun E h => h) hnx (Nat.le_of_ble_eq_true rfl) (Nat.le_of_ble_eq_true rfl) (fun v2 M2 q2 => ?_)
  exact q2.elim
set_option maxHeartbeats 4000000 in
set_option maxRecDepth 100000 in
theorem c_move_out {l : Launch} {ω : Om} {M : MM} (hl9 : l.stackTraces = false) {A B P : FF} {n k : Nat} {R : Nat → (Nat → Int32) × Nat} {Z : Nat → Prop} (hC : CI ω A B P n k R Z M) {j : Int32} (hj : j < 0 ∨ nI n ≤ j) {x y : Int32} : CtX l ω yX4_move wsX4_move rmX4_move [.ref (A 0 0), .int j, .int x, .int y] M (fun v M9 => False) (fun E => E = "java/lang/IndexOutOfBoundsException") 3 18 := by
  refine CtX.ofV (cc := cX4_move) (maxL := 5) (ret := (some .int)) [some (.ref (A 0 0)), some (.int j), some (.int x), some (.int y), none] (by decide) rfl (Nat.le_of_ble_eq_true rfl) rfl (Lc.av (av := [.ref (A 0 0), .int j, .int x, .int y]) (k := 1) rfl) ?_
  intro σ F hl hr hnx
  have hl : σ.2.1.stackTraces = false := by rw [hl]; exact hl9
  have F : Fx ω σ cX4_move 5 wsX4_move RX4 rmX4_move := F
  obtain ⟨hX, hB, hA, hA4, hk, hWP, hZ, hR, hO⟩ := id hC
  have hn : n ≤ 24 := hB.1
  have hW : ∀ i j, B i j < 128 := hB.2.1
  refine v_aload_n F dX4_move_0 rfl rfl ?_
  refine v_iload_n F dX4_move_1 rfl ?_
  refine v_callVX F 1 [_] rfl rfl rfl (c_presentBox_out hl hX hB hj) gX4_move_X4_presentBox rfl hd_X4_presentBox ⟨⟨rfl, rfl⟩, ⟨(Nat.le_of_ble_eq_true rfl), (Nat.le_of_ble_eq_true rfl)⟩, ⟨(Nat.le_of_ble_eq_true rfl), (Nat.le_of_ble_eq_true rfl)⟩, (Nat.le_of_ble_eq_true rfl)⟩ hX.x rfl dX4_move_2 (fun E h => h) hnx (Nat.le_of_ble_eq_true rfl) (Nat.le_of_ble_eq_true rfl) (fun v2 M2 q2 => ?_)
  exact q2.elim
set_option maxHeartbeats 4000000 in
set_option maxRecDepth 100000 in
theorem c_move_bad {l : Launch} {ω : Om} {M : MM} (hl9 : l.stackTraces = false) {A B P : FF} {n k : Nat} {R : Nat → (Nat → Int32) × Nat} {Z : Nat → Prop} (hC : CI ω A B P n k R Z M) {j : Nat} (hj : j < n) (hg : B j 8 = 0) {x y : Int32} (hb : ¬ inPg x y (nI (B j 3)) (nI (B j 4))) : CtX l ω yX4_move wsX4_move rmX4_move [.ref (A 0 0), .int (nI j), .int x, .int y] M (fun v M9 => False) (fun E => E = "java/lang/IllegalArgumentException") 3 18 := by
  refine CtX.ofV (cc := cX4_move) (maxL := 5) (ret := (some .int)) [some (.ref (A 0 0)), some (.int (nI j)), some (.int x), some (.int y), none] (by decide) rfl (Nat.le_of_ble_eq_true rfl) rfl (Lc.av (av := [.ref (A 0 0), .int (nI j), .int x, .int y]) (k := 1) rfl) ?_
  intro σ F hl hr hnx
  have hl : σ.2.1.stackTraces = false := by rw [hl]; exact hl9
  have F : Fx ω σ cX4_move 5 wsX4_move RX4 rmX4_move := F
  obtain ⟨hX, hB, hA, hA4, hk, hWP, hZ, hR, hO⟩ := id hC
  have hn : n ≤ 24 := hB.1
  have hW : ∀ i j, B i j < 128 := hB.2.1
  refine v_aload_n F dX4_move_0 rfl rfl ?_
  refine v_iload_n F dX4_move_1 rfl ?_
  refine v_callVX F 1 [_] rfl rfl rfl (c_presentBox_ok hl hX hB hj hg) gX4_move_X4_presentBox rfl hd_X4_presentBox ⟨⟨rfl, rfl⟩, ⟨(Nat.le_of_ble_eq_true rfl), (Nat.le_of_ble_eq_true rfl)⟩, ⟨(Nat.le_of_ble_eq_true rfl), (Nat.le_of_ble_eq_true rfl)⟩, (Nat.le_of_ble_eq_true rfl)⟩ hX.x rfl dX4_move_2 (fun E h => h.elim) hnx (Nat.le_of_ble_eq_true rfl) (Nat.le_of_ble_eq_true rfl) (fun v2 M2 q2 => ?_)
  obtain ⟨rfl, e2⟩ := q2
  replace e2 := e2.symm
  subst e2
  refine v_astore F dX4_move_5 rfl (Nat.le_of_ble_eq_true rfl) (ok2_d rfl) ?_
  refine v_iload_n F dX4_move_7 rfl ?_
  refine v_iload_n F dX4_move_8 rfl ?_
  refine v_aload F dX4_move_9 rfl rfl ?_
  refine v_get F 1 5 fo_X4_move_77 dX4_move_11 (hX.box hj) rfl ?_
  refine v_aload F dX4_move_14 rfl rfl ?_
  refine v_get F 1 6 fo_X4_move_80 dX4_move_16 (hX.box hj) rfl ?_
  refine v_callSX F 4 [_, _, _, _] rfl rfl rfl (c_checkWithinPage_bad hl hb) gX4_move_X4_checkWithinPage rfl hd_X4_checkWithinPage ⟨⟨rfl, rfl⟩, ⟨(Nat.le_of_ble_eq_true rfl), (Nat.le_of_ble_eq_true rfl)⟩, ⟨(Nat.le_of_ble_eq_true rfl), (Nat.le_of_ble_eq_true rfl)⟩, (Nat.le_of_ble_eq_true rfl)⟩ dX4_move_19 (fun E h => h) hnx (Nat.le_of_ble_eq_true rfl) (Nat.le_of_ble_eq_true rfl) (fun v19 M19 q19 => ?_)
  exact q19.elim
def rmX4_resize : Room := { frames := 73, cells := 3, slots := 18, locals := 1668 }
theorem hd_X4_resize : yX4_resize.cls = (RX4, TX4, 7).1 ∧ yX4_resize.cls ≠ "java/lang/invoke/MethodHandle" ∧ yX4_resize.cls ≠ "java/lang/invoke/VarHandle" ∧ (parseMethodDescriptor yX4_resize.desc).map (fun d => d.parameters.length) = some 3 := by decide +kernel
theorem fo_X4_resize_83 : FO wsX4_resize RX4 83 1 3 := ⟨_, _, _, rfl, by decide, by decide +kernel, by decide +kernel⟩
theorem fo_X4_resize_86 : FO wsX4_resize RX4 86 1 4 := ⟨_, _, _, rfl, by decide, by decide +kernel, by decide +kernel⟩
theorem fo_X4_resize_89 : FO wsX4_resize RX4 89 1 1 := ⟨_, _, _, rfl, by decide, by decide +kernel, by decide +kernel⟩
theorem fp_X4_resize_77 : FP wsX4_resize RX4 77 1 5 .int := ⟨_, _, _, tyX1, rfl, by decide, by decide +kernel, by decide +kernel, tyX1_ok, nmX1, rfl, by decide +kernel⟩
theorem fp_X4_resize_80 : FP wsX4_resize RX4 80 1 6 .int := ⟨_, _, _, tyX1, rfl, by decide, by decide +kernel, by decide +kernel, tyX1_ok, nmX1, rfl, by decide +kernel⟩
set_option maxHeartbeats 4000000 in
set_option maxRecDepth 100000 in
theorem c_resize_ok {l : Launch} {ω : Om} {M : MM} (hl9 : l.stackTraces = false) {A B P : FF} {n k : Nat} {R : Nat → (Nat → Int32) × Nat} {Z : Nat → Prop} (hC : CI ω A B P n k R Z M) {j : Nat} (hj : j < n) (hg : B j 8 = 0) (hp5 : B j 0 < 5) {x y : Nat} (h1 : 1 ≤ x) (h2 : 1 ≤ y) (h3 : B j 1 + x ≤ 60) (h4 : B j 2 + y ≤ 80) (hB2 : WB (szB B j x y) n) (hO2 : PF (szB B j x y) n) (hq : ∀ q, q < 5 → q ≠ B j 0 → ordF (szB B j x y) n q = ordF B n q) : Ct l ω yX4_resize wsX4_resize rmX4_resize [.ref (A 0 0), .int (nI j), .int (nI x), .int (nI y)] M (fun v M9 => ∃ R9 P9 c9, v = some (.int (nI c9)) ∧ CI ω A (szB B j x y) P9 n k R9 Z M9 ∧ Fr Z M M9 ∧ Fall P (B j 0) k (ordF (szB B j x y) n (B j 0) = ordF B n (B j 0)) c9 P9) 3 18 := by
  refine Ct.ofV (cc := cX4_resize) (maxL := 5) (ret := (some .int)) [some (.ref (A 0 0)), some (.int (nI j)), some (.int (nI x)), some (.int (nI y)), none] (by decide) rfl (Nat.le_of_ble_eq_true rfl) rfl (Lc.av (av := [.ref (A 0 0), .int (nI j), .int (nI x), .int (nI y)]) (k := 1) rfl) ?_
  intro σ F hl hr hname
  have F : Fx ω σ cX4_resize 5 wsX4_resize RX4 rmX4_resize := F
  obtain ⟨hX, hB, hA, hA4, hk, hWP, hZ, hR, hO⟩ := id hC
  have hn : n ≤ 24 := hB.1
  have hW : ∀ i j, B i j < 128 := hB.2.1
  obtain ⟨⟨ρ2, hρ20, hρ2⟩, -⟩ := id hO2
  refine v_aload_n F dX4_resize_0 rfl rfl ?_
  refine v_iload_n F dX4_resize_1 rfl ?_
  refine v_callV F 1 [_] rfl rfl rfl ((c_presentBox_ok (by rw [hl]; exact hl9) hX hB hj hg).noX (fun _ h => h)) gX4_resize_X4_presentBox rfl hd_X4_presentBox ⟨⟨rfl, rfl⟩, ⟨(Nat.le_of_ble_eq_true rfl), (Nat.le_of_ble_eq_true rfl)⟩, ⟨(Nat.le_of_ble_eq_true rfl), (Nat.le_of_ble_eq_true rfl)⟩, (Nat.le_of_ble_eq_true rfl)⟩ hX.x rfl dX4_resize_2 (fun v2 M2 q2 => ?_)
  obtain ⟨rfl, e2⟩ := q2
  replace e2 := e2.symm
  subst e2
  refine v_astore F dX4_resize_5 rfl (Nat.le_of_ble_eq_true rfl) (ok2_d rfl) ?_
  refine v_aload F dX4_resize_7 rfl rfl ?_
  refine v_get F 1 3 fo_X4_resize_83 dX4_resize_9 (hX.box hj) rfl ?_
  refine v_aload F dX4_resize_12 rfl rfl ?_
  refine v_get F 1 4 fo_X4_resize_86 dX4_resize_14 (hX.box hj) rfl ?_
  refine v_iload_n F dX4_resize_17 rfl ?_
  refine v_iload_n F dX4_resize_18 rfl ?_
  refine v_callS F 4 [_, _, _, _] rfl rfl rfl ((c_checkWithinPage_ok (by rw [hl]; exact hl9) h1 h2 h3 h4).noX (fun _ h => h)) gX4_resize_X4_checkWithinPage rfl hd_X4_checkWithinPage ⟨⟨rfl, rfl⟩, ⟨(Nat.le_of_ble_eq_true rfl), (Nat.le_of_ble_eq_true rfl)⟩, ⟨(Nat.le_of_ble_eq_true rfl), (Nat.le_of_ble_eq_true rfl)⟩, (Nat.le_of_ble_eq_true rfl)⟩ dX4_resize_19 (fun v19 M19 q19 => ?_)
  obtain ⟨rfl, e19⟩ := q19
  replace e19 := e19.symm
  subst e19
  refine v_aload F dX4_resize_22 rfl rfl ?_
  refine v_iload_n F dX4_resize_24 rfl ?_
  refine v_put F 1 5 fp_X4_resize_77 dX4_resize_25 (hX.box hj) rfl rfl (Nat.le_of_ble_eq_true rfl) ?_
  have e1 : (bxF A B j).set 5 (.int (nI x)) = bxF A (u2 B j 3 x) j := by simp [bxF, u2]
  rw [e1]
  have hX1 := hX.setB (B' := u2 B j 3 x) hn hj (fun q hqj => by simp [bxF, u2, hqj])
  refine v_aload F dX4_resize_28 rfl rfl ?_
  refine v_iload_n F dX4_resize_30 rfl ?_
  refine v_put F 1 6 fp_X4_resize_80 dX4_resize_31 (hX1.box hj) rfl rfl (Nat.le_of_ble_eq_true rfl) ?_
  have e2 : (bxF A (u2 B j 3 x) j).set 6 (.int (nI y)) = bxF A (szB B j x y) j := by simp [bxF, u2, szB]
  rw [e2]
  have hX2 := hX1.setB (B' := szB B j x y) hn hj (fun q hqj => by simp [bxF, u2, szB, hqj])
  refine v_aload_n F dX4_resize_34 rfl rfl ?_
  refine v_aload F dX4_resize_35 rfl rfl ?_
  refine v_get F 1 1 fo_X4_resize_89 dX4_resize_37 (hX2.box hj) rfl ?_
  refine V.toI (show nI ((szB B j x y) j 0) = nI (B j 0) by simp [szB, u2]) ?_
  refine v_callV F 1 [_] rfl rfl rfl (c_readAgain (by rw [hl]; exact hl9) hX2 hB2 hA4 hk hWP hA hp5 hZ ρ2 hρ20 hρ2 (hO2.2 _ hp5).1 (hO2.2 _ hp5).2 (hR _ hp5).1 (hO.2 _ hp5).1 (hR _ hp5).2 (hO.2 _ hp5).2) gX4_resize_X4_readAgain rfl hd_X4_readAgain ⟨⟨rfl, rfl⟩, ⟨(Nat.le_of_ble_eq_true rfl), (Nat.le_of_ble_eq_true rfl)⟩, ⟨(Nat.le_of_ble_eq_true rfl), (Nat.le_of_ble_eq_true rfl)⟩, (Nat.le_of_ble_eq_true rfl)⟩ hX2.x rfl dX4_resize_40 (fun v40 M40 q40 => ?_)
  obtain ⟨R9, P9, c9, rfl, hX9, hF9, g1, g2, g3, g4⟩ := q40
  exact v_iret F hr dX4_resize_43 (Nat.le_of_ble_eq_true rfl) (Nat.le_of_ble_eq_true rfl) ⟨R9, P9, c9, rfl, hC.next hX9 hB2 hO2 hq g1 g2 g3 (by rcases g4 with h | h; exact Or.inl h; exact Or.inr h), (((Fr.rf.up (hZ 1 j)).up (hZ 1 j)).tr hF9), by rcases g4 with h | h; exact Or.inl h; exact Or.inr h⟩
set_option maxHeartbeats 4000000 in
set_option maxRecDepth 100000 in
theorem c_resize_gone {l : Launch} {ω : Om} {M : MM} (hl9 : l.stackTraces = false) {A B P : FF} {n k : Nat} {R : Nat → (Nat → Int32) × Nat} {Z : Nat → Prop} (hC : CI ω A B P n k R Z M) {j : Nat} (hj : j < n) (hg : B j 8 ≠ 0) {x y : Int32} : CtX l ω yX4_resize wsX4_resize rmX4_resize [.ref (A 0 0), .int (nI j), .int x, .int y] M (fun v M9 => False) (fun E => E = "java/lang/IndexOutOfBoundsException") 3 18 := by
  refine CtX.ofV (cc := cX4_resize) (maxL := 5) (ret := (some .int)) [some (.ref (A 0 0)), some (.int (nI j)), some (.int x), some (.int y), none] (by decide) rfl (Nat.le_of_ble_eq_true rfl) rfl (Lc.av (av := [.ref (A 0 0), .int (nI j), .int x, .int y]) (k := 1) rfl) ?_
  intro σ F hl hr hnx
  have hl : σ.2.1.stackTraces = false := by rw [hl]; exact hl9
  have F : Fx ω σ cX4_resize 5 wsX4_resize RX4 rmX4_resize := F
  obtain ⟨hX, hB, hA, hA4, hk, hWP, hZ, hR, hO⟩ := id hC
  have hn : n ≤ 24 := hB.1
  have hW : ∀ i j, B i j < 128 := hB.2.1
  refine v_aload_n F dX4_resize_0 rfl rfl ?_
  refine v_iload_n F dX4_resize_1 rfl ?_
  refine v_callVX F 1 [_] rfl rfl rfl (c_presentBox_gone hl hX hB hj hg) gX4_resize_X4_presentBox rfl hd_X4_presentBox ⟨⟨rfl, rfl⟩, ⟨(Nat.le_of_ble_eq_true rfl), (Nat.le_of_ble_eq_true rfl)⟩, ⟨(Nat.le_of_ble_eq_true rfl), (Nat.le_of_ble_eq_true rfl)⟩, (Nat.le_of_ble_eq_true rfl)⟩ hX.x rfl dX4_resize_2 (fun E h => h) hnx (Nat.le_of_ble_eq_true rfl) (Nat.le_of_ble_eq_true rfl) (fun v2 M2 q2 => ?_)
  exact q2.elim
set_option maxHeartbeats 4000000 in
set_option maxRecDepth 100000 in
theorem c_resize_out {l : Launch} {ω : Om} {M : MM} (hl9 : l.stackTraces = false) {A B P : FF} {n k : Nat} {R : Nat → (Nat → Int32) × Nat} {Z : Nat → Prop} (hC : CI ω A B P n k R Z M) {j : Int32} (hj : j < 0 ∨ nI n ≤ j) {x y : Int32} : CtX l ω yX4_resize wsX4_resize rmX4_resize [.ref (A 0 0), .int j, .int x, .int y] M (fun v M9 => False) (fun E => E = "java/lang/IndexOutOfBoundsException") 3 18 := by
  refine CtX.ofV (cc := cX4_resize) (maxL := 5) (ret := (some .int)) [some (.ref (A 0 0)), some (.int j), some (.int x), some (.int y), none] (by decide) rfl (Nat.le_of_ble_eq_true rfl) rfl (Lc.av (av := [.ref (A 0 0), .int j, .int x, .int y]) (k := 1) rfl) ?_
  intro σ F hl hr hnx
  have hl : σ.2.1.stackTraces = false := by rw [hl]; exact hl9
  have F : Fx ω σ cX4_resize 5 wsX4_resize RX4 rmX4_resize := F
  obtain ⟨hX, hB, hA, hA4, hk, hWP, hZ, hR, hO⟩ := id hC
  have hn : n ≤ 24 := hB.1
  have hW : ∀ i j, B i j < 128 := hB.2.1
  refine v_aload_n F dX4_resize_0 rfl rfl ?_
  refine v_iload_n F dX4_resize_1 rfl ?_
  refine v_callVX F 1 [_] rfl rfl rfl (c_presentBox_out hl hX hB hj) gX4_resize_X4_presentBox rfl hd_X4_presentBox ⟨⟨rfl, rfl⟩, ⟨(Nat.le_of_ble_eq_true rfl), (Nat.le_of_ble_eq_true rfl)⟩, ⟨(Nat.le_of_ble_eq_true rfl), (Nat.le_of_ble_eq_true rfl)⟩, (Nat.le_of_ble_eq_true rfl)⟩ hX.x rfl dX4_resize_2 (fun E h => h) hnx (Nat.le_of_ble_eq_true rfl) (Nat.le_of_ble_eq_true rfl) (fun v2 M2 q2 => ?_)
  exact q2.elim
set_option maxHeartbeats 4000000 in
set_option maxRecDepth 100000 in
theorem c_resize_bad {l : Launch} {ω : Om} {M : MM} (hl9 : l.stackTraces = false) {A B P : FF} {n k : Nat} {R : Nat → (Nat → Int32) × Nat} {Z : Nat → Prop} (hC : CI ω A B P n k R Z M) {j : Nat} (hj : j < n) (hg : B j 8 = 0) {x y : Int32} (hb : ¬ inPg (nI (B j 1)) (nI (B j 2)) x y) : CtX l ω yX4_resize wsX4_resize rmX4_resize [.ref (A 0 0), .int (nI j), .int x, .int y] M (fun v M9 => False) (fun E => E = "java/lang/IllegalArgumentException") 3 18 := by
  refine CtX.ofV (cc := cX4_resize) (maxL := 5) (ret := (some .int)) [some (.ref (A 0 0)), some (.int (nI j)), some (.int x), some (.int y), none] (by decide) rfl (Nat.le_of_ble_eq_true rfl) rfl (Lc.av (av := [.ref (A 0 0), .int (nI j), .int x, .int y]) (k := 1) rfl) ?_
  intro σ F hl hr hnx
  have hl : σ.2.1.stackTraces = false := by rw [hl]; exact hl9
  have F : Fx ω σ cX4_resize 5 wsX4_resize RX4 rmX4_resize := F
  obtain ⟨hX, hB, hA, hA4, hk, hWP, hZ, hR, hO⟩ := id hC
  have hn : n ≤ 24 := hB.1
  have hW : ∀ i j, B i j < 128 := hB.2.1
  refine v_aload_n F dX4_resize_0 rfl rfl ?_
  refine v_iload_n F dX4_resize_1 rfl ?_
  refine v_callVX F 1 [_] rfl rfl rfl (c_presentBox_ok hl hX hB hj hg) gX4_resize_X4_presentBox rfl hd_X4_presentBox ⟨⟨rfl, rfl⟩, ⟨(Nat.le_of_ble_eq_true rfl), (Nat.le_of_ble_eq_true rfl)⟩, ⟨(Nat.le_of_ble_eq_true rfl), (Nat.le_of_ble_eq_true rfl)⟩, (Nat.le_of_ble_eq_true rfl)⟩ hX.x rfl dX4_resize_2 (fun E h => h.elim) hnx (Nat.le_of_ble_eq_true rfl) (Nat.le_of_ble_eq_true rfl) (fun v2 M2 q2 => ?_)
  obtain ⟨rfl, e2⟩ := q2
  replace e2 := e2.symm
  subst e2
  refine v_astore F dX4_resize_5 rfl (Nat.le_of_ble_eq_true rfl) (ok2_d rfl) ?_
  refine v_aload F dX4_resize_7 rfl rfl ?_
  refine v_get F 1 3 fo_X4_resize_83 dX4_resize_9 (hX.box hj) rfl ?_
  refine v_aload F dX4_resize_12 rfl rfl ?_
  refine v_get F 1 4 fo_X4_resize_86 dX4_resize_14 (hX.box hj) rfl ?_
  refine v_iload_n F dX4_resize_17 rfl ?_
  refine v_iload_n F dX4_resize_18 rfl ?_
  refine v_callSX F 4 [_, _, _, _] rfl rfl rfl (c_checkWithinPage_bad hl hb) gX4_resize_X4_checkWithinPage rfl hd_X4_checkWithinPage ⟨⟨rfl, rfl⟩, ⟨(Nat.le_of_ble_eq_true rfl), (Nat.le_of_ble_eq_true rfl)⟩, ⟨(Nat.le_of_ble_eq_true rfl), (Nat.le_of_ble_eq_true rfl)⟩, (Nat.le_of_ble_eq_true rfl)⟩ dX4_resize_19 (fun E h => h) hnx (Nat.le_of_ble_eq_true rfl) (Nat.le_of_ble_eq_true rfl) (fun v19 M19 q19 => ?_)
  exact q19.elim
