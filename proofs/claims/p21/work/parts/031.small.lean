/-! readings, pile, approvals, ties -/
theorem loop_up (e : Nat) (T : Nat → Prop) (h : ∀ i, i ≤ e → (i < e → T (i + 1)) → T i) : ∀ i, i ≤ e → T i := by
  intro i hi
  obtain ⟨k, hk⟩ : ∃ k, e = i + k := ⟨e - i, by omega⟩
  induction k generalizing i with
  | zero => exact h i hi (fun q => absurd q (by omega))
  | succ k ih => exact h i hi (fun q => ih (i + 1) (by omega) (by omega))
theorem loop_dn (T : Nat → Prop) (h : ∀ N, (∀ N', N' < N → T N') → T N) : ∀ N, T N := fun N => Nat.strongRecOn N h
def rmX0_holdsFor : Room := { frames := 0, cells := 0, slots := 0, locals := 0 }
theorem hd_X0_holdsFor : yX0_holdsFor.cls = (RX0, TX0, 3).1 ∧ yX0_holdsFor.cls ≠ "java/lang/invoke/MethodHandle" ∧ yX0_holdsFor.cls ≠ "java/lang/invoke/VarHandle" ∧ (parseMethodDescriptor yX0_holdsFor.desc).map (fun d => d.parameters.length) = some 1 := by decide +kernel
theorem fo_X0_holdsFor_7 : FO wsX0_holdsFor RX0 7 0 2 := ⟨_, _, _, rfl, by decide, by decide +kernel, by decide +kernel⟩
theorem fo_X0_holdsFor_17 : FO wsX0_holdsFor RX0 17 0 1 := ⟨_, _, _, rfl, by decide, by decide +kernel, by decide +kernel⟩
set_option maxHeartbeats 4000000 in
set_option maxRecDepth 100000 in
theorem c_X0_holdsFor {l : Launch} {ω : Om} {M : MM} {a i p : Nat} {P : FF} (hW : ∀ i j, P i j < 128) (hp : p < 128) (ha : M a = some (.inr (0, apF P i))) : Ct l ω yX0_holdsFor wsX0_holdsFor rmX0_holdsFor [.ref a, .int (nI p)] M (fun v M9 => v = some (.int (bI (decide (P i 2 ≠ 0 ∧ P i 1 = p)))) ∧ M9 = M) 0 0 := by
  refine Ct.ofV (cc := cX0_holdsFor) (maxL := 2) (ret := (some .boolean)) [some (.ref a), some (.int (nI p))] (by decide) rfl (Nat.le_of_ble_eq_true rfl) rfl (Lc.av (av := [.ref a, .int (nI p)]) (k := 0) rfl) ?_
  intro σ F hl hr hname
  have F : Fx ω σ cX0_holdsFor 2 wsX0_holdsFor RX0 rmX0_holdsFor := F
  refine v_aload_n F dX0_holdsFor_0 rfl rfl ?_
  refine v_get F 0 2 fo_X0_holdsFor_7 dX0_holdsFor_1 ha rfl ?_
  refine v_if_eq_n F 19 dX0_holdsFor_4 (by decide) (by first | omega | exact Nat.lt_trans (hW _ _) (by decide)) (fun c4 => ?_) (fun c4 => ?_)
  · refine v_iconst (v := nI 0) F dX0_holdsFor_19 (by decide) ?_
    exact v_zret F hr dX0_holdsFor_20 rfl (Nat.le_of_ble_eq_true rfl) (Nat.le_of_ble_eq_true rfl) (by first | (refine ⟨zl1 ?_, rfl⟩; simp [*]; done) | (refine ⟨zl1 ?_, rfl⟩; simp [*]; omega) | (refine ⟨zl0 ?_, rfl⟩; simp [*]; done) | (refine ⟨zl0 ?_, rfl⟩; simp [*]; omega))
  · refine v_aload_n F dX0_holdsFor_7 rfl rfl ?_
    refine v_get F 0 1 fo_X0_holdsFor_17 dX0_holdsFor_8 ha rfl ?_
    refine v_iload_n F dX0_holdsFor_11 rfl ?_
    refine v_icmp_ne_n F 19 dX0_holdsFor_12 (by decide) (by first | omega | exact Nat.lt_trans (hW _ _) (by decide)) (by first | omega | exact Nat.lt_trans (hW _ _) (by decide)) (fun c12 => ?_) (fun c12 => ?_)
    · refine v_iconst (v := nI 0) F dX0_holdsFor_19 (by decide) ?_
      exact v_zret F hr dX0_holdsFor_20 rfl (Nat.le_of_ble_eq_true rfl) (Nat.le_of_ble_eq_true rfl) (by first | (refine ⟨zl1 ?_, rfl⟩; simp [*]; done) | (refine ⟨zl1 ?_, rfl⟩; simp [*]; omega) | (refine ⟨zl0 ?_, rfl⟩; simp [*]; done) | (refine ⟨zl0 ?_, rfl⟩; simp [*]; omega))
    · refine v_iconst (v := nI 1) F dX0_holdsFor_15 (by decide) ?_
      refine v_goto F 20 dX0_holdsFor_16 (by decide) ?_
      exact v_zret F hr dX0_holdsFor_20 rfl (Nat.le_of_ble_eq_true rfl) (Nat.le_of_ble_eq_true rfl) (by first | (refine ⟨zl1 ?_, rfl⟩; simp [*]; done) | (refine ⟨zl1 ?_, rfl⟩; simp [*]; omega) | (refine ⟨zl0 ?_, rfl⟩; simp [*]; done) | (refine ⟨zl0 ?_, rfl⟩; simp [*]; omega))
/-- up the ties: from a box x the m-th that is ahead of it, and 1; 0 where there is none -/
def up (B : FF) : Nat → Nat → Nat
  | 0, x => x + 1
  | m + 1, x => match up B m x with
    | 0 => 0
    | y + 1 => B y 6
theorem up_s {B : FF} {m x y : Nat} (h : up B m x = y + 1) : up B (m + 1) x = B y 6 := by simp [up, h]
theorem up_0 {B : FF} {m x : Nat} (h : up B m x = 0) : up B (m + 1) x = 0 := by simp [up, h]
theorem up_z {B : FF} {m x : Nat} (h : up B m x = 0) : ∀ q, m ≤ q → up B q x = 0 := by
  intro q hq
  obtain ⟨k, rfl⟩ : ∃ k, q = m + k := ⟨q - m, by omega⟩
  induction k with
  | zero => exact h
  | succ k ih => exact up_0 (ih (by omega))
def rmX1_comesBehind : Room := { frames := 0, cells := 0, slots := 0, locals := 0 }
theorem hd_X1_comesBehind : yX1_comesBehind.cls = (RX1, TX1, 10).1 ∧ yX1_comesBehind.cls ≠ "java/lang/invoke/MethodHandle" ∧ yX1_comesBehind.cls ≠ "java/lang/invoke/VarHandle" ∧ (parseMethodDescriptor yX1_comesBehind.desc).map (fun d => d.parameters.length) = some 1 := by decide +kernel
theorem fo_X1_comesBehind_15 : FO wsX1_comesBehind RX1 15 1 8 := ⟨_, _, _, rfl, by decide, by decide +kernel, by decide +kernel⟩
set_option maxHeartbeats 4000000 in
set_option maxRecDepth 100000 in
theorem c_X1_comesBehind {l : Launch} {ω : Om} {M : MM} {i t n : Nat} {A B : FF} (hX : ∀ j, j < n → M (A 1 j) = some (.inr (1, bxF A B j))) (hin : ∀ j y, j < n → B j 6 = y + 1 → y < n) (hinj : ∀ x y, x < n → y < n → A 1 x = A 1 y → x = y) (ρ : Nat → Nat) (hρ : ∀ j y, j < n → B j 6 = y + 1 → ρ y < ρ j) (hi : i < n) (ht : t < n) : Ct l ω yX1_comesBehind wsX1_comesBehind rmX1_comesBehind [.ref (A 1 i), .ref (A 1 t)] M (fun v M9 => (∃ b9 : Bool, v = some (.int (bI b9)) ∧ (b9 = true ↔ ∃ q, up B (q + 1) i = t + 1)) ∧ M9 = M) 0 0 := by
  refine Ct.ofV (cc := cX1_comesBehind) (maxL := 3) (ret := (some .boolean)) [some (.ref (A 1 i)), some (.ref (A 1 t)), none] (by decide) rfl (Nat.le_of_ble_eq_true rfl) rfl (Lc.av (av := [.ref (A 1 i), .ref (A 1 t)]) (k := 1) rfl) ?_
  intro σ F hl hr hname
  have F : Fx ω σ cX1_comesBehind 3 wsX1_comesBehind RX1 rmX1_comesBehind := F
  have lp : ∀ N m, (∀ q, q < m → up B (q + 1) i ≠ t + 1) → (∀ y, up B (m + 1) i = y + 1 → y < n ∧ ρ y < N) → V ω σ M [some (.ref (A 1 i)), some (.ref (A 1 t)), some (va_rf (oA A (up B (m + 1) i)))] 0 0 (BQ ω σ (fun v M9 => (∃ b9 : Bool, v = some (.int (bI b9)) ∧ (b9 = true ↔ ∃ q, up B (q + 1) i = t + 1)) ∧ M9 = M) 0 0) 5 [] := by
    refine loop_dn _ (fun N ih => ?_)
    intro m h1 h2
    rcases hc : up B (m + 1) i with _ | y
    · refine v_aload_n F dX1_comesBehind_5 rfl rfl ?_
      refine v_ifnull_n F 24 dX1_comesBehind_6 (by decide) ?_
      refine v_iconst (v := nI 0) F dX1_comesBehind_24 (by decide) ?_
      exact v_zret F hr dX1_comesBehind_25 rfl (Nat.le_of_ble_eq_true rfl) (Nat.le_of_ble_eq_true rfl) ⟨⟨false, rfl, by simp; intro q hq; by_cases hqm : q < m; exact h1 q hqm hq; rw [up_z hc (q + 1) (by omega)] at hq; omega⟩, rfl⟩
    · have hyn := (h2 y hc).1
      refine v_aload_n F dX1_comesBehind_5 rfl rfl ?_
      refine v_ifnull_r F dX1_comesBehind_6 ?_
      refine v_aload_n F dX1_comesBehind_9 rfl rfl ?_
      refine v_aload_n F dX1_comesBehind_10 rfl rfl ?_
      refine v_acmp_ne F (some _) (some _) 16 dX1_comesBehind_11 (by decide) (fun c11 => ?_) (fun c11 => ?_)
      · refine v_aload_n F dX1_comesBehind_16 rfl rfl ?_
        refine v_get_o (o := oA A (B y 6)) F 1 8 fo_X1_comesBehind_15 dX1_comesBehind_17 (hX _ hyn) rfl (fun h17 => ?_) (fun a17 h17 => ?_)
        · refine v_astore_n F dX1_comesBehind_20 rfl (Nat.le_of_ble_eq_true rfl) (ok2_d rfl) ?_
          have hne : ∀ q, q < m + 1 → up B (q + 1) i ≠ t + 1 := by
            intro q hq
            by_cases hqm : q < m
            · exact h1 q hqm
            · rw [show q = m by omega, hc]
              intro he
              exact c11 (by rw [show y = t by omega])
          have hlt := (h2 y hc).2
          refine v_goto F 5 dX1_comesBehind_21 (by decide) ?_
          have hgo := ih (ρ y) hlt (m + 1) hne (fun z hz => ⟨hin y z hyn (by rw [← up_s hc]; exact hz), hρ y z hyn (by rw [← up_s hc]; exact hz)⟩)
          rw [up_s hc, show oA A (B y 6) = _ from h17] at hgo
          exact hgo
        · refine v_astore_n F dX1_comesBehind_20 rfl (Nat.le_of_ble_eq_true rfl) (ok2_d rfl) ?_
          have hne : ∀ q, q < m + 1 → up B (q + 1) i ≠ t + 1 := by
            intro q hq
            by_cases hqm : q < m
            · exact h1 q hqm
            · rw [show q = m by omega, hc]
              intro he
              exact c11 (by rw [show y = t by omega])
          have hlt := (h2 y hc).2
          refine v_goto F 5 dX1_comesBehind_21 (by decide) ?_
          have hgo := ih (ρ y) hlt (m + 1) hne (fun z hz => ⟨hin y z hyn (by rw [← up_s hc]; exact hz), hρ y z hyn (by rw [← up_s hc]; exact hz)⟩)
          rw [up_s hc, show oA A (B y 6) = _ from h17] at hgo
          exact hgo
      · refine v_iconst (v := nI 1) F dX1_comesBehind_14 (by decide) ?_
        exact v_zret F hr dX1_comesBehind_15 rfl (Nat.le_of_ble_eq_true rfl) (Nat.le_of_ble_eq_true rfl) ⟨⟨true, rfl, by simp only [true_iff]; exact ⟨m, by rw [hc, hinj _ _ hyn ht (Option.some.inj c11)]⟩⟩, rfl⟩
  refine v_aload_n F dX1_comesBehind_0 rfl rfl ?_
  refine v_get_o (o := oA A (B i 6)) F 1 8 fo_X1_comesBehind_15 dX1_comesBehind_1 (hX _ hi) rfl (fun h1 => ?_) (fun a1 h1 => ?_)
  · refine v_astore_n F dX1_comesBehind_4 rfl (Nat.le_of_ble_eq_true rfl) (ok2_d rfl) ?_
    have hgo := lp (ρ i) 0 (fun q hq => absurd hq (Nat.not_lt_zero _)) (fun z hz => ⟨hin i z hi hz, hρ i z hi hz⟩)
    rw [show up B (0 + 1) i = B i 6 from rfl, show oA A (B i 6) = _ from h1] at hgo
    exact hgo
  · refine v_astore_n F dX1_comesBehind_4 rfl (Nat.le_of_ble_eq_true rfl) (ok2_d rfl) ?_
    have hgo := lp (ρ i) 0 (fun q hq => absurd hq (Nat.not_lt_zero _)) (fun z hz => ⟨hin i z hi hz, hρ i z hi hz⟩)
    rw [show up B (0 + 1) i = B i 6 from rfl, show oA A (B i 6) = _ from h1] at hgo
    exact hgo
def rmX1_loosenFromLeader : Room := { frames := 0, cells := 0, slots := 0, locals := 0 }
theorem hd_X1_loosenFromLeader : yX1_loosenFromLeader.cls = (RX1, TX1, 10).1 ∧ yX1_loosenFromLeader.cls ≠ "java/lang/invoke/MethodHandle" ∧ yX1_loosenFromLeader.cls ≠ "java/lang/invoke/VarHandle" ∧ (parseMethodDescriptor yX1_loosenFromLeader.desc).map (fun d => d.parameters.length) = some 0 := by decide +kernel
theorem fo_X1_loosenFromLeader_15 : FO wsX1_loosenFromLeader RX1 15 1 8 := ⟨_, _, _, rfl, by decide, by decide +kernel, by decide +kernel⟩
set_option maxHeartbeats 4000000 in
set_option maxRecDepth 100000 in
theorem c_X1_loosenFromLeader_0 {l : Launch} {ω : Om} {M : MM} {i : Nat} {A B : FF} (hb : M (A 1 i) = some (.inr (1, bxF A B i))) (h0 : B i 6 = 0) : Ct l ω yX1_loosenFromLeader wsX1_loosenFromLeader rmX1_loosenFromLeader [.ref (A 1 i)] M (fun v M9 => v = none ∧ M9 = M) 0 0 := by
  refine Ct.ofV (cc := cX1_loosenFromLeader) (maxL := 1) (ret := none) [some (.ref (A 1 i))] (by decide) rfl (Nat.le_of_ble_eq_true rfl) rfl (Lc.av (av := [.ref (A 1 i)]) (k := 0) rfl) ?_
  intro σ F hl hr hname
  have F : Fx ω σ cX1_loosenFromLeader 1 wsX1_loosenFromLeader RX1 rmX1_loosenFromLeader := F
  refine v_aload_n F dX1_loosenFromLeader_0 rfl rfl ?_
  refine v_get F 1 8 fo_X1_loosenFromLeader_15 dX1_loosenFromLeader_1 (hb.trans (by rw [show bxF A B i = (bxF A B i).set 8 .null by simp [bxF, h0, oA, va_rf]])) rfl ?_
  refine v_ifnull_n F 20 dX1_loosenFromLeader_4 (by decide) ?_
  exact v_vret F hr dX1_loosenFromLeader_20 (Nat.le_of_ble_eq_true rfl) (Nat.le_of_ble_eq_true rfl) ⟨rfl, rfl⟩
theorem fp_X1_loosenFromLeader_15 : FP wsX1_loosenFromLeader RX1 15 1 8 (.object "Readingorder$Box") := ⟨_, _, _, tyX1, rfl, by decide, by decide +kernel, by decide +kernel, tyX1_ok, nmX1, rfl, by decide +kernel⟩
theorem fp_X1_loosenFromLeader_19 : FP wsX1_loosenFromLeader RX1 19 1 9 (.object "Readingorder$Box") := ⟨_, _, _, tyX1, rfl, by decide, by decide +kernel, by decide +kernel, tyX1_ok, nmX1, rfl, by decide +kernel⟩
set_option maxHeartbeats 4000000 in
set_option maxRecDepth 100000 in
theorem c_X1_loosenFromLeader_1 {l : Launch} {ω : Om} {M : MM} {i : Nat} {A B : FF} (hb : M (A 1 i) = some (.inr (1, bxF A B i))) {j : Nat} (hb2 : M (A 1 j) = some (.inr (1, bxF A B j))) (hne : A 1 i ≠ A 1 j) (h1 : B i 6 = j + 1) : Ct l ω yX1_loosenFromLeader wsX1_loosenFromLeader rmX1_loosenFromLeader [.ref (A 1 i)] M (fun v M9 => v = none ∧ M9 = mup (mup M (A 1 j) (.inr (1, (bxF A B j).set 9 .null))) (A 1 i) (.inr (1, (bxF A B i).set 8 .null))) 0 0 := by
  refine Ct.ofV (cc := cX1_loosenFromLeader) (maxL := 1) (ret := none) [some (.ref (A 1 i))] (by decide) rfl (Nat.le_of_ble_eq_true rfl) rfl (Lc.av (av := [.ref (A 1 i)]) (k := 0) rfl) ?_
  intro σ F hl hr hname
  have F : Fx ω σ cX1_loosenFromLeader 1 wsX1_loosenFromLeader RX1 rmX1_loosenFromLeader := F
  have hb1 : M (A 1 i) = some (.inr (1, (bxF A B i).set 8 (.ref (A 1 j)))) := hb.trans (by rw [show (bxF A B i).set 8 (.ref (A 1 j)) = bxF A B i by simp [bxF, h1, oA, va_rf]])
  refine v_aload_n F dX1_loosenFromLeader_0 rfl rfl ?_
  refine v_get F 1 8 fo_X1_loosenFromLeader_15 dX1_loosenFromLeader_1 hb1 rfl ?_
  refine v_ifnull_r F dX1_loosenFromLeader_4 ?_
  refine v_aload_n F dX1_loosenFromLeader_7 rfl rfl ?_
  refine v_get F 1 8 fo_X1_loosenFromLeader_15 dX1_loosenFromLeader_8 hb1 rfl ?_
  refine v_null F dX1_loosenFromLeader_11 ?_
  refine v_put F 1 9 fp_X1_loosenFromLeader_19 dX1_loosenFromLeader_12 hb2 rfl rfl (Nat.le_of_ble_eq_true rfl) ?_
  refine v_aload_n F dX1_loosenFromLeader_15 rfl rfl ?_
  refine v_null F dX1_loosenFromLeader_16 ?_
  refine v_put F 1 8 fp_X1_loosenFromLeader_15 dX1_loosenFromLeader_17 ((mup_n hne).trans hb) rfl rfl (Nat.le_of_ble_eq_true rfl) ?_
  exact v_vret F hr dX1_loosenFromLeader_20 (Nat.le_of_ble_eq_true rfl) (Nat.le_of_ble_eq_true rfl) ⟨rfl, rfl⟩
def rmX1_loosenFromFollower : Room := { frames := 0, cells := 0, slots := 0, locals := 0 }
theorem hd_X1_loosenFromFollower : yX1_loosenFromFollower.cls = (RX1, TX1, 10).1 ∧ yX1_loosenFromFollower.cls ≠ "java/lang/invoke/MethodHandle" ∧ yX1_loosenFromFollower.cls ≠ "java/lang/invoke/VarHandle" ∧ (parseMethodDescriptor yX1_loosenFromFollower.desc).map (fun d => d.parameters.length) = some 0 := by decide +kernel
theorem fo_X1_loosenFromFollower_19 : FO wsX1_loosenFromFollower RX1 19 1 9 := ⟨_, _, _, rfl, by decide, by decide +kernel, by decide +kernel⟩
set_option maxHeartbeats 4000000 in
set_option maxRecDepth 100000 in
theorem c_X1_loosenFromFollower_0 {l : Launch} {ω : Om} {M : MM} {i : Nat} {A B : FF} (hb : M (A 1 i) = some (.inr (1, bxF A B i))) (h0 : B i 7 = 0) : Ct l ω yX1_loosenFromFollower wsX1_loosenFromFollower rmX1_loosenFromFollower [.ref (A 1 i)] M (fun v M9 => v = none ∧ M9 = M) 0 0 := by
  refine Ct.ofV (cc := cX1_loosenFromFollower) (maxL := 1) (ret := none) [some (.ref (A 1 i))] (by decide) rfl (Nat.le_of_ble_eq_true rfl) rfl (Lc.av (av := [.ref (A 1 i)]) (k := 0) rfl) ?_
  intro σ F hl hr hname
  have F : Fx ω σ cX1_loosenFromFollower 1 wsX1_loosenFromFollower RX1 rmX1_loosenFromFollower := F
  refine v_aload_n F dX1_loosenFromFollower_0 rfl rfl ?_
  refine v_get F 1 9 fo_X1_loosenFromFollower_19 dX1_loosenFromFollower_1 (hb.trans (by rw [show bxF A B i = (bxF A B i).set 9 .null by simp [bxF, h0, oA, va_rf]])) rfl ?_
  refine v_ifnull_n F 20 dX1_loosenFromFollower_4 (by decide) ?_
  exact v_vret F hr dX1_loosenFromFollower_20 (Nat.le_of_ble_eq_true rfl) (Nat.le_of_ble_eq_true rfl) ⟨rfl, rfl⟩
theorem fp_X1_loosenFromFollower_15 : FP wsX1_loosenFromFollower RX1 15 1 8 (.object "Readingorder$Box") := ⟨_, _, _, tyX1, rfl, by decide, by decide +kernel, by decide +kernel, tyX1_ok, nmX1, rfl, by decide +kernel⟩
theorem fp_X1_loosenFromFollower_19 : FP wsX1_loosenFromFollower RX1 19 1 9 (.object "Readingorder$Box") := ⟨_, _, _, tyX1, rfl, by decide, by decide +kernel, by decide +kernel, tyX1_ok, nmX1, rfl, by decide +kernel⟩
set_option maxHeartbeats 4000000 in
set_option maxRecDepth 100000 in
theorem c_X1_loosenFromFollower_1 {l : Launch} {ω : Om} {M : MM} {i : Nat} {A B : FF} (hb : M (A 1 i) = some (.inr (1, bxF A B i))) {j : Nat} (hb2 : M (A 1 j) = some (.inr (1, bxF A B j))) (hne : A 1 i ≠ A 1 j) (h1 : B i 7 = j + 1) : Ct l ω yX1_loosenFromFollower wsX1_loosenFromFollower rmX1_loosenFromFollower [.ref (A 1 i)] M (fun v M9 => v = none ∧ M9 = mup (mup M (A 1 j) (.inr (1, (bxF A B j).set 8 .null))) (A 1 i) (.inr (1, (bxF A B i).set 9 .null))) 0 0 := by
  refine Ct.ofV (cc := cX1_loosenFromFollower) (maxL := 1) (ret := none) [some (.ref (A 1 i))] (by decide) rfl (Nat.le_of_ble_eq_true rfl) rfl (Lc.av (av := [.ref (A 1 i)]) (k := 0) rfl) ?_
  intro σ F hl hr hname
  have F : Fx ω σ cX1_loosenFromFollower 1 wsX1_loosenFromFollower RX1 rmX1_loosenFromFollower := F
  have hb1 : M (A 1 i) = some (.inr (1, (bxF A B i).set 9 (.ref (A 1 j)))) := hb.trans (by rw [show (bxF A B i).set 9 (.ref (A 1 j)) = bxF A B i by simp [bxF, h1, oA, va_rf]])
  refine v_aload_n F dX1_loosenFromFollower_0 rfl rfl ?_
  refine v_get F 1 9 fo_X1_loosenFromFollower_19 dX1_loosenFromFollower_1 hb1 rfl ?_
  refine v_ifnull_r F dX1_loosenFromFollower_4 ?_
  refine v_aload_n F dX1_loosenFromFollower_7 rfl rfl ?_
  refine v_get F 1 9 fo_X1_loosenFromFollower_19 dX1_loosenFromFollower_8 hb1 rfl ?_
  refine v_null F dX1_loosenFromFollower_11 ?_
  refine v_put F 1 8 fp_X1_loosenFromFollower_15 dX1_loosenFromFollower_12 hb2 rfl rfl (Nat.le_of_ble_eq_true rfl) ?_
  refine v_aload_n F dX1_loosenFromFollower_15 rfl rfl ?_
  refine v_null F dX1_loosenFromFollower_16 ?_
  refine v_put F 1 9 fp_X1_loosenFromFollower_19 dX1_loosenFromFollower_17 ((mup_n hne).trans hb) rfl rfl (Nat.le_of_ble_eq_true rfl) ?_
  exact v_vret F hr dX1_loosenFromFollower_20 (Nat.le_of_ble_eq_true rfl) (Nat.le_of_ble_eq_true rfl) ⟨rfl, rfl⟩
def rdE (ci rn len : Nat) : va_E := .inr (ci, [.ref rn, .int (nI len)])
def rowE (ω : Om) (g : Nat → Int32) : va_E := .inl (ω.2.2 0, 24, .inl g)
def setR (ω : Om) (ci : Nat) (M : MM) (r rn : Nat) (g : Nat → Int32) (len : Nat) : MM := mup (mup M r (rdE ci rn len)) rn (rowE ω g)
theorem rd_ne {M : MM} {r rn ci len : Nat} {ω : Om} {g : Nat → Int32} (h1 : M r = some (rdE ci rn len)) (h2 : M rn = some (rowE ω g)) : r ≠ rn := by
  intro h
  rw [h, h2] at h1
  cases h1
theorem setR_1 {ω : Om} {ci : Nat} {M : MM} {r rn : Nat} {g : Nat → Int32} {len : Nat} (h : r ≠ rn) : setR ω ci M r rn g len r = some (rdE ci rn len) := by
  unfold setR; rw [mup_n h, mup_s]
theorem setR_2 {ω : Om} {ci : Nat} {M : MM} {r rn : Nat} {g : Nat → Int32} {len : Nat} : setR ω ci M r rn g len rn = some (rowE ω g) := mup_s
theorem setR_n {ω : Om} {ci : Nat} {M : MM} {r rn q : Nat} {g : Nat → Int32} {len : Nat} (h1 : q ≠ r) (h2 : q ≠ rn) : setR ω ci M r rn g len q = M q := by
  unfold setR; rw [mup_n h2, mup_n h1]
theorem setR_set {ω : Om} {ci : Nat} {M : MM} {r rn : Nat} {g g' : Nat → Int32} {len len' : Nat} (h : r ≠ rn) : setR ω ci (setR ω ci M r rn g len) r rn g' len' = setR ω ci M r rn g' len' := by
  unfold setR
  rw [mup_comm (M := mup M r (rdE ci rn len)) (Ne.symm h), mup_mup, mup_mup]
theorem setR_id {ω : Om} {ci : Nat} {M : MM} {r rn : Nat} {g : Nat → Int32} {len : Nat} (h1 : M r = some (rdE ci rn len)) (h2 : M rn = some (rowE ω g)) : setR ω ci M r rn g len = M := by
  unfold setR
  rw [mup_id h1, mup_id h2]
theorem setR_len {ω : Om} {ci : Nat} {M : MM} {r rn : Nat} {g : Nat → Int32} {len len' : Nat} (h1 : M r = some (rdE ci rn len)) (h2 : M rn = some (rowE ω g)) : mup M r (rdE ci rn len') = setR ω ci M r rn g len' := by
  unfold setR
  rw [mup_id ((mup_n (Ne.symm (rd_ne h1 h2))).trans h2)]
def rmX2_put : Room := { frames := 0, cells := 0, slots := 0, locals := 0 }
theorem hd_X2_put : yX2_put.cls = (RX2, TX2, 2).1 ∧ yX2_put.cls ≠ "java/lang/invoke/MethodHandle" ∧ yX2_put.cls ≠ "java/lang/invoke/VarHandle" ∧ (parseMethodDescriptor yX2_put.desc).map (fun d => d.parameters.length) = some 1 := by decide +kernel
theorem fo_X2_put_9 : FO wsX2_put RX2 9 2 0 := ⟨_, _, _, rfl, by decide, by decide +kernel, by decide +kernel⟩
theorem fo_X2_put_15 : FO wsX2_put RX2 15 2 1 := ⟨_, _, _, rfl, by decide, by decide +kernel, by decide +kernel⟩
theorem fp_X2_put_15 : FP wsX2_put RX2 15 2 1 .int := ⟨_, _, _, tyX2, rfl, by decide, by decide +kernel, by decide +kernel, tyX2_ok, nmX2, rfl, by decide +kernel⟩
set_option maxHeartbeats 4000000 in
set_option maxRecDepth 100000 in
theorem c_X2_put {l : Launch} {ω : Om} {M : MM} {r rn len : Nat} {g : Nat → Int32} {x : Int32} (h1 : M r = some (rdE 2 rn len)) (h2 : M rn = some (rowE ω g)) (hlen : len < 24) : Ct l ω yX2_put wsX2_put rmX2_put [.ref r, .int x] M (fun v M9 => v = none ∧ M9 = setR ω 2 M r rn (upd g len x) (len + 1)) 0 0 := by
  refine Ct.ofV (cc := cX2_put) (maxL := 2) (ret := none) [some (.ref r), some (.int x)] (by decide) rfl (Nat.le_of_ble_eq_true rfl) rfl (Lc.av (av := [.ref r, .int x]) (k := 0) rfl) ?_
  intro σ F hl hr hname
  have F : Fx ω σ cX2_put 2 wsX2_put RX2 rmX2_put := F
  refine v_aload_n F dX2_put_0 rfl rfl ?_
  refine v_get F 2 1 fo_X2_put_15 dX2_put_1 h1 rfl ?_
  refine v_if_lt_n F 39 dX2_put_4 (by decide) (by first | omega | exact Nat.lt_trans (hW _ _) (by decide)) ?_
  refine v_aload_n F dX2_put_7 rfl rfl ?_
  refine v_get F 2 1 fo_X2_put_15 dX2_put_8 h1 rfl ?_
  refine v_aload_n F dX2_put_11 rfl rfl ?_
  refine v_get F 2 0 fo_X2_put_9 dX2_put_12 h1 rfl ?_
  refine v_alen F 0 dX2_put_15 h2 rfl ?_
  refine v_icmp_ge_n F 39 dX2_put_16 (by decide) (by first | omega | exact Nat.lt_trans (hW _ _) (by decide)) (by first | omega | exact Nat.lt_trans (hW _ _) (by decide)) (fun c16 => ?_) (fun c16 => ?_)
  · exact absurd c16 (by omega)
  · refine v_aload_n F dX2_put_19 rfl rfl ?_
    refine v_get F 2 0 fo_X2_put_9 dX2_put_20 h1 rfl ?_
    refine v_aload_n F dX2_put_23 rfl rfl ?_
    refine v_get F 2 1 fo_X2_put_15 dX2_put_24 h1 rfl ?_
    refine v_iload_n F dX2_put_27 rfl ?_
    refine v_iast_n F dX2_put_28 h2 (by first | omega | exact Nat.lt_trans (hW _ _) (by decide)) (by decide) ?_
    have h1a : mup M rn (.inl (ω.2.2 0, 24, .inl (upd g len x))) r = some (rdE 2 rn len) := (mup_n (rd_ne h1 h2)).trans h1
    refine v_aload_n F dX2_put_29 rfl rfl ?_
    refine v_dup F dX2_put_30 rfl ?_
    refine v_get F 2 1 fo_X2_put_15 dX2_put_31 h1a rfl ?_
    refine v_iconst (v := nI 1) F dX2_put_34 (by decide) ?_
    refine v_iadd_n F dX2_put_35 ?_
    refine v_put F 2 1 fp_X2_put_15 dX2_put_36 h1a rfl rfl (Nat.le_of_ble_eq_true rfl) ?_
    exact v_vret F hr dX2_put_39 (Nat.le_of_ble_eq_true rfl) (Nat.le_of_ble_eq_true rfl) ⟨rfl, mup_comm (Ne.symm (rd_ne h1 h2))⟩
def rmX3_add : Room := { frames := 0, cells := 0, slots := 0, locals := 0 }
theorem hd_X3_add : yX3_add.cls = (RX3, TX3, 2).1 ∧ yX3_add.cls ≠ "java/lang/invoke/MethodHandle" ∧ yX3_add.cls ≠ "java/lang/invoke/VarHandle" ∧ (parseMethodDescriptor yX3_add.desc).map (fun d => d.parameters.length) = some 1 := by decide +kernel
theorem fo_X3_add_9 : FO wsX3_add RX3 9 3 0 := ⟨_, _, _, rfl, by decide, by decide +kernel, by decide +kernel⟩
theorem fo_X3_add_15 : FO wsX3_add RX3 15 3 1 := ⟨_, _, _, rfl, by decide, by decide +kernel, by decide +kernel⟩
theorem fp_X3_add_15 : FP wsX3_add RX3 15 3 1 .int := ⟨_, _, _, tyX3, rfl, by decide, by decide +kernel, by decide +kernel, tyX3_ok, nmX3, rfl, by decide +kernel⟩
set_option maxHeartbeats 4000000 in
set_option maxRecDepth 100000 in
theorem c_X3_add {l : Launch} {ω : Om} {M : MM} {r rn len : Nat} {g : Nat → Int32} {x : Int32} (h1 : M r = some (rdE 3 rn len)) (h2 : M rn = some (rowE ω g)) (hlen : len < 24) : Ct l ω yX3_add wsX3_add rmX3_add [.ref r, .int x] M (fun v M9 => v = none ∧ M9 = setR ω 3 M r rn (upd g len x) (len + 1)) 0 0 := by
  refine Ct.ofV (cc := cX3_add) (maxL := 2) (ret := none) [some (.ref r), some (.int x)] (by decide) rfl (Nat.le_of_ble_eq_true rfl) rfl (Lc.av (av := [.ref r, .int x]) (k := 0) rfl) ?_
  intro σ F hl hr hname
  have F : Fx ω σ cX3_add 2 wsX3_add RX3 rmX3_add := F
  refine v_aload_n F dX3_add_0 rfl rfl ?_
  refine v_get F 3 1 fo_X3_add_15 dX3_add_1 h1 rfl ?_
  refine v_if_lt_n F 39 dX3_add_4 (by decide) (by first | omega | exact Nat.lt_trans (hW _ _) (by decide)) ?_
  refine v_aload_n F dX3_add_7 rfl rfl ?_
  refine v_get F 3 1 fo_X3_add_15 dX3_add_8 h1 rfl ?_
  refine v_aload_n F dX3_add_11 rfl rfl ?_
  refine v_get F 3 0 fo_X3_add_9 dX3_add_12 h1 rfl ?_
  refine v_alen F 0 dX3_add_15 h2 rfl ?_
  refine v_icmp_ge_n F 39 dX3_add_16 (by decide) (by first | omega | exact Nat.lt_trans (hW _ _) (by decide)) (by first | omega | exact Nat.lt_trans (hW _ _) (by decide)) (fun c16 => ?_) (fun c16 => ?_)
  · exact absurd c16 (by omega)
  · refine v_aload_n F dX3_add_19 rfl rfl ?_
    refine v_get F 3 0 fo_X3_add_9 dX3_add_20 h1 rfl ?_
    refine v_aload_n F dX3_add_23 rfl rfl ?_
    refine v_get F 3 1 fo_X3_add_15 dX3_add_24 h1 rfl ?_
    refine v_iload_n F dX3_add_27 rfl ?_
    refine v_iast_n F dX3_add_28 h2 (by first | omega | exact Nat.lt_trans (hW _ _) (by decide)) (by decide) ?_
    have h1a : mup M rn (.inl (ω.2.2 0, 24, .inl (upd g len x))) r = some (rdE 3 rn len) := (mup_n (rd_ne h1 h2)).trans h1
    refine v_aload_n F dX3_add_29 rfl rfl ?_
    refine v_dup F dX3_add_30 rfl ?_
    refine v_get F 3 1 fo_X3_add_15 dX3_add_31 h1a rfl ?_
    refine v_iconst (v := nI 1) F dX3_add_34 (by decide) ?_
    refine v_iadd_n F dX3_add_35 ?_
    refine v_put F 3 1 fp_X3_add_15 dX3_add_36 h1a rfl rfl (Nat.le_of_ble_eq_true rfl) ?_
    exact v_vret F hr dX3_add_39 (Nat.le_of_ble_eq_true rfl) (Nat.le_of_ble_eq_true rfl) ⟨rfl, mup_comm (Ne.symm (rd_ne h1 h2))⟩
def rmX2_take : Room := { frames := 0, cells := 0, slots := 0, locals := 0 }
theorem hd_X2_take : yX2_take.cls = (RX2, TX2, 2).1 ∧ yX2_take.cls ≠ "java/lang/invoke/MethodHandle" ∧ yX2_take.cls ≠ "java/lang/invoke/VarHandle" ∧ (parseMethodDescriptor yX2_take.desc).map (fun d => d.parameters.length) = some 0 := by decide +kernel
theorem fo_X2_take_9 : FO wsX2_take RX2 9 2 0 := ⟨_, _, _, rfl, by decide, by decide +kernel, by decide +kernel⟩
theorem fo_X2_take_15 : FO wsX2_take RX2 15 2 1 := ⟨_, _, _, rfl, by decide, by decide +kernel, by decide +kernel⟩
theorem fp_X2_take_15 : FP wsX2_take RX2 15 2 1 .int := ⟨_, _, _, tyX2, rfl, by decide, by decide +kernel, by decide +kernel, tyX2_ok, nmX2, rfl, by decide +kernel⟩
set_option maxHeartbeats 4000000 in
set_option maxRecDepth 100000 in
theorem c_X2_take {l : Launch} {ω : Om} {M : MM} {r rn len : Nat} {g : Nat → Int32} (h1 : M r = some (rdE 2 rn (len + 1))) (h2 : M rn = some (rowE ω g)) (hlen : len < 24) : Ct l ω yX2_take wsX2_take rmX2_take [.ref r] M (fun v M9 => v = some (.int (g len)) ∧ M9 = mup M r (rdE 2 rn len)) 0 0 := by
  refine Ct.ofV (cc := cX2_take) (maxL := 2) (ret := (some .int)) [some (.ref r), none] (by decide) rfl (Nat.le_of_ble_eq_true rfl) rfl (Lc.av (av := [.ref r]) (k := 1) rfl) ?_
  intro σ F hl hr hname
  have F : Fx ω σ cX2_take 2 wsX2_take RX2 rmX2_take := F
  refine v_aload_n F dX2_take_0 rfl rfl ?_
  refine v_get F 2 1 fo_X2_take_15 dX2_take_1 h1 rfl ?_
  refine v_iconst (v := nI 1) F dX2_take_4 (by decide) ?_
  refine v_isub_n F dX2_take_5 (by omega) ?_
  refine V.toI ((by rw [Nat.add_sub_cancel])) ?_
  refine v_istore_n F dX2_take_6 (Nat.le_of_ble_eq_true rfl) (ok2_d rfl) ?_
  refine v_iload_n F dX2_take_7 rfl ?_
  refine v_if_lt_n F 20 dX2_take_8 (by decide) (by first | omega | exact Nat.lt_trans (hW _ _) (by decide)) ?_
  refine v_iload_n F dX2_take_11 rfl ?_
  refine v_aload_n F dX2_take_12 rfl rfl ?_
  refine v_get F 2 0 fo_X2_take_9 dX2_take_13 h1 rfl ?_
  refine v_alen F 0 dX2_take_16 h2 rfl ?_
  refine v_icmp_lt_n F 22 dX2_take_17 (by decide) (by first | omega | exact Nat.lt_trans (hW _ _) (by decide)) (by first | omega | exact Nat.lt_trans (hW _ _) (by decide)) (fun c17 => ?_) (fun c17 => ?_)
  · refine v_aload_n F dX2_take_22 rfl rfl ?_
    refine v_iload_n F dX2_take_23 rfl ?_
    refine v_put F 2 1 fp_X2_take_15 dX2_take_24 h1 rfl rfl (Nat.le_of_ble_eq_true rfl) ?_
    refine v_aload_n F dX2_take_27 rfl rfl ?_
    refine v_get F 2 0 fo_X2_take_9 dX2_take_28 mup_s rfl ?_
    refine v_iload_n F dX2_take_31 rfl ?_
    refine v_iald_n F dX2_take_32 ((mup_n (Ne.symm (rd_ne h1 h2))).trans h2) (by first | omega | exact Nat.lt_trans (hW _ _) (by decide)) (by decide) ?_
    exact v_iret F hr dX2_take_33 (Nat.le_of_ble_eq_true rfl) (Nat.le_of_ble_eq_true rfl) ⟨rfl, rfl⟩
  · exact absurd hlen c17
def rmX3_at : Room := { frames := 0, cells := 0, slots := 0, locals := 0 }
theorem hd_X3_at : yX3_at.cls = (RX3, TX3, 2).1 ∧ yX3_at.cls ≠ "java/lang/invoke/MethodHandle" ∧ yX3_at.cls ≠ "java/lang/invoke/VarHandle" ∧ (parseMethodDescriptor yX3_at.desc).map (fun d => d.parameters.length) = some 1 := by decide +kernel
theorem fo_X3_at_9 : FO wsX3_at RX3 9 3 0 := ⟨_, _, _, rfl, by decide, by decide +kernel, by decide +kernel⟩
theorem fo_X3_at_15 : FO wsX3_at RX3 15 3 1 := ⟨_, _, _, rfl, by decide, by decide +kernel, by decide +kernel⟩
set_option maxHeartbeats 4000000 in
set_option maxRecDepth 100000 in
theorem c_X3_at_in {l : Launch} {ω : Om} {M : MM} {r rn len j : Nat} {g : Nat → Int32} (h1 : M r = some (rdE 3 rn len)) (h2 : M rn = some (rowE ω g)) (hlen : len ≤ 24) (hj : j < len) : Ct l ω yX3_at wsX3_at rmX3_at [.ref r, .int (nI j)] M (fun v M9 => v = some (.int (g j)) ∧ M9 = M) 0 0 := by
  refine Ct.ofV (cc := cX3_at) (maxL := 2) (ret := (some .int)) [some (.ref r), some (.int (nI j))] (by decide) rfl (Nat.le_of_ble_eq_true rfl) rfl (Lc.av (av := [.ref r, .int (nI j)]) (k := 0) rfl) ?_
  intro σ F hl hr hname
  have F : Fx ω σ cX3_at 2 wsX3_at RX3 rmX3_at := F
  refine v_iload_n F dX3_at_0 rfl ?_
  refine v_if_lt_n F 30 dX3_at_1 (by decide) (by first | omega | exact Nat.lt_trans (hW _ _) (by decide)) ?_
  refine v_iload_n F dX3_at_4 rfl ?_
  refine v_aload_n F dX3_at_5 rfl rfl ?_
  refine v_get F 3 1 fo_X3_at_15 dX3_at_6 h1 rfl ?_
  refine v_icmp_ge_n F 30 dX3_at_9 (by decide) (by first | omega | exact Nat.lt_trans (hW _ _) (by decide)) (by first | omega | exact Nat.lt_trans (hW _ _) (by decide)) (fun c9 => ?_) (fun c9 => ?_)
  · exact absurd c9 (by omega)
  · refine v_iload_n F dX3_at_12 rfl ?_
    refine v_aload_n F dX3_at_13 rfl rfl ?_
    refine v_get F 3 0 fo_X3_at_9 dX3_at_14 h1 rfl ?_
    refine v_alen F 0 dX3_at_17 h2 rfl ?_
    refine v_icmp_ge_n F 30 dX3_at_18 (by decide) (by first | omega | exact Nat.lt_trans (hW _ _) (by decide)) (by first | omega | exact Nat.lt_trans (hW _ _) (by decide)) (fun c18 => ?_) (fun c18 => ?_)
    · exact absurd c18 (by omega)
    · refine v_aload_n F dX3_at_21 rfl rfl ?_
      refine v_get F 3 0 fo_X3_at_9 dX3_at_22 h1 rfl ?_
      refine v_iload_n F dX3_at_25 rfl ?_
      refine v_iald_n F dX3_at_26 h2 (by first | omega | exact Nat.lt_trans (hW _ _) (by decide)) (by decide) ?_
      refine v_goto F 31 dX3_at_27 (by decide) ?_
      exact v_iret F hr dX3_at_31 (Nat.le_of_ble_eq_true rfl) (Nat.le_of_ble_eq_true rfl) ⟨rfl, rfl⟩
set_option maxHeartbeats 4000000 in
set_option maxRecDepth 100000 in
theorem c_X3_at_out {l : Launch} {ω : Om} {M : MM} {r rn len : Nat} {x : Int32} {g : Nat → Int32} (h1 : M r = some (rdE 3 rn len)) (h2 : M rn = some (rowE ω g)) (hx : x < 0 ∨ nI len ≤ x) : Ct l ω yX3_at wsX3_at rmX3_at [.ref r, .int x] M (fun v M9 => v = some (.int (-1)) ∧ M9 = M) 0 0 := by
  refine Ct.ofV (cc := cX3_at) (maxL := 2) (ret := (some .int)) [some (.ref r), some (.int x)] (by decide) rfl (Nat.le_of_ble_eq_true rfl) rfl (Lc.av (av := [.ref r, .int x]) (k := 0) rfl) ?_
  intro σ F hl hr hname
  have F : Fx ω σ cX3_at 2 wsX3_at RX3 rmX3_at := F
  refine v_iload_n F dX3_at_0 rfl ?_
  refine v_if_lt F 30 dX3_at_1 (by decide) (fun c1 => ?_) (fun c1 => ?_)
  · refine v_iconst (v := (-1)) F dX3_at_30 (by decide) ?_
    exact v_iret F hr dX3_at_31 (Nat.le_of_ble_eq_true rfl) (Nat.le_of_ble_eq_true rfl) ⟨rfl, rfl⟩
  · refine v_iload_n F dX3_at_4 rfl ?_
    refine v_aload_n F dX3_at_5 rfl rfl ?_
    refine v_get F 3 1 fo_X3_at_15 dX3_at_6 h1 rfl ?_
    refine v_icmp_ge F 30 dX3_at_9 (by decide) (fun c9 => ?_) (fun c9 => ?_)
    · refine v_iconst (v := (-1)) F dX3_at_30 (by decide) ?_
      exact v_iret F hr dX3_at_31 (Nat.le_of_ble_eq_true rfl) (Nat.le_of_ble_eq_true rfl) ⟨rfl, rfl⟩
    · exact absurd hx (by rintro (h | h); exact c1 h; exact c9 h)
def rmX3_placeFor : Room := { frames := 1, cells := 0, slots := 0, locals := 21 }
theorem hd_X3_placeFor : yX3_placeFor.cls = (RX3, TX3, 2).1 ∧ yX3_placeFor.cls ≠ "java/lang/invoke/MethodHandle" ∧ yX3_placeFor.cls ≠ "java/lang/invoke/VarHandle" ∧ (parseMethodDescriptor yX3_placeFor.desc).map (fun d => d.parameters.length) = some 1 := by decide +kernel
theorem fo_X3_placeFor_15 : FO wsX3_placeFor RX3 15 3 1 := ⟨_, _, _, rfl, by decide, by decide +kernel, by decide +kernel⟩
set_option maxHeartbeats 4000000 in
set_option maxRecDepth 100000 in
theorem c_X3_placeFor {l : Launch} {ω : Om} {M : MM} {r rn len x : Nat} {g : Nat → Int32} {o : Nat → Nat} (h1 : M r = some (rdE 3 rn len)) (h2 : M rn = some (rowE ω g)) (hlen : len ≤ 24) (hg : ∀ i, i < len → g i = nI (o i)) (ho : ∀ i, i < len → o i < 128) (hx : x < 128) : Ct l ω yX3_placeFor wsX3_placeFor rmX3_placeFor [.ref r, .int (nI x)] M (fun v M9 => ((∃ j, j < len ∧ o j = x ∧ (∀ i, i < j → o i ≠ x) ∧ v = some (.int (nI j))) ∨ ((∀ i, i < len → o i ≠ x) ∧ v = some (.int (-1)))) ∧ M9 = M) 0 0 := by
  refine Ct.ofV (cc := cX3_placeFor) (maxL := 3) (ret := (some .int)) [some (.ref r), some (.int (nI x)), none] (by decide) rfl (Nat.le_of_ble_eq_true rfl) rfl (Lc.av (av := [.ref r, .int (nI x)]) (k := 1) rfl) ?_
  intro σ F hl hr hname
  have F : Fx ω σ cX3_placeFor 3 wsX3_placeFor RX3 rmX3_placeFor := F
  refine v_iconst (v := nI 0) F dX3_placeFor_0 (by decide) ?_
  refine v_istore_n F dX3_placeFor_1 (Nat.le_of_ble_eq_true rfl) (ok2_d rfl) ?_
  have lp : ∀ i, i ≤ len → (∀ q, q < i → o q ≠ x) → V ω σ M [some (.ref r), some (.int (nI x)), some (.int (nI i))] 0 0 (BQ ω σ (fun v M9 => ((∃ j, j < len ∧ o j = x ∧ (∀ i, i < j → o i ≠ x) ∧ v = some (.int (nI j))) ∨ ((∀ i, i < len → o i ≠ x) ∧ v = some (.int (-1)))) ∧ M9 = M) 0 0) 2 [] := by
    refine loop_up len _ (fun i hi ih => ?_)
    intro hq
    refine v_iload_n F dX3_placeFor_2 rfl ?_
    refine v_aload_n F dX3_placeFor_3 rfl rfl ?_
    refine v_get F 3 1 fo_X3_placeFor_15 dX3_placeFor_4 h1 rfl ?_
    refine v_icmp_ge_n F 27 dX3_placeFor_7 (by decide) (by first | omega | exact Nat.lt_trans (ho _ (by omega)) (by decide)) (by first | omega | exact Nat.lt_trans (ho _ (by omega)) (by decide)) (fun c7 => ?_) (fun c7 => ?_)
    · refine v_iconst (v := (-1)) F dX3_placeFor_27 (by decide) ?_
      exact v_iret F hr dX3_placeFor_28 (Nat.le_of_ble_eq_true rfl) (Nat.le_of_ble_eq_true rfl) ⟨Or.inr ⟨fun q hq2 => hq q (by omega), rfl⟩, rfl⟩
    · refine v_aload_n F dX3_placeFor_10 rfl rfl ?_
      refine v_iload_n F dX3_placeFor_11 rfl ?_
      refine v_callV F 1 [_] rfl rfl rfl (c_X3_at_in h1 h2 hlen (by omega)) gX3_placeFor_X3_at rfl hd_X3_at ⟨⟨rfl, rfl⟩, ⟨(Nat.le_of_ble_eq_true rfl), (Nat.le_of_ble_eq_true rfl)⟩, ⟨(Nat.le_of_ble_eq_true rfl), (Nat.le_of_ble_eq_true rfl)⟩, (Nat.le_of_ble_eq_true rfl)⟩ h1 rfl dX3_placeFor_12 (fun v12 M12 q12 => ?_)
      obtain ⟨rfl, e12⟩ := q12
      replace e12 := e12.symm
      subst e12
      refine V.toI (hg i (by omega)) ?_
      refine v_iload_n F dX3_placeFor_15 rfl ?_
      refine v_icmp_ne_n F 21 dX3_placeFor_16 (by decide) (by first | omega | exact Nat.lt_trans (ho _ (by omega)) (by decide)) (by first | omega | exact Nat.lt_trans (ho _ (by omega)) (by decide)) (fun c16 => ?_) (fun c16 => ?_)
      · refine v_iinc1 F dX3_placeFor_21 rfl (ok2_d rfl) ?_
        refine v_goto F 2 dX3_placeFor_24 (by decide) ?_
        exact ih (by omega) (fun q hq2 => by rcases Nat.lt_or_ge q i with h | h; exact hq q h; rw [show q = i by omega]; exact c16)
      · refine v_iload_n F dX3_placeFor_19 rfl ?_
        exact v_iret F hr dX3_placeFor_20 (Nat.le_of_ble_eq_true rfl) (Nat.le_of_ble_eq_true rfl) ⟨Or.inl ⟨i, by omega, c16, hq, rfl⟩, rfl⟩
  exact lp 0 (Nat.zero_le _) (fun q h => absurd h (Nat.not_lt_zero _))
def rmX3_isSameAs : Room := { frames := 1, cells := 0, slots := 0, locals := 21 }
theorem hd_X3_isSameAs : yX3_isSameAs.cls = (RX3, TX3, 2).1 ∧ yX3_isSameAs.cls ≠ "java/lang/invoke/MethodHandle" ∧ yX3_isSameAs.cls ≠ "java/lang/invoke/VarHandle" ∧ (parseMethodDescriptor yX3_isSameAs.desc).map (fun d => d.parameters.length) = some 1 := by decide +kernel
theorem fo_X3_isSameAs_15 : FO wsX3_isSameAs RX3 15 3 1 := ⟨_, _, _, rfl, by decide, by decide +kernel, by decide +kernel⟩
set_option maxHeartbeats 4000000 in
set_option maxRecDepth 100000 in
theorem c_X3_isSameAs {l : Launch} {ω : Om} {M : MM} {r rn len r2 rn2 len2 : Nat} {g g2 : Nat → Int32} {o o2 : Nat → Nat} (h1 : M r = some (rdE 3 rn len)) (h2 : M rn = some (rowE ω g)) (hlen : len ≤ 24) (k1 : M r2 = some (rdE 3 rn2 len2)) (k2 : M rn2 = some (rowE ω g2)) (klen : len2 ≤ 24) (hg : ∀ i, i < len → g i = nI (o i)) (ho : ∀ i, i < len → o i < 128) (kg : ∀ i, i < len2 → g2 i = nI (o2 i)) (ko : ∀ i, i < len2 → o2 i < 128) : Ct l ω yX3_isSameAs wsX3_isSameAs rmX3_isSameAs [.ref r, .ref r2] M (fun v M9 => (∃ b9 : Bool, v = some (.int (bI b9)) ∧ (b9 = true ↔ len = len2 ∧ ∀ i, i < len → o i = o2 i)) ∧ M9 = M) 0 0 := by
  refine Ct.ofV (cc := cX3_isSameAs) (maxL := 3) (ret := (some .boolean)) [some (.ref r), some (.ref r2), none] (by decide) rfl (Nat.le_of_ble_eq_true rfl) rfl (Lc.av (av := [.ref r, .ref r2]) (k := 1) rfl) ?_
  intro σ F hl hr hname
  have F : Fx ω σ cX3_isSameAs 3 wsX3_isSameAs RX3 rmX3_isSameAs := F
  refine v_aload_n F dX3_isSameAs_0 rfl rfl ?_
  refine v_get F 3 1 fo_X3_isSameAs_15 dX3_isSameAs_1 h1 rfl ?_
  refine v_aload_n F dX3_isSameAs_4 rfl rfl ?_
  refine v_get F 3 1 fo_X3_isSameAs_15 dX3_isSameAs_5 k1 rfl ?_
  refine v_icmp_eq_n F 13 dX3_isSameAs_8 (by decide) (by first | omega | exact Nat.lt_trans (ho _ (by omega)) (by decide) | exact Nat.lt_trans (ko _ (by omega)) (by decide)) (by first | omega | exact Nat.lt_trans (ho _ (by omega)) (by decide) | exact Nat.lt_trans (ko _ (by omega)) (by decide)) (fun c8 => ?_) (fun c8 => ?_)
  · refine v_iconst (v := nI 0) F dX3_isSameAs_13 (by decide) ?_
    refine v_istore_n F dX3_isSameAs_14 (Nat.le_of_ble_eq_true rfl) (ok2_d rfl) ?_
    have lp : ∀ i, i ≤ len → (∀ q, q < i → o q = o2 q) → V ω σ M [some (.ref r), some (.ref r2), some (.int (nI i))] 0 0 (BQ ω σ (fun v M9 => (∃ b9 : Bool, v = some (.int (bI b9)) ∧ (b9 = true ↔ len = len2 ∧ ∀ i, i < len → o i = o2 i)) ∧ M9 = M) 0 0) 15 [] := by
      refine loop_up len _ (fun i hi ih => ?_)
      intro hq
      refine v_iload_n F dX3_isSameAs_15 rfl ?_
      refine v_aload_n F dX3_isSameAs_16 rfl rfl ?_
      refine v_get F 3 1 fo_X3_isSameAs_15 dX3_isSameAs_17 h1 rfl ?_
      refine v_icmp_ge_n F 44 dX3_isSameAs_20 (by decide) (by first | omega | exact Nat.lt_trans (ho _ (by omega)) (by decide) | exact Nat.lt_trans (ko _ (by omega)) (by decide)) (by first | omega | exact Nat.lt_trans (ho _ (by omega)) (by decide) | exact Nat.lt_trans (ko _ (by omega)) (by decide)) (fun c20 => ?_) (fun c20 => ?_)
      · refine v_iconst (v := nI 1) F dX3_isSameAs_44 (by decide) ?_
        exact v_zret F hr dX3_isSameAs_45 rfl (Nat.le_of_ble_eq_true rfl) (Nat.le_of_ble_eq_true rfl) ⟨⟨true, rfl, by simp only [true_iff]; exact ⟨c8, fun q hq2 => hq q (by omega)⟩⟩, rfl⟩
      · refine v_aload_n F dX3_isSameAs_23 rfl rfl ?_
        refine v_iload_n F dX3_isSameAs_24 rfl ?_
        refine v_callV F 1 [_] rfl rfl rfl (c_X3_at_in h1 h2 hlen (by omega)) gX3_isSameAs_X3_at rfl hd_X3_at ⟨⟨rfl, rfl⟩, ⟨(Nat.le_of_ble_eq_true rfl), (Nat.le_of_ble_eq_true rfl)⟩, ⟨(Nat.le_of_ble_eq_true rfl), (Nat.le_of_ble_eq_true rfl)⟩, (Nat.le_of_ble_eq_true rfl)⟩ h1 rfl dX3_isSameAs_25 (fun v25 M25 q25 => ?_)
        obtain ⟨rfl, e25⟩ := q25
        replace e25 := e25.symm
        subst e25
        refine V.toI (hg i (by omega)) ?_
        refine v_aload_n F dX3_isSameAs_28 rfl rfl ?_
        refine v_iload_n F dX3_isSameAs_29 rfl ?_
        refine v_callV F 1 [_] rfl rfl rfl (c_X3_at_in k1 k2 klen (by omega)) gX3_isSameAs_X3_at rfl hd_X3_at ⟨⟨rfl, rfl⟩, ⟨(Nat.le_of_ble_eq_true rfl), (Nat.le_of_ble_eq_true rfl)⟩, ⟨(Nat.le_of_ble_eq_true rfl), (Nat.le_of_ble_eq_true rfl)⟩, (Nat.le_of_ble_eq_true rfl)⟩ k1 rfl dX3_isSameAs_30 (fun v30 M30 q30 => ?_)
        obtain ⟨rfl, e30⟩ := q30
        replace e30 := e30.symm
        subst e30
        refine V.toI (kg i (by omega)) ?_
        refine v_icmp_eq_n F 38 dX3_isSameAs_33 (by decide) (by first | omega | exact Nat.lt_trans (ho _ (by omega)) (by decide) | exact Nat.lt_trans (ko _ (by omega)) (by decide)) (by first | omega | exact Nat.lt_trans (ho _ (by omega)) (by decide) | exact Nat.lt_trans (ko _ (by omega)) (by decide)) (fun c33 => ?_) (fun c33 => ?_)
        · refine v_iinc1 F dX3_isSameAs_38 rfl (ok2_d rfl) ?_
          refine v_goto F 15 dX3_isSameAs_41 (by decide) ?_
          exact ih (by omega) (fun q hq2 => by rcases Nat.lt_or_ge q i with h | h; exact hq q h; rw [show q = i by omega]; exact c33)
        · refine v_iconst (v := nI 0) F dX3_isSameAs_36 (by decide) ?_
          exact v_zret F hr dX3_isSameAs_37 rfl (Nat.le_of_ble_eq_true rfl) (Nat.le_of_ble_eq_true rfl) ⟨⟨false, rfl, by simp only [Bool.false_eq_true, false_iff]; exact fun h => c33 (h.2 i (by omega))⟩, rfl⟩
    exact lp 0 (Nat.zero_le _) (fun q h => absurd h (Nat.not_lt_zero _))
  · refine v_iconst (v := nI 0) F dX3_isSameAs_11 (by decide) ?_
    exact v_zret F hr dX3_isSameAs_12 rfl (Nat.le_of_ble_eq_true rfl) (Nat.le_of_ble_eq_true rfl) ⟨⟨false, rfl, by simp only [Bool.false_eq_true, false_iff]; exact fun h => c8 h.1⟩, rfl⟩
def rmX3_become : Room := { frames := 1, cells := 0, slots := 0, locals := 21 }
theorem hd_X3_become : yX3_become.cls = (RX3, TX3, 2).1 ∧ yX3_become.cls ≠ "java/lang/invoke/MethodHandle" ∧ yX3_become.cls ≠ "java/lang/invoke/VarHandle" ∧ (parseMethodDescriptor yX3_become.desc).map (fun d => d.parameters.length) = some 1 := by decide +kernel
theorem fo_X3_become_15 : FO wsX3_become RX3 15 3 1 := ⟨_, _, _, rfl, by decide, by decide +kernel, by decide +kernel⟩
theorem fp_X3_become_15 : FP wsX3_become RX3 15 3 1 .int := ⟨_, _, _, tyX3, rfl, by decide, by decide +kernel, by decide +kernel, tyX3_ok, nmX3, rfl, by decide +kernel⟩
set_option maxHeartbeats 4000000 in
set_option maxRecDepth 100000 in
theorem c_X3_become {l : Launch} {ω : Om} {M : MM} {r rn len r2 rn2 len2 : Nat} {g g2 : Nat → Int32} (h1 : M r = some (rdE 3 rn len)) (h2 : M rn = some (rowE ω g)) (k1 : M r2 = some (rdE 3 rn2 len2)) (k2 : M rn2 = some (rowE ω g2)) (klen : len2 ≤ 24) (hne : r2 ≠ r) (hne2 : rn2 ≠ rn) : Ct l ω yX3_become wsX3_become rmX3_become [.ref r, .ref r2] M (fun v M9 => v = none ∧ ∃ g9, M9 = setR ω 3 M r rn g9 len2 ∧ ∀ i, i < len2 → g9 i = g2 i) 0 0 := by
  refine Ct.ofV (cc := cX3_become) (maxL := 3) (ret := none) [some (.ref r), some (.ref r2), none] (by decide) rfl (Nat.le_of_ble_eq_true rfl) rfl (Lc.av (av := [.ref r, .ref r2]) (k := 1) rfl) ?_
  intro σ F hl hr hname
  have F : Fx ω σ cX3_become 3 wsX3_become RX3 rmX3_become := F
  have hx := rd_ne h1 h2
  have ex : r2 ≠ rn := fun h => by rw [h, h2] at k1; cases k1
  have ey : rn2 ≠ r := fun h => by rw [h, h1] at k2; cases k2
  refine v_aload_n F dX3_become_0 rfl rfl ?_
  refine v_iconst (v := nI 0) F dX3_become_1 (by decide) ?_
  refine v_put F 3 1 fp_X3_become_15 dX3_become_2 h1 rfl rfl (Nat.le_of_ble_eq_true rfl) ?_
  rw [show mup M r (.inr (3, [Value.ref rn, Value.int (nI len)].set 1 (Value.int (nI 0)))) = setR ω 3 M r rn g 0 from setR_len h1 h2]
  refine v_iconst (v := nI 0) F dX3_become_5 (by decide) ?_
  refine v_istore_n F dX3_become_6 (Nat.le_of_ble_eq_true rfl) (ok2_d rfl) ?_
  have lp : ∀ i, i ≤ len2 → ∀ g1, (∀ q, q < i → g1 q = g2 q) → V ω σ (setR ω 3 M r rn g1 i) [some (.ref r), some (.ref r2), some (.int (nI i))] 0 0 (BQ ω σ (fun v M9 => v = none ∧ ∃ g9, M9 = setR ω 3 M r rn g9 len2 ∧ ∀ i, i < len2 → g9 i = g2 i) 0 0) 7 [] := by
    refine loop_up len2 _ (fun i hi ih => ?_)
    intro g1 hq
    have s1 : setR ω 3 M r rn g1 i r2 = some (rdE 3 rn2 len2) := (setR_n hne ex).trans k1
    have s2 : setR ω 3 M r rn g1 i rn2 = some (rowE ω g2) := (setR_n ey hne2).trans k2
    refine v_iload_n F dX3_become_7 rfl ?_
    refine v_aload_n F dX3_become_8 rfl rfl ?_
    refine v_get F 3 1 fo_X3_become_15 dX3_become_9 s1 rfl ?_
    refine v_icmp_ge_n F 30 dX3_become_12 (by decide) (by first | omega | exact Nat.lt_trans (hW _ _) (by decide)) (by first | omega | exact Nat.lt_trans (hW _ _) (by decide)) (fun c12 => ?_) (fun c12 => ?_)
    · exact v_vret F hr dX3_become_30 (Nat.le_of_ble_eq_true rfl) (Nat.le_of_ble_eq_true rfl) ⟨rfl, g1, by rw [show len2 = i by omega], fun q hq2 => hq q (by omega)⟩
    · refine v_aload_n F dX3_become_15 rfl rfl ?_
      refine v_aload_n F dX3_become_16 rfl rfl ?_
      refine v_iload_n F dX3_become_17 rfl ?_
      refine v_callV F 1 [_] rfl rfl rfl (c_X3_at_in s1 s2 klen (by omega)) gX3_become_X3_at rfl hd_X3_at ⟨⟨rfl, rfl⟩, ⟨(Nat.le_of_ble_eq_true rfl), (Nat.le_of_ble_eq_true rfl)⟩, ⟨(Nat.le_of_ble_eq_true rfl), (Nat.le_of_ble_eq_true rfl)⟩, (Nat.le_of_ble_eq_true rfl)⟩ s1 rfl dX3_become_18 (fun v18 M18 q18 => ?_)
      obtain ⟨rfl, e18⟩ := q18
      replace e18 := e18.symm
      subst e18
      refine v_callV F 1 [_] rfl rfl rfl (c_X3_add (setR_1 hx) setR_2 (by omega)) gX3_become_X3_add rfl hd_X3_add ⟨⟨rfl, rfl⟩, ⟨(Nat.le_of_ble_eq_true rfl), (Nat.le_of_ble_eq_true rfl)⟩, ⟨(Nat.le_of_ble_eq_true rfl), (Nat.le_of_ble_eq_true rfl)⟩, (Nat.le_of_ble_eq_true rfl)⟩ (setR_1 hx) rfl dX3_become_21 (fun v21 M21 q21 => ?_)
      obtain ⟨rfl, e21⟩ := q21
      replace e21 := e21.symm
      subst e21
      rw [setR_set hx]
      refine v_iinc1 F dX3_become_24 rfl (ok2_d rfl) ?_
      refine v_goto F 7 dX3_become_27 (by decide) ?_
      exact ih (by omega) _ (fun q hq2 => by rcases Nat.lt_or_ge q i with h | h; rw [pk_un (by omega)]; exact hq q h; rw [show q = i by omega, pk_us])
  exact lp 0 (Nat.zero_le _) _ (fun q h => absurd h (Nat.not_lt_zero _))
