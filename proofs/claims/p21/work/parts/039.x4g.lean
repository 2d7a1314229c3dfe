/-! the class: its face, second half -/
theorem Ct.mono {l : Launch} {ω : Om} {y : MethodName} {ws : List Cond} {rm : Room} {av : List Value} {M : MM} {PQ PQ' : Option Value → MM → Prop} {mc ms : Nat} (h : Ct l ω y ws rm av M PQ mc ms) (hp : ∀ v M', PQ v M' → PQ' v M') : Ct l ω y ws rm av M PQ' mc ms := by
  intro p e ha hc hk s m args below hf happ hP hK
  obtain ⟨n, o, h1, h2, h3, ⟨⟨⟨v, M', e1, e2, e3⟩, e4⟩, e5⟩⟩ := h p e ha hc hk s m args below hf happ hP hK
  exact ⟨n, o, h1, h2, h3, ⟨⟨v, M', e1, hp v M' e2, e3⟩, e4⟩, e5⟩
/-- a box loosened from what it follows, from what it leads -/
def unl (B : FF) (j : Nat) : FF := match B j 6 with
  | 0 => B
  | y + 1 => u2 (u2 B y 7 0) j 6 0
def unf (B : FF) (j : Nat) : FF := match B j 7 with
  | 0 => B
  | z + 1 => u2 (u2 B z 6 0) j 7 0
theorem unl_0 {B : FF} {j : Nat} (h : B j 6 = 0) : unl B j = B := by unfold unl; rw [h]
theorem unl_1 {B : FF} {j y : Nat} (h : B j 6 = y + 1) : unl B j = u2 (u2 B y 7 0) j 6 0 := by unfold unl; rw [h]
theorem unf_0 {B : FF} {j : Nat} (h : B j 7 = 0) : unf B j = B := by unfold unf; rw [h]
theorem unf_1 {B : FF} {j y : Nat} (h : B j 7 = y + 1) : unf B j = u2 (u2 B y 6 0) j 7 0 := by unfold unf; rw [h]
theorem c_unl {l : Launch} {ω : Om} {M : MM} {A B P : FF} {n k : Nat} {R : Nat → (Nat → Int32) × Nat} {Z : Nat → Prop} (hX : XI ω A B P n k R M) (hn : n ≤ 24) (hZ : ∀ i j, Z (A i j)) {j : Nat} (hj : j < n) (hy : ∀ y, B j 6 = y + 1 → y < n ∧ y ≠ j) : Ct l ω yX1_loosenFromLeader wsX1_loosenFromLeader rmX1_loosenFromLeader [.ref (A 1 j)] M (fun v M9 => v = none ∧ XI ω A (unl B j) P n k R M9 ∧ Fr Z M M9) 0 0 := by
  rcases h : B j 6 with _ | y
  · refine (c_X1_loosenFromLeader_0 (hX.box hj) h).mono (fun v M' q => ⟨q.1, ?_, ?_⟩)
    · rw [unl_0 h, q.2]; exact hX
    · rw [q.2]; exact Fr.rf
  · obtain ⟨hyn, hyj⟩ := hy y h
    refine (c_X1_loosenFromLeader_1 (hX.box hj) (hX.box hyn) (fun e => hyj (hX.inj hn hj hyn e).symm) h).mono (fun v M' q => ⟨q.1, ?_, ?_⟩)
    · have h1 := hX.setB (B' := u2 B y 7 0) hn hyn (fun q hq => by simp [bxF, u2, hq])
      have h2 := h1.setB (B' := u2 (u2 B y 7 0) j 6 0) hn hj (fun q hq => by simp [bxF, u2, hq])
      rw [unl_1 h, q.2, show (bxF A B y).set 9 .null = bxF A (u2 B y 7 0) y by simp [bxF, u2, oA, va_rf], show (bxF A B j).set 8 .null = bxF A (u2 (u2 B y 7 0) j 6 0) j by simp [bxF, u2, oA, va_rf, Ne.symm hyj]]
      exact h2
    · rw [q.2]; exact (Fr.rf.up (hZ 1 y)).up (hZ 1 j)
theorem c_unf {l : Launch} {ω : Om} {M : MM} {A B P : FF} {n k : Nat} {R : Nat → (Nat → Int32) × Nat} {Z : Nat → Prop} (hX : XI ω A B P n k R M) (hn : n ≤ 24) (hZ : ∀ i j, Z (A i j)) {j : Nat} (hj : j < n) (hy : ∀ y, B j 7 = y + 1 → y < n ∧ y ≠ j) : Ct l ω yX1_loosenFromFollower wsX1_loosenFromFollower rmX1_loosenFromFollower [.ref (A 1 j)] M (fun v M9 => v = none ∧ XI ω A (unf B j) P n k R M9 ∧ Fr Z M M9) 0 0 := by
  rcases h : B j 7 with _ | y
  · refine (c_X1_loosenFromFollower_0 (hX.box hj) h).mono (fun v M' q => ⟨q.1, ?_, ?_⟩)
    · rw [unf_0 h, q.2]; exact hX
    · rw [q.2]; exact Fr.rf
  · obtain ⟨hyn, hyj⟩ := hy y h
    refine (c_X1_loosenFromFollower_1 (hX.box hj) (hX.box hyn) (fun e => hyj (hX.inj hn hj hyn e).symm) h).mono (fun v M' q => ⟨q.1, ?_, ?_⟩)
    · have h1 := hX.setB (B' := u2 B y 6 0) hn hyn (fun q hq => by simp [bxF, u2, hq])
      have h2 := h1.setB (B' := u2 (u2 B y 6 0) j 7 0) hn hj (fun q hq => by simp [bxF, u2, hq])
      rw [unf_1 h, q.2, show (bxF A B y).set 8 .null = bxF A (u2 B y 6 0) y by simp [bxF, u2, oA, va_rf], show (bxF A B j).set 9 .null = bxF A (u2 (u2 B y 6 0) j 7 0) j by simp [bxF, u2, oA, va_rf, Ne.symm hyj]]
      exact h2
    · rw [q.2]; exact (Fr.rf.up (hZ 1 y)).up (hZ 1 j)
def rmX4_remove : Room := { frames := 73, cells := 2, slots := 12, locals := 1668 }
theorem hd_X4_remove : yX4_remove.cls = (RX4, TX4, 7).1 ∧ yX4_remove.cls ≠ "java/lang/invoke/MethodHandle" ∧ yX4_remove.cls ≠ "java/lang/invoke/VarHandle" ∧ (parseMethodDescriptor yX4_remove.desc).map (fun d => d.parameters.length) = some 1 := by decide +kernel
theorem fo_X4_remove_89 : FO wsX4_remove RX4 89 1 1 := ⟨_, _, _, rfl, by decide, by decide +kernel, by decide +kernel⟩
theorem fp_X4_remove_98 : FP wsX4_remove RX4 98 1 7 .boolean := ⟨_, _, _, tyX1, rfl, by decide, by decide +kernel, by decide +kernel, tyX1_ok, nmX1, rfl, by decide +kernel⟩
set_option maxHeartbeats 4000000 in
set_option maxRecDepth 100000 in
theorem c_remove_ok {l : Launch} {ω : Om} {M : MM} (hl9 : l.stackTraces = false) {A B P : FF} {n k : Nat} {R : Nat → (Nat → Int32) × Nat} {Z : Nat → Prop} (hC : CI ω A B P n k R Z M) {j : Nat} (hj : j < n) (hg : B j 8 = 0) (hy : ∀ y, B j 6 = y + 1 → y < n ∧ y ≠ j) (hz : ∀ y, unl B j j 7 = y + 1 → y < n ∧ y ≠ j) (hpg : (u2 (unf (unl B j) j) j 8 1) j 0 = B j 0) (hp5 : B j 0 < 5) (hB2 : WB (u2 (unf (unl B j) j) j 8 1) n) (hO2 : PF (u2 (unf (unl B j) j) j 8 1) n) (hq : ∀ q, q < 5 → q ≠ B j 0 → ordF (u2 (unf (unl B j) j) j 8 1) n q = ordF B n q) : Ct l ω yX4_remove wsX4_remove rmX4_remove [.ref (A 0 0), .int (nI j)] M (fun v M9 => ∃ R9 P9 c9, v = some (.int (nI c9)) ∧ CI ω A (u2 (unf (unl B j) j) j 8 1) P9 n k R9 Z M9 ∧ Fr Z M M9 ∧ Fall P (B j 0) k (ordF (u2 (unf (unl B j) j) j 8 1) n (B j 0) = ordF B n (B j 0)) c9 P9) 2 12 := by
  refine Ct.ofV (cc := cX4_remove) (maxL := 3) (ret := (some .int)) [some (.ref (A 0 0)), some (.int (nI j)), none] (by decide) rfl (Nat.le_of_ble_eq_true rfl) rfl (Lc.av (av := [.ref (A 0 0), .int (nI j)]) (k := 1) rfl) ?_
  intro σ F hl hr hname
  have F : Fx ω σ cX4_remove 3 wsX4_remove RX4 rmX4_remove := F
  obtain ⟨hX, hB, hA, hA4, hk, hWP, hZ, hR, hO⟩ := id hC
  have hn : n ≤ 24 := hB.1
  have hW : ∀ i j, B i j < 128 := hB.2.1
  obtain ⟨⟨ρ2, hρ20, hρ2⟩, -⟩ := id hO2
  refine v_aload_n F dX4_remove_0 rfl rfl ?_
  refine v_iload_n F dX4_remove_1 rfl ?_
  refine v_callV F 1 [_] rfl rfl rfl ((c_presentBox_ok (by rw [hl]; exact hl9) hX hB hj hg).noX (fun _ h => h)) gX4_remove_X4_presentBox rfl hd_X4_presentBox ⟨⟨rfl, rfl⟩, ⟨(Nat.le_of_ble_eq_true rfl), (Nat.le_of_ble_eq_true rfl)⟩, ⟨(Nat.le_of_ble_eq_true rfl), (Nat.le_of_ble_eq_true rfl)⟩, (Nat.le_of_ble_eq_true rfl)⟩ hX.x rfl dX4_remove_2 (fun v2 M2 q2 => ?_)
  obtain ⟨rfl, e2⟩ := q2
  replace e2 := e2.symm
  subst e2
  refine v_astore_n F dX4_remove_5 rfl (Nat.le_of_ble_eq_true rfl) (ok2_d rfl) ?_
  refine v_aload_n F dX4_remove_6 rfl rfl ?_
  refine v_callV F 0 [] rfl rfl rfl (c_unl hX hn hZ hj hy) gX4_remove_X1_loosenFromLeader rfl hd_X1_loosenFromLeader ⟨⟨rfl, rfl⟩, ⟨(Nat.le_of_ble_eq_true rfl), (Nat.le_of_ble_eq_true rfl)⟩, ⟨(Nat.le_of_ble_eq_true rfl), (Nat.le_of_ble_eq_true rfl)⟩, (Nat.le_of_ble_eq_true rfl)⟩ (hX.box hj) rfl dX4_remove_7 (fun v7 M7 q7 => ?_)
  obtain ⟨rfl, hX1, hF1⟩ := q7
  refine v_aload_n F dX4_remove_10 rfl rfl ?_
  refine v_callV F 0 [] rfl rfl rfl (c_unf hX1 hn hZ hj hz) gX4_remove_X1_loosenFromFollower rfl hd_X1_loosenFromFollower ⟨⟨rfl, rfl⟩, ⟨(Nat.le_of_ble_eq_true rfl), (Nat.le_of_ble_eq_true rfl)⟩, ⟨(Nat.le_of_ble_eq_true rfl), (Nat.le_of_ble_eq_true rfl)⟩, (Nat.le_of_ble_eq_true rfl)⟩ (hX1.box hj) rfl dX4_remove_11 (fun v11 M11 q11 => ?_)
  obtain ⟨rfl, hX2, hF2⟩ := q11
  refine v_aload_n F dX4_remove_14 rfl rfl ?_
  refine v_iconst (v := nI 1) F dX4_remove_15 (by decide) ?_
  refine v_put F 1 7 fp_X4_remove_98 dX4_remove_16 (hX2.box hj) rfl rfl (Nat.le_of_ble_eq_true rfl) ?_
  have e1 : (bxF A (unf (unl B j) j) j).set 7 (.int (nI 1)) = bxF A (u2 (unf (unl B j) j) j 8 1) j := by simp [bxF, u2]
  rw [e1]
  have hX3 := hX2.setB (B' := u2 (unf (unl B j) j) j 8 1) hn hj (fun q hqj => by simp [bxF, u2, hqj])
  refine v_aload_n F dX4_remove_19 rfl rfl ?_
  refine v_aload_n F dX4_remove_20 rfl rfl ?_
  refine v_get F 1 1 fo_X4_remove_89 dX4_remove_21 (hX3.box hj) rfl ?_
  refine V.toI (show nI ((u2 (unf (unl B j) j) j 8 1) j 0) = nI (B j 0) by rw [hpg]) ?_
  refine v_callV F 1 [_] rfl rfl rfl (c_readAgain (by rw [hl]; exact hl9) hX3 hB2 hA4 hk hWP hA hp5 hZ ρ2 hρ20 hρ2 (hO2.2 _ hp5).1 (hO2.2 _ hp5).2 (hR _ hp5).1 (hO.2 _ hp5).1 (hR _ hp5).2 (hO.2 _ hp5).2) gX4_remove_X4_readAgain rfl hd_X4_readAgain ⟨⟨rfl, rfl⟩, ⟨(Nat.le_of_ble_eq_true rfl), (Nat.le_of_ble_eq_true rfl)⟩, ⟨(Nat.le_of_ble_eq_true rfl), (Nat.le_of_ble_eq_true rfl)⟩, (Nat.le_of_ble_eq_true rfl)⟩ hX3.x rfl dX4_remove_24 (fun v24 M24 q24 => ?_)
  obtain ⟨R9, P9, c9, rfl, hX9, hF9, g1, g2, g3, g4⟩ := q24
  exact v_iret F hr dX4_remove_27 (Nat.le_of_ble_eq_true rfl) (Nat.le_of_ble_eq_true rfl) ⟨R9, P9, c9, rfl, hC.next hX9 hB2 hO2 hq g1 g2 g3 (by rcases g4 with h | h; exact Or.inl h; exact Or.inr h), ((hF1.tr hF2).up (hZ 1 j)).tr hF9, by rcases g4 with h | h; exact Or.inl h; exact Or.inr h⟩
set_option maxHeartbeats 4000000 in
set_option maxRecDepth 100000 in
theorem c_remove_gone {l : Launch} {ω : Om} {M : MM} (hl9 : l.stackTraces = false) {A B P : FF} {n k : Nat} {R : Nat → (Nat → Int32) × Nat} {Z : Nat → Prop} (hC : CI ω A B P n k R Z M) {j : Nat} (hj : j < n) (hg : B j 8 ≠ 0) : CtX l ω yX4_remove wsX4_remove rmX4_remove [.ref (A 0 0), .int (nI j)] M (fun v M9 => False) (fun E => E = "java/lang/IndexOutOfBoundsException") 2 12 := by
  refine CtX.ofV (cc := cX4_remove) (maxL := 3) (ret := (some .int)) [some (.ref (A 0 0)), some (.int (nI j)), none] (by decide) rfl (Nat.le_of_ble_eq_true rfl) rfl (Lc.av (av := [.ref (A 0 0), .int (nI j)]) (k := 1) rfl) ?_
  intro σ F hl hr hnx
  have hl : σ.2.1.stackTraces = false := by rw [hl]; exact hl9
  have F : Fx ω σ cX4_remove 3 wsX4_remove RX4 rmX4_remove := F
  obtain ⟨hX, hB, hA, hA4, hk, hWP, hZ, hR, hO⟩ := id hC
  have hn : n ≤ 24 := hB.1
  have hW : ∀ i j, B i j < 128 := hB.2.1
  refine v_aload_n F dX4_remove_0 rfl rfl ?_
  refine v_iload_n F dX4_remove_1 rfl ?_
  refine v_callVX F 1 [_] rfl rfl rfl (c_presentBox_gone hl hX hB hj hg) gX4_remove_X4_presentBox rfl hd_X4_presentBox ⟨⟨rfl, rfl⟩, ⟨(Nat.le_of_ble_eq_true rfl), (Nat.le_of_ble_eq_true rfl)⟩, ⟨(Nat.le_of_ble_eq_true rfl), (Nat.le_of_ble_eq_true rfl)⟩, (Nat.le_of_ble_eq_true rfl)⟩ hX.x rfl dX4_remove_2 (fun E h => h) hnx (Nat.le_of_ble_eq_true rfl) (Nat.le_of_ble_eq_true rfl) (fun v2 M2 q2 => ?_)
  exact q2.elim
set_option maxHeartbeats 4000000 in
set_option maxRecDepth 100000 in
theorem c_remove_out {l : Launch} {ω : Om} {M : MM} (hl9 : l.stackTraces = false) {A B P : FF} {n k : Nat} {R : Nat → (Nat → Int32) × Nat} {Z : Nat → Prop} (hC : CI ω A B P n k R Z M) {j : Int32} (hj : j < 0 ∨ nI n ≤ j) : CtX l ω yX4_remove wsX4_remove rmX4_remove [.ref (A 0 0), .int j] M (fun v M9 => False) (fun E => E = "java/lang/IndexOutOfBoundsException") 2 12 := by
  refine CtX.ofV (cc := cX4_remove) (maxL := 3) (ret := (some .int)) [some (.ref (A 0 0)), some (.int j), none] (by decide) rfl (Nat.le_of_ble_eq_true rfl) rfl (Lc.av (av := [.ref (A 0 0), .int j]) (k := 1) rfl) ?_
  intro σ F hl hr hnx
  have hl : σ.2.1.stackTraces = false := by rw [hl]; exact hl9
  have F : Fx ω σ cX4_remove 3 wsX4_remove RX4 rmX4_remove := F
  obtain ⟨hX, hB, hA, hA4, hk, hWP, hZ, hR, hO⟩ := id hC
  have hn : n ≤ 24 := hB.1
  have hW : ∀ i j, B i j < 128 := hB.2.1
  refine v_aload_n F dX4_remove_0 rfl rfl ?_
  refine v_iload_n F dX4_remove_1 rfl ?_
  refine v_callVX F 1 [_] rfl rfl rfl (c_presentBox_out hl hX hB hj) gX4_remove_X4_presentBox rfl hd_X4_presentBox ⟨⟨rfl, rfl⟩, ⟨(Nat.le_of_ble_eq_true rfl), (Nat.le_of_ble_eq_true rfl)⟩, ⟨(Nat.le_of_ble_eq_true rfl), (Nat.le_of_ble_eq_true rfl)⟩, (Nat.le_of_ble_eq_true rfl)⟩ hX.x rfl dX4_remove_2 (fun E h => h) hnx (Nat.le_of_ble_eq_true rfl) (Nat.le_of_ble_eq_true rfl) (fun v2 M2 q2 => ?_)
  exact q2.elim
def rmX4_untie : Room := { frames := 73, cells := 3, slots := 18, locals := 1668 }
theorem hd_X4_untie : yX4_untie.cls = (RX4, TX4, 7).1 ∧ yX4_untie.cls ≠ "java/lang/invoke/MethodHandle" ∧ yX4_untie.cls ≠ "java/lang/invoke/VarHandle" ∧ (parseMethodDescriptor yX4_untie.desc).map (fun d => d.parameters.length) = some 1 := by decide +kernel
set_option maxHeartbeats 4000000 in
set_option maxRecDepth 100000 in
theorem c_untie_gone {l : Launch} {ω : Om} {M : MM} (hl9 : l.stackTraces = false) {A B P : FF} {n k : Nat} {R : Nat → (Nat → Int32) × Nat} {Z : Nat → Prop} (hC : CI ω A B P n k R Z M) {j : Nat} (hj : j < n) (hg : B j 8 ≠ 0) : CtX l ω yX4_untie wsX4_untie rmX4_untie [.ref (A 0 0), .int (nI j)] M (fun v M9 => False) (fun E => E = "java/lang/IndexOutOfBoundsException") 3 18 := by
  refine CtX.ofV (cc := cX4_untie) (maxL := 3) (ret := (some .int)) [some (.ref (A 0 0)), some (.int (nI j)), none] (by decide) rfl (Nat.le_of_ble_eq_true rfl) rfl (Lc.av (av := [.ref (A 0 0), .int (nI j)]) (k := 1) rfl) ?_
  intro σ F hl hr hnx
  have hl : σ.2.1.stackTraces = false := by rw [hl]; exact hl9
  have F : Fx ω σ cX4_untie 3 wsX4_untie RX4 rmX4_untie := F
  obtain ⟨hX, hB, hA, hA4, hk, hWP, hZ, hR, hO⟩ := id hC
  have hn : n ≤ 24 := hB.1
  have hW : ∀ i j, B i j < 128 := hB.2.1
  refine v_aload_n F dX4_untie_0 rfl rfl ?_
  refine v_iload_n F dX4_untie_1 rfl ?_
  refine v_callVX F 1 [_] rfl rfl rfl (c_presentBox_gone hl hX hB hj hg) gX4_untie_X4_presentBox rfl hd_X4_presentBox ⟨⟨rfl, rfl⟩, ⟨(Nat.le_of_ble_eq_true rfl), (Nat.le_of_ble_eq_true rfl)⟩, ⟨(Nat.le_of_ble_eq_true rfl), (Nat.le_of_ble_eq_true rfl)⟩, (Nat.le_of_ble_eq_true rfl)⟩ hX.x rfl dX4_untie_2 (fun E h => h) hnx (Nat.le_of_ble_eq_true rfl) (Nat.le_of_ble_eq_true rfl) (fun v2 M2 q2 => ?_)
  exact q2.elim
set_option maxHeartbeats 4000000 in
set_option maxRecDepth 100000 in
theorem c_untie_out {l : Launch} {ω : Om} {M : MM} (hl9 : l.stackTraces = false) {A B P : FF} {n k : Nat} {R : Nat → (Nat → Int32) × Nat} {Z : Nat → Prop} (hC : CI ω A B P n k R Z M) {j : Int32} (hj : j < 0 ∨ nI n ≤ j) : CtX l ω yX4_untie wsX4_untie rmX4_untie [.ref (A 0 0), .int j] M (fun v M9 => False) (fun E => E = "java/lang/IndexOutOfBoundsException") 3 18 := by
  refine CtX.ofV (cc := cX4_untie) (maxL := 3) (ret := (some .int)) [some (.ref (A 0 0)), some (.int j), none] (by decide) rfl (Nat.le_of_ble_eq_true rfl) rfl (Lc.av (av := [.ref (A 0 0), .int j]) (k := 1) rfl) ?_
  intro σ F hl hr hnx
  have hl : σ.2.1.stackTraces = false := by rw [hl]; exact hl9
  have F : Fx ω σ cX4_untie 3 wsX4_untie RX4 rmX4_untie := F
  obtain ⟨hX, hB, hA, hA4, hk, hWP, hZ, hR, hO⟩ := id hC
  have hn : n ≤ 24 := hB.1
  have hW : ∀ i j, B i j < 128 := hB.2.1
  refine v_aload_n F dX4_untie_0 rfl rfl ?_
  refine v_iload_n F dX4_untie_1 rfl ?_
  refine v_callVX F 1 [_] rfl rfl rfl (c_presentBox_out hl hX hB hj) gX4_untie_X4_presentBox rfl hd_X4_presentBox ⟨⟨rfl, rfl⟩, ⟨(Nat.le_of_ble_eq_true rfl), (Nat.le_of_ble_eq_true rfl)⟩, ⟨(Nat.le_of_ble_eq_true rfl), (Nat.le_of_ble_eq_true rfl)⟩, (Nat.le_of_ble_eq_true rfl)⟩ hX.x rfl dX4_untie_2 (fun E h => h) hnx (Nat.le_of_ble_eq_true rfl) (Nat.le_of_ble_eq_true rfl) (fun v2 M2 q2 => ?_)
  exact q2.elim
theorem fo_X4_untie_89 : FO wsX4_untie RX4 89 1 1 := ⟨_, _, _, rfl, by decide, by decide +kernel, by decide +kernel⟩
theorem fo_X4_untie_108 : FO wsX4_untie RX4 108 1 8 := ⟨_, _, _, rfl, by decide, by decide +kernel, by decide +kernel⟩
set_option maxHeartbeats 4000000 in
set_option maxRecDepth 100000 in
theorem c_untie_ok {l : Launch} {ω : Om} {M : MM} (hl9 : l.stackTraces = false) {A B P : FF} {n k : Nat} {R : Nat → (Nat → Int32) × Nat} {Z : Nat → Prop} (hC : CI ω A B P n k R Z M) {j y0 : Nat} (hj : j < n) (hg : B j 8 = 0) (h6 : B j 6 = y0 + 1) (hy : ∀ y, B j 6 = y + 1 → y < n ∧ y ≠ j) (hpg : unl B j j 0 = B j 0) (hp5 : B j 0 < 5) (hB2 : WB (unl B j) n) (hO2 : PF (unl B j) n) (hq : ∀ q, q < 5 → q ≠ B j 0 → ordF (unl B j) n q = ordF B n q) : Ct l ω yX4_untie wsX4_untie rmX4_untie [.ref (A 0 0), .int (nI j)] M (fun v M9 => ∃ R9 P9 c9, v = some (.int (nI c9)) ∧ CI ω A (unl B j) P9 n k R9 Z M9 ∧ Fr Z M M9 ∧ Fall P (B j 0) k (ordF (unl B j) n (B j 0) = ordF B n (B j 0)) c9 P9) 3 18 := by
  refine Ct.ofV (cc := cX4_untie) (maxL := 3) (ret := (some .int)) [some (.ref (A 0 0)), some (.int (nI j)), none] (by decide) rfl (Nat.le_of_ble_eq_true rfl) rfl (Lc.av (av := [.ref (A 0 0), .int (nI j)]) (k := 1) rfl) ?_
  intro σ F hl hr hname
  have F : Fx ω σ cX4_untie 3 wsX4_untie RX4 rmX4_untie := F
  obtain ⟨hX, hB, hA, hA4, hk, hWP, hZ, hR, hO⟩ := id hC
  have hn : n ≤ 24 := hB.1
  have hW : ∀ i j, B i j < 128 := hB.2.1
  obtain ⟨⟨ρ2, hρ20, hρ2⟩, -⟩ := id hO2
  refine v_aload_n F dX4_untie_0 rfl rfl ?_
  refine v_iload_n F dX4_untie_1 rfl ?_
  refine v_callV F 1 [_] rfl rfl rfl ((c_presentBox_ok (by rw [hl]; exact hl9) hX hB hj hg).noX (fun _ h => h)) gX4_untie_X4_presentBox rfl hd_X4_presentBox ⟨⟨rfl, rfl⟩, ⟨(Nat.le_of_ble_eq_true rfl), (Nat.le_of_ble_eq_true rfl)⟩, ⟨(Nat.le_of_ble_eq_true rfl), (Nat.le_of_ble_eq_true rfl)⟩, (Nat.le_of_ble_eq_true rfl)⟩ hX.x rfl dX4_untie_2 (fun v2 M2 q2 => ?_)
  obtain ⟨rfl, e2⟩ := q2
  replace e2 := e2.symm
  subst e2
  refine v_astore_n F dX4_untie_5 rfl (Nat.le_of_ble_eq_true rfl) (ok2_d rfl) ?_
  refine v_aload_n F dX4_untie_6 rfl rfl ?_
  refine v_get_o (o := oA A (B j 6)) F 1 8 fo_X4_untie_108 dX4_untie_7 (hX.box hj) rfl (fun h7 => ?_) (fun a7 h7 => ?_)
  · exact absurd h7 (by rw [h6]; exact fun h => nomatch h)
  · refine v_ifnonnull_r F 23 dX4_untie_10 (by decide) ?_
    refine v_aload_n F dX4_untie_23 rfl rfl ?_
    refine v_callV F 0 [] rfl rfl rfl (c_unl hX hn hZ hj hy) gX4_untie_X1_loosenFromLeader rfl hd_X1_loosenFromLeader ⟨⟨rfl, rfl⟩, ⟨(Nat.le_of_ble_eq_true rfl), (Nat.le_of_ble_eq_true rfl)⟩, ⟨(Nat.le_of_ble_eq_true rfl), (Nat.le_of_ble_eq_true rfl)⟩, (Nat.le_of_ble_eq_true rfl)⟩ (hX.box hj) rfl dX4_untie_24 (fun v24 M24 q24 => ?_)
    obtain ⟨rfl, hX1, hF1⟩ := q24
    refine v_aload_n F dX4_untie_27 rfl rfl ?_
    refine v_aload_n F dX4_untie_28 rfl rfl ?_
    refine v_get F 1 1 fo_X4_untie_89 dX4_untie_29 (hX1.box hj) rfl ?_
    refine V.toI (show nI (unl B j j 0) = nI (B j 0) by rw [hpg]) ?_
    refine v_callV F 1 [_] rfl rfl rfl (c_readAgain (by rw [hl]; exact hl9) hX1 hB2 hA4 hk hWP hA hp5 hZ ρ2 hρ20 hρ2 (hO2.2 _ hp5).1 (hO2.2 _ hp5).2 (hR _ hp5).1 (hO.2 _ hp5).1 (hR _ hp5).2 (hO.2 _ hp5).2) gX4_untie_X4_readAgain rfl hd_X4_readAgain ⟨⟨rfl, rfl⟩, ⟨(Nat.le_of_ble_eq_true rfl), (Nat.le_of_ble_eq_true rfl)⟩, ⟨(Nat.le_of_ble_eq_true rfl), (Nat.le_of_ble_eq_true rfl)⟩, (Nat.le_of_ble_eq_true rfl)⟩ hX1.x rfl dX4_untie_32 (fun v32 M32 q32 => ?_)
    obtain ⟨R9, P9, c9, rfl, hX9, hF9, g1, g2, g3, g4⟩ := q32
    exact v_iret F hr dX4_untie_35 (Nat.le_of_ble_eq_true rfl) (Nat.le_of_ble_eq_true rfl) ⟨R9, P9, c9, rfl, hC.next hX9 hB2 hO2 hq g1 g2 g3 (by rcases g4 with h | h; exact Or.inl h; exact Or.inr h), hF1.tr hF9, by rcases g4 with h | h; exact Or.inl h; exact Or.inr h⟩
theorem hat_X4_untie_65 : ∀ w ∈ (vx_atS RX4 65 "java/lang/IllegalStateException" nmE).filter goodWord, w ∈ wsX4_untie := by decide +kernel
set_option maxHeartbeats 4000000 in
set_option maxRecDepth 100000 in
theorem c_untie_x {l : Launch} {ω : Om} {M : MM} (hl9 : l.stackTraces = false) {A B P : FF} {n k : Nat} {R : Nat → (Nat → Int32) × Nat} {Z : Nat → Prop} (hC : CI ω A B P n k R Z M) {j : Nat} (hj : j < n) (hg : B j 8 = 0) (h6 : B j 6 = 0) : CtX l ω yX4_untie wsX4_untie rmX4_untie [.ref (A 0 0), .int (nI j)] M (fun v M9 => False) (fun E => E = "java/lang/IllegalStateException") 3 18 := by
  refine CtX.ofV (cc := cX4_untie) (maxL := 3) (ret := (some .int)) [some (.ref (A 0 0)), some (.int (nI j)), none] (by decide) rfl (Nat.le_of_ble_eq_true rfl) rfl (Lc.av (av := [.ref (A 0 0), .int (nI j)]) (k := 1) rfl) ?_
  intro σ F hl hr hnx
  have hl : σ.2.1.stackTraces = false := by rw [hl]; exact hl9
  have F : Fx ω σ cX4_untie 3 wsX4_untie RX4 rmX4_untie := F
  obtain ⟨hX, hB, hA, hA4, hk, hWP, hZ, hR, hO⟩ := id hC
  have hn : n ≤ 24 := hB.1
  have hW : ∀ i j, B i j < 128 := hB.2.1
  refine v_aload_n F dX4_untie_0 rfl rfl ?_
  refine v_iload_n F dX4_untie_1 rfl ?_
  refine v_callVX F 1 [_] rfl rfl rfl (c_presentBox_ok hl hX hB hj hg) gX4_untie_X4_presentBox rfl hd_X4_presentBox ⟨⟨rfl, rfl⟩, ⟨(Nat.le_of_ble_eq_true rfl), (Nat.le_of_ble_eq_true rfl)⟩, ⟨(Nat.le_of_ble_eq_true rfl), (Nat.le_of_ble_eq_true rfl)⟩, (Nat.le_of_ble_eq_true rfl)⟩ hX.x rfl dX4_untie_2 (fun E h => h.elim) hnx (Nat.le_of_ble_eq_true rfl) (Nat.le_of_ble_eq_true rfl) (fun v2 M2 q2 => ?_)
  obtain ⟨rfl, e2⟩ := q2
  replace e2 := e2.symm
  subst e2
  refine v_astore_n F dX4_untie_5 rfl (Nat.le_of_ble_eq_true rfl) (ok2_d rfl) ?_
  refine v_aload_n F dX4_untie_6 rfl rfl ?_
  refine v_get_o (o := oA A (B j 6)) F 1 8 fo_X4_untie_108 dX4_untie_7 (hX.box hj) rfl (fun h7 => ?_) (fun a7 h7 => ?_)
  · refine v_ifnonnull_n F dX4_untie_10 ?_
    exact v_throw (cls := "java/lang/IllegalStateException") (text := "the box follows none") F hl rfl hnx (by decide +kernel) (by decide +kernel) (by decide +kernel) (by decide +kernel) hat_X4_untie_65 hnw_65 hgd_61_65 dX4_untie_13 dX4_untie_16 dX4_untie_17 dX4_untie_19 dX4_untie_22 ⟨(Nat.le_of_ble_eq_true rfl), (Nat.le_of_ble_eq_true rfl), (Nat.le_of_ble_eq_true rfl), (Nat.le_of_ble_eq_true rfl)⟩ (Nat.le_of_ble_eq_true rfl) (Nat.le_of_ble_eq_true rfl) rfl
  · exact absurd h7 (by rw [h6]; exact fun h => nomatch h)
def rmX4_tie : Room := { frames := 73, cells := 3, slots := 18, locals := 1668 }
theorem hd_X4_tie : yX4_tie.cls = (RX4, TX4, 7).1 ∧ yX4_tie.cls ≠ "java/lang/invoke/MethodHandle" ∧ yX4_tie.cls ≠ "java/lang/invoke/VarHandle" ∧ (parseMethodDescriptor yX4_tie.desc).map (fun d => d.parameters.length) = some 2 := by decide +kernel
theorem fo_X4_tie_89 : FO wsX4_tie RX4 89 1 1 := ⟨_, _, _, rfl, by decide, by decide +kernel, by decide +kernel⟩
theorem fo_X4_tie_104 : FO wsX4_tie RX4 104 1 9 := ⟨_, _, _, rfl, by decide, by decide +kernel, by decide +kernel⟩
theorem fo_X4_tie_108 : FO wsX4_tie RX4 108 1 8 := ⟨_, _, _, rfl, by decide, by decide +kernel, by decide +kernel⟩
theorem fp_X4_tie_104 : FP wsX4_tie RX4 104 1 9 (.object "Readingorder$Box") := ⟨_, _, _, tyX1, rfl, by decide, by decide +kernel, by decide +kernel, tyX1_ok, nmX1, rfl, by decide +kernel⟩
theorem fp_X4_tie_108 : FP wsX4_tie RX4 108 1 8 (.object "Readingorder$Box") := ⟨_, _, _, tyX1, rfl, by decide, by decide +kernel, by decide +kernel, tyX1_ok, nmX1, rfl, by decide +kernel⟩
set_option maxHeartbeats 4000000 in
set_option maxRecDepth 100000 in
theorem c_tie_ok {l : Launch} {ω : Om} {M : MM} (hl9 : l.stackTraces = false) {A B P : FF} {n k : Nat} {R : Nat → (Nat → Int32) × Nat} {Z : Nat → Prop} (hC : CI ω A B P n k R Z M) {j t : Nat} (hj : j < n) (hg : B j 8 = 0) (ht : t < n) (hgt : B t 8 = 0) (hjt : j ≠ t) (hpp : B j 0 = B t 0) (h7 : B j 7 = 0) (h6 : B t 6 = 0) (hup : ∀ q, up B (q + 1) j ≠ t + 1) (ρ : Nat → Nat) (hρ : ∀ j y, j < n → B j 6 = y + 1 → ρ y < ρ j) (hp5 : B j 0 < 5) (hB2 : WB (u2 (u2 B j 7 (t + 1)) t 6 (j + 1)) n) (hO2 : PF (u2 (u2 B j 7 (t + 1)) t 6 (j + 1)) n) (hq : ∀ q, q < 5 → q ≠ B j 0 → ordF (u2 (u2 B j 7 (t + 1)) t 6 (j + 1)) n q = ordF B n q) : Ct l ω yX4_tie wsX4_tie rmX4_tie [.ref (A 0 0), .int (nI j), .int (nI t)] M (fun v M9 => ∃ R9 P9 c9, v = some (.int (nI c9)) ∧ CI ω A (u2 (u2 B j 7 (t + 1)) t 6 (j + 1)) P9 n k R9 Z M9 ∧ Fr Z M M9 ∧ Fall P (B j 0) k (ordF (u2 (u2 B j 7 (t + 1)) t 6 (j + 1)) n (B j 0) = ordF B n (B j 0)) c9 P9) 3 18 := by
  refine Ct.ofV (cc := cX4_tie) (maxL := 5) (ret := (some .int)) [some (.ref (A 0 0)), some (.int (nI j)), some (.int (nI t)), none, none] (by decide) rfl (Nat.le_of_ble_eq_true rfl) rfl (Lc.av (av := [.ref (A 0 0), .int (nI j), .int (nI t)]) (k := 2) rfl) ?_
  intro σ F hl hr hname
  have F : Fx ω σ cX4_tie 5 wsX4_tie RX4 rmX4_tie := F
  obtain ⟨hX, hB, hA, hA4, hk, hWP, hZ, hR, hO⟩ := id hC
  have hn : n ≤ 24 := hB.1
  have hW : ∀ i j, B i j < 128 := hB.2.1
  obtain ⟨⟨ρ2, hρ20, hρ2⟩, -⟩ := id hO2
  refine v_aload_n F dX4_tie_0 rfl rfl ?_
  refine v_iload_n F dX4_tie_1 rfl ?_
  refine v_callV F 1 [_] rfl rfl rfl ((c_presentBox_ok (by rw [hl]; exact hl9) hX hB hj hg).noX (fun _ h => h)) gX4_tie_X4_presentBox rfl hd_X4_presentBox ⟨⟨rfl, rfl⟩, ⟨(Nat.le_of_ble_eq_true rfl), (Nat.le_of_ble_eq_true rfl)⟩, ⟨(Nat.le_of_ble_eq_true rfl), (Nat.le_of_ble_eq_true rfl)⟩, (Nat.le_of_ble_eq_true rfl)⟩ hX.x rfl dX4_tie_2 (fun v2 M2 q2 => ?_)
  obtain ⟨rfl, e2⟩ := q2
  replace e2 := e2.symm
  subst e2
  refine v_astore_n F dX4_tie_5 rfl (Nat.le_of_ble_eq_true rfl) (ok2_d rfl) ?_
  refine v_aload_n F dX4_tie_6 rfl rfl ?_
  refine v_iload_n F dX4_tie_7 rfl ?_
  refine v_callV F 1 [_] rfl rfl rfl ((c_presentBox_ok (by rw [hl]; exact hl9) hX hB ht hgt).noX (fun _ h => h)) gX4_tie_X4_presentBox rfl hd_X4_presentBox ⟨⟨rfl, rfl⟩, ⟨(Nat.le_of_ble_eq_true rfl), (Nat.le_of_ble_eq_true rfl)⟩, ⟨(Nat.le_of_ble_eq_true rfl), (Nat.le_of_ble_eq_true rfl)⟩, (Nat.le_of_ble_eq_true rfl)⟩ hX.x rfl dX4_tie_8 (fun v8 M8 q8 => ?_)
  obtain ⟨rfl, e8⟩ := q8
  replace e8 := e8.symm
  subst e8
  refine v_astore F dX4_tie_11 rfl (Nat.le_of_ble_eq_true rfl) (ok2_d rfl) ?_
  refine v_aload_n F dX4_tie_13 rfl rfl ?_
  refine v_get F 1 1 fo_X4_tie_89 dX4_tie_14 (hX.box hj) rfl ?_
  refine v_aload F dX4_tie_17 rfl rfl ?_
  refine v_get F 1 1 fo_X4_tie_89 dX4_tie_19 (hX.box ht) rfl ?_
  refine v_icmp_ne_n F 31 dX4_tie_22 (by decide) (by first | omega | exact Nat.lt_trans (hW _ _) (by decide)) (by first | omega | exact Nat.lt_trans (hW _ _) (by decide)) (fun c22 => ?_) (fun c22 => ?_)
  · exact absurd hpp c22
  · refine v_aload_n F dX4_tie_25 rfl rfl ?_
    refine v_aload F dX4_tie_26 rfl rfl ?_
    refine v_acmp_ne F (some _) (some _) 41 dX4_tie_28 (by decide) (fun c28 => ?_) (fun c28 => ?_)
    · refine v_aload_n F dX4_tie_41 rfl rfl ?_
      refine v_get_o (o := oA A (B j 7)) F 1 9 fo_X4_tie_104 dX4_tie_42 (hX.box hj) rfl (fun h42 => ?_) (fun a42 h42 => ?_)
      · refine v_ifnonnull_n F dX4_tie_45 ?_
        refine v_aload F dX4_tie_48 rfl rfl ?_
        refine v_get_o (o := oA A (B t 6)) F 1 8 fo_X4_tie_108 dX4_tie_50 (hX.box ht) rfl (fun h50 => ?_) (fun a50 h50 => ?_)
        · refine v_ifnonnull_n F dX4_tie_53 ?_
          refine v_aload_n F dX4_tie_56 rfl rfl ?_
          refine v_aload F dX4_tie_57 rfl rfl ?_
          refine v_callV F 1 [_] rfl rfl rfl (c_X1_comesBehind (fun j9 h9 => hX.box h9) (fun j9 y9 h9 e9 => (hB.2.2.1 j9 y9 h9 e9).1) (fun x9 y9 h8 h9 e9 => hX.inj hn h8 h9 e9) ρ hρ hj ht) gX4_tie_X1_comesBehind rfl hd_X1_comesBehind ⟨⟨rfl, rfl⟩, ⟨(Nat.le_of_ble_eq_true rfl), (Nat.le_of_ble_eq_true rfl)⟩, ⟨(Nat.le_of_ble_eq_true rfl), (Nat.le_of_ble_eq_true rfl)⟩, (Nat.le_of_ble_eq_true rfl)⟩ (hX.box hj) rfl dX4_tie_59 (fun v59 M59 q59 => ?_)
          obtain ⟨⟨b59, rfl, hb59⟩, e59⟩ := q59
          replace e59 := e59.symm
          subst e59
          refine v_if_eq_b F 75 dX4_tie_62 (by decide) (fun c62 => ?_) (fun c62 => ?_)
          · refine v_aload_n F dX4_tie_75 rfl rfl ?_
            refine v_aload F dX4_tie_76 rfl rfl ?_
            refine v_put F 1 9 fp_X4_tie_104 dX4_tie_78 (hX.box hj) rfl rfl (Nat.le_of_ble_eq_true rfl) ?_
            have e1 : (bxF A B j).set 9 (.ref (A 1 t)) = bxF A (u2 B j 7 (t + 1)) j := by simp [bxF, u2, oA, va_rf]
            rw [e1]
            have hX1 := hX.setB (B' := u2 B j 7 (t + 1)) hn hj (fun q hqj => by simp [bxF, u2, hqj])
            refine v_aload F dX4_tie_81 rfl rfl ?_
            refine v_aload_n F dX4_tie_83 rfl rfl ?_
            refine v_put F 1 8 fp_X4_tie_108 dX4_tie_84 (hX1.box ht) rfl rfl (Nat.le_of_ble_eq_true rfl) ?_
            have e2 : (bxF A (u2 B j 7 (t + 1)) t).set 8 (.ref (A 1 j)) = bxF A (u2 (u2 B j 7 (t + 1)) t 6 (j + 1)) t := by simp [bxF, u2, oA, va_rf]
            rw [e2]
            have hX2 := hX1.setB (B' := u2 (u2 B j 7 (t + 1)) t 6 (j + 1)) hn ht (fun q hqj => by simp [bxF, u2, hqj])
            refine v_aload_n F dX4_tie_87 rfl rfl ?_
            refine v_aload_n F dX4_tie_88 rfl rfl ?_
            refine v_get F 1 1 fo_X4_tie_89 dX4_tie_89 (hX2.box hj) rfl ?_
            refine V.toI (show nI ((u2 (u2 B j 7 (t + 1)) t 6 (j + 1)) j 0) = nI (B j 0) by simp [u2]) ?_
            refine v_callV F 1 [_] rfl rfl rfl (c_readAgain (by rw [hl]; exact hl9) hX2 hB2 hA4 hk hWP hA hp5 hZ ρ2 hρ20 hρ2 (hO2.2 _ hp5).1 (hO2.2 _ hp5).2 (hR _ hp5).1 (hO.2 _ hp5).1 (hR _ hp5).2 (hO.2 _ hp5).2) gX4_tie_X4_readAgain rfl hd_X4_readAgain ⟨⟨rfl, rfl⟩, ⟨(Nat.le_of_ble_eq_true rfl), (Nat.le_of_ble_eq_true rfl)⟩, ⟨(Nat.le_of_ble_eq_true rfl), (Nat.le_of_ble_eq_true rfl)⟩, (Nat.le_of_ble_eq_true rfl)⟩ hX2.x rfl dX4_tie_92 (fun v92 M92 q92 => ?_)
            obtain ⟨R9, P9, c9, rfl, hX9, hF9, g1, g2, g3, g4⟩ := q92
            exact v_iret F hr dX4_tie_95 (Nat.le_of_ble_eq_true rfl) (Nat.le_of_ble_eq_true rfl) ⟨R9, P9, c9, rfl, hC.next hX9 hB2 hO2 hq g1 g2 g3 (by rcases g4 with h | h; exact Or.inl h; exact Or.inr h), ((Fr.rf.up (hZ 1 j)).up (hZ 1 t)).tr hF9, by rcases g4 with h | h; exact Or.inl h; exact Or.inr h⟩
          · obtain ⟨q9, hq9⟩ := hb59.mp c62; exact absurd hq9 (hup q9)
        · exact absurd h50 (by rw [h6]; exact fun h => nomatch h)
      · exact absurd h42 (by rw [h7]; exact fun h => nomatch h)
    · exact absurd (hX.inj hn hj ht (Option.some.inj c28)) hjt
theorem hat_X4_tie_54 : ∀ w ∈ (vx_atS RX4 54 "java/lang/IllegalArgumentException" nmE).filter goodWord, w ∈ wsX4_tie := by decide +kernel
set_option maxHeartbeats 4000000 in
set_option maxRecDepth 100000 in
theorem c_tie_iae {l : Launch} {ω : Om} {M : MM} (hl9 : l.stackTraces = false) {A B P : FF} {n k : Nat} {R : Nat → (Nat → Int32) × Nat} {Z : Nat → Prop} (hC : CI ω A B P n k R Z M) {j t : Nat} (hj : j < n) (hg : B j 8 = 0) (ht : t < n) (hgt : B t 8 = 0) (hbad : j = t ∨ B j 0 ≠ B t 0) : CtX l ω yX4_tie wsX4_tie rmX4_tie [.ref (A 0 0), .int (nI j), .int (nI t)] M (fun v M9 => False) (fun E => E = "java/lang/IllegalArgumentException") 3 18 := by
  refine CtX.ofV (cc := cX4_tie) (maxL := 5) (ret := (some .int)) [some (.ref (A 0 0)), some (.int (nI j)), some (.int (nI t)), none, none] (by decide) rfl (Nat.le_of_ble_eq_true rfl) rfl (Lc.av (av := [.ref (A 0 0), .int (nI j), .int (nI t)]) (k := 2) rfl) ?_
  intro σ F hl hr hnx
  have hl : σ.2.1.stackTraces = false := by rw [hl]; exact hl9
  have F : Fx ω σ cX4_tie 5 wsX4_tie RX4 rmX4_tie := F
  obtain ⟨hX, hB, hA, hA4, hk, hWP, hZ, hR, hO⟩ := id hC
  have hn : n ≤ 24 := hB.1
  have hW : ∀ i j, B i j < 128 := hB.2.1
  refine v_aload_n F dX4_tie_0 rfl rfl ?_
  refine v_iload_n F dX4_tie_1 rfl ?_
  refine v_callVX F 1 [_] rfl rfl rfl (c_presentBox_ok hl hX hB hj hg) gX4_tie_X4_presentBox rfl hd_X4_presentBox ⟨⟨rfl, rfl⟩, ⟨(Nat.le_of_ble_eq_true rfl), (Nat.le_of_ble_eq_true rfl)⟩, ⟨(Nat.le_of_ble_eq_true rfl), (Nat.le_of_ble_eq_true rfl)⟩, (Nat.le_of_ble_eq_true rfl)⟩ hX.x rfl dX4_tie_2 (fun E h => h.elim) hnx (Nat.le_of_ble_eq_true rfl) (Nat.le_of_ble_eq_true rfl) (fun v2 M2 q2 => ?_)
  obtain ⟨rfl, e2⟩ := q2
  replace e2 := e2.symm
  subst e2
  refine v_astore_n F dX4_tie_5 rfl (Nat.le_of_ble_eq_true rfl) (ok2_d rfl) ?_
  refine v_aload_n F dX4_tie_6 rfl rfl ?_
  refine v_iload_n F dX4_tie_7 rfl ?_
  refine v_callVX F 1 [_] rfl rfl rfl (c_presentBox_ok hl hX hB ht hgt) gX4_tie_X4_presentBox rfl hd_X4_presentBox ⟨⟨rfl, rfl⟩, ⟨(Nat.le_of_ble_eq_true rfl), (Nat.le_of_ble_eq_true rfl)⟩, ⟨(Nat.le_of_ble_eq_true rfl), (Nat.le_of_ble_eq_true rfl)⟩, (Nat.le_of_ble_eq_true rfl)⟩ hX.x rfl dX4_tie_8 (fun E h => h.elim) hnx (Nat.le_of_ble_eq_true rfl) (Nat.le_of_ble_eq_true rfl) (fun v8 M8 q8 => ?_)
  obtain ⟨rfl, e8⟩ := q8
  replace e8 := e8.symm
  subst e8
  refine v_astore F dX4_tie_11 rfl (Nat.le_of_ble_eq_true rfl) (ok2_d rfl) ?_
  refine v_aload_n F dX4_tie_13 rfl rfl ?_
  refine v_get F 1 1 fo_X4_tie_89 dX4_tie_14 (hX.box hj) rfl ?_
  refine v_aload F dX4_tie_17 rfl rfl ?_
  refine v_get F 1 1 fo_X4_tie_89 dX4_tie_19 (hX.box ht) rfl ?_
  refine v_icmp_ne_n F 31 dX4_tie_22 (by decide) (by first | omega | exact Nat.lt_trans (hW _ _) (by decide)) (by first | omega | exact Nat.lt_trans (hW _ _) (by decide)) (fun c22 => ?_) (fun c22 => ?_)
  · exact v_throw (cls := "java/lang/IllegalArgumentException") (text := "these two can't be tied") F hl rfl hnx (by decide +kernel) (by decide +kernel) (by decide +kernel) (by decide +kernel) hat_X4_tie_54 hnw_54 hgd_50_54 dX4_tie_31 dX4_tie_34 dX4_tie_35 dX4_tie_37 dX4_tie_40 ⟨(Nat.le_of_ble_eq_true rfl), (Nat.le_of_ble_eq_true rfl), (Nat.le_of_ble_eq_true rfl), (Nat.le_of_ble_eq_true rfl)⟩ (Nat.le_of_ble_eq_true rfl) (Nat.le_of_ble_eq_true rfl) rfl
  · refine v_aload_n F dX4_tie_25 rfl rfl ?_
    refine v_aload F dX4_tie_26 rfl rfl ?_
    refine v_acmp_ne F (some _) (some _) 41 dX4_tie_28 (by decide) (fun c28 => ?_) (fun c28 => ?_)
    · exact absurd hbad (by rintro (h | h); exact c28 (by rw [h]); exact h c22)
    · exact v_throw (cls := "java/lang/IllegalArgumentException") (text := "these two can't be tied") F hl rfl hnx (by decide +kernel) (by decide +kernel) (by decide +kernel) (by decide +kernel) hat_X4_tie_54 hnw_54 hgd_50_54 dX4_tie_31 dX4_tie_34 dX4_tie_35 dX4_tie_37 dX4_tie_40 ⟨(Nat.le_of_ble_eq_true rfl), (Nat.le_of_ble_eq_true rfl), (Nat.le_of_ble_eq_true rfl), (Nat.le_of_ble_eq_true rfl)⟩ (Nat.le_of_ble_eq_true rfl) (Nat.le_of_ble_eq_true rfl) rfl
theorem hat_X4_tie_65 : ∀ w ∈ (vx_atS RX4 65 "java/lang/IllegalStateException" nmE).filter goodWord, w ∈ wsX4_tie := by decide +kernel
set_option maxHeartbeats 4000000 in
set_option maxRecDepth 100000 in
theorem c_tie_ise {l : Launch} {ω : Om} {M : MM} (hl9 : l.stackTraces = false) {A B P : FF} {n k : Nat} {R : Nat → (Nat → Int32) × Nat} {Z : Nat → Prop} (hC : CI ω A B P n k R Z M) {j t : Nat} (hj : j < n) (hg : B j 8 = 0) (ht : t < n) (hgt : B t 8 = 0) (hjt : j ≠ t) (hpp : B j 0 = B t 0) (hbad : B j 7 ≠ 0 ∨ B t 6 ≠ 0 ∨ ∃ q, up B (q + 1) j = t + 1) (ρ : Nat → Nat) (hρ : ∀ j y, j < n → B j 6 = y + 1 → ρ y < ρ j) : CtX l ω yX4_tie wsX4_tie rmX4_tie [.ref (A 0 0), .int (nI j), .int (nI t)] M (fun v M9 => False) (fun E => E = "java/lang/IllegalStateException") 3 18 := by
  refine CtX.ofV (cc := cX4_tie) (maxL := 5) (ret := (some .int)) [some (.ref (A 0 0)), some (.int (nI j)), some (.int (nI t)), none, none] (by decide) rfl (Nat.le_of_ble_eq_true rfl) rfl (Lc.av (av := [.ref (A 0 0), .int (nI j), .int (nI t)]) (k := 2) rfl) ?_
  intro σ F hl hr hnx
  have hl : σ.2.1.stackTraces = false := by rw [hl]; exact hl9
  have F : Fx ω σ cX4_tie 5 wsX4_tie RX4 rmX4_tie := F
  obtain ⟨hX, hB, hA, hA4, hk, hWP, hZ, hR, hO⟩ := id hC
  have hn : n ≤ 24 := hB.1
  have hW : ∀ i j, B i j < 128 := hB.2.1
  refine v_aload_n F dX4_tie_0 rfl rfl ?_
  refine v_iload_n F dX4_tie_1 rfl ?_
  refine v_callVX F 1 [_] rfl rfl rfl (c_presentBox_ok hl hX hB hj hg) gX4_tie_X4_presentBox rfl hd_X4_presentBox ⟨⟨rfl, rfl⟩, ⟨(Nat.le_of_ble_eq_true rfl), (Nat.le_of_ble_eq_true rfl)⟩, ⟨(Nat.le_of_ble_eq_true rfl), (Nat.le_of_ble_eq_true rfl)⟩, (Nat.le_of_ble_eq_true rfl)⟩ hX.x rfl dX4_tie_2 (fun E h => h.elim) hnx (Nat.le_of_ble_eq_true rfl) (Nat.le_of_ble_eq_true rfl) (fun v2 M2 q2 => ?_)
  obtain ⟨rfl, e2⟩ := q2
  replace e2 := e2.symm
  subst e2
  refine v_astore_n F dX4_tie_5 rfl (Nat.le_of_ble_eq_true rfl) (ok2_d rfl) ?_
  refine v_aload_n F dX4_tie_6 rfl rfl ?_
  refine v_iload_n F dX4_tie_7 rfl ?_
  refine v_callVX F 1 [_] rfl rfl rfl (c_presentBox_ok hl hX hB ht hgt) gX4_tie_X4_presentBox rfl hd_X4_presentBox ⟨⟨rfl, rfl⟩, ⟨(Nat.le_of_ble_eq_true rfl), (Nat.le_of_ble_eq_true rfl)⟩, ⟨(Nat.le_of_ble_eq_true rfl), (Nat.le_of_ble_eq_true rfl)⟩, (Nat.le_of_ble_eq_true rfl)⟩ hX.x rfl dX4_tie_8 (fun E h => h.elim) hnx (Nat.le_of_ble_eq_true rfl) (Nat.le_of_ble_eq_true rfl) (fun v8 M8 q8 => ?_)
  obtain ⟨rfl, e8⟩ := q8
  replace e8 := e8.symm
  subst e8
  refine v_astore F dX4_tie_11 rfl (Nat.le_of_ble_eq_true rfl) (ok2_d rfl) ?_
  refine v_aload_n F dX4_tie_13 rfl rfl ?_
  refine v_get F 1 1 fo_X4_tie_89 dX4_tie_14 (hX.box hj) rfl ?_
  refine v_aload F dX4_tie_17 rfl rfl ?_
  refine v_get F 1 1 fo_X4_tie_89 dX4_tie_19 (hX.box ht) rfl ?_
  refine v_icmp_ne_n F 31 dX4_tie_22 (by decide) (by first | omega | exact Nat.lt_trans (hW _ _) (by decide)) (by first | omega | exact Nat.lt_trans (hW _ _) (by decide)) (fun c22 => ?_) (fun c22 => ?_)
  · exact absurd hpp c22
  · refine v_aload_n F dX4_tie_25 rfl rfl ?_
    refine v_aload F dX4_tie_26 rfl rfl ?_
    refine v_acmp_ne F (some _) (some _) 41 dX4_tie_28 (by decide) (fun c28 => ?_) (fun c28 => ?_)
    · refine v_aload_n F dX4_tie_41 rfl rfl ?_
      refine v_get_o (o := oA A (B j 7)) F 1 9 fo_X4_tie_104 dX4_tie_42 (hX.box hj) rfl (fun h42 => ?_) (fun a42 h42 => ?_)
      · refine v_ifnonnull_n F dX4_tie_45 ?_
        refine v_aload F dX4_tie_48 rfl rfl ?_
        refine v_get_o (o := oA A (B t 6)) F 1 8 fo_X4_tie_108 dX4_tie_50 (hX.box ht) rfl (fun h50 => ?_) (fun a50 h50 => ?_)
        · refine v_ifnonnull_n F dX4_tie_53 ?_
          refine v_aload_n F dX4_tie_56 rfl rfl ?_
          refine v_aload F dX4_tie_57 rfl rfl ?_
          refine v_callV F 1 [_] rfl rfl rfl (c_X1_comesBehind (fun j9 h9 => hX.box h9) (fun j9 y9 h9 e9 => (hB.2.2.1 j9 y9 h9 e9).1) (fun x9 y9 h8 h9 e9 => hX.inj hn h8 h9 e9) ρ hρ hj ht) gX4_tie_X1_comesBehind rfl hd_X1_comesBehind ⟨⟨rfl, rfl⟩, ⟨(Nat.le_of_ble_eq_true rfl), (Nat.le_of_ble_eq_true rfl)⟩, ⟨(Nat.le_of_ble_eq_true rfl), (Nat.le_of_ble_eq_true rfl)⟩, (Nat.le_of_ble_eq_true rfl)⟩ (hX.box hj) rfl dX4_tie_59 (fun v59 M59 q59 => ?_)
          obtain ⟨⟨b59, rfl, hb59⟩, e59⟩ := q59
          replace e59 := e59.symm
          subst e59
          refine v_if_eq_b F 75 dX4_tie_62 (by decide) (fun c62 => ?_) (fun c62 => ?_)
          · exact absurd hbad (by rintro (h | h | h); exact h (oA_n h42); exact h (oA_n h50); rw [hb59.mpr h] at c62; exact Bool.noConfusion c62)
          · exact v_throw (cls := "java/lang/IllegalStateException") (text := "there is a tie already that rules this one out") F hl rfl hnx (by decide +kernel) (by decide +kernel) (by decide +kernel) (by decide +kernel) hat_X4_tie_65 hnw_65 hgd_61_65 dX4_tie_65 dX4_tie_68 dX4_tie_69 dX4_tie_71 dX4_tie_74 ⟨(Nat.le_of_ble_eq_true rfl), (Nat.le_of_ble_eq_true rfl), (Nat.le_of_ble_eq_true rfl), (Nat.le_of_ble_eq_true rfl)⟩ (Nat.le_of_ble_eq_true rfl) (Nat.le_of_ble_eq_true rfl) rfl
        · refine v_ifnonnull_r F 65 dX4_tie_53 (by decide) ?_
          exact v_throw (cls := "java/lang/IllegalStateException") (text := "there is a tie already that rules this one out") F hl rfl hnx (by decide +kernel) (by decide +kernel) (by decide +kernel) (by decide +kernel) hat_X4_tie_65 hnw_65 hgd_61_65 dX4_tie_65 dX4_tie_68 dX4_tie_69 dX4_tie_71 dX4_tie_74 ⟨(Nat.le_of_ble_eq_true rfl), (Nat.le_of_ble_eq_true rfl), (Nat.le_of_ble_eq_true rfl), (Nat.le_of_ble_eq_true rfl)⟩ (Nat.le_of_ble_eq_true rfl) (Nat.le_of_ble_eq_true rfl) rfl
      · refine v_ifnonnull_r F 65 dX4_tie_45 (by decide) ?_
        exact v_throw (cls := "java/lang/IllegalStateException") (text := "there is a tie already that rules this one out") F hl rfl hnx (by decide +kernel) (by decide +kernel) (by decide +kernel) (by decide +kernel) hat_X4_tie_65 hnw_65 hgd_61_65 dX4_tie_65 dX4_tie_68 dX4_tie_69 dX4_tie_71 dX4_tie_74 ⟨(Nat.le_of_ble_eq_true rfl), (Nat.le_of_ble_eq_true rfl), (Nat.le_of_ble_eq_true rfl), (Nat.le_of_ble_eq_true rfl)⟩ (Nat.le_of_ble_eq_true rfl) (Nat.le_of_ble_eq_true rfl) rfl
    · exact absurd (hX.inj hn hj ht (Option.some.inj c28)) hjt
set_option maxHeartbeats 4000000 in
set_option maxRecDepth 100000 in
theorem c_tie_x1g {l : Launch} {ω : Om} {M : MM} (hl9 : l.stackTraces = false) {A B P : FF} {n k : Nat} {R : Nat → (Nat → Int32) × Nat} {Z : Nat → Prop} (hC : CI ω A B P n k R Z M) {j : Nat} {t : Int32} (hj : j < n) (hg : B j 8 ≠ 0) : CtX l ω yX4_tie wsX4_tie rmX4_tie [.ref (A 0 0), .int (nI j), .int t] M (fun v M9 => False) (fun E => E = "java/lang/IndexOutOfBoundsException") 3 18 := by
  refine CtX.ofV (cc := cX4_tie) (maxL := 5) (ret := (some .int)) [some (.ref (A 0 0)), some (.int (nI j)), some (.int t), none, none] (by decide) rfl (Nat.le_of_ble_eq_true rfl) rfl (Lc.av (av := [.ref (A 0 0), .int (nI j), .int t]) (k := 2) rfl) ?_
  intro σ F hl hr hnx
  have hl : σ.2.1.stackTraces = false := by rw [hl]; exact hl9
  have F : Fx ω σ cX4_tie 5 wsX4_tie RX4 rmX4_tie := F
  obtain ⟨hX, hB, hA, hA4, hk, hWP, hZ, hR, hO⟩ := id hC
  have hn : n ≤ 24 := hB.1
  have hW : ∀ i j, B i j < 128 := hB.2.1
  refine v_aload_n F dX4_tie_0 rfl rfl ?_
  refine v_iload_n F dX4_tie_1 rfl ?_
  refine v_callVX F 1 [_] rfl rfl rfl (c_presentBox_gone hl hX hB hj hg) gX4_tie_X4_presentBox rfl hd_X4_presentBox ⟨⟨rfl, rfl⟩, ⟨(Nat.le_of_ble_eq_true rfl), (Nat.le_of_ble_eq_true rfl)⟩, ⟨(Nat.le_of_ble_eq_true rfl), (Nat.le_of_ble_eq_true rfl)⟩, (Nat.le_of_ble_eq_true rfl)⟩ hX.x rfl dX4_tie_2 (fun E h => h) hnx (Nat.le_of_ble_eq_true rfl) (Nat.le_of_ble_eq_true rfl) (fun v2 M2 q2 => ?_)
  exact q2.elim
set_option maxHeartbeats 4000000 in
set_option maxRecDepth 100000 in
theorem c_tie_x1o {l : Launch} {ω : Om} {M : MM} (hl9 : l.stackTraces = false) {A B P : FF} {n k : Nat} {R : Nat → (Nat → Int32) × Nat} {Z : Nat → Prop} (hC : CI ω A B P n k R Z M) {j t : Int32} (hj : j < 0 ∨ nI n ≤ j) : CtX l ω yX4_tie wsX4_tie rmX4_tie [.ref (A 0 0), .int j, .int t] M (fun v M9 => False) (fun E => E = "java/lang/IndexOutOfBoundsException") 3 18 := by
  refine CtX.ofV (cc := cX4_tie) (maxL := 5) (ret := (some .int)) [some (.ref (A 0 0)), some (.int j), some (.int t), none, none] (by decide) rfl (Nat.le_of_ble_eq_true rfl) rfl (Lc.av (av := [.ref (A 0 0), .int j, .int t]) (k := 2) rfl) ?_
  intro σ F hl hr hnx
  have hl : σ.2.1.stackTraces = false := by rw [hl]; exact hl9
  have F : Fx ω σ cX4_tie 5 wsX4_tie RX4 rmX4_tie := F
  obtain ⟨hX, hB, hA, hA4, hk, hWP, hZ, hR, hO⟩ := id hC
  have hn : n ≤ 24 := hB.1
  have hW : ∀ i j, B i j < 128 := hB.2.1
  refine v_aload_n F dX4_tie_0 rfl rfl ?_
  refine v_iload_n F dX4_tie_1 rfl ?_
  refine v_callVX F 1 [_] rfl rfl rfl (c_presentBox_out hl hX hB hj) gX4_tie_X4_presentBox rfl hd_X4_presentBox ⟨⟨rfl, rfl⟩, ⟨(Nat.le_of_ble_eq_true rfl), (Nat.le_of_ble_eq_true rfl)⟩, ⟨(Nat.le_of_ble_eq_true rfl), (Nat.le_of_ble_eq_true rfl)⟩, (Nat.le_of_ble_eq_true rfl)⟩ hX.x rfl dX4_tie_2 (fun E h => h) hnx (Nat.le_of_ble_eq_true rfl) (Nat.le_of_ble_eq_true rfl) (fun v2 M2 q2 => ?_)
  exact q2.elim
set_option maxHeartbeats 4000000 in
set_option maxRecDepth 100000 in
theorem c_tie_x2g {l : Launch} {ω : Om} {M : MM} (hl9 : l.stackTraces = false) {A B P : FF} {n k : Nat} {R : Nat → (Nat → Int32) × Nat} {Z : Nat → Prop} (hC : CI ω A B P n k R Z M) {j t : Nat} (hj : j < n) (hg : B j 8 = 0) (ht : t < n) (hgt : B t 8 ≠ 0) : CtX l ω yX4_tie wsX4_tie rmX4_tie [.ref (A 0 0), .int (nI j), .int (nI t)] M (fun v M9 => False) (fun E => E = "java/lang/IndexOutOfBoundsException") 3 18 := by
  refine CtX.ofV (cc := cX4_tie) (maxL := 5) (ret := (some .int)) [some (.ref (A 0 0)), some (.int (nI j)), some (.int (nI t)), none, none] (by decide) rfl (Nat.le_of_ble_eq_true rfl) rfl (Lc.av (av := [.ref (A 0 0), .int (nI j), .int (nI t)]) (k := 2) rfl) ?_
  intro σ F hl hr hnx
  have hl : σ.2.1.stackTraces = false := by rw [hl]; exact hl9
  have F : Fx ω σ cX4_tie 5 wsX4_tie RX4 rmX4_tie := F
  obtain ⟨hX, hB, hA, hA4, hk, hWP, hZ, hR, hO⟩ := id hC
  have hn : n ≤ 24 := hB.1
  have hW : ∀ i j, B i j < 128 := hB.2.1
  refine v_aload_n F dX4_tie_0 rfl rfl ?_
  refine v_iload_n F dX4_tie_1 rfl ?_
  refine v_callVX F 1 [_] rfl rfl rfl (c_presentBox_ok hl hX hB hj hg) gX4_tie_X4_presentBox rfl hd_X4_presentBox ⟨⟨rfl, rfl⟩, ⟨(Nat.le_of_ble_eq_true rfl), (Nat.le_of_ble_eq_true rfl)⟩, ⟨(Nat.le_of_ble_eq_true rfl), (Nat.le_of_ble_eq_true rfl)⟩, (Nat.le_of_ble_eq_true rfl)⟩ hX.x rfl dX4_tie_2 (fun E h => h.elim) hnx (Nat.le_of_ble_eq_true rfl) (Nat.le_of_ble_eq_true rfl) (fun v2 M2 q2 => ?_)
  obtain ⟨rfl, e2⟩ := q2
  replace e2 := e2.symm
  subst e2
  refine v_astore_n F dX4_tie_5 rfl (Nat.le_of_ble_eq_true rfl) (ok2_d rfl) ?_
  refine v_aload_n F dX4_tie_6 rfl rfl ?_
  refine v_iload_n F dX4_tie_7 rfl ?_
  refine v_callVX F 1 [_] rfl rfl rfl (c_presentBox_gone hl hX hB ht hgt) gX4_tie_X4_presentBox rfl hd_X4_presentBox ⟨⟨rfl, rfl⟩, ⟨(Nat.le_of_ble_eq_true rfl), (Nat.le_of_ble_eq_true rfl)⟩, ⟨(Nat.le_of_ble_eq_true rfl), (Nat.le_of_ble_eq_true rfl)⟩, (Nat.le_of_ble_eq_true rfl)⟩ hX.x rfl dX4_tie_8 (fun E h => h) hnx (Nat.le_of_ble_eq_true rfl) (Nat.le_of_ble_eq_true rfl) (fun v8 M8 q8 => ?_)
  exact q8.elim
set_option maxHeartbeats 4000000 in
set_option maxRecDepth 100000 in
theorem c_tie_x2o {l : Launch} {ω : Om} {M : MM} (hl9 : l.stackTraces = false) {A B P : FF} {n k : Nat} {R : Nat → (Nat → Int32) × Nat} {Z : Nat → Prop} (hC : CI ω A B P n k R Z M) {j : Nat} {t : Int32} (hj : j < n) (hg : B j 8 = 0) (ht : t < 0 ∨ nI n ≤ t) : CtX l ω yX4_tie wsX4_tie rmX4_tie [.ref (A 0 0), .int (nI j), .int t] M (fun v M9 => False) (fun E => E = "java/lang/IndexOutOfBoundsException") 3 18 := by
  refine CtX.ofV (cc := cX4_tie) (maxL := 5) (ret := (some .int)) [some (.ref (A 0 0)), some (.int (nI j)), some (.int t), none, none] (by decide) rfl (Nat.le_of_ble_eq_true rfl) rfl (Lc.av (av := [.ref (A 0 0), .int (nI j), .int t]) (k := 2) rfl) ?_
  intro σ F hl hr hnx
  have hl : σ.2.1.stackTraces = false := by rw [hl]; exact hl9
  have F : Fx ω σ cX4_tie 5 wsX4_tie RX4 rmX4_tie := F
  obtain ⟨hX, hB, hA, hA4, hk, hWP, hZ, hR, hO⟩ := id hC
  have hn : n ≤ 24 := hB.1
  have hW : ∀ i j, B i j < 128 := hB.2.1
  refine v_aload_n F dX4_tie_0 rfl rfl ?_
  refine v_iload_n F dX4_tie_1 rfl ?_
  refine v_callVX F 1 [_] rfl rfl rfl (c_presentBox_ok hl hX hB hj hg) gX4_tie_X4_presentBox rfl hd_X4_presentBox ⟨⟨rfl, rfl⟩, ⟨(Nat.le_of_ble_eq_true rfl), (Nat.le_of_ble_eq_true rfl)⟩, ⟨(Nat.le_of_ble_eq_true rfl), (Nat.le_of_ble_eq_true rfl)⟩, (Nat.le_of_ble_eq_true rfl)⟩ hX.x rfl dX4_tie_2 (fun E h => h.elim) hnx (Nat.le_of_ble_eq_true rfl) (Nat.le_of_ble_eq_true rfl) (fun v2 M2 q2 => ?_)
  obtain ⟨rfl, e2⟩ := q2
  replace e2 := e2.symm
  subst e2
  refine v_astore_n F dX4_tie_5 rfl (Nat.le_of_ble_eq_true rfl) (ok2_d rfl) ?_
  refine v_aload_n F dX4_tie_6 rfl rfl ?_
  refine v_iload_n F dX4_tie_7 rfl ?_
  refine v_callVX F 1 [_] rfl rfl rfl (c_presentBox_out hl hX hB ht) gX4_tie_X4_presentBox rfl hd_X4_presentBox ⟨⟨rfl, rfl⟩, ⟨(Nat.le_of_ble_eq_true rfl), (Nat.le_of_ble_eq_true rfl)⟩, ⟨(Nat.le_of_ble_eq_true rfl), (Nat.le_of_ble_eq_true rfl)⟩, (Nat.le_of_ble_eq_true rfl)⟩ hX.x rfl dX4_tie_8 (fun E h => h) hnx (Nat.le_of_ble_eq_true rfl) (Nat.le_of_ble_eq_true rfl) (fun v8 M8 q8 => ?_)
  exact q8.elim
def mA (B : FF) (i : Nat) : Nat := B i 1 + B i 3 / 2
def mD (B : FF) (i : Nat) : Nat := B i 2 + B i 4 / 2
def di (a b : Nat) : Nat := if a < b then b - a else a - b
def wyF (B : FF) (u : List Nat) : Nat → Nat := fl (fun c i => c + di (mA B (u.getD i 0)) (mA B (u.getD (i + 1) 0)) + di (mD B (u.getD i 0)) (mD B (u.getD (i + 1) 0))) 0
def fyF (B : FF) (u : List Nat) : Nat → Nat := fl (fun c q => if ftA B u q ≠ 0 then c + 1 else c) 0
theorem v_mabs_n {ω : Om} {σ : Sg} {cc : ByteArray} {nL : Nat} {Ts : List Cond} {own : String} {rm : Room} {M : MM} {L : List (Option Value)} {kc ks : Nat} {Q : State → Prop} {pc : Nat} {st : List Value} (F : Fx ω σ cc nL Ts own rm) {a b idx : Nat} (ha : a < 2 ^ 30) (hb : b < 2 ^ 30) (hLn : L.length = nL) (hl : Cond.methodLink own idx Lib.Math.abs.name ∈ Ts) (hs : Cond.static Lib.Math.abs.name ∈ Ts) (hi : Cond.initialized "java/lang/Math" ∈ Ts) (hcd : Cond.code Lib.Math.abs.name Lib.Math.abs.code 1 (some .int) ∈ Ts) (d : decode cc pc = .ok (.invokestatic idx, 3)) (hR : 1 ≤ rm.frames ∧ (st.map fun v => v.category).sum + 13 ≤ rm.locals ∧ kc ≤ rm.cells ∧ ks ≤ rm.slots)
    (k : V ω σ M L kc ks Q (pc + 3) (.int (nI (di a b)) :: st)) : V ω σ M L kc ks Q pc (.int (nI b - nI a) :: st) := by
  obtain ⟨p, l, e, R, s, m, args, below, meth, c⟩ := σ
  intro H locs ls h1 h2 h3
  obtain ⟨hx, hb9, hml, hown, hts, hK, hlk, hRr, hz⟩ := F
  cases hRr
  refine va_mabs hx hb9 (hml.trans (hLn.symm.trans h3.1.symm)) hown (hts _ hl) (hts _ hs) (hts _ hi) (hts _ hcd) hR.1 hR.2.1 hR.2.2.1 hR.2.2.2 d ?_
  have e : (if 0 ≤ nI b - nI a then nI b - nI a else 0 - (nI b - nI a)) = nI (di a b) := by
    unfold di
    by_cases h : a < b
    · rw [if_pos h, pk_sub (by omega), if_pos (nI_pos' (by omega))]
    · rw [if_neg h]
      by_cases h2 : a = b
      · subst h2
        rw [pk_sub (Nat.le_refl _), if_pos (nI_pos' (by omega))]
      · have h3 := pk_sneg (a := b) (b := a) ha (by omega)
        rw [if_neg (fun h4 => by rw [Int32.lt_iff_toInt_lt] at h3; rw [Int32.le_iff_toInt_le] at h4; omega), ← pk_sub (show b ≤ a by omega)]
        rw [Int32.zero_sub, Int32.neg_sub]
  rw [e]
  exact k H locs ls h1 h2 h3
def rmX4_placeOf : Room := { frames := 7, cells := 2, slots := 12, locals := 112 }
theorem hd_X4_placeOf : yX4_placeOf.cls = (RX4, TX4, 7).1 ∧ yX4_placeOf.cls ≠ "java/lang/invoke/MethodHandle" ∧ yX4_placeOf.cls ≠ "java/lang/invoke/VarHandle" ∧ (parseMethodDescriptor yX4_placeOf.desc).map (fun d => d.parameters.length) = some 1 := by decide +kernel
theorem fo_X4_placeOf_89 : FO wsX4_placeOf RX4 89 1 1 := ⟨_, _, _, rfl, by decide, by decide +kernel, by decide +kernel⟩
theorem fo_X4_placeOf_130 : FO wsX4_placeOf RX4 130 1 0 := ⟨_, _, _, rfl, by decide, by decide +kernel, by decide +kernel⟩
set_option maxHeartbeats 4000000 in
set_option maxRecDepth 100000 in
theorem c_placeOf_ok {l : Launch} {ω : Om} {M : MM} (hl9 : l.stackTraces = false) {A B P : FF} {n k : Nat} {R : Nat → (Nat → Int32) × Nat} {Z : Nat → Prop} (hC : CI ω A B P n k R Z M)  {j p : Nat} (hj : j < n) (hg8 : B j 8 = 0) (hpj : B j 0 = p) (hp : p < 5) (hmem : ∃ q, q < (ordF B n p).length ∧ (ordF B n p).getD q 0 = j) : Ct l ω yX4_placeOf wsX4_placeOf rmX4_placeOf [.ref (A 0 0), .int (nI j)] M (fun v M9 => (∃ q, q < (ordF B n p).length ∧ (ordF B n p).getD q 0 = j ∧ (∀ i, i < q → (ordF B n p).getD i 0 ≠ j) ∧ v = some (.int (nI q))) ∧ M9 = M) 2 12 := by
  refine Ct.ofV (cc := cX4_placeOf) (maxL := 3) (ret := (some .int)) [some (.ref (A 0 0)), some (.int (nI j)), none] (by decide) rfl (Nat.le_of_ble_eq_true rfl) rfl (Lc.av (av := [.ref (A 0 0), .int (nI j)]) (k := 1) rfl) ?_
  intro σ F hl hr hname
  have F : Fx ω σ cX4_placeOf 3 wsX4_placeOf RX4 rmX4_placeOf := F
  obtain ⟨hX, hB, hA, hA4, hk, hWP, hZ, hR, hO⟩ := id hC
  have hn : n ≤ 24 := hB.1
  have hW : ∀ i j, B i j < 128 := hB.2.1
  have hr1 : M (A 2 p) = some (rdE 3 (A 3 p) (ordF B n p).length) := by rw [← (hR p hp).1]; exact hX.rd (by omega)
  have hr2 : M (A 3 p) = some (rowE ω (R p).1) := hX.row (by omega)
  have hl24 := (hO.2 p hp).1
  have hg : ∀ q, q < (ordF B n p).length → (R p).1 q = nI ((ordF B n p).getD q 0) := (hR p hp).2
  have hn2 : ∀ q, q < (ordF B n p).length → (ordF B n p).getD q 0 < n := fun q hq => (hO.2 p hp).2 _ (getD_mem hq)
  refine v_aload_n F dX4_placeOf_0 rfl rfl ?_
  refine v_iload_n F dX4_placeOf_1 rfl ?_
  refine v_callV F 1 [_] rfl rfl rfl ((c_presentBox_ok (by rw [hl]; exact hl9) hX hB hj hg8).noX (fun _ h => h)) gX4_placeOf_X4_presentBox rfl hd_X4_presentBox ⟨⟨rfl, rfl⟩, ⟨(Nat.le_of_ble_eq_true rfl), (Nat.le_of_ble_eq_true rfl)⟩, ⟨(Nat.le_of_ble_eq_true rfl), (Nat.le_of_ble_eq_true rfl)⟩, (Nat.le_of_ble_eq_true rfl)⟩ hX.x rfl dX4_placeOf_2 (fun v2 M2 q2 => ?_)
  obtain ⟨rfl, e2⟩ := q2
  replace e2 := e2.symm
  subst e2
  refine v_astore_n F dX4_placeOf_5 rfl (Nat.le_of_ble_eq_true rfl) (ok2_d rfl) ?_
  refine v_aload_n F dX4_placeOf_6 rfl rfl ?_
  refine v_aload_n F dX4_placeOf_7 rfl rfl ?_
  refine v_get F 1 1 fo_X4_placeOf_89 dX4_placeOf_8 (hX.box hj) rfl ?_
  refine V.toI (show nI (B j 0) = nI p by rw [hpj]) ?_
  refine v_callV F 1 [_] rfl rfl rfl ((c_readingOf_ok (by rw [hl]; exact hl9) hX hB hp).noX (fun _ h => h)) gX4_placeOf_X4_readingOf rfl hd_X4_readingOf ⟨⟨rfl, rfl⟩, ⟨(Nat.le_of_ble_eq_true rfl), (Nat.le_of_ble_eq_true rfl)⟩, ⟨(Nat.le_of_ble_eq_true rfl), (Nat.le_of_ble_eq_true rfl)⟩, (Nat.le_of_ble_eq_true rfl)⟩ hX.x rfl dX4_placeOf_11 (fun v11 M11 q11 => ?_)
  obtain ⟨rfl, e11⟩ := q11
  replace e11 := e11.symm
  subst e11
  refine v_aload_n F dX4_placeOf_14 rfl rfl ?_
  refine v_get F 1 0 fo_X4_placeOf_130 dX4_placeOf_15 (hX.box hj) rfl ?_
  refine v_callV F 1 [_] rfl rfl rfl (c_X3_placeFor (o := fun i => (ordF B n p).getD i 0) hr1 hr2 hl24 hg (fun q hq => Nat.lt_of_lt_of_le (hn2 q hq) (by omega)) (by omega)) gX4_placeOf_X3_placeFor rfl hd_X3_placeFor ⟨⟨rfl, rfl⟩, ⟨(Nat.le_of_ble_eq_true rfl), (Nat.le_of_ble_eq_true rfl)⟩, ⟨(Nat.le_of_ble_eq_true rfl), (Nat.le_of_ble_eq_true rfl)⟩, (Nat.le_of_ble_eq_true rfl)⟩ hr1 rfl dX4_placeOf_18 (fun v18 M18 q18 => ?_)
  obtain ⟨hq18, e18⟩ := q18
  replace e18 := e18.symm
  subst e18
  obtain ⟨q, hql, hqj, hqf, rfl⟩ : ∃ q, q < (ordF B n p).length ∧ (ordF B n p).getD q 0 = j ∧ (∀ i, i < q → (ordF B n p).getD i 0 ≠ j) ∧ v18 = some (.int (nI q)) := by
    rcases hq18 with h | h
    · exact h
    · obtain ⟨q, h1, h2⟩ := hmem
      exact absurd h2 (h.1 q h1)
  exact v_iret F hr dX4_placeOf_21 (Nat.le_of_ble_eq_true rfl) (Nat.le_of_ble_eq_true rfl) ⟨⟨q, hql, hqj, hqf, rfl⟩, rfl⟩
def rmX4_faults : Room := { frames := 7, cells := 2, slots := 12, locals := 112 }
theorem hd_X4_faults : yX4_faults.cls = (RX4, TX4, 7).1 ∧ yX4_faults.cls ≠ "java/lang/invoke/MethodHandle" ∧ yX4_faults.cls ≠ "java/lang/invoke/VarHandle" ∧ (parseMethodDescriptor yX4_faults.desc).map (fun d => d.parameters.length) = some 1 := by decide +kernel
theorem fo_X4_faults_89 : FO wsX4_faults RX4 89 1 1 := ⟨_, _, _, rfl, by decide, by decide +kernel, by decide +kernel⟩
theorem fo_X4_faults_130 : FO wsX4_faults RX4 130 1 0 := ⟨_, _, _, rfl, by decide, by decide +kernel, by decide +kernel⟩
set_option maxHeartbeats 4000000 in
set_option maxRecDepth 100000 in
theorem c_faults_ok {l : Launch} {ω : Om} {M : MM} (hl9 : l.stackTraces = false) {A B P : FF} {n k : Nat} {R : Nat → (Nat → Int32) × Nat} {Z : Nat → Prop} (hC : CI ω A B P n k R Z M)  {j p : Nat} (hj : j < n) (hg8 : B j 8 = 0) (hpj : B j 0 = p) (hp : p < 5) (hmem : ∃ q, q < (ordF B n p).length ∧ (ordF B n p).getD q 0 = j) : Ct l ω yX4_faults wsX4_faults rmX4_faults [.ref (A 0 0), .int (nI j)] M (fun v M9 => (∃ q, q < (ordF B n p).length ∧ (ordF B n p).getD q 0 = j ∧ (∀ i, i < q → (ordF B n p).getD i 0 ≠ j) ∧ v = some (.int (nI (ftA B (ordF B n p) q)))) ∧ M9 = M) 2 12 := by
  refine Ct.ofV (cc := cX4_faults) (maxL := 4) (ret := (some .int)) [some (.ref (A 0 0)), some (.int (nI j)), none, none] (by decide) rfl (Nat.le_of_ble_eq_true rfl) rfl (Lc.av (av := [.ref (A 0 0), .int (nI j)]) (k := 2) rfl) ?_
  intro σ F hl hr hname
  have F : Fx ω σ cX4_faults 4 wsX4_faults RX4 rmX4_faults := F
  obtain ⟨hX, hB, hA, hA4, hk, hWP, hZ, hR, hO⟩ := id hC
  have hn : n ≤ 24 := hB.1
  have hW : ∀ i j, B i j < 128 := hB.2.1
  have hr1 : M (A 2 p) = some (rdE 3 (A 3 p) (ordF B n p).length) := by rw [← (hR p hp).1]; exact hX.rd (by omega)
  have hr2 : M (A 3 p) = some (rowE ω (R p).1) := hX.row (by omega)
  have hl24 := (hO.2 p hp).1
  have hg : ∀ q, q < (ordF B n p).length → (R p).1 q = nI ((ordF B n p).getD q 0) := (hR p hp).2
  have hn2 : ∀ q, q < (ordF B n p).length → (ordF B n p).getD q 0 < n := fun q hq => (hO.2 p hp).2 _ (getD_mem hq)
  refine v_aload_n F dX4_faults_0 rfl rfl ?_
  refine v_iload_n F dX4_faults_1 rfl ?_
  refine v_callV F 1 [_] rfl rfl rfl ((c_presentBox_ok (by rw [hl]; exact hl9) hX hB hj hg8).noX (fun _ h => h)) gX4_faults_X4_presentBox rfl hd_X4_presentBox ⟨⟨rfl, rfl⟩, ⟨(Nat.le_of_ble_eq_true rfl), (Nat.le_of_ble_eq_true rfl)⟩, ⟨(Nat.le_of_ble_eq_true rfl), (Nat.le_of_ble_eq_true rfl)⟩, (Nat.le_of_ble_eq_true rfl)⟩ hX.x rfl dX4_faults_2 (fun v2 M2 q2 => ?_)
  obtain ⟨rfl, e2⟩ := q2
  replace e2 := e2.symm
  subst e2
  refine v_astore_n F dX4_faults_5 rfl (Nat.le_of_ble_eq_true rfl) (ok2_d rfl) ?_
  refine v_aload_n F dX4_faults_6 rfl rfl ?_
  refine v_aload_n F dX4_faults_7 rfl rfl ?_
  refine v_get F 1 1 fo_X4_faults_89 dX4_faults_8 (hX.box hj) rfl ?_
  refine V.toI (show nI (B j 0) = nI p by rw [hpj]) ?_
  refine v_callV F 1 [_] rfl rfl rfl ((c_readingOf_ok (by rw [hl]; exact hl9) hX hB hp).noX (fun _ h => h)) gX4_faults_X4_readingOf rfl hd_X4_readingOf ⟨⟨rfl, rfl⟩, ⟨(Nat.le_of_ble_eq_true rfl), (Nat.le_of_ble_eq_true rfl)⟩, ⟨(Nat.le_of_ble_eq_true rfl), (Nat.le_of_ble_eq_true rfl)⟩, (Nat.le_of_ble_eq_true rfl)⟩ hX.x rfl dX4_faults_11 (fun v11 M11 q11 => ?_)
  obtain ⟨rfl, e11⟩ := q11
  replace e11 := e11.symm
  subst e11
  refine v_astore_n F dX4_faults_14 rfl (Nat.le_of_ble_eq_true rfl) (ok2_d rfl) ?_
  refine v_aload_n F dX4_faults_15 rfl rfl ?_
  refine v_aload_n F dX4_faults_16 rfl rfl ?_
  refine v_aload_n F dX4_faults_17 rfl rfl ?_
  refine v_aload_n F dX4_faults_18 rfl rfl ?_
  refine v_get F 1 0 fo_X4_faults_130 dX4_faults_19 (hX.box hj) rfl ?_
  refine v_callV F 1 [_] rfl rfl rfl (c_X3_placeFor (o := fun i => (ordF B n p).getD i 0) hr1 hr2 hl24 hg (fun q hq => Nat.lt_of_lt_of_le (hn2 q hq) (by omega)) (by omega)) gX4_faults_X3_placeFor rfl hd_X3_placeFor ⟨⟨rfl, rfl⟩, ⟨(Nat.le_of_ble_eq_true rfl), (Nat.le_of_ble_eq_true rfl)⟩, ⟨(Nat.le_of_ble_eq_true rfl), (Nat.le_of_ble_eq_true rfl)⟩, (Nat.le_of_ble_eq_true rfl)⟩ hr1 rfl dX4_faults_22 (fun v22 M22 q22 => ?_)
  obtain ⟨hq22, e22⟩ := q22
  replace e22 := e22.symm
  subst e22
  obtain ⟨q, hql, hqj, hqf, rfl⟩ : ∃ q, q < (ordF B n p).length ∧ (ordF B n p).getD q 0 = j ∧ (∀ i, i < q → (ordF B n p).getD i 0 ≠ j) ∧ v22 = some (.int (nI q)) := by
    rcases hq22 with h | h
    · exact h
    · obtain ⟨q, h1, h2⟩ := hmem
      exact absurd h2 (h.1 q h1)
  refine v_callV F 2 [_, _] rfl rfl rfl (c_ft hX hB (p := p) (by omega) (hR p hp).1 hl24 (hR p hp).2 (hO.2 p hp).2 hql) gX4_faults_X4_faultsAt rfl hd_X4_faultsAt ⟨⟨rfl, rfl⟩, ⟨(Nat.le_of_ble_eq_true rfl), (Nat.le_of_ble_eq_true rfl)⟩, ⟨(Nat.le_of_ble_eq_true rfl), (Nat.le_of_ble_eq_true rfl)⟩, (Nat.le_of_ble_eq_true rfl)⟩ hX.x rfl dX4_faults_25 (fun v25 M25 q25 => ?_)
  obtain ⟨rfl, e25⟩ := q25
  replace e25 := e25.symm
  subst e25
  exact v_iret F hr dX4_faults_28 (Nat.le_of_ble_eq_true rfl) (Nat.le_of_ble_eq_true rfl) ⟨⟨q, hql, hqj, hqf, rfl⟩, rfl⟩
set_option maxHeartbeats 4000000 in
set_option maxRecDepth 100000 in
theorem c_placeOf_gone {l : Launch} {ω : Om} {M : MM} (hl9 : l.stackTraces = false) {A B P : FF} {n k : Nat} {R : Nat → (Nat → Int32) × Nat} {Z : Nat → Prop} (hC : CI ω A B P n k R Z M) {j : Nat} (hj : j < n) (hg : B j 8 ≠ 0) : CtX l ω yX4_placeOf wsX4_placeOf rmX4_placeOf [.ref (A 0 0), .int (nI j)] M (fun v M9 => False) (fun E => E = "java/lang/IndexOutOfBoundsException") 2 12 := by
  refine CtX.ofV (cc := cX4_placeOf) (maxL := 3) (ret := (some .int)) [some (.ref (A 0 0)), some (.int (nI j)), none] (by decide) rfl (Nat.le_of_ble_eq_true rfl) rfl (Lc.av (av := [.ref (A 0 0), .int (nI j)]) (k := 1) rfl) ?_
  intro σ F hl hr hnx
  have hl : σ.2.1.stackTraces = false := by rw [hl]; exact hl9
  have F : Fx ω σ cX4_placeOf 3 wsX4_placeOf RX4 rmX4_placeOf := F
  obtain ⟨hX, hB, hA, hA4, hk, hWP, hZ, hR, hO⟩ := id hC
  have hn : n ≤ 24 := hB.1
  have hW : ∀ i j, B i j < 128 := hB.2.1
  refine v_aload_n F dX4_placeOf_0 rfl rfl ?_
  refine v_iload_n F dX4_placeOf_1 rfl ?_
  refine v_callVX F 1 [_] rfl rfl rfl (c_presentBox_gone hl hX hB hj hg) gX4_placeOf_X4_presentBox rfl hd_X4_presentBox ⟨⟨rfl, rfl⟩, ⟨(Nat.le_of_ble_eq_true rfl), (Nat.le_of_ble_eq_true rfl)⟩, ⟨(Nat.le_of_ble_eq_true rfl), (Nat.le_of_ble_eq_true rfl)⟩, (Nat.le_of_ble_eq_true rfl)⟩ hX.x rfl dX4_placeOf_2 (fun E h => h) hnx (Nat.le_of_ble_eq_true rfl) (Nat.le_of_ble_eq_true rfl) (fun v2 M2 q2 => ?_)
  exact q2.elim
set_option maxHeartbeats 4000000 in
set_option maxRecDepth 100000 in
theorem c_placeOf_out {l : Launch} {ω : Om} {M : MM} (hl9 : l.stackTraces = false) {A B P : FF} {n k : Nat} {R : Nat → (Nat → Int32) × Nat} {Z : Nat → Prop} (hC : CI ω A B P n k R Z M) {j : Int32} (hj : j < 0 ∨ nI n ≤ j) : CtX l ω yX4_placeOf wsX4_placeOf rmX4_placeOf [.ref (A 0 0), .int j] M (fun v M9 => False) (fun E => E = "java/lang/IndexOutOfBoundsException") 2 12 := by
  refine CtX.ofV (cc := cX4_placeOf) (maxL := 3) (ret := (some .int)) [some (.ref (A 0 0)), some (.int j), none] (by decide) rfl (Nat.le_of_ble_eq_true rfl) rfl (Lc.av (av := [.ref (A 0 0), .int j]) (k := 1) rfl) ?_
  intro σ F hl hr hnx
  have hl : σ.2.1.stackTraces = false := by rw [hl]; exact hl9
  have F : Fx ω σ cX4_placeOf 3 wsX4_placeOf RX4 rmX4_placeOf := F
  obtain ⟨hX, hB, hA, hA4, hk, hWP, hZ, hR, hO⟩ := id hC
  have hn : n ≤ 24 := hB.1
  have hW : ∀ i j, B i j < 128 := hB.2.1
  refine v_aload_n F dX4_placeOf_0 rfl rfl ?_
  refine v_iload_n F dX4_placeOf_1 rfl ?_
  refine v_callVX F 1 [_] rfl rfl rfl (c_presentBox_out hl hX hB hj) gX4_placeOf_X4_presentBox rfl hd_X4_presentBox ⟨⟨rfl, rfl⟩, ⟨(Nat.le_of_ble_eq_true rfl), (Nat.le_of_ble_eq_true rfl)⟩, ⟨(Nat.le_of_ble_eq_true rfl), (Nat.le_of_ble_eq_true rfl)⟩, (Nat.le_of_ble_eq_true rfl)⟩ hX.x rfl dX4_placeOf_2 (fun E h => h) hnx (Nat.le_of_ble_eq_true rfl) (Nat.le_of_ble_eq_true rfl) (fun v2 M2 q2 => ?_)
  exact q2.elim
set_option maxHeartbeats 4000000 in
set_option maxRecDepth 100000 in
theorem c_faults_gone {l : Launch} {ω : Om} {M : MM} (hl9 : l.stackTraces = false) {A B P : FF} {n k : Nat} {R : Nat → (Nat → Int32) × Nat} {Z : Nat → Prop} (hC : CI ω A B P n k R Z M) {j : Nat} (hj : j < n) (hg : B j 8 ≠ 0) : CtX l ω yX4_faults wsX4_faults rmX4_faults [.ref (A 0 0), .int (nI j)] M (fun v M9 => False) (fun E => E = "java/lang/IndexOutOfBoundsException") 2 12 := by
  refine CtX.ofV (cc := cX4_faults) (maxL := 4) (ret := (some .int)) [some (.ref (A 0 0)), some (.int (nI j)), none, none] (by decide) rfl (Nat.le_of_ble_eq_true rfl) rfl (Lc.av (av := [.ref (A 0 0), .int (nI j)]) (k := 2) rfl) ?_
  intro σ F hl hr hnx
  have hl : σ.2.1.stackTraces = false := by rw [hl]; exact hl9
  have F : Fx ω σ cX4_faults 4 wsX4_faults RX4 rmX4_faults := F
  obtain ⟨hX, hB, hA, hA4, hk, hWP, hZ, hR, hO⟩ := id hC
  have hn : n ≤ 24 := hB.1
  have hW : ∀ i j, B i j < 128 := hB.2.1
  refine v_aload_n F dX4_faults_0 rfl rfl ?_
  refine v_iload_n F dX4_faults_1 rfl ?_
  refine v_callVX F 1 [_] rfl rfl rfl (c_presentBox_gone hl hX hB hj hg) gX4_faults_X4_presentBox rfl hd_X4_presentBox ⟨⟨rfl, rfl⟩, ⟨(Nat.le_of_ble_eq_true rfl), (Nat.le_of_ble_eq_true rfl)⟩, ⟨(Nat.le_of_ble_eq_true rfl), (Nat.le_of_ble_eq_true rfl)⟩, (Nat.le_of_ble_eq_true rfl)⟩ hX.x rfl dX4_faults_2 (fun E h => h) hnx (Nat.le_of_ble_eq_true rfl) (Nat.le_of_ble_eq_true rfl) (fun v2 M2 q2 => ?_)
  exact q2.elim
set_option maxHeartbeats 4000000 in
set_option maxRecDepth 100000 in
theorem c_faults_out {l : Launch} {ω : Om} {M : MM} (hl9 : l.stackTraces = false) {A B P : FF} {n k : Nat} {R : Nat → (Nat → Int32) × Nat} {Z : Nat → Prop} (hC : CI ω A B P n k R Z M) {j : Int32} (hj : j < 0 ∨ nI n ≤ j) : CtX l ω yX4_faults wsX4_faults rmX4_faults [.ref (A 0 0), .int j] M (fun v M9 => False) (fun E => E = "java/lang/IndexOutOfBoundsException") 2 12 := by
  refine CtX.ofV (cc := cX4_faults) (maxL := 4) (ret := (some .int)) [some (.ref (A 0 0)), some (.int j), none, none] (by decide) rfl (Nat.le_of_ble_eq_true rfl) rfl (Lc.av (av := [.ref (A 0 0), .int j]) (k := 2) rfl) ?_
  intro σ F hl hr hnx
  have hl : σ.2.1.stackTraces = false := by rw [hl]; exact hl9
  have F : Fx ω σ cX4_faults 4 wsX4_faults RX4 rmX4_faults := F
  obtain ⟨hX, hB, hA, hA4, hk, hWP, hZ, hR, hO⟩ := id hC
  have hn : n ≤ 24 := hB.1
  have hW : ∀ i j, B i j < 128 := hB.2.1
  refine v_aload_n F dX4_faults_0 rfl rfl ?_
  refine v_iload_n F dX4_faults_1 rfl ?_
  refine v_callVX F 1 [_] rfl rfl rfl (c_presentBox_out hl hX hB hj) gX4_faults_X4_presentBox rfl hd_X4_presentBox ⟨⟨rfl, rfl⟩, ⟨(Nat.le_of_ble_eq_true rfl), (Nat.le_of_ble_eq_true rfl)⟩, ⟨(Nat.le_of_ble_eq_true rfl), (Nat.le_of_ble_eq_true rfl)⟩, (Nat.le_of_ble_eq_true rfl)⟩ hX.x rfl dX4_faults_2 (fun E h => h) hnx (Nat.le_of_ble_eq_true rfl) (Nat.le_of_ble_eq_true rfl) (fun v2 M2 q2 => ?_)
  exact q2.elim
theorem ftA_lt (B : FF) (u : List Nat) (j : Nat) : ftA B u j < 2 ^ 5 := by
  have h : ∀ {a b : Nat}, a < 2 ^ 5 → b < 2 ^ 5 → a ||| b < 2 ^ 5 := fun h1 h2 => Nat.or_lt_two_pow h1 h2
  unfold ftA f1 f2 f3 f4 f5
  refine h (h (h (h ?_ ?_) ?_) ?_) ?_ <;> (split <;> decide)
theorem fyF_le (B : FF) (u : List Nat) : ∀ i, fyF B u i ≤ i := by
  intro i
  induction i with
  | zero => exact Nat.le_refl 0
  | succ i ih =>
    unfold fyF at ih ⊢
    rw [fl_s]
    split <;> omega
def rmX4_faulty : Room := { frames := 7, cells := 1, slots := 6, locals := 112 }
theorem hd_X4_faulty : yX4_faulty.cls = (RX4, TX4, 7).1 ∧ yX4_faulty.cls ≠ "java/lang/invoke/MethodHandle" ∧ yX4_faulty.cls ≠ "java/lang/invoke/VarHandle" ∧ (parseMethodDescriptor yX4_faulty.desc).map (fun d => d.parameters.length) = some 1 := by decide +kernel
theorem fo_X4_faulty_136 : FO wsX4_faulty RX4 136 3 1 := ⟨_, _, _, rfl, by decide, by decide +kernel, by decide +kernel⟩
set_option maxHeartbeats 4000000 in
set_option maxRecDepth 100000 in
theorem c_faulty_ok {l : Launch} {ω : Om} {M : MM} (hl9 : l.stackTraces = false) {A B P : FF} {n k : Nat} {R : Nat → (Nat → Int32) × Nat} {Z : Nat → Prop} (hC : CI ω A B P n k R Z M) {p : Nat} (hp : p < 5) : Ct l ω yX4_faulty wsX4_faulty rmX4_faulty [.ref (A 0 0), .int (nI p)] M (fun v M9 => v = some (.int (nI (fyF B (ordF B n p) (ordF B n p).length))) ∧ M9 = M) 1 6 := by
  refine Ct.ofV (cc := cX4_faulty) (maxL := 5) (ret := (some .int)) [some (.ref (A 0 0)), some (.int (nI p)), none, none, none] (by decide) rfl (Nat.le_of_ble_eq_true rfl) rfl (Lc.av (av := [.ref (A 0 0), .int (nI p)]) (k := 3) rfl) ?_
  intro σ F hl hr hname
  have F : Fx ω σ cX4_faulty 5 wsX4_faulty RX4 rmX4_faulty := F
  obtain ⟨hX, hB, hA, hA4, hk, hWP, hZ, hR, hO⟩ := id hC
  have hn : n ≤ 24 := hB.1
  have hW : ∀ i j, B i j < 128 := hB.2.1
  have hr1 : M (A 2 p) = some (rdE 3 (A 3 p) (ordF B n p).length) := by rw [← (hR p hp).1]; exact hX.rd (by omega)
  have hr2 : M (A 3 p) = some (rowE ω (R p).1) := hX.row (by omega)
  have hl24 := (hO.2 p hp).1
  have hg : ∀ q, q < (ordF B n p).length → (R p).1 q = nI ((ordF B n p).getD q 0) := (hR p hp).2
  have hn2 : ∀ q, q < (ordF B n p).length → (ordF B n p).getD q 0 < n := fun q hq => (hO.2 p hp).2 _ (getD_mem hq)
  refine v_aload_n F dX4_faulty_0 rfl rfl ?_
  refine v_iload_n F dX4_faulty_1 rfl ?_
  refine v_callV F 1 [_] rfl rfl rfl ((c_readingOf_ok (by rw [hl]; exact hl9) hX hB hp).noX (fun _ h => h)) gX4_faulty_X4_readingOf rfl hd_X4_readingOf ⟨⟨rfl, rfl⟩, ⟨(Nat.le_of_ble_eq_true rfl), (Nat.le_of_ble_eq_true rfl)⟩, ⟨(Nat.le_of_ble_eq_true rfl), (Nat.le_of_ble_eq_true rfl)⟩, (Nat.le_of_ble_eq_true rfl)⟩ hX.x rfl dX4_faulty_2 (fun v2 M2 q2 => ?_)
  obtain ⟨rfl, e2⟩ := q2
  replace e2 := e2.symm
  subst e2
  refine v_astore_n F dX4_faulty_5 rfl (Nat.le_of_ble_eq_true rfl) (ok2_d rfl) ?_
  refine v_iconst (v := nI 0) F dX4_faulty_6 (by decide) ?_
  refine v_istore_n F dX4_faulty_7 (Nat.le_of_ble_eq_true rfl) (ok2_d rfl) ?_
  refine v_iconst (v := nI 0) F dX4_faulty_8 (by decide) ?_
  refine v_istore F dX4_faulty_9 (Nat.le_of_ble_eq_true rfl) (ok2_d rfl) ?_
  have lp : ∀ i, i ≤ (ordF B n p).length → ∀ c, c = fyF B (ordF B n p) i → V ω σ M [some (.ref (A 0 0)), some (.int (nI p)), some (.ref (A 2 p)), some (.int (nI c)), some (.int (nI i))] 1 6 (BQ ω σ (fun v M9 => v = some (.int (nI (fyF B (ordF B n p) (ordF B n p).length))) ∧ M9 = M) 1 6) 11 [] := by
    refine loop_up (ordF B n p).length _ (fun i hi ih => ?_)
    intro c hc
    refine v_iload F dX4_faulty_11 rfl ?_
    refine v_aload_n F dX4_faulty_13 rfl rfl ?_
    refine v_get F 3 1 fo_X4_faulty_136 dX4_faulty_14 hr1 rfl ?_
    refine v_icmp_ge_n F 39 dX4_faulty_17 (by decide) (by first | omega | (have := fyF_le B (ordF B n p) i; omega) | exact Nat.lt_trans (ftA_lt _ _ _) (by decide)) (by first | omega | (have := fyF_le B (ordF B n p) i; omega) | exact Nat.lt_trans (ftA_lt _ _ _) (by decide)) (fun c17 => ?_) (fun c17 => ?_)
    · refine v_iload_n F dX4_faulty_39 rfl ?_
      exact v_iret F hr dX4_faulty_40 (Nat.le_of_ble_eq_true rfl) (Nat.le_of_ble_eq_true rfl) ⟨by rw [hc, show i = (ordF B n p).length by omega], rfl⟩
    · refine v_aload_n F dX4_faulty_20 rfl rfl ?_
      refine v_aload_n F dX4_faulty_21 rfl rfl ?_
      refine v_iload F dX4_faulty_22 rfl ?_
      refine v_callV F 2 [_, _] rfl rfl rfl (c_ft hX hB (p := p) (by omega) (hR p hp).1 hl24 (hR p hp).2 (hO.2 p hp).2 (by omega)) gX4_faulty_X4_faultsAt rfl hd_X4_faultsAt ⟨⟨rfl, rfl⟩, ⟨(Nat.le_of_ble_eq_true rfl), (Nat.le_of_ble_eq_true rfl)⟩, ⟨(Nat.le_of_ble_eq_true rfl), (Nat.le_of_ble_eq_true rfl)⟩, (Nat.le_of_ble_eq_true rfl)⟩ hX.x rfl dX4_faulty_24 (fun v24 M24 q24 => ?_)
      obtain ⟨rfl, e24⟩ := q24
      replace e24 := e24.symm
      subst e24
      refine v_if_eq_n F 33 dX4_faulty_27 (by decide) (by first | omega | (have := fyF_le B (ordF B n p) i; omega) | exact Nat.lt_trans (ftA_lt _ _ _) (by decide)) (fun c27 => ?_) (fun c27 => ?_)
      · have hgo := ih (by omega) c (by unfold fyF; rw [fl_s, if_neg (by rw [c27]; decide)]; exact hc)
        refine v_iinc1 F dX4_faulty_33 rfl (ok2_d rfl) ?_
        refine v_goto F 11 dX4_faulty_36 (by decide) ?_
        exact hgo
      · have hgo := ih (by omega) (c + 1) (by unfold fyF; rw [fl_s, if_pos c27, hc]; rfl)
        refine v_iinc1 F dX4_faulty_30 rfl (ok2_d rfl) ?_
        refine v_iinc1 F dX4_faulty_33 rfl (ok2_d rfl) ?_
        refine v_goto F 11 dX4_faulty_36 (by decide) ?_
        exact hgo
  exact lp 0 (Nat.zero_le _) 0 rfl
set_option maxHeartbeats 4000000 in
set_option maxRecDepth 100000 in
theorem c_faulty_x {l : Launch} {ω : Om} {M : MM} (hl9 : l.stackTraces = false) {A B P : FF} {n k : Nat} {R : Nat → (Nat → Int32) × Nat} {Z : Nat → Prop} (hC : CI ω A B P n k R Z M) {y : Int32} (hy : y < 0 ∨ nI 5 ≤ y) : CtX l ω yX4_faulty wsX4_faulty rmX4_faulty [.ref (A 0 0), .int y] M (fun v M9 => False) (fun E => E = "java/lang/IndexOutOfBoundsException") 1 6 := by
  refine CtX.ofV (cc := cX4_faulty) (maxL := 5) (ret := (some .int)) [some (.ref (A 0 0)), some (.int y), none, none, none] (by decide) rfl (Nat.le_of_ble_eq_true rfl) rfl (Lc.av (av := [.ref (A 0 0), .int y]) (k := 3) rfl) ?_
  intro σ F hl hr hnx
  have hl : σ.2.1.stackTraces = false := by rw [hl]; exact hl9
  have F : Fx ω σ cX4_faulty 5 wsX4_faulty RX4 rmX4_faulty := F
  obtain ⟨hX, hB, hA, hA4, hk, hWP, hZ, hR, hO⟩ := id hC
  have hn : n ≤ 24 := hB.1
  have hW : ∀ i j, B i j < 128 := hB.2.1
  refine v_aload_n F dX4_faulty_0 rfl rfl ?_
  refine v_iload_n F dX4_faulty_1 rfl ?_
  refine v_callVX F 1 [_] rfl rfl rfl (c_readingOf_out hl hX hB hy) gX4_faulty_X4_readingOf rfl hd_X4_readingOf ⟨⟨rfl, rfl⟩, ⟨(Nat.le_of_ble_eq_true rfl), (Nat.le_of_ble_eq_true rfl)⟩, ⟨(Nat.le_of_ble_eq_true rfl), (Nat.le_of_ble_eq_true rfl)⟩, (Nat.le_of_ble_eq_true rfl)⟩ hX.x rfl dX4_faulty_2 (fun E h => h) hnx (Nat.le_of_ble_eq_true rfl) (Nat.le_of_ble_eq_true rfl) (fun v2 M2 q2 => ?_)
  exact q2.elim
