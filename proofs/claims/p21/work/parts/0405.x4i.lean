/-! the class: what makes things -/
theorem nn {M : MM} {a b : Nat} {e : va_E} (h : M a = some e) (hn : M b = none) : a ≠ b := by
  intro he
  rw [he, hn] at h
  cases h
theorem v_aast_n {ω : Om} {σ : Sg} {cc : ByteArray} {nL : Nat} {Ts : List Cond} {own : String} {rm : Room} {M : MM} {L : List (Option Value)} {kc ks : Nat} {Q : State → Prop} {pc : Nat} {st : List Value} (F : Fx ω σ cc nL Ts own rm) {a n v j : Nat} {g : Nat → Option Nat} {cA : ClassId} (t0 ci : Nat) {r : vw_C} {vs : List Value} (d : decode cc pc = .ok (.aastore, 1)) (hM : M a = some (.inl (cA, n, .inr (.inr (.inr (.inr g)))))) (ht : (tysO ω)[t0]? = some (cA, .object r.1)) (hv : M v = some (.inr (ci, vs))) (hc : vwCl[ci]? = some r) (hj : j < n) (hn : n < 2 ^ 31) (k : V ω σ (mup M a (.inl (cA, n, .inr (.inr (.inr (.inr (va_up g j (some v)))))))) L kc ks Q (pc + 1) st) : V ω σ M L kc ks Q pc (.ref v :: .int (nI j) :: .ref a :: st) := v_aast F t0 ci d hM ht hv hc (vp_in_nI hj hn) (by rw [nI_clamp (Nat.lt_trans hj hn)]; exact k)
def nwP (P : FF) (k a p : Nat) : FF := fun i b => if i = k then (if b = 0 then a else if b = 1 then p else if b = 2 then 1 else 0) else P i b
def nwB (B : FF) (n p x y w h kd : Nat) : FF := fun i b => if i = n then (if b = 0 then p else if b = 1 then x else if b = 2 then y else if b = 3 then w else if b = 4 then h else if b = 5 then kd else 0) else B i b
theorem qa_up {k a : Nat} {f f' : Nat → Nat} (h1 : f' k = a) (h2 : ∀ i, i ≠ k → f' i = f i) : va_up (qa k f) k (some a) = qa (k + 1) f' := by
  funext i
  by_cases h : i = k
  · subst h; simp [va_up, qa, h1]
  · have h3 : i < k + 1 ↔ i < k := by omega
    simp [va_up, qa, h, h3, h2 i h]
theorem XI.newApp {ω : Om} {A B P : FF} {n k : Nat} {R : Nat → (Nat → Int32) × Nat} {M : MM} (h : XI ω A B P n k R M) {a : Nat} (ha : M a = none) (x p : Nat) : XI ω (u2 A 4 k a) B (nwP P k x p) n (k + 1) R (mup (mup (mup M a (.inr (0, [.int (nI x), .int (nI p), .int (nI 1)]))) (A 0 3) (.inl (ω.2.2 5, 20, .inr (.inr (.inr (.inr (va_up (qa k (A 4)) k (some a)))))))) (A 0 0) (.inr (4, [.ref (A 0 1), .int (nI n), .ref (A 0 2), .ref (A 2 5), .ref (A 2 6), .ref (A 0 3), .int (nI (k + 1))]))) := by
  have h03 : A 0 3 ≠ A 0 0 := fun e => by have := h.giv; rw [e, h.x] at this; cases this
  have e : ∀ {q : Nat} {v : va_E}, M q = some v → (∀ x, v ≠ .inr (4, x)) → (∀ g, v ≠ .inl (ω.2.2 5, 20, .inr (.inr (.inr (.inr g))))) → mup (mup (mup M a (.inr (0, [.int (nI x), .int (nI p), .int (nI 1)]))) (A 0 3) (.inl (ω.2.2 5, 20, .inr (.inr (.inr (.inr (va_up (qa k (A 4)) k (some a)))))))) (A 0 0) (.inr (4, [.ref (A 0 1), .int (nI n), .ref (A 0 2), .ref (A 2 5), .ref (A 2 6), .ref (A 0 3), .int (nI (k + 1))])) q = some v := by
    intro q v hq h1 h2
    rw [mup_n (fun e => h1 _ (by rw [e, h.x] at hq; exact (Option.some.inj hq).symm)), mup_n (fun e => h2 _ (by rw [e, h.giv] at hq; exact (Option.some.inj hq).symm)), mup_n (nn hq ha)]
    exact hq
  have u1 : ∀ i j, i ≠ 4 → u2 A 4 k a i j = A i j := fun i j hi => by simp [u2, hi]
  refine ⟨?_, ?_, ?_, ?_, fun i hi => ?_, fun q hq => ?_, fun i hi => ?_⟩
  · rw [u1 0 0 (by decide), u1 0 1 (by decide), u1 0 2 (by decide), u1 2 5 (by decide), u1 2 6 (by decide), u1 0 3 (by decide), mup_s]
  · rw [u1 0 1 (by decide), show u2 A 4 k a 1 = A 1 from funext fun j => u1 1 j (by decide)]
    by_cases hc : ω.2.2 3 = ω.2.2 5
    · exact e h.made (fun x => by simp) (fun g => by simp)
    · exact e h.made (fun x => by simp) (fun g => by simp)
  · rw [u1 0 2 (by decide), show u2 A 4 k a 2 = A 2 from funext fun j => u1 2 j (by decide)]
    exact e h.rds (fun x => by simp) (fun g => by simp)
  · rw [u1 0 3 (by decide), mup_n h03, mup_s, qa_up (f' := u2 A 4 k a 4) (by simp [u2]) (fun i hi => by simp [u2, hi])]
  · rw [u1 1 i (by decide), show bxF (u2 A 4 k a) B i = bxF A B i from by simp only [bxF]; rw [show ∀ z, oA (u2 A 4 k a) z = oA A z from fun z => by cases z <;> simp [oA, u2]]; rw [show ∀ z, oA (u2 A 4 k a) z = oA A z from fun z => by cases z <;> simp [oA, u2]]]
    exact e (h.box hi) (fun x => by simp) (fun g => by simp)
  · obtain ⟨s1, s2⟩ := h.2.2.2.2.2.1 q hq
    rw [u1 2 q (by decide), u1 3 q (by decide)]
    exact ⟨e s1 (fun x => by simp only [rdE]; split <;> simp) (fun g => by simp [rdE]), e s2 (fun x => by simp [rowE]) (fun g => by simp [rowE])⟩
  · by_cases hik : i = k
    · subst hik
      rw [show u2 A 4 i a 4 i = a by simp [u2], mup_n (Ne.symm (nn h.x ha)), mup_n (Ne.symm (nn h.giv ha)), mup_s]
      simp [apF, nwP]
    · rw [show u2 A 4 k a 4 i = A 4 i by simp [u2, hik], show apF (nwP P k x p) i = apF P i by simp [apF, nwP, hik]]
      exact e (h.app (by omega)) (fun x => by simp) (fun g => by simp)
def rmX0_init : Room := { frames := 1, cells := 0, slots := 0, locals := 30 }
theorem hd_X0_init : yX0_init.cls ≠ "java/lang/invoke/MethodHandle" ∧ yX0_init.cls ≠ "java/lang/invoke/VarHandle" ∧ (parseMethodDescriptor yX0_init.desc).map (fun d => d.parameters.length) = some 2 := by decide +kernel
theorem fp_X0_init_7 : FP wsX0_init RX0 7 0 2 .boolean := ⟨_, _, _, tyX0, rfl, by decide, by decide +kernel, by decide +kernel, tyX0_ok, nmX0, rfl, by decide +kernel⟩
theorem fq_X0_init_13 : FQ wsX0_init RX0 13 0 0 .int := ⟨_, _, _, tyX0, rfl, by decide, by decide +kernel, by decide +kernel, tyX0_ok, nmX0, rfl, rfl, by decide +kernel⟩
theorem fq_X0_init_17 : FQ wsX0_init RX0 17 0 1 .int := ⟨_, _, _, tyX0, rfl, by decide, by decide +kernel, by decide +kernel, tyX0_ok, nmX0, rfl, rfl, by decide +kernel⟩
set_option maxHeartbeats 4000000 in
set_option maxRecDepth 100000 in
theorem c_X0_init {l : Launch} {ω : Om} {M : MM} {a x p : Nat} {f0 f1 f2 : Value} (ha : M a = some (.inr (0, [f0, f1, f2]))) : Ct l ω yX0_init wsX0_init rmX0_init [.ref a, .int (nI x), .int (nI p)] M (fun v M9 => v = none ∧ M9 = mup M a (.inr (0, [.int (nI x), .int (nI p), .int (nI 1)]))) 0 0 := by
  refine Ct.ofV (cc := cX0_init) (maxL := 3) (ret := none) [some (.ref a), some (.int (nI x)), some (.int (nI p))] (by decide) rfl (Nat.le_of_ble_eq_true rfl) rfl (Lc.av (av := [.ref a, .int (nI x), .int (nI p)]) (k := 0) rfl) ?_
  intro σ F hl hr hname
  have F : Fx ω σ cX0_init 3 wsX0_init RX0 rmX0_init := F
  refine v_aload_n F dX0_init_0 rfl rfl ?_
  refine v_objInit F rfl (by decide +kernel) (by decide +kernel) (by decide +kernel) dX0_init_1 ⟨(Nat.le_of_ble_eq_true rfl), (Nat.le_of_ble_eq_true rfl)⟩ ?_
  refine v_aload_n F dX0_init_4 rfl rfl ?_
  refine v_iconst (v := nI 1) F dX0_init_5 (by decide) ?_
  refine v_put F 0 2 fp_X0_init_7 dX0_init_6 ha rfl rfl (Nat.le_of_ble_eq_true rfl) ?_
  refine v_aload_n F dX0_init_9 rfl rfl ?_
  refine v_iload_n F dX0_init_10 rfl ?_
  refine v_putF F 0 0 fq_X0_init_13 hname dX0_init_11 mup_s rfl rfl (Nat.le_of_ble_eq_true rfl) ?_
  refine v_aload_n F dX0_init_14 rfl rfl ?_
  refine v_iload_n F dX0_init_15 rfl ?_
  refine v_putF F 0 1 fq_X0_init_17 hname dX0_init_16 mup_s rfl rfl (Nat.le_of_ble_eq_true rfl) ?_
  exact v_vret F hr dX0_init_19 (Nat.le_of_ble_eq_true rfl) (Nat.le_of_ble_eq_true rfl) ⟨rfl, by rw [mup_mup, mup_mup]; rfl⟩
def rmX1_init : Room := { frames := 1, cells := 0, slots := 0, locals := 30 }
theorem hd_X1_init : yX1_init.cls ≠ "java/lang/invoke/MethodHandle" ∧ yX1_init.cls ≠ "java/lang/invoke/VarHandle" ∧ (parseMethodDescriptor yX1_init.desc).map (fun d => d.parameters.length) = some 7 := by decide +kernel
theorem fp_X1_init_9 : FP wsX1_init RX1 9 1 7 .boolean := ⟨_, _, _, tyX1, rfl, by decide, by decide +kernel, by decide +kernel, tyX1_ok, nmX1, rfl, by decide +kernel⟩
theorem fp_X1_init_15 : FP wsX1_init RX1 15 1 8 (.object "Readingorder$Box") := ⟨_, _, _, tyX1, rfl, by decide, by decide +kernel, by decide +kernel, tyX1_ok, nmX1, rfl, by decide +kernel⟩
theorem fp_X1_init_19 : FP wsX1_init RX1 19 1 9 (.object "Readingorder$Box") := ⟨_, _, _, tyX1, rfl, by decide, by decide +kernel, by decide +kernel, tyX1_ok, nmX1, rfl, by decide +kernel⟩
theorem fp_X1_init_29 : FP wsX1_init RX1 29 1 3 .int := ⟨_, _, _, tyX1, rfl, by decide, by decide +kernel, by decide +kernel, tyX1_ok, nmX1, rfl, by decide +kernel⟩
theorem fp_X1_init_32 : FP wsX1_init RX1 32 1 4 .int := ⟨_, _, _, tyX1, rfl, by decide, by decide +kernel, by decide +kernel, tyX1_ok, nmX1, rfl, by decide +kernel⟩
theorem fp_X1_init_35 : FP wsX1_init RX1 35 1 5 .int := ⟨_, _, _, tyX1, rfl, by decide, by decide +kernel, by decide +kernel, tyX1_ok, nmX1, rfl, by decide +kernel⟩
theorem fp_X1_init_38 : FP wsX1_init RX1 38 1 6 .int := ⟨_, _, _, tyX1, rfl, by decide, by decide +kernel, by decide +kernel, tyX1_ok, nmX1, rfl, by decide +kernel⟩
theorem fq_X1_init_22 : FQ wsX1_init RX1 22 1 0 .int := ⟨_, _, _, tyX1, rfl, by decide, by decide +kernel, by decide +kernel, tyX1_ok, nmX1, rfl, rfl, by decide +kernel⟩
theorem fq_X1_init_26 : FQ wsX1_init RX1 26 1 1 .int := ⟨_, _, _, tyX1, rfl, by decide, by decide +kernel, by decide +kernel, tyX1_ok, nmX1, rfl, rfl, by decide +kernel⟩
theorem fq_X1_init_41 : FQ wsX1_init RX1 41 1 2 .int := ⟨_, _, _, tyX1, rfl, by decide, by decide +kernel, by decide +kernel, tyX1_ok, nmX1, rfl, rfl, by decide +kernel⟩
set_option maxHeartbeats 4000000 in
set_option maxRecDepth 100000 in
theorem c_X1_init {l : Launch} {ω : Om} {M : MM} {a i p x y w h kd : Nat} {f0 f1 f2 f3 f4 f5 f6 f7 f8 f9 : Value} (ha : M a = some (.inr (1, [f0, f1, f2, f3, f4, f5, f6, f7, f8, f9]))) : Ct l ω yX1_init wsX1_init rmX1_init [.ref a, .int (nI i), .int (nI p), .int (nI x), .int (nI y), .int (nI w), .int (nI h), .int (nI kd)] M (fun v M9 => v = none ∧ M9 = mup M a (.inr (1, [.int (nI i), .int (nI p), .int (nI kd), .int (nI x), .int (nI y), .int (nI w), .int (nI h), .int (nI 0), .null, .null]))) 0 0 := by
  refine Ct.ofV (cc := cX1_init) (maxL := 8) (ret := none) [some (.ref a), some (.int (nI i)), some (.int (nI p)), some (.int (nI x)), some (.int (nI y)), some (.int (nI w)), some (.int (nI h)), some (.int (nI kd))] (by decide) rfl (Nat.le_of_ble_eq_true rfl) rfl (Lc.av (av := [.ref a, .int (nI i), .int (nI p), .int (nI x), .int (nI y), .int (nI w), .int (nI h), .int (nI kd)]) (k := 0) rfl) ?_
  intro σ F hl hr hname
  have F : Fx ω σ cX1_init 8 wsX1_init RX1 rmX1_init := F
  refine v_aload_n F dX1_init_0 rfl rfl ?_
  refine v_objInit F rfl (by decide +kernel) (by decide +kernel) (by decide +kernel) dX1_init_1 ⟨(Nat.le_of_ble_eq_true rfl), (Nat.le_of_ble_eq_true rfl)⟩ ?_
  refine v_aload_n F dX1_init_4 rfl rfl ?_
  refine v_iconst (v := nI 0) F dX1_init_5 (by decide) ?_
  refine v_put F 1 7 fp_X1_init_9 dX1_init_6 ha rfl rfl (Nat.le_of_ble_eq_true rfl) ?_
  refine v_aload_n F dX1_init_9 rfl rfl ?_
  refine v_null F dX1_init_10 ?_
  refine v_put F 1 8 fp_X1_init_15 dX1_init_11 mup_s rfl rfl (Nat.le_of_ble_eq_true rfl) ?_
  refine v_aload_n F dX1_init_14 rfl rfl ?_
  refine v_null F dX1_init_15 ?_
  refine v_put F 1 9 fp_X1_init_19 dX1_init_16 mup_s rfl rfl (Nat.le_of_ble_eq_true rfl) ?_
  refine v_aload_n F dX1_init_19 rfl rfl ?_
  refine v_iload_n F dX1_init_20 rfl ?_
  refine v_putF F 1 0 fq_X1_init_22 hname dX1_init_21 mup_s rfl rfl (Nat.le_of_ble_eq_true rfl) ?_
  refine v_aload_n F dX1_init_24 rfl rfl ?_
  refine v_iload_n F dX1_init_25 rfl ?_
  refine v_putF F 1 1 fq_X1_init_26 hname dX1_init_26 mup_s rfl rfl (Nat.le_of_ble_eq_true rfl) ?_
  refine v_aload_n F dX1_init_29 rfl rfl ?_
  refine v_iload_n F dX1_init_30 rfl ?_
  refine v_put F 1 3 fp_X1_init_29 dX1_init_31 mup_s rfl rfl (Nat.le_of_ble_eq_true rfl) ?_
  refine v_aload_n F dX1_init_34 rfl rfl ?_
  refine v_iload F dX1_init_35 rfl ?_
  refine v_put F 1 4 fp_X1_init_32 dX1_init_37 mup_s rfl rfl (Nat.le_of_ble_eq_true rfl) ?_
  refine v_aload_n F dX1_init_40 rfl rfl ?_
  refine v_iload F dX1_init_41 rfl ?_
  refine v_put F 1 5 fp_X1_init_35 dX1_init_43 mup_s rfl rfl (Nat.le_of_ble_eq_true rfl) ?_
  refine v_aload_n F dX1_init_46 rfl rfl ?_
  refine v_iload F dX1_init_47 rfl ?_
  refine v_put F 1 6 fp_X1_init_38 dX1_init_49 mup_s rfl rfl (Nat.le_of_ble_eq_true rfl) ?_
  refine v_aload_n F dX1_init_52 rfl rfl ?_
  refine v_iload F dX1_init_53 rfl ?_
  refine v_putF F 1 2 fq_X1_init_41 hname dX1_init_55 mup_s rfl rfl (Nat.le_of_ble_eq_true rfl) ?_
  exact v_vret F hr dX1_init_58 (Nat.le_of_ble_eq_true rfl) (Nat.le_of_ble_eq_true rfl) ⟨rfl, by rw [mup_mup, mup_mup, mup_mup, mup_mup, mup_mup, mup_mup, mup_mup, mup_mup, mup_mup]; rfl⟩
def rmX4_approve : Room := { frames := 7, cells := 3, slots := 15, locals := 112 }
theorem hd_X4_approve : yX4_approve.cls = (RX4, TX4, 7).1 ∧ yX4_approve.cls ≠ "java/lang/invoke/MethodHandle" ∧ yX4_approve.cls ≠ "java/lang/invoke/VarHandle" ∧ (parseMethodDescriptor yX4_approve.desc).map (fun d => d.parameters.length) = some 2 := by decide +kernel
theorem fo_X4_approve_39 : FO wsX4_approve RX4 39 4 5 := ⟨_, _, _, rfl, by decide, by decide +kernel, by decide +kernel⟩
theorem fo_X4_approve_43 : FO wsX4_approve RX4 43 4 6 := ⟨_, _, _, rfl, by decide, by decide +kernel, by decide +kernel⟩
theorem fo_X4_approve_136 : FO wsX4_approve RX4 136 3 1 := ⟨_, _, _, rfl, by decide, by decide +kernel, by decide +kernel⟩
theorem fp_X4_approve_43 : FP wsX4_approve RX4 43 4 6 .int := ⟨_, _, _, tyX4, rfl, by decide, by decide +kernel, by decide +kernel, tyX4_ok, nmX4, rfl, by decide +kernel⟩
set_option maxHeartbeats 4000000 in
set_option maxRecDepth 100000 in
theorem c_approve_ok {l : Launch} {ω : Om} {M : MM} (hl9 : l.stackTraces = false) {A B P : FF} {n k : Nat} {R : Nat → (Nat → Int32) × Nat} {Z : Nat → Prop} (hC : CI ω A B P n k R Z M) {a p : Nat} (ha : a < 6) (hp : p < 5) (hne : 0 < (ordF B n p).length) (hk20 : k < 20) : Ct l ω yX4_approve wsX4_approve rmX4_approve [.ref (A 0 0), .int (nI a), .int (nI p)] M (fun v M9 => ∃ q, M q = none ∧ v = some (.int (nI k)) ∧ XI ω (u2 A 4 k q) B (nwP P k a p) n (k + 1) R M9 ∧ Fr (fun z => Z z ∨ z = q) M M9) 3 15 := by
  refine Ct.ofV (cc := cX4_approve) (maxL := 5) (ret := (some .int)) [some (.ref (A 0 0)), some (.int (nI a)), some (.int (nI p)), none, none] (by decide) rfl (Nat.le_of_ble_eq_true rfl) rfl (Lc.av (av := [.ref (A 0 0), .int (nI a), .int (nI p)]) (k := 2) rfl) ?_
  intro σ F hl hr hname
  have F : Fx ω σ cX4_approve 5 wsX4_approve RX4 rmX4_approve := F
  obtain ⟨hX, hB, hA, hA4, hk, hWP, hZ, hR, hO⟩ := id hC
  have hn : n ≤ 24 := hB.1
  have hW : ∀ i j, B i j < 128 := hB.2.1
  have hr1 : M (A 2 p) = some (rdE 3 (A 3 p) (ordF B n p).length) := by rw [← (hR p hp).1]; exact hX.rd (by omega)
  have hr2 : M (A 3 p) = some (rowE ω (R p).1) := hX.row (by omega)
  have hl24 := (hO.2 p hp).1
  have hg : ∀ q, q < (ordF B n p).length → (R p).1 q = nI ((ordF B n p).getD q 0) := (hR p hp).2
  have hn2 : ∀ q, q < (ordF B n p).length → (ordF B n p).getD q 0 < n := fun q hq => (hO.2 p hp).2 _ (getD_mem hq)
  refine v_iload_n F dX4_approve_0 rfl ?_
  refine v_if_lt_n F 10 dX4_approve_1 (by decide) (by first | omega) ?_
  refine v_iload_n F dX4_approve_4 rfl ?_
  refine v_bipush (v := nI 6) F dX4_approve_5 (by decide) ?_
  refine v_icmp_lt_n F 20 dX4_approve_7 (by decide) (by first | omega) (by first | omega) (fun c7 => ?_) (fun c7 => ?_)
  · refine v_aload_n F dX4_approve_20 rfl rfl ?_
    refine v_iload_n F dX4_approve_21 rfl ?_
    refine v_callV F 1 [_] rfl rfl rfl ((c_readingOf_ok (by rw [hl]; exact hl9) hX hB hp).noX (fun _ h => h)) gX4_approve_X4_readingOf rfl hd_X4_readingOf ⟨⟨rfl, rfl⟩, ⟨(Nat.le_of_ble_eq_true rfl), (Nat.le_of_ble_eq_true rfl)⟩, ⟨(Nat.le_of_ble_eq_true rfl), (Nat.le_of_ble_eq_true rfl)⟩, (Nat.le_of_ble_eq_true rfl)⟩ hX.x rfl dX4_approve_22 (fun v22 M22 q22 => ?_)
    obtain ⟨rfl, e22⟩ := q22
    replace e22 := e22.symm
    subst e22
    refine v_astore_n F dX4_approve_25 rfl (Nat.le_of_ble_eq_true rfl) (ok2_d rfl) ?_
    refine v_aload_n F dX4_approve_26 rfl rfl ?_
    refine v_get F 4 6 fo_X4_approve_43 dX4_approve_27 hX.x rfl ?_
    refine v_istore F dX4_approve_30 (Nat.le_of_ble_eq_true rfl) (ok2_d rfl) ?_
    refine v_aload_n F dX4_approve_32 rfl rfl ?_
    refine v_get F 3 1 fo_X4_approve_136 dX4_approve_33 hr1 rfl ?_
    refine v_if_eq_n F 54 dX4_approve_36 (by decide) (by first | omega) (fun c36 => ?_) (fun c36 => ?_)
    · exact absurd c36 (by omega)
    · refine v_iload F dX4_approve_39 rfl ?_
      refine v_if_lt_n F 54 dX4_approve_41 (by decide) (by first | omega) ?_
      refine v_iload F dX4_approve_44 rfl ?_
      refine v_aload_n F dX4_approve_46 rfl rfl ?_
      refine v_get F 4 5 fo_X4_approve_39 dX4_approve_47 hX.x rfl ?_
      refine v_alen F 5 dX4_approve_50 hX.giv rfl ?_
      refine v_icmp_lt_n F 64 dX4_approve_51 (by decide) (by first | omega) (by first | omega) (fun c51 => ?_) (fun c51 => ?_)
      · refine v_aload_n F dX4_approve_64 rfl rfl ?_
        refine v_get F 4 5 fo_X4_approve_39 dX4_approve_65 hX.x rfl ?_
        refine v_iload F dX4_approve_68 rfl ?_
        refine v_new F 0 tyX0 [.int 0, .int 0, .int 0] rfl (by decide +kernel) tyX0_ok (by decide +kernel) (by decide +kernel) (by decide +kernel) (fun j hj => by rcases (show j = 0 ∨ j = 1 ∨ j = 2 by omega) with rfl | rfl | rfl <;> rfl) dX4_approve_70 ⟨(Nat.le_of_ble_eq_true rfl), (Nat.le_of_ble_eq_true rfl)⟩ (fun a70 n70 => ?_)
        refine v_dup F dX4_approve_73 rfl ?_
        refine v_iload_n F dX4_approve_74 rfl ?_
        refine v_iload_n F dX4_approve_75 rfl ?_
        refine v_callI F 2 [_, _] rfl rfl rfl (c_X0_init mup_s) gX4_approve_X0_init rfl hd_X0_init ⟨⟨rfl, rfl⟩, ⟨(Nat.le_of_ble_eq_true rfl), (Nat.le_of_ble_eq_true rfl)⟩, ⟨(Nat.le_of_ble_eq_true rfl), (Nat.le_of_ble_eq_true rfl)⟩, (Nat.le_of_ble_eq_true rfl)⟩ (by decide +kernel) (by decide +kernel) rfl (by decide +kernel) dX4_approve_76 (fun v76 M76 q76 => ?_)
        obtain ⟨rfl, e76⟩ := q76
        replace e76 := e76.symm
        subst e76
        rw [mup_mup]
        refine v_aast_n F 5 0 dX4_approve_79 ((mup_n (nn hX.giv n70)).trans hX.giv) rfl mup_s rfl hk20 (by decide) ?_
        refine v_aload_n F dX4_approve_80 rfl rfl ?_
        refine v_iload F dX4_approve_81 rfl ?_
        refine v_iconst (v := nI 1) F dX4_approve_83 (by decide) ?_
        refine v_iadd_n F dX4_approve_84 ?_
        refine v_put F 4 6 fp_X4_approve_43 dX4_approve_85 ((mup_n (fun e => by have := hX.giv; rw [← e, hX.x] at this; cases this)).trans ((mup_n (nn hX.x n70)).trans hX.x)) rfl rfl (Nat.le_of_ble_eq_true rfl) ?_
        refine v_iload F dX4_approve_88 rfl ?_
        exact v_iret F hr dX4_approve_90 (Nat.le_of_ble_eq_true rfl) (Nat.le_of_ble_eq_true rfl) ⟨a70, n70, rfl, hX.newApp n70 a p, fun z hz => by rw [mup_n (fun e => hz (Or.inl (by rw [e]; exact hZ 0 0))), mup_n (fun e => hz (Or.inl (by rw [e]; exact hZ 0 3))), mup_n (fun e => hz (Or.inr e))]⟩
      · exact absurd hk20 c51
  · exact absurd ha c7
