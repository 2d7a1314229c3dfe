/-! the class: a new box; what is refused -/
theorem XI.newBox {ω : Om} {A B P : FF} {n k : Nat} {R : Nat → (Nat → Int32) × Nat} {M : MM} (h : XI ω A B P n k R M) (hB : WB B n) {a : Nat} (ha : M a = none) (p x y w hh kd : Nat) : XI ω (u2 A 1 n a) (nwB B n p x y w hh kd) P (n + 1) k R (mup (mup (mup M a (.inr (1, [.int (nI n), .int (nI p), .int (nI kd), .int (nI x), .int (nI y), .int (nI w), .int (nI hh), .int (nI 0), .null, .null]))) (A 0 1) (.inl (ω.2.2 3, 24, .inr (.inr (.inr (.inr (va_up (qa n (A 1)) n (some a)))))))) (A 0 0) (.inr (4, [.ref (A 0 1), .int (nI (n + 1)), .ref (A 0 2), .ref (A 2 5), .ref (A 2 6), .ref (A 0 3), .int (nI k)]))) := by
  have h01 : A 0 1 ≠ A 0 0 := fun e => by have := h.made; rw [e, h.x] at this; cases this
  have e : ∀ {q : Nat} {v : va_E}, M q = some v → (∀ x, v ≠ .inr (4, x)) → (∀ g, v ≠ .inl (ω.2.2 3, 24, .inr (.inr (.inr (.inr g))))) → mup (mup (mup M a (.inr (1, [.int (nI n), .int (nI p), .int (nI kd), .int (nI x), .int (nI y), .int (nI w), .int (nI hh), .int (nI 0), .null, .null]))) (A 0 1) (.inl (ω.2.2 3, 24, .inr (.inr (.inr (.inr (va_up (qa n (A 1)) n (some a)))))))) (A 0 0) (.inr (4, [.ref (A 0 1), .int (nI (n + 1)), .ref (A 0 2), .ref (A 2 5), .ref (A 2 6), .ref (A 0 3), .int (nI k)])) q = some v := by
    intro q v hq h1 h2
    rw [mup_n (fun e => h1 _ (by rw [e, h.x] at hq; exact (Option.some.inj hq).symm)), mup_n (fun e => h2 _ (by rw [e, h.made] at hq; exact (Option.some.inj hq).symm)), mup_n (nn hq ha)]
    exact hq
  have u1 : ∀ i j, i ≠ 1 → u2 A 1 n a i j = A i j := fun i j hi => by simp [u2, hi]
  refine ⟨?_, ?_, ?_, ?_, fun i hi => ?_, fun q hq => ?_, fun i hi => ?_⟩
  · rw [u1 0 0 (by decide), u1 0 1 (by decide), u1 0 2 (by decide), u1 2 5 (by decide), u1 2 6 (by decide), u1 0 3 (by decide), mup_s]
  · rw [u1 0 1 (by decide), mup_n h01, mup_s, qa_up (f' := u2 A 1 n a 1) (by simp [u2]) (fun i hi => by simp [u2, hi])]
  · rw [u1 0 2 (by decide), show u2 A 1 n a 2 = A 2 from funext fun j => u1 2 j (by decide)]
    exact e h.rds (fun x => by simp) (fun g => by simp)
  · rw [u1 0 3 (by decide), show u2 A 1 n a 4 = A 4 from funext fun j => u1 4 j (by decide)]
    exact e h.giv (fun x => by simp) (fun g => by simp)
  · by_cases hin : i = n
    · subst hin
      rw [show u2 A 1 i a 1 i = a by simp [u2], mup_n (Ne.symm (nn h.x ha)), mup_n (Ne.symm (nn h.made ha)), mup_s]
      simp [bxF, nwB, oA, va_rf]
    · have hi2 : i < n := by omega
      have hb : bxF (u2 A 1 n a) (nwB B n p x y w hh kd) i = bxF A B i := by
        have e6 : oA (u2 A 1 n a) (B i 6) = oA A (B i 6) := by
          cases h6 : B i 6 with
          | zero => rfl
          | succ z =>
            have := (hB.2.2.1 i z hi2 h6).1
            simp [oA, u2, show z ≠ n by omega]
        have e7 : oA (u2 A 1 n a) (B i 7) = oA A (B i 7) := by
          cases h7 : B i 7 with
          | zero => rfl
          | succ z =>
            have := (hB.2.2.2 i z hi2 h7).1
            simp [oA, u2, show z ≠ n by omega]
        have eb : nwB B n p x y w hh kd i = B i := by funext b; simp [nwB, hin]
        simp only [bxF]
        rw [eb, e6, e7]
      rw [show u2 A 1 n a 1 i = A 1 i by simp [u2, hin], hb]
      exact e (h.box hi2) (fun x => by simp) (fun g => by simp)
  · obtain ⟨s1, s2⟩ := h.2.2.2.2.2.1 q hq
    rw [u1 2 q (by decide), u1 3 q (by decide)]
    exact ⟨e s1 (fun x => by simp only [rdE]; split <;> simp) (fun g => by simp [rdE]), e s2 (fun x => by simp [rowE]) (fun g => by simp [rowE])⟩
  · rw [u1 4 i (by decide)]
    exact e (h.app hi) (fun x => by simp) (fun g => by simp)
theorem CI.nextBox {ω : Om} {A B B' P P9 : FF} {n k p c9 a : Nat} {R R9 : Nat → (Nat → Int32) × Nat} {Z : Nat → Prop} {M M9 : MM} {same : Prop} (h : CI ω A B P n k R Z M) (hX : XI ω (u2 A 1 n a) B' P9 (n + 1) k R9 M9) (hB : WB B' (n + 1)) (hO : PF B' (n + 1)) (hq : ∀ q, q < 5 → q ≠ p → ordF B' (n + 1) q = ordF B n q) (h1 : (R9 p).2 = (ordF B' (n + 1) p).length) (h2 : Pf (R9 p).1 (ordF B' (n + 1) p)) (h3 : ∀ q, q < 5 → q ≠ p → R9 q = R q) (hF : Fall P p k same c9 P9) : CI ω (u2 A 1 n a) B' P9 (n + 1) k R9 (fun z => Z z ∨ z = a) M9 := by
  obtain ⟨-, -, hA, hA4, hk, hP, hZ, hR, -⟩ := h
  refine ⟨hX, hB, fun p q hp hq hpq => by have := hA p q hp hq hpq; simpa [u2] using this, fun i j hi hj => by have := hA4 i j hi hj; simpa [u2] using this, hk, ?_, fun i j => ?_, fun q hq5 => ?_, hO⟩
  · rcases hF with ⟨-, -, rfl⟩ | ⟨-, -, rfl⟩
    · exact hP
    · exact lfP_lt hP p 20
  · unfold u2
    split
    · exact Or.inr rfl
    · exact Or.inl (hZ i j)
  · by_cases hqp : q = p
    · subst hqp; exact ⟨h1, h2⟩
    · rw [h3 q hq5 hqp, hq q hq5 hqp]; exact hR q hq5
theorem CI.nextApp {ω : Om} {A B P : FF} {n k x p a : Nat} {R : Nat → (Nat → Int32) × Nat} {Z : Nat → Prop} {M M9 : MM} (h : CI ω A B P n k R Z M) (ha : M a = none) (hk : k < 20) (hx : x < 6) (hp : p < 5) (hX : XI ω (u2 A 4 k a) B (nwP P k x p) n (k + 1) R M9) : CI ω (u2 A 4 k a) B (nwP P k x p) n (k + 1) R (fun z => Z z ∨ z = a) M9 := by
  obtain ⟨hX0, hB, hA, hA4, -, hP, hZ, hR, hO⟩ := h
  have hne : ∀ i, i < k → A 4 i ≠ a := fun i hi e => by have := hX0.app hi; rw [e, ha] at this; cases this
  refine ⟨hX, hB, fun p q hp hq hpq => by have := hA p q hp hq hpq; simpa [u2] using this, fun i j hi hj e => ?_, by omega, fun i j => ?_, fun i j => ?_, hR, hO⟩
  · by_cases hik : i = k
    · by_cases hjk : j = k
      · omega
      · exact absurd (by simpa [u2, hik, hjk] using e.symm) (hne j (by omega))
    · by_cases hjk : j = k
      · exact absurd (by simpa [u2, hik, hjk] using e) (hne i (by omega))
      · exact hA4 i j (by omega) (by omega) (by simpa [u2, hik, hjk] using e)
  · unfold nwP
    split
    · split
      · omega
      · split
        · omega
        · split <;> omega
    · exact hP i j
  · unfold u2
    split
    · exact Or.inr rfl
    · exact Or.inl (hZ i j)
def rmX4_box : Room := { frames := 73, cells := 5, slots := 34, locals := 1668 }
theorem hd_X4_box : yX4_box.cls = (RX4, TX4, 7).1 ∧ yX4_box.cls ≠ "java/lang/invoke/MethodHandle" ∧ yX4_box.cls ≠ "java/lang/invoke/VarHandle" ∧ (parseMethodDescriptor yX4_box.desc).map (fun d => d.parameters.length) = some 6 := by decide +kernel
theorem fo_X4_box_11 : FO wsX4_box RX4 11 4 0 := ⟨_, _, _, rfl, by decide, by decide +kernel, by decide +kernel⟩
theorem fo_X4_box_15 : FO wsX4_box RX4 15 4 1 := ⟨_, _, _, rfl, by decide, by decide +kernel, by decide +kernel⟩
theorem fp_X4_box_15 : FP wsX4_box RX4 15 4 1 .int := ⟨_, _, _, tyX4, rfl, by decide, by decide +kernel, by decide +kernel, tyX4_ok, nmX4, rfl, by decide +kernel⟩
set_option maxHeartbeats 4000000 in
set_option maxRecDepth 100000 in
theorem c_box_ok {l : Launch} {ω : Om} {M : MM} (hl9 : l.stackTraces = false) {A B P : FF} {n k : Nat} {R : Nat → (Nat → Int32) × Nat} {Z : Nat → Prop} (hC : CI ω A B P n k R Z M) {p x y w h kd : Nat} (hp : p < 5) (hkd : kd ≤ 6) (h1 : 1 ≤ w) (h2 : 1 ≤ h) (h3 : x + w ≤ 60) (h4 : y + h ≤ 80) (hn24 : n < 24) (hB2 : WB (nwB B n p x y w h kd) (n + 1)) (hO2 : PF (nwB B n p x y w h kd) (n + 1)) (hq : ∀ q, q < 5 → q ≠ p → ordF (nwB B n p x y w h kd) (n + 1) q = ordF B n q) : Ct l ω yX4_box wsX4_box rmX4_box [.ref (A 0 0), .int (nI p), .int (nI x), .int (nI y), .int (nI w), .int (nI h), .int (nI kd)] M (fun v M9 => ∃ q R9 P9 c9, M q = none ∧ v = some (.int (nI n)) ∧ CI ω (u2 A 1 n q) (nwB B n p x y w h kd) P9 (n + 1) k R9 (fun z => Z z ∨ z = q) M9 ∧ Fr (fun z => Z z ∨ z = q) M M9 ∧ Fall P p k (ordF (nwB B n p x y w h kd) (n + 1) p = ordF B n p) c9 P9) 5 34 := by
  refine Ct.ofV (cc := cX4_box) (maxL := 8) (ret := (some .int)) [some (.ref (A 0 0)), some (.int (nI p)), some (.int (nI x)), some (.int (nI y)), some (.int (nI w)), some (.int (nI h)), some (.int (nI kd)), none] (by decide) rfl (Nat.le_of_ble_eq_true rfl) rfl (Lc.av (av := [.ref (A 0 0), .int (nI p), .int (nI x), .int (nI y), .int (nI w), .int (nI h), .int (nI kd)]) (k := 1) rfl) ?_
  intro σ F hl hr hname
  have F : Fx ω σ cX4_box 8 wsX4_box RX4 rmX4_box := F
  obtain ⟨hX, hB, hA, hA4, hk, hWP, hZ, hR, hO⟩ := id hC
  have hn : n ≤ 24 := hB.1
  have hW : ∀ i j, B i j < 128 := hB.2.1
  obtain ⟨⟨ρ2, hρ20, hρ2⟩, -⟩ := id hO2
  refine v_aload_n F dX4_box_0 rfl rfl ?_
  refine v_iload_n F dX4_box_1 rfl ?_
  refine v_callV F 1 [_] rfl rfl rfl ((c_readingOf_ok (by rw [hl]; exact hl9) hX hB hp).noX (fun _ h => h)) gX4_box_X4_readingOf rfl hd_X4_readingOf ⟨⟨rfl, rfl⟩, ⟨(Nat.le_of_ble_eq_true rfl), (Nat.le_of_ble_eq_true rfl)⟩, ⟨(Nat.le_of_ble_eq_true rfl), (Nat.le_of_ble_eq_true rfl)⟩, (Nat.le_of_ble_eq_true rfl)⟩ hX.x rfl dX4_box_2 (fun v2 M2 q2 => ?_)
  obtain ⟨rfl, e2⟩ := q2
  replace e2 := e2.symm
  subst e2
  refine v_pop F dX4_box_5 rfl ?_
  refine v_iload F dX4_box_6 rfl ?_
  refine v_if_lt_n F 18 dX4_box_8 (by decide) (by first | omega) ?_
  refine v_iload F dX4_box_11 rfl ?_
  refine v_bipush (v := nI 6) F dX4_box_13 (by decide) ?_
  refine v_icmp_le_n F 28 dX4_box_15 (by decide) (by first | omega) (by first | omega) (fun c15 => ?_) (fun c15 => ?_)
  · refine v_iload_n F dX4_box_28 rfl ?_
    refine v_iload_n F dX4_box_29 rfl ?_
    refine v_iload F dX4_box_30 rfl ?_
    refine v_iload F dX4_box_32 rfl ?_
    refine v_callS F 4 [_, _, _, _] rfl rfl rfl ((c_checkWithinPage_ok (by rw [hl]; exact hl9) h1 h2 h3 h4).noX (fun _ h => h)) gX4_box_X4_checkWithinPage rfl hd_X4_checkWithinPage ⟨⟨rfl, rfl⟩, ⟨(Nat.le_of_ble_eq_true rfl), (Nat.le_of_ble_eq_true rfl)⟩, ⟨(Nat.le_of_ble_eq_true rfl), (Nat.le_of_ble_eq_true rfl)⟩, (Nat.le_of_ble_eq_true rfl)⟩ dX4_box_34 (fun v34 M34 q34 => ?_)
    obtain ⟨rfl, e34⟩ := q34
    replace e34 := e34.symm
    subst e34
    refine v_aload_n F dX4_box_37 rfl rfl ?_
    refine v_get F 4 1 fo_X4_box_15 dX4_box_38 hX.x rfl ?_
    refine v_istore F dX4_box_41 (Nat.le_of_ble_eq_true rfl) (ok2_d rfl) ?_
    refine v_iload F dX4_box_43 rfl ?_
    refine v_if_lt_n F 58 dX4_box_45 (by decide) (by first | omega) ?_
    refine v_iload F dX4_box_48 rfl ?_
    refine v_aload_n F dX4_box_50 rfl rfl ?_
    refine v_get F 4 0 fo_X4_box_11 dX4_box_51 hX.x rfl ?_
    refine v_alen F 3 dX4_box_54 hX.made rfl ?_
    refine v_icmp_lt_n F 68 dX4_box_55 (by decide) (by first | omega) (by first | omega) (fun c55 => ?_) (fun c55 => ?_)
    · refine v_aload_n F dX4_box_68 rfl rfl ?_
      refine v_get F 4 0 fo_X4_box_11 dX4_box_69 hX.x rfl ?_
      refine v_iload F dX4_box_72 rfl ?_
      refine v_new F 1 tyX1 [.int 0, .int 0, .int 0, .int 0, .int 0, .int 0, .int 0, .int 0, .null, .null] rfl (by decide +kernel) tyX1_ok (by decide +kernel) (by decide +kernel) (by decide +kernel) (fun j hj => by rcases (show j = 0 ∨ j = 1 ∨ j = 2 ∨ j = 3 ∨ j = 4 ∨ j = 5 ∨ j = 6 ∨ j = 7 ∨ j = 8 ∨ j = 9 by omega) with rfl | rfl | rfl | rfl | rfl | rfl | rfl | rfl | rfl | rfl <;> rfl) dX4_box_74 ⟨(Nat.le_of_ble_eq_true rfl), (Nat.le_of_ble_eq_true rfl)⟩ (fun a74 n74 => ?_)
      refine v_dup F dX4_box_77 rfl ?_
      refine v_iload F dX4_box_78 rfl ?_
      refine v_iload_n F dX4_box_80 rfl ?_
      refine v_iload_n F dX4_box_81 rfl ?_
      refine v_iload_n F dX4_box_82 rfl ?_
      refine v_iload F dX4_box_83 rfl ?_
      refine v_iload F dX4_box_85 rfl ?_
      refine v_iload F dX4_box_87 rfl ?_
      refine v_callI F 7 [_, _, _, _, _, _, _] rfl rfl rfl (c_X1_init mup_s) gX4_box_X1_init rfl hd_X1_init ⟨⟨rfl, rfl⟩, ⟨(Nat.le_of_ble_eq_true rfl), (Nat.le_of_ble_eq_true rfl)⟩, ⟨(Nat.le_of_ble_eq_true rfl), (Nat.le_of_ble_eq_true rfl)⟩, (Nat.le_of_ble_eq_true rfl)⟩ (by decide +kernel) (by decide +kernel) rfl (by decide +kernel) dX4_box_89 (fun v89 M89 q89 => ?_)
      obtain ⟨rfl, e89⟩ := q89
      replace e89 := e89.symm
      subst e89
      rw [mup_mup]
      refine v_aast_n F 3 1 dX4_box_92 ((mup_n (nn hX.made n74)).trans hX.made) rfl mup_s rfl hn24 (by decide) ?_
      refine v_aload_n F dX4_box_93 rfl rfl ?_
      refine v_iload F dX4_box_94 rfl ?_
      refine v_iconst (v := nI 1) F dX4_box_96 (by decide) ?_
      refine v_iadd_n F dX4_box_97 ?_
      refine v_put F 4 1 fp_X4_box_15 dX4_box_98 ((mup_n (fun e => by have := hX.made; rw [← e, hX.x] at this; cases this)).trans ((mup_n (nn hX.x n74)).trans hX.x)) rfl rfl (Nat.le_of_ble_eq_true rfl) ?_
      have hX2 := hX.newBox hB n74 p x y w h kd
      refine v_aload_n F dX4_box_101 rfl rfl ?_
      refine v_iload_n F dX4_box_102 rfl ?_
      refine v_callV F 1 [_] rfl rfl rfl (c_readAgain (by rw [hl]; exact hl9) hX2 hB2 (fun i j hi hj => by have := hA4 i j hi hj; simpa [u2] using this) hk hWP (fun p q hp hq hpq => by have := hA p q hp hq hpq; simpa [u2] using this) hp (Z := fun z => Z z ∨ z = a74) (fun i j => by unfold u2; split; exact Or.inr rfl; exact Or.inl (hZ i j)) ρ2 hρ20 hρ2 (hO2.2 _ hp).1 (hO2.2 _ hp).2 (hR _ hp).1 (hO.2 _ hp).1 (hR _ hp).2 (fun x hx => Nat.lt_succ_of_lt ((hO.2 _ hp).2 x hx))) gX4_box_X4_readAgain rfl hd_X4_readAgain ⟨⟨rfl, rfl⟩, ⟨(Nat.le_of_ble_eq_true rfl), (Nat.le_of_ble_eq_true rfl)⟩, ⟨(Nat.le_of_ble_eq_true rfl), (Nat.le_of_ble_eq_true rfl)⟩, (Nat.le_of_ble_eq_true rfl)⟩ hX2.x rfl dX4_box_103 (fun v103 M103 q103 => ?_)
      obtain ⟨R9, P9, c9, rfl, hX9, hF9, g1, g2, g3, g4⟩ := q103
      refine v_pop F dX4_box_106 rfl ?_
      refine v_iload F dX4_box_107 rfl ?_
      exact v_iret F hr dX4_box_109 (Nat.le_of_ble_eq_true rfl) (Nat.le_of_ble_eq_true rfl) ⟨a74, R9, P9, c9, n74, rfl, hC.nextBox (p := p) hX9 hB2 hO2 hq g1 g2 g3 (by rcases g4 with h | h; exact Or.inl h; exact Or.inr h), Fr.tr (fun z hz => by rw [mup_n (fun e => hz (Or.inl (by rw [e]; exact hZ 0 0))), mup_n (fun e => hz (Or.inl (by rw [e]; exact hZ 0 1))), mup_n (fun e => hz (Or.inr e))]) hF9, by rcases g4 with h | h; exact Or.inl h; exact Or.inr h⟩
    · exact absurd hn24 c55
  · exact absurd hkd c15
set_option maxHeartbeats 4000000 in
set_option maxRecDepth 100000 in
theorem c_box_x {l : Launch} {ω : Om} {M : MM} (hl9 : l.stackTraces = false) {A B P : FF} {n k : Nat} {R : Nat → (Nat → Int32) × Nat} {Z : Nat → Prop} (hC : CI ω A B P n k R Z M) {p x y w h kd : Int32} (hy : p < 0 ∨ nI 5 ≤ p) : CtX l ω yX4_box wsX4_box rmX4_box [.ref (A 0 0), .int p, .int x, .int y, .int w, .int h, .int kd] M (fun v M9 => False) (fun E => E = "java/lang/IndexOutOfBoundsException") 5 34 := by
  refine CtX.ofV (cc := cX4_box) (maxL := 8) (ret := (some .int)) [some (.ref (A 0 0)), some (.int p), some (.int x), some (.int y), some (.int w), some (.int h), some (.int kd), none] (by decide) rfl (Nat.le_of_ble_eq_true rfl) rfl (Lc.av (av := [.ref (A 0 0), .int p, .int x, .int y, .int w, .int h, .int kd]) (k := 1) rfl) ?_
  intro σ F hl hr hnx
  have hl : σ.2.1.stackTraces = false := by rw [hl]; exact hl9
  have F : Fx ω σ cX4_box 8 wsX4_box RX4 rmX4_box := F
  obtain ⟨hX, hB, hA, hA4, hk, hWP, hZ, hR, hO⟩ := id hC
  have hn : n ≤ 24 := hB.1
  have hW : ∀ i j, B i j < 128 := hB.2.1
  refine v_aload_n F dX4_box_0 rfl rfl ?_
  refine v_iload_n F dX4_box_1 rfl ?_
  refine v_callVX F 1 [_] rfl rfl rfl (c_readingOf_out hl hX hB hy) gX4_box_X4_readingOf rfl hd_X4_readingOf ⟨⟨rfl, rfl⟩, ⟨(Nat.le_of_ble_eq_true rfl), (Nat.le_of_ble_eq_true rfl)⟩, ⟨(Nat.le_of_ble_eq_true rfl), (Nat.le_of_ble_eq_true rfl)⟩, (Nat.le_of_ble_eq_true rfl)⟩ hX.x rfl dX4_box_2 (fun E h => h) hnx (Nat.le_of_ble_eq_true rfl) (Nat.le_of_ble_eq_true rfl) (fun v2 M2 q2 => ?_)
  exact q2.elim
theorem hat_X4_box_54 : ∀ w ∈ (vx_atS RX4 54 "java/lang/IllegalArgumentException" nmE).filter goodWord, w ∈ wsX4_box := by decide +kernel
set_option maxHeartbeats 4000000 in
set_option maxRecDepth 100000 in
theorem c_box_kind {l : Launch} {ω : Om} {M : MM} (hl9 : l.stackTraces = false) {A B P : FF} {n k : Nat} {R : Nat → (Nat → Int32) × Nat} {Z : Nat → Prop} (hC : CI ω A B P n k R Z M) {p : Nat} {x y w h kd : Int32} (hp : p < 5) (hkd : kd < 0 ∨ nI 6 < kd) : CtX l ω yX4_box wsX4_box rmX4_box [.ref (A 0 0), .int (nI p), .int x, .int y, .int w, .int h, .int kd] M (fun v M9 => False) (fun E => E = "java/lang/IllegalArgumentException") 5 34 := by
  refine CtX.ofV (cc := cX4_box) (maxL := 8) (ret := (some .int)) [some (.ref (A 0 0)), some (.int (nI p)), some (.int x), some (.int y), some (.int w), some (.int h), some (.int kd), none] (by decide) rfl (Nat.le_of_ble_eq_true rfl) rfl (Lc.av (av := [.ref (A 0 0), .int (nI p), .int x, .int y, .int w, .int h, .int kd]) (k := 1) rfl) ?_
  intro σ F hl hr hnx
  have hl : σ.2.1.stackTraces = false := by rw [hl]; exact hl9
  have F : Fx ω σ cX4_box 8 wsX4_box RX4 rmX4_box := F
  obtain ⟨hX, hB, hA, hA4, hk, hWP, hZ, hR, hO⟩ := id hC
  have hn : n ≤ 24 := hB.1
  have hW : ∀ i j, B i j < 128 := hB.2.1
  refine v_aload_n F dX4_box_0 rfl rfl ?_
  refine v_iload_n F dX4_box_1 rfl ?_
  refine v_callVX F 1 [_] rfl rfl rfl ((c_readingOf_ok hl hX hB hp)) gX4_box_X4_readingOf rfl hd_X4_readingOf ⟨⟨rfl, rfl⟩, ⟨(Nat.le_of_ble_eq_true rfl), (Nat.le_of_ble_eq_true rfl)⟩, ⟨(Nat.le_of_ble_eq_true rfl), (Nat.le_of_ble_eq_true rfl)⟩, (Nat.le_of_ble_eq_true rfl)⟩ hX.x rfl dX4_box_2 (fun E h => h.elim) hnx (Nat.le_of_ble_eq_true rfl) (Nat.le_of_ble_eq_true rfl) (fun v2 M2 q2 => ?_)
  obtain ⟨rfl, e2⟩ := q2
  replace e2 := e2.symm
  subst e2
  refine v_pop F dX4_box_5 rfl ?_
  refine v_iload F dX4_box_6 rfl ?_
  refine v_if_lt F 18 dX4_box_8 (by decide) (fun c8 => ?_) (fun c8 => ?_)
  · exact v_throw (cls := "java/lang/IllegalArgumentException") (text := "there is no such kind") F hl rfl hnx (by decide +kernel) (by decide +kernel) (by decide +kernel) (by decide +kernel) hat_X4_box_54 hnw_54 hgd_50_54 dX4_box_18 dX4_box_21 dX4_box_22 dX4_box_24 dX4_box_27 ⟨(Nat.le_of_ble_eq_true rfl), (Nat.le_of_ble_eq_true rfl), (Nat.le_of_ble_eq_true rfl), (Nat.le_of_ble_eq_true rfl)⟩ (Nat.le_of_ble_eq_true rfl) (Nat.le_of_ble_eq_true rfl) (by simp_all)
  · refine v_iload F dX4_box_11 rfl ?_
    refine v_bipush (v := nI 6) F dX4_box_13 (by decide) ?_
    refine v_icmp_le F 28 dX4_box_15 (by decide) (fun c15 => ?_) (fun c15 => ?_)
    · exact absurd hkd (by rintro (h | h); exact c8 h; exact absurd h (Int32.not_lt.mpr c15))
    · exact v_throw (cls := "java/lang/IllegalArgumentException") (text := "there is no such kind") F hl rfl hnx (by decide +kernel) (by decide +kernel) (by decide +kernel) (by decide +kernel) hat_X4_box_54 hnw_54 hgd_50_54 dX4_box_18 dX4_box_21 dX4_box_22 dX4_box_24 dX4_box_27 ⟨(Nat.le_of_ble_eq_true rfl), (Nat.le_of_ble_eq_true rfl), (Nat.le_of_ble_eq_true rfl), (Nat.le_of_ble_eq_true rfl)⟩ (Nat.le_of_ble_eq_true rfl) (Nat.le_of_ble_eq_true rfl) (by simp_all)
set_option maxHeartbeats 4000000 in
set_option maxRecDepth 100000 in
theorem c_box_bad {l : Launch} {ω : Om} {M : MM} (hl9 : l.stackTraces = false) {A B P : FF} {n k : Nat} {R : Nat → (Nat → Int32) × Nat} {Z : Nat → Prop} (hC : CI ω A B P n k R Z M) {p kd : Nat} {x y w h : Int32} (hp : p < 5) (hkd : kd ≤ 6) (hb : ¬ inPg x y w h) : CtX l ω yX4_box wsX4_box rmX4_box [.ref (A 0 0), .int (nI p), .int x, .int y, .int w, .int h, .int (nI kd)] M (fun v M9 => False) (fun E => E = "java/lang/IllegalArgumentException") 5 34 := by
  refine CtX.ofV (cc := cX4_box) (maxL := 8) (ret := (some .int)) [some (.ref (A 0 0)), some (.int (nI p)), some (.int x), some (.int y), some (.int w), some (.int h), some (.int (nI kd)), none] (by decide) rfl (Nat.le_of_ble_eq_true rfl) rfl (Lc.av (av := [.ref (A 0 0), .int (nI p), .int x, .int y, .int w, .int h, .int (nI kd)]) (k := 1) rfl) ?_
  intro σ F hl hr hnx
  have hl : σ.2.1.stackTraces = false := by rw [hl]; exact hl9
  have F : Fx ω σ cX4_box 8 wsX4_box RX4 rmX4_box := F
  obtain ⟨hX, hB, hA, hA4, hk, hWP, hZ, hR, hO⟩ := id hC
  have hn : n ≤ 24 := hB.1
  have hW : ∀ i j, B i j < 128 := hB.2.1
  refine v_aload_n F dX4_box_0 rfl rfl ?_
  refine v_iload_n F dX4_box_1 rfl ?_
  refine v_callVX F 1 [_] rfl rfl rfl ((c_readingOf_ok hl hX hB hp)) gX4_box_X4_readingOf rfl hd_X4_readingOf ⟨⟨rfl, rfl⟩, ⟨(Nat.le_of_ble_eq_true rfl), (Nat.le_of_ble_eq_true rfl)⟩, ⟨(Nat.le_of_ble_eq_true rfl), (Nat.le_of_ble_eq_true rfl)⟩, (Nat.le_of_ble_eq_true rfl)⟩ hX.x rfl dX4_box_2 (fun E h => h.elim) hnx (Nat.le_of_ble_eq_true rfl) (Nat.le_of_ble_eq_true rfl) (fun v2 M2 q2 => ?_)
  obtain ⟨rfl, e2⟩ := q2
  replace e2 := e2.symm
  subst e2
  refine v_pop F dX4_box_5 rfl ?_
  refine v_iload F dX4_box_6 rfl ?_
  refine v_if_lt_n F 18 dX4_box_8 (by decide) (by first | omega | exact Nat.lt_trans (hW _ _) (by decide)) ?_
  refine v_iload F dX4_box_11 rfl ?_
  refine v_bipush (v := nI 6) F dX4_box_13 (by decide) ?_
  refine v_icmp_le_n F 28 dX4_box_15 (by decide) (by first | omega | exact Nat.lt_trans (hW _ _) (by decide)) (by first | omega | exact Nat.lt_trans (hW _ _) (by decide)) (fun c15 => ?_) (fun c15 => ?_)
  · refine v_iload_n F dX4_box_28 rfl ?_
    refine v_iload_n F dX4_box_29 rfl ?_
    refine v_iload F dX4_box_30 rfl ?_
    refine v_iload F dX4_box_32 rfl ?_
    refine v_callSX F 4 [_, _, _, _] rfl rfl rfl (c_checkWithinPage_bad hl hb) gX4_box_X4_checkWithinPage rfl hd_X4_checkWithinPage ⟨⟨rfl, rfl⟩, ⟨(Nat.le_of_ble_eq_true rfl), (Nat.le_of_ble_eq_true rfl)⟩, ⟨(Nat.le_of_ble_eq_true rfl), (Nat.le_of_ble_eq_true rfl)⟩, (Nat.le_of_ble_eq_true rfl)⟩ dX4_box_34 (fun E h => h) hnx (Nat.le_of_ble_eq_true rfl) (Nat.le_of_ble_eq_true rfl) (fun v34 M34 q34 => ?_)
    exact q34.elim
  · exact absurd hkd c15
theorem hat_X4_box_65 : ∀ w ∈ (vx_atS RX4 65 "java/lang/IllegalStateException" nmE).filter goodWord, w ∈ wsX4_box := by decide +kernel
set_option maxHeartbeats 4000000 in
set_option maxRecDepth 100000 in
theorem c_box_full {l : Launch} {ω : Om} {M : MM} (hl9 : l.stackTraces = false) {A B P : FF} {n k : Nat} {R : Nat → (Nat → Int32) × Nat} {Z : Nat → Prop} (hC : CI ω A B P n k R Z M) {p x y w h kd : Nat} (hp : p < 5) (hkd : kd ≤ 6) (h1 : 1 ≤ w) (h2 : 1 ≤ h) (h3 : x + w ≤ 60) (h4 : y + h ≤ 80) (hn24 : ¬ n < 24) : CtX l ω yX4_box wsX4_box rmX4_box [.ref (A 0 0), .int (nI p), .int (nI x), .int (nI y), .int (nI w), .int (nI h), .int (nI kd)] M (fun v M9 => False) (fun E => E = "java/lang/IllegalStateException") 5 34 := by
  refine CtX.ofV (cc := cX4_box) (maxL := 8) (ret := (some .int)) [some (.ref (A 0 0)), some (.int (nI p)), some (.int (nI x)), some (.int (nI y)), some (.int (nI w)), some (.int (nI h)), some (.int (nI kd)), none] (by decide) rfl (Nat.le_of_ble_eq_true rfl) rfl (Lc.av (av := [.ref (A 0 0), .int (nI p), .int (nI x), .int (nI y), .int (nI w), .int (nI h), .int (nI kd)]) (k := 1) rfl) ?_
  intro σ F hl hr hnx
  have hl : σ.2.1.stackTraces = false := by rw [hl]; exact hl9
  have F : Fx ω σ cX4_box 8 wsX4_box RX4 rmX4_box := F
  obtain ⟨hX, hB, hA, hA4, hk, hWP, hZ, hR, hO⟩ := id hC
  have hn : n ≤ 24 := hB.1
  have hW : ∀ i j, B i j < 128 := hB.2.1
  refine v_aload_n F dX4_box_0 rfl rfl ?_
  refine v_iload_n F dX4_box_1 rfl ?_
  refine v_callVX F 1 [_] rfl rfl rfl ((c_readingOf_ok hl hX hB hp)) gX4_box_X4_readingOf rfl hd_X4_readingOf ⟨⟨rfl, rfl⟩, ⟨(Nat.le_of_ble_eq_true rfl), (Nat.le_of_ble_eq_true rfl)⟩, ⟨(Nat.le_of_ble_eq_true rfl), (Nat.le_of_ble_eq_true rfl)⟩, (Nat.le_of_ble_eq_true rfl)⟩ hX.x rfl dX4_box_2 (fun E h => h.elim) hnx (Nat.le_of_ble_eq_true rfl) (Nat.le_of_ble_eq_true rfl) (fun v2 M2 q2 => ?_)
  obtain ⟨rfl, e2⟩ := q2
  replace e2 := e2.symm
  subst e2
  refine v_pop F dX4_box_5 rfl ?_
  refine v_iload F dX4_box_6 rfl ?_
  refine v_if_lt_n F 18 dX4_box_8 (by decide) (by first | omega | exact Nat.lt_trans (hW _ _) (by decide)) ?_
  refine v_iload F dX4_box_11 rfl ?_
  refine v_bipush (v := nI 6) F dX4_box_13 (by decide) ?_
  refine v_icmp_le_n F 28 dX4_box_15 (by decide) (by first | omega | exact Nat.lt_trans (hW _ _) (by decide)) (by first | omega | exact Nat.lt_trans (hW _ _) (by decide)) (fun c15 => ?_) (fun c15 => ?_)
  · refine v_iload_n F dX4_box_28 rfl ?_
    refine v_iload_n F dX4_box_29 rfl ?_
    refine v_iload F dX4_box_30 rfl ?_
    refine v_iload F dX4_box_32 rfl ?_
    refine v_callSX F 4 [_, _, _, _] rfl rfl rfl (c_checkWithinPage_ok hl h1 h2 h3 h4) gX4_box_X4_checkWithinPage rfl hd_X4_checkWithinPage ⟨⟨rfl, rfl⟩, ⟨(Nat.le_of_ble_eq_true rfl), (Nat.le_of_ble_eq_true rfl)⟩, ⟨(Nat.le_of_ble_eq_true rfl), (Nat.le_of_ble_eq_true rfl)⟩, (Nat.le_of_ble_eq_true rfl)⟩ dX4_box_34 (fun E h => h.elim) hnx (Nat.le_of_ble_eq_true rfl) (Nat.le_of_ble_eq_true rfl) (fun v34 M34 q34 => ?_)
    obtain ⟨rfl, e34⟩ := q34
    replace e34 := e34.symm
    subst e34
    refine v_aload_n F dX4_box_37 rfl rfl ?_
    refine v_get F 4 1 fo_X4_box_15 dX4_box_38 hX.x rfl ?_
    refine v_istore F dX4_box_41 (Nat.le_of_ble_eq_true rfl) (ok2_d rfl) ?_
    refine v_iload F dX4_box_43 rfl ?_
    refine v_if_lt_n F 58 dX4_box_45 (by decide) (by first | omega | exact Nat.lt_trans (hW _ _) (by decide)) ?_
    refine v_iload F dX4_box_48 rfl ?_
    refine v_aload_n F dX4_box_50 rfl rfl ?_
    refine v_get F 4 0 fo_X4_box_11 dX4_box_51 hX.x rfl ?_
    refine v_alen F 3 dX4_box_54 hX.made rfl ?_
    refine v_icmp_lt_n F 68 dX4_box_55 (by decide) (by first | omega | exact Nat.lt_trans (hW _ _) (by decide)) (by first | omega | exact Nat.lt_trans (hW _ _) (by decide)) (fun c55 => ?_) (fun c55 => ?_)
    · exact absurd c55 hn24
    · exact v_throw (cls := "java/lang/IllegalStateException") (text := "there are no more numbers for boxes") F hl rfl hnx (by decide +kernel) (by decide +kernel) (by decide +kernel) (by decide +kernel) hat_X4_box_65 hnw_65 hgd_61_65 dX4_box_58 dX4_box_61 dX4_box_62 dX4_box_64 dX4_box_67 ⟨(Nat.le_of_ble_eq_true rfl), (Nat.le_of_ble_eq_true rfl), (Nat.le_of_ble_eq_true rfl), (Nat.le_of_ble_eq_true rfl)⟩ (Nat.le_of_ble_eq_true rfl) (Nat.le_of_ble_eq_true rfl) (by simp_all)
  · exact absurd hkd c15
theorem hat_X4_approve_146 : ∀ w ∈ (vx_atS RX4 146 "java/lang/IndexOutOfBoundsException" nmE).filter goodWord, w ∈ wsX4_approve := by decide +kernel
set_option maxHeartbeats 4000000 in
set_option maxRecDepth 100000 in
theorem c_approve_who {l : Launch} {ω : Om} {M : MM} (hl9 : l.stackTraces = false) {A B P : FF} {n k : Nat} {R : Nat → (Nat → Int32) × Nat} {Z : Nat → Prop} (hC : CI ω A B P n k R Z M) {a p : Int32} (ha : a < 0 ∨ nI 6 ≤ a) : CtX l ω yX4_approve wsX4_approve rmX4_approve [.ref (A 0 0), .int a, .int p] M (fun v M9 => False) (fun E => E = "java/lang/IndexOutOfBoundsException") 3 15 := by
  refine CtX.ofV (cc := cX4_approve) (maxL := 5) (ret := (some .int)) [some (.ref (A 0 0)), some (.int a), some (.int p), none, none] (by decide) rfl (Nat.le_of_ble_eq_true rfl) rfl (Lc.av (av := [.ref (A 0 0), .int a, .int p]) (k := 2) rfl) ?_
  intro σ F hl hr hnx
  have hl : σ.2.1.stackTraces = false := by rw [hl]; exact hl9
  have F : Fx ω σ cX4_approve 5 wsX4_approve RX4 rmX4_approve := F
  obtain ⟨hX, hB, hA, hA4, hk, hWP, hZ, hR, hO⟩ := id hC
  have hn : n ≤ 24 := hB.1
  have hW : ∀ i j, B i j < 128 := hB.2.1
  refine v_iload_n F dX4_approve_0 rfl ?_
  refine v_if_lt F 10 dX4_approve_1 (by decide) (fun c1 => ?_) (fun c1 => ?_)
  · exact v_throw (cls := "java/lang/IndexOutOfBoundsException") (text := "there is no such person") F hl rfl hnx (by decide +kernel) (by decide +kernel) (by decide +kernel) (by decide +kernel) hat_X4_approve_146 hnw_146 hgd_142_146 dX4_approve_10 dX4_approve_13 dX4_approve_14 dX4_approve_16 dX4_approve_19 ⟨(Nat.le_of_ble_eq_true rfl), (Nat.le_of_ble_eq_true rfl), (Nat.le_of_ble_eq_true rfl), (Nat.le_of_ble_eq_true rfl)⟩ (Nat.le_of_ble_eq_true rfl) (Nat.le_of_ble_eq_true rfl) (by simp_all)
  · refine v_iload_n F dX4_approve_4 rfl ?_
    refine v_bipush (v := nI 6) F dX4_approve_5 (by decide) ?_
    refine v_icmp_lt F 20 dX4_approve_7 (by decide) (fun c7 => ?_) (fun c7 => ?_)
    · exact absurd ha (by rintro (h | h); exact c1 h; exact absurd c7 (Int32.not_lt.mpr h))
    · exact v_throw (cls := "java/lang/IndexOutOfBoundsException") (text := "there is no such person") F hl rfl hnx (by decide +kernel) (by decide +kernel) (by decide +kernel) (by decide +kernel) hat_X4_approve_146 hnw_146 hgd_142_146 dX4_approve_10 dX4_approve_13 dX4_approve_14 dX4_approve_16 dX4_approve_19 ⟨(Nat.le_of_ble_eq_true rfl), (Nat.le_of_ble_eq_true rfl), (Nat.le_of_ble_eq_true rfl), (Nat.le_of_ble_eq_true rfl)⟩ (Nat.le_of_ble_eq_true rfl) (Nat.le_of_ble_eq_true rfl) (by simp_all)
set_option maxHeartbeats 4000000 in
set_option maxRecDepth 100000 in
theorem c_approve_x {l : Launch} {ω : Om} {M : MM} (hl9 : l.stackTraces = false) {A B P : FF} {n k : Nat} {R : Nat → (Nat → Int32) × Nat} {Z : Nat → Prop} (hC : CI ω A B P n k R Z M) {a : Nat} {p : Int32} (ha : a < 6) (hy : p < 0 ∨ nI 5 ≤ p) : CtX l ω yX4_approve wsX4_approve rmX4_approve [.ref (A 0 0), .int (nI a), .int p] M (fun v M9 => False) (fun E => E = "java/lang/IndexOutOfBoundsException") 3 15 := by
  refine CtX.ofV (cc := cX4_approve) (maxL := 5) (ret := (some .int)) [some (.ref (A 0 0)), some (.int (nI a)), some (.int p), none, none] (by decide) rfl (Nat.le_of_ble_eq_true rfl) rfl (Lc.av (av := [.ref (A 0 0), .int (nI a), .int p]) (k := 2) rfl) ?_
  intro σ F hl hr hnx
  have hl : σ.2.1.stackTraces = false := by rw [hl]; exact hl9
  have F : Fx ω σ cX4_approve 5 wsX4_approve RX4 rmX4_approve := F
  obtain ⟨hX, hB, hA, hA4, hk, hWP, hZ, hR, hO⟩ := id hC
  have hn : n ≤ 24 := hB.1
  have hW : ∀ i j, B i j < 128 := hB.2.1
  refine v_iload_n F dX4_approve_0 rfl ?_
  refine v_if_lt_n F 10 dX4_approve_1 (by decide) (by first | omega | exact Nat.lt_trans (hW _ _) (by decide)) ?_
  refine v_iload_n F dX4_approve_4 rfl ?_
  refine v_bipush (v := nI 6) F dX4_approve_5 (by decide) ?_
  refine v_icmp_lt_n F 20 dX4_approve_7 (by decide) (by first | omega | exact Nat.lt_trans (hW _ _) (by decide)) (by first | omega | exact Nat.lt_trans (hW _ _) (by decide)) (fun c7 => ?_) (fun c7 => ?_)
  · refine v_aload_n F dX4_approve_20 rfl rfl ?_
    refine v_iload_n F dX4_approve_21 rfl ?_
    refine v_callVX F 1 [_] rfl rfl rfl (c_readingOf_out hl hX hB hy) gX4_approve_X4_readingOf rfl hd_X4_readingOf ⟨⟨rfl, rfl⟩, ⟨(Nat.le_of_ble_eq_true rfl), (Nat.le_of_ble_eq_true rfl)⟩, ⟨(Nat.le_of_ble_eq_true rfl), (Nat.le_of_ble_eq_true rfl)⟩, (Nat.le_of_ble_eq_true rfl)⟩ hX.x rfl dX4_approve_22 (fun E h => h) hnx (Nat.le_of_ble_eq_true rfl) (Nat.le_of_ble_eq_true rfl) (fun v22 M22 q22 => ?_)
    exact q22.elim
  · exact absurd ha c7
theorem hat_X4_approve_65 : ∀ w ∈ (vx_atS RX4 65 "java/lang/IllegalStateException" nmE).filter goodWord, w ∈ wsX4_approve := by decide +kernel
set_option maxHeartbeats 4000000 in
set_option maxRecDepth 100000 in
theorem c_approve_none {l : Launch} {ω : Om} {M : MM} (hl9 : l.stackTraces = false) {A B P : FF} {n k : Nat} {R : Nat → (Nat → Int32) × Nat} {Z : Nat → Prop} (hC : CI ω A B P n k R Z M) {a p : Nat} (ha : a < 6) (hp : p < 5) (hne : ¬ (0 < (ordF B n p).length ∧ k < 20)) : CtX l ω yX4_approve wsX4_approve rmX4_approve [.ref (A 0 0), .int (nI a), .int (nI p)] M (fun v M9 => False) (fun E => E = "java/lang/IllegalStateException") 3 15 := by
  refine CtX.ofV (cc := cX4_approve) (maxL := 5) (ret := (some .int)) [some (.ref (A 0 0)), some (.int (nI a)), some (.int (nI p)), none, none] (by decide) rfl (Nat.le_of_ble_eq_true rfl) rfl (Lc.av (av := [.ref (A 0 0), .int (nI a), .int (nI p)]) (k := 2) rfl) ?_
  intro σ F hl hr hnx
  have hl : σ.2.1.stackTraces = false := by rw [hl]; exact hl9
  have F : Fx ω σ cX4_approve 5 wsX4_approve RX4 rmX4_approve := F
  obtain ⟨hX, hB, hA, hA4, hk, hWP, hZ, hR, hO⟩ := id hC
  have hn : n ≤ 24 := hB.1
  have hW : ∀ i j, B i j < 128 := hB.2.1
  have hr1 : M (A 2 p) = some (rdE 3 (A 3 p) (ordF B n p).length) := by rw [← (hR p hp).1]; exact hX.rd (by omega)
  have hr2 : M (A 3 p) = some (rowE ω (R p).1) := hX.row (by omega)
  have hl24 := (hO.2 p hp).1
  have hg : ∀ q, q < (ordF B n p).length → (R p).1 q = nI ((ordF B n p).getD q 0) := (hR p hp).2
  have hn2 : ∀ q, q < (ordF B n p).length → (ordF B n p).getD q 0 < n := fun q hq => (hO.2 p hp).2 _ (getD_mem hq)
  refine v_iload_n F dX4_approve_0 rfl ?_
  refine v_if_lt_n F 10 dX4_approve_1 (by decide) (by first | omega | exact Nat.lt_trans (hW _ _) (by decide)) ?_
  refine v_iload_n F dX4_approve_4 rfl ?_
  refine v_bipush (v := nI 6) F dX4_approve_5 (by decide) ?_
  refine v_icmp_lt_n F 20 dX4_approve_7 (by decide) (by first | omega | exact Nat.lt_trans (hW _ _) (by decide)) (by first | omega | exact Nat.lt_trans (hW _ _) (by decide)) (fun c7 => ?_) (fun c7 => ?_)
  · refine v_aload_n F dX4_approve_20 rfl rfl ?_
    refine v_iload_n F dX4_approve_21 rfl ?_
    refine v_callVX F 1 [_] rfl rfl rfl ((c_readingOf_ok hl hX hB hp)) gX4_approve_X4_readingOf rfl hd_X4_readingOf ⟨⟨rfl, rfl⟩, ⟨(Nat.le_of_ble_eq_true rfl), (Nat.le_of_ble_eq_true rfl)⟩, ⟨(Nat.le_of_ble_eq_true rfl), (Nat.le_of_ble_eq_true rfl)⟩, (Nat.le_of_ble_eq_true rfl)⟩ hX.x rfl dX4_approve_22 (fun E h => h.elim) hnx (Nat.le_of_ble_eq_true rfl) (Nat.le_of_ble_eq_true rfl) (fun v22 M22 q22 => ?_)
    obtain ⟨rfl, e22⟩ := q22
    replace e22 := e22.symm
    subst e22
    refine v_astore_n F dX4_approve_25 rfl (Nat.le_of_ble_eq_true rfl) (ok2_d rfl) ?_
    refine v_aload_n F dX4_approve_26 rfl rfl ?_
    refine v_get F 4 6 fo_X4_approve_43 dX4_approve_27 hX.x rfl ?_
    refine v_istore F dX4_approve_30 (Nat.le_of_ble_eq_true rfl) (ok2_d rfl) ?_
    refine v_aload_n F dX4_approve_32 rfl rfl ?_
    refine v_get F 3 1 fo_X4_approve_136 dX4_approve_33 hr1 rfl ?_
    refine v_if_eq_n F 54 dX4_approve_36 (by decide) (by first | omega | exact Nat.lt_trans (hW _ _) (by decide)) (fun c36 => ?_) (fun c36 => ?_)
    · exact v_throw (cls := "java/lang/IllegalStateException") (text := "there is nothing to approve, or no number for an approval") F hl rfl hnx (by decide +kernel) (by decide +kernel) (by decide +kernel) (by decide +kernel) hat_X4_approve_65 hnw_65 hgd_61_65 dX4_approve_54 dX4_approve_57 dX4_approve_58 dX4_approve_60 dX4_approve_63 ⟨(Nat.le_of_ble_eq_true rfl), (Nat.le_of_ble_eq_true rfl), (Nat.le_of_ble_eq_true rfl), (Nat.le_of_ble_eq_true rfl)⟩ (Nat.le_of_ble_eq_true rfl) (Nat.le_of_ble_eq_true rfl) (by simp_all)
    · refine v_iload F dX4_approve_39 rfl ?_
      refine v_if_lt_n F 54 dX4_approve_41 (by decide) (by first | omega | exact Nat.lt_trans (hW _ _) (by decide)) ?_
      refine v_iload F dX4_approve_44 rfl ?_
      refine v_aload_n F dX4_approve_46 rfl rfl ?_
      refine v_get F 4 5 fo_X4_approve_39 dX4_approve_47 hX.x rfl ?_
      refine v_alen F 5 dX4_approve_50 hX.giv rfl ?_
      refine v_icmp_lt_n F 64 dX4_approve_51 (by decide) (by first | omega | exact Nat.lt_trans (hW _ _) (by decide)) (by first | omega | exact Nat.lt_trans (hW _ _) (by decide)) (fun c51 => ?_) (fun c51 => ?_)
      · exact absurd ⟨by omega, c51⟩ hne
      · exact v_throw (cls := "java/lang/IllegalStateException") (text := "there is nothing to approve, or no number for an approval") F hl rfl hnx (by decide +kernel) (by decide +kernel) (by decide +kernel) (by decide +kernel) hat_X4_approve_65 hnw_65 hgd_61_65 dX4_approve_54 dX4_approve_57 dX4_approve_58 dX4_approve_60 dX4_approve_63 ⟨(Nat.le_of_ble_eq_true rfl), (Nat.le_of_ble_eq_true rfl), (Nat.le_of_ble_eq_true rfl), (Nat.le_of_ble_eq_true rfl)⟩ (Nat.le_of_ble_eq_true rfl) (Nat.le_of_ble_eq_true rfl) (by simp_all)
  · exact absurd ha c7
