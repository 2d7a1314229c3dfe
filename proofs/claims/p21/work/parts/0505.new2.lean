/-! the constructor of the class -/
theorem B0_GB : GB (fun _ _ => 0) 0 := by
  refine ⟨⟨by decide, fun _ _ => (show (0 : Nat) < 128 from by decide), fun i y hi => absurd hi (Nat.not_lt_zero _), fun i y hi => absurd hi (Nat.not_lt_zero _)⟩, fun i hi => absurd hi (Nat.not_lt_zero _), fun i y hi => absurd hi (Nat.not_lt_zero _), ⟨fun _ => 0, fun i y hi => absurd hi (Nat.not_lt_zero _)⟩, fun i hi => absurd hi (Nat.not_lt_zero _), fun i hi => absurd hi (Nat.not_lt_zero _)⟩
theorem B0_ord (p : Nat) : ordF (fun _ _ => 0) 0 p = [] := List.eq_nil_iff_forall_not_mem.mpr (fun x hx => absurd (B0_GB.in x hx) (Nat.not_lt_zero _))
theorem P0_GP : GP (fun _ _ => 0) 0 := ⟨fun _ => (show (0 : Nat) < 6 from by decide), fun _ => (show (0 : Nat) ≤ 1 from by decide), by decide, fun _ _ => (show (0 : Nat) < 128 from by decide)⟩
def ix2 (p : Nat) : Nat := ([8, 10, 12, 14, 16, 3, 5] : List Nat).getD p 0
def ix3 (p : Nat) : Nat := ([9, 11, 13, 15, 17, 4, 6] : List Nat).getD p 0
theorem ix_lt : ∀ p, p < 7 → ix2 p < 18 ∧ ix3 p < 18 := by decide
theorem ix_inj : ∀ p, p < 7 → ∀ q, q < 7 → p ≠ q → ix2 p ≠ ix2 q ∧ ix3 p ≠ ix3 q := by decide
set_option maxRecDepth 100000 in
theorem X4_made {ω : Om} {M M9 : MM} {a a7 a20 a27 q31 a38 q42 a51 x0 r0 x1 r1 x2 r2 x3 r3 x4 r4 : Nat} (hN : NW M a [(a, .inr (4, [.ref a7, .int (nI 0), .ref a20, .ref a27, .ref a38, .ref a51, .int (nI 0)])), (a7, .inl (ω.2.2 3, 24, .inr (.inr (.inr (.inr (fun _ => none)))))), (a20, .inl (ω.2.2 4, 5, .inr (.inr (.inr (.inr (va_up (va_up (va_up (va_up (va_up (fun _ => none) 0 (some x0)) 1 (some x1)) 2 (some x2)) 3 (some x3)) 4 (some x4))))))), (a27, rdE 3 q31 0), (q31, rowE ω (fun _ => 0)), (a38, rdE 2 q42 0), (q42, rowE ω (fun _ => 0)), (a51, .inl (ω.2.2 5, 20, .inr (.inr (.inr (.inr (fun _ => none)))))), (x0, rdE 3 r0 0), (r0, rowE ω (fun _ => 0)), (x1, rdE 3 r1 0), (r1, rowE ω (fun _ => 0)), (x2, rdE 3 r2 0), (r2, rowE ω (fun _ => 0)), (x3, rdE 3 r3 0), (r3, rowE ω (fun _ => 0)), (x4, rdE 3 r4 0), (r4, rowE ω (fun _ => 0))] M9) : ∃ (A : FF) (R9 : Nat → (Nat → Int32) × Nat), A 0 0 = a ∧ CI ω A (fun _ _ => 0) (fun _ _ => 0) 0 0 R9 (fun z => ∃ i j, z = A i j) M9 ∧ (∀ i j, M9 (A i j) ≠ none) ∧ (∀ i j, A i j = a ∨ M (A i j) = none) ∧ (∀ z, M z ≠ none → z ≠ a → M9 z = M z) := by
  have hd := hN.nodup_at
  have hq0 : ∀ f : Nat → Nat, qa 0 f = fun _ => none := fun f => by funext i; simp [qa]
  have e2 : ∀ p, p < 7 → ([x0, x1, x2, x3, x4, a27, a38] : List Nat).getD p a = (([(a, .inr (4, [.ref a7, .int (nI 0), .ref a20, .ref a27, .ref a38, .ref a51, .int (nI 0)])), (a7, .inl (ω.2.2 3, 24, .inr (.inr (.inr (.inr (fun _ => none)))))), (a20, .inl (ω.2.2 4, 5, .inr (.inr (.inr (.inr (va_up (va_up (va_up (va_up (va_up (fun _ => none) 0 (some x0)) 1 (some x1)) 2 (some x2)) 3 (some x3)) 4 (some x4))))))), (a27, rdE 3 q31 0), (q31, rowE ω (fun _ => 0)), (a38, rdE 2 q42 0), (q42, rowE ω (fun _ => 0)), (a51, .inl (ω.2.2 5, 20, .inr (.inr (.inr (.inr (fun _ => none)))))), (x0, rdE 3 r0 0), (r0, rowE ω (fun _ => 0)), (x1, rdE 3 r1 0), (r1, rowE ω (fun _ => 0)), (x2, rdE 3 r2 0), (r2, rowE ω (fun _ => 0)), (x3, rdE 3 r3 0), (r3, rowE ω (fun _ => 0)), (x4, rdE 3 r4 0), (r4, rowE ω (fun _ => 0))] : List (Nat × va_E)).map Prod.fst).getD (ix2 p) a := fun p hp => by
    match p, hp with
    | 0, _ => rfl
    | 1, _ => rfl
    | 2, _ => rfl
    | 3, _ => rfl
    | 4, _ => rfl
    | 5, _ => rfl
    | 6, _ => rfl
    | k + 7, hk => exact absurd hk (by omega)
  have e3 : ∀ p, p < 7 → ([r0, r1, r2, r3, r4, q31, q42] : List Nat).getD p a = (([(a, .inr (4, [.ref a7, .int (nI 0), .ref a20, .ref a27, .ref a38, .ref a51, .int (nI 0)])), (a7, .inl (ω.2.2 3, 24, .inr (.inr (.inr (.inr (fun _ => none)))))), (a20, .inl (ω.2.2 4, 5, .inr (.inr (.inr (.inr (va_up (va_up (va_up (va_up (va_up (fun _ => none) 0 (some x0)) 1 (some x1)) 2 (some x2)) 3 (some x3)) 4 (some x4))))))), (a27, rdE 3 q31 0), (q31, rowE ω (fun _ => 0)), (a38, rdE 2 q42 0), (q42, rowE ω (fun _ => 0)), (a51, .inl (ω.2.2 5, 20, .inr (.inr (.inr (.inr (fun _ => none)))))), (x0, rdE 3 r0 0), (r0, rowE ω (fun _ => 0)), (x1, rdE 3 r1 0), (r1, rowE ω (fun _ => 0)), (x2, rdE 3 r2 0), (r2, rowE ω (fun _ => 0)), (x3, rdE 3 r3 0), (r3, rowE ω (fun _ => 0)), (x4, rdE 3 r4 0), (r4, rowE ω (fun _ => 0))] : List (Nat × va_E)).map Prod.fst).getD (ix3 p) a := fun p hp => by
    match p, hp with
    | 0, _ => rfl
    | 1, _ => rfl
    | 2, _ => rfl
    | 3, _ => rfl
    | 4, _ => rfl
    | 5, _ => rfl
    | 6, _ => rfl
    | k + 7, hk => exact absurd hk (by omega)
  have hm : ∀ i j, ∃ e, ((fun i j => if i = 0 then ([a, a7, a20, a51] : List Nat).getD j a else if i = 2 then ([x0, x1, x2, x3, x4, a27, a38] : List Nat).getD j a else if i = 3 then ([r0, r1, r2, r3, r4, q31, q42] : List Nat).getD j a else a) i j, e) ∈ ([(a, .inr (4, [.ref a7, .int (nI 0), .ref a20, .ref a27, .ref a38, .ref a51, .int (nI 0)])), (a7, .inl (ω.2.2 3, 24, .inr (.inr (.inr (.inr (fun _ => none)))))), (a20, .inl (ω.2.2 4, 5, .inr (.inr (.inr (.inr (va_up (va_up (va_up (va_up (va_up (fun _ => none) 0 (some x0)) 1 (some x1)) 2 (some x2)) 3 (some x3)) 4 (some x4))))))), (a27, rdE 3 q31 0), (q31, rowE ω (fun _ => 0)), (a38, rdE 2 q42 0), (q42, rowE ω (fun _ => 0)), (a51, .inl (ω.2.2 5, 20, .inr (.inr (.inr (.inr (fun _ => none)))))), (x0, rdE 3 r0 0), (r0, rowE ω (fun _ => 0)), (x1, rdE 3 r1 0), (r1, rowE ω (fun _ => 0)), (x2, rdE 3 r2 0), (r2, rowE ω (fun _ => 0)), (x3, rdE 3 r3 0), (r3, rowE ω (fun _ => 0)), (x4, rdE 3 r4 0), (r4, rowE ω (fun _ => 0))] : List (Nat × va_E)) := fun i j => by
    show ∃ e, ((if i = 0 then ([a, a7, a20, a51] : List Nat).getD j a else if i = 2 then ([x0, x1, x2, x3, x4, a27, a38] : List Nat).getD j a else if i = 3 then ([r0, r1, r2, r3, r4, q31, q42] : List Nat).getD j a else a), e) ∈ _
    split
    · match j with
      | 0 => exact ⟨_, List.mem_of_getElem? (i := 0) rfl⟩
      | 1 => exact ⟨_, List.mem_of_getElem? (i := 1) rfl⟩
      | 2 => exact ⟨_, List.mem_of_getElem? (i := 2) rfl⟩
      | 3 => exact ⟨_, List.mem_of_getElem? (i := 7) rfl⟩
      | k + 4 => exact ⟨_, List.mem_of_getElem? (i := 0) rfl⟩
    · split
      · match j with
        | 0 => exact ⟨_, List.mem_of_getElem? (i := 8) rfl⟩
        | 1 => exact ⟨_, List.mem_of_getElem? (i := 10) rfl⟩
        | 2 => exact ⟨_, List.mem_of_getElem? (i := 12) rfl⟩
        | 3 => exact ⟨_, List.mem_of_getElem? (i := 14) rfl⟩
        | 4 => exact ⟨_, List.mem_of_getElem? (i := 16) rfl⟩
        | 5 => exact ⟨_, List.mem_of_getElem? (i := 3) rfl⟩
        | 6 => exact ⟨_, List.mem_of_getElem? (i := 5) rfl⟩
        | k + 7 => exact ⟨_, List.mem_of_getElem? (i := 0) rfl⟩
      · split
        · match j with
          | 0 => exact ⟨_, List.mem_of_getElem? (i := 9) rfl⟩
          | 1 => exact ⟨_, List.mem_of_getElem? (i := 11) rfl⟩
          | 2 => exact ⟨_, List.mem_of_getElem? (i := 13) rfl⟩
          | 3 => exact ⟨_, List.mem_of_getElem? (i := 15) rfl⟩
          | 4 => exact ⟨_, List.mem_of_getElem? (i := 17) rfl⟩
          | 5 => exact ⟨_, List.mem_of_getElem? (i := 4) rfl⟩
          | 6 => exact ⟨_, List.mem_of_getElem? (i := 6) rfl⟩
          | k + 7 => exact ⟨_, List.mem_of_getElem? (i := 0) rfl⟩
        · exact ⟨_, List.mem_of_getElem? (i := 0) rfl⟩
  refine ⟨(fun i j => if i = 0 then ([a, a7, a20, a51] : List Nat).getD j a else if i = 2 then ([x0, x1, x2, x3, x4, a27, a38] : List Nat).getD j a else if i = 3 then ([r0, r1, r2, r3, r4, q31, q42] : List Nat).getD j a else a), fun _ => (fun _ => 0, 0), rfl, ⟨⟨?_, ?_, ?_, ?_, fun i hi => absurd hi (Nat.not_lt_zero _), fun p hp => ?_, fun i hi => absurd hi (Nat.not_lt_zero _)⟩, B0_GB.1, fun p q hp hq hpq => ⟨fun he => ?_, fun he => ?_⟩, fun i j hi => absurd hi (Nat.not_lt_zero _), by decide, fun _ _ => (show (0 : Nat) < 128 from by decide), fun i j => ⟨i, j, rfl⟩, fun p hp => ?_, B0_GB.pf⟩, fun i j => ?_, fun i j => ?_, hN.2.2.1⟩
  · exact hN.at (i := 0) rfl
  · rw [hq0]; exact hN.at (i := 1) rfl
  · refine (hN.at (i := 2) rfl).trans ?_
    congr 2
    have hqa : (va_up (va_up (va_up (va_up (va_up (fun _ => none) 0 (some x0)) 1 (some x1)) 2 (some x2)) 3 (some x3)) 4 (some x4)) = qa 5 ((fun i j => if i = 0 then ([a, a7, a20, a51] : List Nat).getD j a else if i = 2 then ([x0, x1, x2, x3, x4, a27, a38] : List Nat).getD j a else if i = 3 then ([r0, r1, r2, r3, r4, q31, q42] : List Nat).getD j a else a) 2) := by
      funext i
      match i with
      | 0 => rfl
      | 1 => rfl
      | 2 => rfl
      | 3 => rfl
      | 4 => rfl
      | k + 5 => simp [va_up, qa]
    rw [hqa]
  · rw [hq0]; exact hN.at (i := 7) rfl
  · match p, hp with
    | 0, _ => exact ⟨hN.at (i := 8) rfl, hN.at (i := 9) rfl⟩
    | 1, _ => exact ⟨hN.at (i := 10) rfl, hN.at (i := 11) rfl⟩
    | 2, _ => exact ⟨hN.at (i := 12) rfl, hN.at (i := 13) rfl⟩
    | 3, _ => exact ⟨hN.at (i := 14) rfl, hN.at (i := 15) rfl⟩
    | 4, _ => exact ⟨hN.at (i := 16) rfl, hN.at (i := 17) rfl⟩
    | 5, _ => exact ⟨hN.at (i := 3) rfl, hN.at (i := 4) rfl⟩
    | 6, _ => exact ⟨hN.at (i := 5) rfl, hN.at (i := 6) rfl⟩
    | k + 7, hk => exact absurd hk (by omega)
  · have he2 : ([x0, x1, x2, x3, x4, a27, a38] : List Nat).getD p a = ([x0, x1, x2, x3, x4, a27, a38] : List Nat).getD q a := he
    rw [e2 p hp, e2 q hq] at he2
    exact (ix_inj p hp q hq hpq).1 (hd _ _ (ix_lt p hp).1 (ix_lt q hq).1 he2)
  · have he2 : ([r0, r1, r2, r3, r4, q31, q42] : List Nat).getD p a = ([r0, r1, r2, r3, r4, q31, q42] : List Nat).getD q a := he
    rw [e3 p hp, e3 q hq] at he2
    exact (ix_inj p hp q hq hpq).2 (hd _ _ (ix_lt p hp).2 (ix_lt q hq).2 he2)
  · rw [B0_ord]
    exact ⟨rfl, fun i hi => absurd hi (Nat.not_lt_zero _)⟩
  · obtain ⟨e, he⟩ := hm i j
    rw [hN.1 _ he]
    exact fun h => nomatch h
  · obtain ⟨e, he⟩ := hm i j
    exact hN.2.2.2 _ he
def rmX4_init : Room := { frames := 2, cells := 17, slots := 231, locals := 50 }
theorem hd_X4_init : yX4_init.cls ≠ "java/lang/invoke/MethodHandle" ∧ yX4_init.cls ≠ "java/lang/invoke/VarHandle" ∧ (parseMethodDescriptor yX4_init.desc).map (fun d => d.parameters.length) = some 0 := by decide +kernel
theorem fo_X4_init_21 : FO wsX4_init RX4 21 4 2 := ⟨_, _, _, rfl, by decide, by decide +kernel, by decide +kernel⟩
theorem fp_X4_init_15 : FP wsX4_init RX4 15 4 1 .int := ⟨_, _, _, tyX4, rfl, by decide, by decide +kernel, by decide +kernel, tyX4_ok, nmX4, rfl, by decide +kernel⟩
theorem fp_X4_init_43 : FP wsX4_init RX4 43 4 6 .int := ⟨_, _, _, tyX4, rfl, by decide, by decide +kernel, by decide +kernel, tyX4_ok, nmX4, rfl, by decide +kernel⟩
theorem fq_X4_init_11 : FQ wsX4_init RX4 11 4 0 (.array (.object "Readingorder$Box")) := ⟨_, _, _, tyX4, rfl, by decide, by decide +kernel, by decide +kernel, tyX4_ok, nmX4, rfl, rfl, by decide +kernel⟩
theorem fq_X4_init_21 : FQ wsX4_init RX4 21 4 2 (.array (.object "Readingorder$Reading")) := ⟨_, _, _, tyX4, rfl, by decide, by decide +kernel, by decide +kernel, tyX4_ok, nmX4, rfl, rfl, by decide +kernel⟩
theorem fq_X4_init_26 : FQ wsX4_init RX4 26 4 3 (.object "Readingorder$Reading") := ⟨_, _, _, tyX4, rfl, by decide, by decide +kernel, by decide +kernel, tyX4_ok, nmX4, rfl, rfl, by decide +kernel⟩
theorem fq_X4_init_33 : FQ wsX4_init RX4 33 4 4 (.object "Readingorder$Pile") := ⟨_, _, _, tyX4, rfl, by decide, by decide +kernel, by decide +kernel, tyX4_ok, nmX4, rfl, rfl, by decide +kernel⟩
theorem fq_X4_init_39 : FQ wsX4_init RX4 39 4 5 (.array (.object "Readingorder$Approval")) := ⟨_, _, _, tyX4, rfl, by decide, by decide +kernel, by decide +kernel, tyX4_ok, nmX4, rfl, rfl, by decide +kernel⟩
set_option maxHeartbeats 4000000 in
set_option maxRecDepth 100000 in
theorem c_X4_init {l : Launch} {ω : Om} {M : MM} {a : Nat} {f0 f1 f2 f3 f4 f5 f6 : Value} (ha : M a = some (.inr (4, [f0, f1, f2, f3, f4, f5, f6]))) : CtA l ω yX4_init wsX4_init rmX4_init [.ref a] M (fun v M9 => v = none ∧ ∃ (A : FF) (R9 : Nat → (Nat → Int32) × Nat), A 0 0 = a ∧ CI ω A (fun _ _ => 0) (fun _ _ => 0) 0 0 R9 (fun z => ∃ i j, z = A i j) M9 ∧ (∀ i j, M9 (A i j) ≠ none) ∧ (∀ i j, A i j = a ∨ M (A i j) = none) ∧ (∀ z, M z ≠ none → z ≠ a → M9 z = M z)) 17 231 := by
  refine CtA.ofV (cc := cX4_init) (maxL := 2) (ret := none) [some (.ref a), none] (by decide) rfl (Nat.le_of_ble_eq_true rfl) rfl (Lc.av (av := [.ref a]) (k := 1) rfl) ?_
  intro σ F hl hr hname hAO
  have F : Fx ω σ cX4_init 2 wsX4_init RX4 rmX4_init := F
  have hN : NW M a [(a, .inr (4, [f0, f1, f2, f3, f4, f5, f6]))] M := NW.rf ha
  have l5 : ∀ (M9 : MM) (a7 a20 a27 q31 a38 q42 a51 x0 r0 x1 r1 x2 r2 x3 r3 x4 r4 : Nat), NW M a [(a, .inr (4, [.ref a7, .int (nI 0), .ref a20, .ref a27, .ref a38, .ref a51, .int (nI 0)])), (a7, .inl (ω.2.2 3, 24, .inr (.inr (.inr (.inr (fun _ => none)))))), (a20, .inl (ω.2.2 4, 5, .inr (.inr (.inr (.inr (va_up (va_up (va_up (va_up (va_up (fun _ => none) 0 (some x0)) 1 (some x1)) 2 (some x2)) 3 (some x3)) 4 (some x4))))))), (a27, rdE 3 q31 0), (q31, rowE ω (fun _ => 0)), (a38, rdE 2 q42 0), (q42, rowE ω (fun _ => 0)), (a51, .inl (ω.2.2 5, 20, .inr (.inr (.inr (.inr (fun _ => none)))))), (x0, rdE 3 r0 0), (r0, rowE ω (fun _ => 0)), (x1, rdE 3 r1 0), (r1, rowE ω (fun _ => 0)), (x2, rdE 3 r2 0), (r2, rowE ω (fun _ => 0)), (x3, rdE 3 r3 0), (r3, rowE ω (fun _ => 0)), (x4, rdE 3 r4 0), (r4, rowE ω (fun _ => 0))] M9 → V ω σ M9 [some (.ref a), some (.int (nI 5))] 17 231 (BQ ω σ (fun v M9 => v = none ∧ ∃ (A : FF) (R9 : Nat → (Nat → Int32) × Nat), A 0 0 = a ∧ CI ω A (fun _ _ => 0) (fun _ _ => 0) 0 0 R9 (fun z => ∃ i j, z = A i j) M9 ∧ (∀ i j, M9 (A i j) ≠ none) ∧ (∀ i j, A i j = a ∨ M (A i j) = none) ∧ (∀ z, M z ≠ none → z ≠ a → M9 z = M z)) 17 231) 64 [] := by
    intro M9 a7 a20 a27 q31 a38 q42 a51 x0 r0 x1 r1 x2 r2 x3 r3 x4 r4 hN
    refine v_iload_n F dX4_init_64 rfl ?_
    refine v_aload_n F dX4_init_65 rfl rfl ?_
    refine v_get F 4 2 fo_X4_init_21 dX4_init_66 (hN.at (i := 0) rfl) rfl ?_
    refine v_alen F 4 dX4_init_69 (hN.at (i := 2) rfl) rfl ?_
    refine v_icmp_ge_n F 92 dX4_init_70 (by decide) (by first | decide | omega) (by first | decide | omega) (fun c70 => ?_) (fun c70 => ?_)
    · exact v_vret F hr dX4_init_92 (Nat.le_of_ble_eq_true rfl) (Nat.le_of_ble_eq_true rfl) ⟨rfl, X4_made hN⟩
    · exact absurd c70 (by decide)
  have l4 : ∀ (M9 : MM) (a7 a20 a27 q31 a38 q42 a51 x0 r0 x1 r1 x2 r2 x3 r3 : Nat), NW M a [(a, .inr (4, [.ref a7, .int (nI 0), .ref a20, .ref a27, .ref a38, .ref a51, .int (nI 0)])), (a7, .inl (ω.2.2 3, 24, .inr (.inr (.inr (.inr (fun _ => none)))))), (a20, .inl (ω.2.2 4, 5, .inr (.inr (.inr (.inr (va_up (va_up (va_up (va_up (fun _ => none) 0 (some x0)) 1 (some x1)) 2 (some x2)) 3 (some x3))))))), (a27, rdE 3 q31 0), (q31, rowE ω (fun _ => 0)), (a38, rdE 2 q42 0), (q42, rowE ω (fun _ => 0)), (a51, .inl (ω.2.2 5, 20, .inr (.inr (.inr (.inr (fun _ => none)))))), (x0, rdE 3 r0 0), (r0, rowE ω (fun _ => 0)), (x1, rdE 3 r1 0), (r1, rowE ω (fun _ => 0)), (x2, rdE 3 r2 0), (r2, rowE ω (fun _ => 0)), (x3, rdE 3 r3 0), (r3, rowE ω (fun _ => 0))] M9 → V ω σ M9 [some (.ref a), some (.int (nI 4))] 15 205 (BQ ω σ (fun v M9 => v = none ∧ ∃ (A : FF) (R9 : Nat → (Nat → Int32) × Nat), A 0 0 = a ∧ CI ω A (fun _ _ => 0) (fun _ _ => 0) 0 0 R9 (fun z => ∃ i j, z = A i j) M9 ∧ (∀ i j, M9 (A i j) ≠ none) ∧ (∀ i j, A i j = a ∨ M (A i j) = none) ∧ (∀ z, M z ≠ none → z ≠ a → M9 z = M z)) 17 231) 64 [] := by
    intro M9 a7 a20 a27 q31 a38 q42 a51 x0 r0 x1 r1 x2 r2 x3 r3 hN
    refine v_iload_n F dX4_init_64 rfl ?_
    refine v_aload_n F dX4_init_65 rfl rfl ?_
    refine v_get F 4 2 fo_X4_init_21 dX4_init_66 (hN.at (i := 0) rfl) rfl ?_
    refine v_alen F 4 dX4_init_69 (hN.at (i := 2) rfl) rfl ?_
    refine v_icmp_ge_n F 92 dX4_init_70 (by decide) (by first | decide | omega) (by first | decide | omega) (fun c70 => ?_) (fun c70 => ?_)
    · exact absurd c70 (by decide)
    · refine v_aload_n F dX4_init_73 rfl rfl ?_
      refine v_get F 4 2 fo_X4_init_21 dX4_init_74 (hN.at (i := 0) rfl) rfl ?_
      refine v_iload_n F dX4_init_77 rfl ?_
      refine v_new F 3 tyX3 [.null, .int 0] rfl (by decide +kernel) tyX3_ok (by decide +kernel) (by decide +kernel) (by decide +kernel) (fun j hj => by rcases (show j = 0 ∨ j = 1 by omega) with rfl | rfl <;> rfl) dX4_init_78 ⟨(Nat.le_of_ble_eq_true rfl), (Nat.le_of_ble_eq_true rfl)⟩ (fun a78 n78 => ?_)
      have hN : NW M a [(a, .inr (4, [.ref a7, .int (nI 0), .ref a20, .ref a27, .ref a38, .ref a51, .int (nI 0)])), (a7, .inl (ω.2.2 3, 24, .inr (.inr (.inr (.inr (fun _ => none)))))), (a20, .inl (ω.2.2 4, 5, .inr (.inr (.inr (.inr (va_up (va_up (va_up (va_up (fun _ => none) 0 (some x0)) 1 (some x1)) 2 (some x2)) 3 (some x3))))))), (a27, rdE 3 q31 0), (q31, rowE ω (fun _ => 0)), (a38, rdE 2 q42 0), (q42, rowE ω (fun _ => 0)), (a51, .inl (ω.2.2 5, 20, .inr (.inr (.inr (.inr (fun _ => none)))))), (x0, rdE 3 r0 0), (r0, rowE ω (fun _ => 0)), (x1, rdE 3 r1 0), (r1, rowE ω (fun _ => 0)), (x2, rdE 3 r2 0), (r2, rowE ω (fun _ => 0)), (x3, rdE 3 r3 0), (r3, rowE ω (fun _ => 0)), (a78, .inr (3, [.null, .int 0]))] _ := hN.add n78
      generalize mup _ a78 _ = M78 at hN ⊢
      refine v_dup F dX4_init_81 rfl ?_
      refine v_callINw F 0 [] rfl rfl rfl (c_X3_init (hN.at (i := 16) rfl)) gX4_init_X3_init_n25 rfl hd_X3_init ⟨⟨rfl, rfl⟩, ⟨(Nat.le_of_ble_eq_true rfl), (Nat.le_of_ble_eq_true rfl)⟩, ⟨(Nat.le_of_ble_eq_true rfl), (Nat.le_of_ble_eq_true rfl)⟩, (Nat.le_of_ble_eq_true rfl)⟩ (by decide +kernel) (by decide +kernel) rfl hAO.2.2.2.1 dX4_init_82 (fun v82 M82 q82 => ?_)
      obtain ⟨q82, wq82, rfl, rfl⟩ := q82
      have hN : NW M a [(a, .inr (4, [.ref a7, .int (nI 0), .ref a20, .ref a27, .ref a38, .ref a51, .int (nI 0)])), (a7, .inl (ω.2.2 3, 24, .inr (.inr (.inr (.inr (fun _ => none)))))), (a20, .inl (ω.2.2 4, 5, .inr (.inr (.inr (.inr (va_up (va_up (va_up (va_up (fun _ => none) 0 (some x0)) 1 (some x1)) 2 (some x2)) 3 (some x3))))))), (a27, rdE 3 q31 0), (q31, rowE ω (fun _ => 0)), (a38, rdE 2 q42 0), (q42, rowE ω (fun _ => 0)), (a51, .inl (ω.2.2 5, 20, .inr (.inr (.inr (.inr (fun _ => none)))))), (x0, rdE 3 r0 0), (r0, rowE ω (fun _ => 0)), (x1, rdE 3 r1 0), (r1, rowE ω (fun _ => 0)), (x2, rdE 3 r2 0), (r2, rowE ω (fun _ => 0)), (x3, rdE 3 r3 0), (r3, rowE ω (fun _ => 0)), (a78, rdE 3 q82 0), (q82, rowE ω (fun _ => 0))] _ := (hN.add wq82 (e := rowE ω (fun _ => 0))).set (i := 16) rfl
      generalize mup (mup _ q82 _) a78 _ = M82 at hN ⊢
      refine v_aast_n F 4 3 dX4_init_85 (hN.at (i := 2) rfl) rfl (hN.at (i := 16) rfl) rfl (by decide) (by decide) ?_
      have hN : NW M a [(a, .inr (4, [.ref a7, .int (nI 0), .ref a20, .ref a27, .ref a38, .ref a51, .int (nI 0)])), (a7, .inl (ω.2.2 3, 24, .inr (.inr (.inr (.inr (fun _ => none)))))), (a20, .inl (ω.2.2 4, 5, .inr (.inr (.inr (.inr (va_up (va_up (va_up (va_up (va_up (fun _ => none) 0 (some x0)) 1 (some x1)) 2 (some x2)) 3 (some x3)) 4 (some a78))))))), (a27, rdE 3 q31 0), (q31, rowE ω (fun _ => 0)), (a38, rdE 2 q42 0), (q42, rowE ω (fun _ => 0)), (a51, .inl (ω.2.2 5, 20, .inr (.inr (.inr (.inr (fun _ => none)))))), (x0, rdE 3 r0 0), (r0, rowE ω (fun _ => 0)), (x1, rdE 3 r1 0), (r1, rowE ω (fun _ => 0)), (x2, rdE 3 r2 0), (r2, rowE ω (fun _ => 0)), (x3, rdE 3 r3 0), (r3, rowE ω (fun _ => 0)), (a78, rdE 3 q82 0), (q82, rowE ω (fun _ => 0))] (mup M82 a20 (.inl (ω.2.2 4, 5, .inr (.inr (.inr (.inr (va_up (va_up (va_up (va_up (va_up (fun _ => none) 0 (some x0)) 1 (some x1)) 2 (some x2)) 3 (some x3)) 4 (some a78)))))))) := hN.set (i := 2) rfl
      change V ω σ (mup M82 a20 (.inl (ω.2.2 4, 5, .inr (.inr (.inr (.inr (va_up (va_up (va_up (va_up (va_up (fun _ => none) 0 (some x0)) 1 (some x1)) 2 (some x2)) 3 (some x3)) 4 (some a78)))))))) _ _ _ _ _ _
      generalize mup M82 a20 (.inl (ω.2.2 4, 5, .inr (.inr (.inr (.inr (va_up (va_up (va_up (va_up (va_up (fun _ => none) 0 (some x0)) 1 (some x1)) 2 (some x2)) 3 (some x3)) 4 (some a78))))))) = M85 at hN ⊢
      refine v_iinc1 F dX4_init_86 rfl (ok2_d rfl) ?_
      refine v_goto F 64 dX4_init_89 (by decide) ?_
      exact l5 _ _ _ _ _ _ _ _ _ _ _ _ _ _ _ _ _ _  hN
  have l3 : ∀ (M9 : MM) (a7 a20 a27 q31 a38 q42 a51 x0 r0 x1 r1 x2 r2 : Nat), NW M a [(a, .inr (4, [.ref a7, .int (nI 0), .ref a20, .ref a27, .ref a38, .ref a51, .int (nI 0)])), (a7, .inl (ω.2.2 3, 24, .inr (.inr (.inr (.inr (fun _ => none)))))), (a20, .inl (ω.2.2 4, 5, .inr (.inr (.inr (.inr (va_up (va_up (va_up (fun _ => none) 0 (some x0)) 1 (some x1)) 2 (some x2))))))), (a27, rdE 3 q31 0), (q31, rowE ω (fun _ => 0)), (a38, rdE 2 q42 0), (q42, rowE ω (fun _ => 0)), (a51, .inl (ω.2.2 5, 20, .inr (.inr (.inr (.inr (fun _ => none)))))), (x0, rdE 3 r0 0), (r0, rowE ω (fun _ => 0)), (x1, rdE 3 r1 0), (r1, rowE ω (fun _ => 0)), (x2, rdE 3 r2 0), (r2, rowE ω (fun _ => 0))] M9 → V ω σ M9 [some (.ref a), some (.int (nI 3))] 13 179 (BQ ω σ (fun v M9 => v = none ∧ ∃ (A : FF) (R9 : Nat → (Nat → Int32) × Nat), A 0 0 = a ∧ CI ω A (fun _ _ => 0) (fun _ _ => 0) 0 0 R9 (fun z => ∃ i j, z = A i j) M9 ∧ (∀ i j, M9 (A i j) ≠ none) ∧ (∀ i j, A i j = a ∨ M (A i j) = none) ∧ (∀ z, M z ≠ none → z ≠ a → M9 z = M z)) 17 231) 64 [] := by
    intro M9 a7 a20 a27 q31 a38 q42 a51 x0 r0 x1 r1 x2 r2 hN
    refine v_iload_n F dX4_init_64 rfl ?_
    refine v_aload_n F dX4_init_65 rfl rfl ?_
    refine v_get F 4 2 fo_X4_init_21 dX4_init_66 (hN.at (i := 0) rfl) rfl ?_
    refine v_alen F 4 dX4_init_69 (hN.at (i := 2) rfl) rfl ?_
    refine v_icmp_ge_n F 92 dX4_init_70 (by decide) (by first | decide | omega) (by first | decide | omega) (fun c70 => ?_) (fun c70 => ?_)
    · exact absurd c70 (by decide)
    · refine v_aload_n F dX4_init_73 rfl rfl ?_
      refine v_get F 4 2 fo_X4_init_21 dX4_init_74 (hN.at (i := 0) rfl) rfl ?_
      refine v_iload_n F dX4_init_77 rfl ?_
      refine v_new F 3 tyX3 [.null, .int 0] rfl (by decide +kernel) tyX3_ok (by decide +kernel) (by decide +kernel) (by decide +kernel) (fun j hj => by rcases (show j = 0 ∨ j = 1 by omega) with rfl | rfl <;> rfl) dX4_init_78 ⟨(Nat.le_of_ble_eq_true rfl), (Nat.le_of_ble_eq_true rfl)⟩ (fun a78 n78 => ?_)
      have hN : NW M a [(a, .inr (4, [.ref a7, .int (nI 0), .ref a20, .ref a27, .ref a38, .ref a51, .int (nI 0)])), (a7, .inl (ω.2.2 3, 24, .inr (.inr (.inr (.inr (fun _ => none)))))), (a20, .inl (ω.2.2 4, 5, .inr (.inr (.inr (.inr (va_up (va_up (va_up (fun _ => none) 0 (some x0)) 1 (some x1)) 2 (some x2))))))), (a27, rdE 3 q31 0), (q31, rowE ω (fun _ => 0)), (a38, rdE 2 q42 0), (q42, rowE ω (fun _ => 0)), (a51, .inl (ω.2.2 5, 20, .inr (.inr (.inr (.inr (fun _ => none)))))), (x0, rdE 3 r0 0), (r0, rowE ω (fun _ => 0)), (x1, rdE 3 r1 0), (r1, rowE ω (fun _ => 0)), (x2, rdE 3 r2 0), (r2, rowE ω (fun _ => 0)), (a78, .inr (3, [.null, .int 0]))] _ := hN.add n78
      generalize mup _ a78 _ = M78 at hN ⊢
      refine v_dup F dX4_init_81 rfl ?_
      refine v_callINw F 0 [] rfl rfl rfl (c_X3_init (hN.at (i := 14) rfl)) gX4_init_X3_init_n25 rfl hd_X3_init ⟨⟨rfl, rfl⟩, ⟨(Nat.le_of_ble_eq_true rfl), (Nat.le_of_ble_eq_true rfl)⟩, ⟨(Nat.le_of_ble_eq_true rfl), (Nat.le_of_ble_eq_true rfl)⟩, (Nat.le_of_ble_eq_true rfl)⟩ (by decide +kernel) (by decide +kernel) rfl hAO.2.2.2.1 dX4_init_82 (fun v82 M82 q82 => ?_)
      obtain ⟨q82, wq82, rfl, rfl⟩ := q82
      have hN : NW M a [(a, .inr (4, [.ref a7, .int (nI 0), .ref a20, .ref a27, .ref a38, .ref a51, .int (nI 0)])), (a7, .inl (ω.2.2 3, 24, .inr (.inr (.inr (.inr (fun _ => none)))))), (a20, .inl (ω.2.2 4, 5, .inr (.inr (.inr (.inr (va_up (va_up (va_up (fun _ => none) 0 (some x0)) 1 (some x1)) 2 (some x2))))))), (a27, rdE 3 q31 0), (q31, rowE ω (fun _ => 0)), (a38, rdE 2 q42 0), (q42, rowE ω (fun _ => 0)), (a51, .inl (ω.2.2 5, 20, .inr (.inr (.inr (.inr (fun _ => none)))))), (x0, rdE 3 r0 0), (r0, rowE ω (fun _ => 0)), (x1, rdE 3 r1 0), (r1, rowE ω (fun _ => 0)), (x2, rdE 3 r2 0), (r2, rowE ω (fun _ => 0)), (a78, rdE 3 q82 0), (q82, rowE ω (fun _ => 0))] _ := (hN.add wq82 (e := rowE ω (fun _ => 0))).set (i := 14) rfl
      generalize mup (mup _ q82 _) a78 _ = M82 at hN ⊢
      refine v_aast_n F 4 3 dX4_init_85 (hN.at (i := 2) rfl) rfl (hN.at (i := 14) rfl) rfl (by decide) (by decide) ?_
      have hN : NW M a [(a, .inr (4, [.ref a7, .int (nI 0), .ref a20, .ref a27, .ref a38, .ref a51, .int (nI 0)])), (a7, .inl (ω.2.2 3, 24, .inr (.inr (.inr (.inr (fun _ => none)))))), (a20, .inl (ω.2.2 4, 5, .inr (.inr (.inr (.inr (va_up (va_up (va_up (va_up (fun _ => none) 0 (some x0)) 1 (some x1)) 2 (some x2)) 3 (some a78))))))), (a27, rdE 3 q31 0), (q31, rowE ω (fun _ => 0)), (a38, rdE 2 q42 0), (q42, rowE ω (fun _ => 0)), (a51, .inl (ω.2.2 5, 20, .inr (.inr (.inr (.inr (fun _ => none)))))), (x0, rdE 3 r0 0), (r0, rowE ω (fun _ => 0)), (x1, rdE 3 r1 0), (r1, rowE ω (fun _ => 0)), (x2, rdE 3 r2 0), (r2, rowE ω (fun _ => 0)), (a78, rdE 3 q82 0), (q82, rowE ω (fun _ => 0))] (mup M82 a20 (.inl (ω.2.2 4, 5, .inr (.inr (.inr (.inr (va_up (va_up (va_up (va_up (fun _ => none) 0 (some x0)) 1 (some x1)) 2 (some x2)) 3 (some a78)))))))) := hN.set (i := 2) rfl
      change V ω σ (mup M82 a20 (.inl (ω.2.2 4, 5, .inr (.inr (.inr (.inr (va_up (va_up (va_up (va_up (fun _ => none) 0 (some x0)) 1 (some x1)) 2 (some x2)) 3 (some a78)))))))) _ _ _ _ _ _
      generalize mup M82 a20 (.inl (ω.2.2 4, 5, .inr (.inr (.inr (.inr (va_up (va_up (va_up (va_up (fun _ => none) 0 (some x0)) 1 (some x1)) 2 (some x2)) 3 (some a78))))))) = M85 at hN ⊢
      refine v_iinc1 F dX4_init_86 rfl (ok2_d rfl) ?_
      refine v_goto F 64 dX4_init_89 (by decide) ?_
      exact l4 _ _ _ _ _ _ _ _ _ _ _ _ _ _ _ _  hN
  have l2 : ∀ (M9 : MM) (a7 a20 a27 q31 a38 q42 a51 x0 r0 x1 r1 : Nat), NW M a [(a, .inr (4, [.ref a7, .int (nI 0), .ref a20, .ref a27, .ref a38, .ref a51, .int (nI 0)])), (a7, .inl (ω.2.2 3, 24, .inr (.inr (.inr (.inr (fun _ => none)))))), (a20, .inl (ω.2.2 4, 5, .inr (.inr (.inr (.inr (va_up (va_up (fun _ => none) 0 (some x0)) 1 (some x1))))))), (a27, rdE 3 q31 0), (q31, rowE ω (fun _ => 0)), (a38, rdE 2 q42 0), (q42, rowE ω (fun _ => 0)), (a51, .inl (ω.2.2 5, 20, .inr (.inr (.inr (.inr (fun _ => none)))))), (x0, rdE 3 r0 0), (r0, rowE ω (fun _ => 0)), (x1, rdE 3 r1 0), (r1, rowE ω (fun _ => 0))] M9 → V ω σ M9 [some (.ref a), some (.int (nI 2))] 11 153 (BQ ω σ (fun v M9 => v = none ∧ ∃ (A : FF) (R9 : Nat → (Nat → Int32) × Nat), A 0 0 = a ∧ CI ω A (fun _ _ => 0) (fun _ _ => 0) 0 0 R9 (fun z => ∃ i j, z = A i j) M9 ∧ (∀ i j, M9 (A i j) ≠ none) ∧ (∀ i j, A i j = a ∨ M (A i j) = none) ∧ (∀ z, M z ≠ none → z ≠ a → M9 z = M z)) 17 231) 64 [] := by
    intro M9 a7 a20 a27 q31 a38 q42 a51 x0 r0 x1 r1 hN
    refine v_iload_n F dX4_init_64 rfl ?_
    refine v_aload_n F dX4_init_65 rfl rfl ?_
    refine v_get F 4 2 fo_X4_init_21 dX4_init_66 (hN.at (i := 0) rfl) rfl ?_
    refine v_alen F 4 dX4_init_69 (hN.at (i := 2) rfl) rfl ?_
    refine v_icmp_ge_n F 92 dX4_init_70 (by decide) (by first | decide | omega) (by first | decide | omega) (fun c70 => ?_) (fun c70 => ?_)
    · exact absurd c70 (by decide)
    · refine v_aload_n F dX4_init_73 rfl rfl ?_
      refine v_get F 4 2 fo_X4_init_21 dX4_init_74 (hN.at (i := 0) rfl) rfl ?_
      refine v_iload_n F dX4_init_77 rfl ?_
      refine v_new F 3 tyX3 [.null, .int 0] rfl (by decide +kernel) tyX3_ok (by decide +kernel) (by decide +kernel) (by decide +kernel) (fun j hj => by rcases (show j = 0 ∨ j = 1 by omega) with rfl | rfl <;> rfl) dX4_init_78 ⟨(Nat.le_of_ble_eq_true rfl), (Nat.le_of_ble_eq_true rfl)⟩ (fun a78 n78 => ?_)
      have hN : NW M a [(a, .inr (4, [.ref a7, .int (nI 0), .ref a20, .ref a27, .ref a38, .ref a51, .int (nI 0)])), (a7, .inl (ω.2.2 3, 24, .inr (.inr (.inr (.inr (fun _ => none)))))), (a20, .inl (ω.2.2 4, 5, .inr (.inr (.inr (.inr (va_up (va_up (fun _ => none) 0 (some x0)) 1 (some x1))))))), (a27, rdE 3 q31 0), (q31, rowE ω (fun _ => 0)), (a38, rdE 2 q42 0), (q42, rowE ω (fun _ => 0)), (a51, .inl (ω.2.2 5, 20, .inr (.inr (.inr (.inr (fun _ => none)))))), (x0, rdE 3 r0 0), (r0, rowE ω (fun _ => 0)), (x1, rdE 3 r1 0), (r1, rowE ω (fun _ => 0)), (a78, .inr (3, [.null, .int 0]))] _ := hN.add n78
      generalize mup _ a78 _ = M78 at hN ⊢
      refine v_dup F dX4_init_81 rfl ?_
      refine v_callINw F 0 [] rfl rfl rfl (c_X3_init (hN.at (i := 12) rfl)) gX4_init_X3_init_n25 rfl hd_X3_init ⟨⟨rfl, rfl⟩, ⟨(Nat.le_of_ble_eq_true rfl), (Nat.le_of_ble_eq_true rfl)⟩, ⟨(Nat.le_of_ble_eq_true rfl), (Nat.le_of_ble_eq_true rfl)⟩, (Nat.le_of_ble_eq_true rfl)⟩ (by decide +kernel) (by decide +kernel) rfl hAO.2.2.2.1 dX4_init_82 (fun v82 M82 q82 => ?_)
      obtain ⟨q82, wq82, rfl, rfl⟩ := q82
      have hN : NW M a [(a, .inr (4, [.ref a7, .int (nI 0), .ref a20, .ref a27, .ref a38, .ref a51, .int (nI 0)])), (a7, .inl (ω.2.2 3, 24, .inr (.inr (.inr (.inr (fun _ => none)))))), (a20, .inl (ω.2.2 4, 5, .inr (.inr (.inr (.inr (va_up (va_up (fun _ => none) 0 (some x0)) 1 (some x1))))))), (a27, rdE 3 q31 0), (q31, rowE ω (fun _ => 0)), (a38, rdE 2 q42 0), (q42, rowE ω (fun _ => 0)), (a51, .inl (ω.2.2 5, 20, .inr (.inr (.inr (.inr (fun _ => none)))))), (x0, rdE 3 r0 0), (r0, rowE ω (fun _ => 0)), (x1, rdE 3 r1 0), (r1, rowE ω (fun _ => 0)), (a78, rdE 3 q82 0), (q82, rowE ω (fun _ => 0))] _ := (hN.add wq82 (e := rowE ω (fun _ => 0))).set (i := 12) rfl
      generalize mup (mup _ q82 _) a78 _ = M82 at hN ⊢
      refine v_aast_n F 4 3 dX4_init_85 (hN.at (i := 2) rfl) rfl (hN.at (i := 12) rfl) rfl (by decide) (by decide) ?_
      have hN : NW M a [(a, .inr (4, [.ref a7, .int (nI 0), .ref a20, .ref a27, .ref a38, .ref a51, .int (nI 0)])), (a7, .inl (ω.2.2 3, 24, .inr (.inr (.inr (.inr (fun _ => none)))))), (a20, .inl (ω.2.2 4, 5, .inr (.inr (.inr (.inr (va_up (va_up (va_up (fun _ => none) 0 (some x0)) 1 (some x1)) 2 (some a78))))))), (a27, rdE 3 q31 0), (q31, rowE ω (fun _ => 0)), (a38, rdE 2 q42 0), (q42, rowE ω (fun _ => 0)), (a51, .inl (ω.2.2 5, 20, .inr (.inr (.inr (.inr (fun _ => none)))))), (x0, rdE 3 r0 0), (r0, rowE ω (fun _ => 0)), (x1, rdE 3 r1 0), (r1, rowE ω (fun _ => 0)), (a78, rdE 3 q82 0), (q82, rowE ω (fun _ => 0))] (mup M82 a20 (.inl (ω.2.2 4, 5, .inr (.inr (.inr (.inr (va_up (va_up (va_up (fun _ => none) 0 (some x0)) 1 (some x1)) 2 (some a78)))))))) := hN.set (i := 2) rfl
      change V ω σ (mup M82 a20 (.inl (ω.2.2 4, 5, .inr (.inr (.inr (.inr (va_up (va_up (va_up (fun _ => none) 0 (some x0)) 1 (some x1)) 2 (some a78)))))))) _ _ _ _ _ _
      generalize mup M82 a20 (.inl (ω.2.2 4, 5, .inr (.inr (.inr (.inr (va_up (va_up (va_up (fun _ => none) 0 (some x0)) 1 (some x1)) 2 (some a78))))))) = M85 at hN ⊢
      refine v_iinc1 F dX4_init_86 rfl (ok2_d rfl) ?_
      refine v_goto F 64 dX4_init_89 (by decide) ?_
      exact l3 _ _ _ _ _ _ _ _ _ _ _ _ _ _  hN
  have l1 : ∀ (M9 : MM) (a7 a20 a27 q31 a38 q42 a51 x0 r0 : Nat), NW M a [(a, .inr (4, [.ref a7, .int (nI 0), .ref a20, .ref a27, .ref a38, .ref a51, .int (nI 0)])), (a7, .inl (ω.2.2 3, 24, .inr (.inr (.inr (.inr (fun _ => none)))))), (a20, .inl (ω.2.2 4, 5, .inr (.inr (.inr (.inr (va_up (fun _ => none) 0 (some x0))))))), (a27, rdE 3 q31 0), (q31, rowE ω (fun _ => 0)), (a38, rdE 2 q42 0), (q42, rowE ω (fun _ => 0)), (a51, .inl (ω.2.2 5, 20, .inr (.inr (.inr (.inr (fun _ => none)))))), (x0, rdE 3 r0 0), (r0, rowE ω (fun _ => 0))] M9 → V ω σ M9 [some (.ref a), some (.int (nI 1))] 9 127 (BQ ω σ (fun v M9 => v = none ∧ ∃ (A : FF) (R9 : Nat → (Nat → Int32) × Nat), A 0 0 = a ∧ CI ω A (fun _ _ => 0) (fun _ _ => 0) 0 0 R9 (fun z => ∃ i j, z = A i j) M9 ∧ (∀ i j, M9 (A i j) ≠ none) ∧ (∀ i j, A i j = a ∨ M (A i j) = none) ∧ (∀ z, M z ≠ none → z ≠ a → M9 z = M z)) 17 231) 64 [] := by
    intro M9 a7 a20 a27 q31 a38 q42 a51 x0 r0 hN
    refine v_iload_n F dX4_init_64 rfl ?_
    refine v_aload_n F dX4_init_65 rfl rfl ?_
    refine v_get F 4 2 fo_X4_init_21 dX4_init_66 (hN.at (i := 0) rfl) rfl ?_
    refine v_alen F 4 dX4_init_69 (hN.at (i := 2) rfl) rfl ?_
    refine v_icmp_ge_n F 92 dX4_init_70 (by decide) (by first | decide | omega) (by first | decide | omega) (fun c70 => ?_) (fun c70 => ?_)
    · exact absurd c70 (by decide)
    · refine v_aload_n F dX4_init_73 rfl rfl ?_
      refine v_get F 4 2 fo_X4_init_21 dX4_init_74 (hN.at (i := 0) rfl) rfl ?_
      refine v_iload_n F dX4_init_77 rfl ?_
      refine v_new F 3 tyX3 [.null, .int 0] rfl (by decide +kernel) tyX3_ok (by decide +kernel) (by decide +kernel) (by decide +kernel) (fun j hj => by rcases (show j = 0 ∨ j = 1 by omega) with rfl | rfl <;> rfl) dX4_init_78 ⟨(Nat.le_of_ble_eq_true rfl), (Nat.le_of_ble_eq_true rfl)⟩ (fun a78 n78 => ?_)
      have hN : NW M a [(a, .inr (4, [.ref a7, .int (nI 0), .ref a20, .ref a27, .ref a38, .ref a51, .int (nI 0)])), (a7, .inl (ω.2.2 3, 24, .inr (.inr (.inr (.inr (fun _ => none)))))), (a20, .inl (ω.2.2 4, 5, .inr (.inr (.inr (.inr (va_up (fun _ => none) 0 (some x0))))))), (a27, rdE 3 q31 0), (q31, rowE ω (fun _ => 0)), (a38, rdE 2 q42 0), (q42, rowE ω (fun _ => 0)), (a51, .inl (ω.2.2 5, 20, .inr (.inr (.inr (.inr (fun _ => none)))))), (x0, rdE 3 r0 0), (r0, rowE ω (fun _ => 0)), (a78, .inr (3, [.null, .int 0]))] _ := hN.add n78
      generalize mup _ a78 _ = M78 at hN ⊢
      refine v_dup F dX4_init_81 rfl ?_
      refine v_callINw F 0 [] rfl rfl rfl (c_X3_init (hN.at (i := 10) rfl)) gX4_init_X3_init_n25 rfl hd_X3_init ⟨⟨rfl, rfl⟩, ⟨(Nat.le_of_ble_eq_true rfl), (Nat.le_of_ble_eq_true rfl)⟩, ⟨(Nat.le_of_ble_eq_true rfl), (Nat.le_of_ble_eq_true rfl)⟩, (Nat.le_of_ble_eq_true rfl)⟩ (by decide +kernel) (by decide +kernel) rfl hAO.2.2.2.1 dX4_init_82 (fun v82 M82 q82 => ?_)
      obtain ⟨q82, wq82, rfl, rfl⟩ := q82
      have hN : NW M a [(a, .inr (4, [.ref a7, .int (nI 0), .ref a20, .ref a27, .ref a38, .ref a51, .int (nI 0)])), (a7, .inl (ω.2.2 3, 24, .inr (.inr (.inr (.inr (fun _ => none)))))), (a20, .inl (ω.2.2 4, 5, .inr (.inr (.inr (.inr (va_up (fun _ => none) 0 (some x0))))))), (a27, rdE 3 q31 0), (q31, rowE ω (fun _ => 0)), (a38, rdE 2 q42 0), (q42, rowE ω (fun _ => 0)), (a51, .inl (ω.2.2 5, 20, .inr (.inr (.inr (.inr (fun _ => none)))))), (x0, rdE 3 r0 0), (r0, rowE ω (fun _ => 0)), (a78, rdE 3 q82 0), (q82, rowE ω (fun _ => 0))] _ := (hN.add wq82 (e := rowE ω (fun _ => 0))).set (i := 10) rfl
      generalize mup (mup _ q82 _) a78 _ = M82 at hN ⊢
      refine v_aast_n F 4 3 dX4_init_85 (hN.at (i := 2) rfl) rfl (hN.at (i := 10) rfl) rfl (by decide) (by decide) ?_
      have hN : NW M a [(a, .inr (4, [.ref a7, .int (nI 0), .ref a20, .ref a27, .ref a38, .ref a51, .int (nI 0)])), (a7, .inl (ω.2.2 3, 24, .inr (.inr (.inr (.inr (fun _ => none)))))), (a20, .inl (ω.2.2 4, 5, .inr (.inr (.inr (.inr (va_up (va_up (fun _ => none) 0 (some x0)) 1 (some a78))))))), (a27, rdE 3 q31 0), (q31, rowE ω (fun _ => 0)), (a38, rdE 2 q42 0), (q42, rowE ω (fun _ => 0)), (a51, .inl (ω.2.2 5, 20, .inr (.inr (.inr (.inr (fun _ => none)))))), (x0, rdE 3 r0 0), (r0, rowE ω (fun _ => 0)), (a78, rdE 3 q82 0), (q82, rowE ω (fun _ => 0))] (mup M82 a20 (.inl (ω.2.2 4, 5, .inr (.inr (.inr (.inr (va_up (va_up (fun _ => none) 0 (some x0)) 1 (some a78)))))))) := hN.set (i := 2) rfl
      change V ω σ (mup M82 a20 (.inl (ω.2.2 4, 5, .inr (.inr (.inr (.inr (va_up (va_up (fun _ => none) 0 (some x0)) 1 (some a78)))))))) _ _ _ _ _ _
      generalize mup M82 a20 (.inl (ω.2.2 4, 5, .inr (.inr (.inr (.inr (va_up (va_up (fun _ => none) 0 (some x0)) 1 (some a78))))))) = M85 at hN ⊢
      refine v_iinc1 F dX4_init_86 rfl (ok2_d rfl) ?_
      refine v_goto F 64 dX4_init_89 (by decide) ?_
      exact l2 _ _ _ _ _ _ _ _ _ _ _ _  hN
  have l0 : ∀ (M9 : MM) (a7 a20 a27 q31 a38 q42 a51 : Nat), NW M a [(a, .inr (4, [.ref a7, .int (nI 0), .ref a20, .ref a27, .ref a38, .ref a51, .int (nI 0)])), (a7, .inl (ω.2.2 3, 24, .inr (.inr (.inr (.inr (fun _ => none)))))), (a20, .inl (ω.2.2 4, 5, .inr (.inr (.inr (.inr (fun _ => none)))))), (a27, rdE 3 q31 0), (q31, rowE ω (fun _ => 0)), (a38, rdE 2 q42 0), (q42, rowE ω (fun _ => 0)), (a51, .inl (ω.2.2 5, 20, .inr (.inr (.inr (.inr (fun _ => none))))))] M9 → V ω σ M9 [some (.ref a), some (.int (nI 0))] 7 101 (BQ ω σ (fun v M9 => v = none ∧ ∃ (A : FF) (R9 : Nat → (Nat → Int32) × Nat), A 0 0 = a ∧ CI ω A (fun _ _ => 0) (fun _ _ => 0) 0 0 R9 (fun z => ∃ i j, z = A i j) M9 ∧ (∀ i j, M9 (A i j) ≠ none) ∧ (∀ i j, A i j = a ∨ M (A i j) = none) ∧ (∀ z, M z ≠ none → z ≠ a → M9 z = M z)) 17 231) 64 [] := by
    intro M9 a7 a20 a27 q31 a38 q42 a51 hN
    refine v_iload_n F dX4_init_64 rfl ?_
    refine v_aload_n F dX4_init_65 rfl rfl ?_
    refine v_get F 4 2 fo_X4_init_21 dX4_init_66 (hN.at (i := 0) rfl) rfl ?_
    refine v_alen F 4 dX4_init_69 (hN.at (i := 2) rfl) rfl ?_
    refine v_icmp_ge_n F 92 dX4_init_70 (by decide) (by first | decide | omega) (by first | decide | omega) (fun c70 => ?_) (fun c70 => ?_)
    · exact absurd c70 (by decide)
    · refine v_aload_n F dX4_init_73 rfl rfl ?_
      refine v_get F 4 2 fo_X4_init_21 dX4_init_74 (hN.at (i := 0) rfl) rfl ?_
      refine v_iload_n F dX4_init_77 rfl ?_
      refine v_new F 3 tyX3 [.null, .int 0] rfl (by decide +kernel) tyX3_ok (by decide +kernel) (by decide +kernel) (by decide +kernel) (fun j hj => by rcases (show j = 0 ∨ j = 1 by omega) with rfl | rfl <;> rfl) dX4_init_78 ⟨(Nat.le_of_ble_eq_true rfl), (Nat.le_of_ble_eq_true rfl)⟩ (fun a78 n78 => ?_)
      have hN : NW M a [(a, .inr (4, [.ref a7, .int (nI 0), .ref a20, .ref a27, .ref a38, .ref a51, .int (nI 0)])), (a7, .inl (ω.2.2 3, 24, .inr (.inr (.inr (.inr (fun _ => none)))))), (a20, .inl (ω.2.2 4, 5, .inr (.inr (.inr (.inr (fun _ => none)))))), (a27, rdE 3 q31 0), (q31, rowE ω (fun _ => 0)), (a38, rdE 2 q42 0), (q42, rowE ω (fun _ => 0)), (a51, .inl (ω.2.2 5, 20, .inr (.inr (.inr (.inr (fun _ => none)))))), (a78, .inr (3, [.null, .int 0]))] _ := hN.add n78
      generalize mup _ a78 _ = M78 at hN ⊢
      refine v_dup F dX4_init_81 rfl ?_
      refine v_callINw F 0 [] rfl rfl rfl (c_X3_init (hN.at (i := 8) rfl)) gX4_init_X3_init_n25 rfl hd_X3_init ⟨⟨rfl, rfl⟩, ⟨(Nat.le_of_ble_eq_true rfl), (Nat.le_of_ble_eq_true rfl)⟩, ⟨(Nat.le_of_ble_eq_true rfl), (Nat.le_of_ble_eq_true rfl)⟩, (Nat.le_of_ble_eq_true rfl)⟩ (by decide +kernel) (by decide +kernel) rfl hAO.2.2.2.1 dX4_init_82 (fun v82 M82 q82 => ?_)
      obtain ⟨q82, wq82, rfl, rfl⟩ := q82
      have hN : NW M a [(a, .inr (4, [.ref a7, .int (nI 0), .ref a20, .ref a27, .ref a38, .ref a51, .int (nI 0)])), (a7, .inl (ω.2.2 3, 24, .inr (.inr (.inr (.inr (fun _ => none)))))), (a20, .inl (ω.2.2 4, 5, .inr (.inr (.inr (.inr (fun _ => none)))))), (a27, rdE 3 q31 0), (q31, rowE ω (fun _ => 0)), (a38, rdE 2 q42 0), (q42, rowE ω (fun _ => 0)), (a51, .inl (ω.2.2 5, 20, .inr (.inr (.inr (.inr (fun _ => none)))))), (a78, rdE 3 q82 0), (q82, rowE ω (fun _ => 0))] _ := (hN.add wq82 (e := rowE ω (fun _ => 0))).set (i := 8) rfl
      generalize mup (mup _ q82 _) a78 _ = M82 at hN ⊢
      refine v_aast_n F 4 3 dX4_init_85 (hN.at (i := 2) rfl) rfl (hN.at (i := 8) rfl) rfl (by decide) (by decide) ?_
      have hN : NW M a [(a, .inr (4, [.ref a7, .int (nI 0), .ref a20, .ref a27, .ref a38, .ref a51, .int (nI 0)])), (a7, .inl (ω.2.2 3, 24, .inr (.inr (.inr (.inr (fun _ => none)))))), (a20, .inl (ω.2.2 4, 5, .inr (.inr (.inr (.inr (va_up (fun _ => none) 0 (some a78))))))), (a27, rdE 3 q31 0), (q31, rowE ω (fun _ => 0)), (a38, rdE 2 q42 0), (q42, rowE ω (fun _ => 0)), (a51, .inl (ω.2.2 5, 20, .inr (.inr (.inr (.inr (fun _ => none)))))), (a78, rdE 3 q82 0), (q82, rowE ω (fun _ => 0))] (mup M82 a20 (.inl (ω.2.2 4, 5, .inr (.inr (.inr (.inr (va_up (fun _ => none) 0 (some a78)))))))) := hN.set (i := 2) rfl
      change V ω σ (mup M82 a20 (.inl (ω.2.2 4, 5, .inr (.inr (.inr (.inr (va_up (fun _ => none) 0 (some a78)))))))) _ _ _ _ _ _
      generalize mup M82 a20 (.inl (ω.2.2 4, 5, .inr (.inr (.inr (.inr (va_up (fun _ => none) 0 (some a78))))))) = M85 at hN ⊢
      refine v_iinc1 F dX4_init_86 rfl (ok2_d rfl) ?_
      refine v_goto F 64 dX4_init_89 (by decide) ?_
      exact l1 _ _ _ _ _ _ _ _ _ _  hN
  refine v_aload_n F dX4_init_0 rfl rfl ?_
  refine v_objInit F rfl (by decide +kernel) (by decide +kernel) (by decide +kernel) dX4_init_1 ⟨(Nat.le_of_ble_eq_true rfl), (Nat.le_of_ble_eq_true rfl)⟩ ?_
  refine v_aload_n F dX4_init_4 rfl rfl ?_
  refine v_bipush (v := nI 24) F dX4_init_5 (by decide) ?_
  refine v_newq F 3 (C := "Readingorder$Box") hAO.1 (by decide +kernel) rfl (n := 24) (by decide) (by decide) dX4_init_7 ⟨(Nat.le_of_ble_eq_true rfl), (Nat.le_of_ble_eq_true rfl)⟩ (fun a7 n7 => ?_)
  have hN : NW M a [(a, .inr (4, [f0, f1, f2, f3, f4, f5, f6])), (a7, .inl (ω.2.2 3, 24, .inr (.inr (.inr (.inr (fun _ => none))))))] _ := hN.add n7
  generalize mup _ a7 _ = M7 at hN ⊢
  refine v_putF F 4 0 fq_X4_init_11 hname dX4_init_10 (hN.at (i := 0) rfl) rfl rfl (Nat.le_of_ble_eq_true rfl) ?_
  have hN : NW M a [(a, .inr (4, [.ref a7, f1, f2, f3, f4, f5, f6])), (a7, .inl (ω.2.2 3, 24, .inr (.inr (.inr (.inr (fun _ => none))))))] (mup M7 a (.inr (4, [.ref a7, f1, f2, f3, f4, f5, f6]))) := hN.set (i := 0) rfl
  change V ω σ (mup M7 a (.inr (4, [.ref a7, f1, f2, f3, f4, f5, f6]))) _ _ _ _ _ _
  generalize mup M7 a (.inr (4, [.ref a7, f1, f2, f3, f4, f5, f6])) = M10 at hN ⊢
  refine v_aload_n F dX4_init_13 rfl rfl ?_
  refine v_iconst (v := nI 0) F dX4_init_14 (by decide) ?_
  refine v_put F 4 1 fp_X4_init_15 dX4_init_15 (hN.at (i := 0) rfl) rfl rfl (Nat.le_of_ble_eq_true rfl) ?_
  have hN : NW M a [(a, .inr (4, [.ref a7, .int (nI 0), f2, f3, f4, f5, f6])), (a7, .inl (ω.2.2 3, 24, .inr (.inr (.inr (.inr (fun _ => none))))))] (mup M10 a (.inr (4, [.ref a7, .int (nI 0), f2, f3, f4, f5, f6]))) := hN.set (i := 0) rfl
  change V ω σ (mup M10 a (.inr (4, [.ref a7, .int (nI 0), f2, f3, f4, f5, f6]))) _ _ _ _ _ _
  generalize mup M10 a (.inr (4, [.ref a7, .int (nI 0), f2, f3, f4, f5, f6])) = M15 at hN ⊢
  refine v_aload_n F dX4_init_18 rfl rfl ?_
  refine v_iconst (v := nI 5) F dX4_init_19 (by decide) ?_
  refine v_newq F 4 (C := "Readingorder$Reading") hAO.2.1 (by decide +kernel) rfl (n := 5) (by decide) (by decide) dX4_init_20 ⟨(Nat.le_of_ble_eq_true rfl), (Nat.le_of_ble_eq_true rfl)⟩ (fun a20 n20 => ?_)
  have hN : NW M a [(a, .inr (4, [.ref a7, .int (nI 0), f2, f3, f4, f5, f6])), (a7, .inl (ω.2.2 3, 24, .inr (.inr (.inr (.inr (fun _ => none)))))), (a20, .inl (ω.2.2 4, 5, .inr (.inr (.inr (.inr (fun _ => none))))))] _ := hN.add n20
  generalize mup _ a20 _ = M20 at hN ⊢
  refine v_putF F 4 2 fq_X4_init_21 hname dX4_init_23 (hN.at (i := 0) rfl) rfl rfl (Nat.le_of_ble_eq_true rfl) ?_
  have hN : NW M a [(a, .inr (4, [.ref a7, .int (nI 0), .ref a20, f3, f4, f5, f6])), (a7, .inl (ω.2.2 3, 24, .inr (.inr (.inr (.inr (fun _ => none)))))), (a20, .inl (ω.2.2 4, 5, .inr (.inr (.inr (.inr (fun _ => none))))))] (mup M20 a (.inr (4, [.ref a7, .int (nI 0), .ref a20, f3, f4, f5, f6]))) := hN.set (i := 0) rfl
  change V ω σ (mup M20 a (.inr (4, [.ref a7, .int (nI 0), .ref a20, f3, f4, f5, f6]))) _ _ _ _ _ _
  generalize mup M20 a (.inr (4, [.ref a7, .int (nI 0), .ref a20, f3, f4, f5, f6])) = M23 at hN ⊢
  refine v_aload_n F dX4_init_26 rfl rfl ?_
  refine v_new F 3 tyX3 [.null, .int 0] rfl (by decide +kernel) tyX3_ok (by decide +kernel) (by decide +kernel) (by decide +kernel) (fun j hj => by rcases (show j = 0 ∨ j = 1 by omega) with rfl | rfl <;> rfl) dX4_init_27 ⟨(Nat.le_of_ble_eq_true rfl), (Nat.le_of_ble_eq_true rfl)⟩ (fun a27 n27 => ?_)
  have hN : NW M a [(a, .inr (4, [.ref a7, .int (nI 0), .ref a20, f3, f4, f5, f6])), (a7, .inl (ω.2.2 3, 24, .inr (.inr (.inr (.inr (fun _ => none)))))), (a20, .inl (ω.2.2 4, 5, .inr (.inr (.inr (.inr (fun _ => none)))))), (a27, .inr (3, [.null, .int 0]))] _ := hN.add n27
  generalize mup _ a27 _ = M27 at hN ⊢
  refine v_dup F dX4_init_30 rfl ?_
  refine v_callINw F 0 [] rfl rfl rfl (c_X3_init (hN.at (i := 3) rfl)) gX4_init_X3_init_n25 rfl hd_X3_init ⟨⟨rfl, rfl⟩, ⟨(Nat.le_of_ble_eq_true rfl), (Nat.le_of_ble_eq_true rfl)⟩, ⟨(Nat.le_of_ble_eq_true rfl), (Nat.le_of_ble_eq_true rfl)⟩, (Nat.le_of_ble_eq_true rfl)⟩ (by decide +kernel) (by decide +kernel) rfl hAO.2.2.2.1 dX4_init_31 (fun v31 M31 q31 => ?_)
  obtain ⟨q31, wq31, rfl, rfl⟩ := q31
  have hN : NW M a [(a, .inr (4, [.ref a7, .int (nI 0), .ref a20, f3, f4, f5, f6])), (a7, .inl (ω.2.2 3, 24, .inr (.inr (.inr (.inr (fun _ => none)))))), (a20, .inl (ω.2.2 4, 5, .inr (.inr (.inr (.inr (fun _ => none)))))), (a27, rdE 3 q31 0), (q31, rowE ω (fun _ => 0))] _ := (hN.add wq31 (e := rowE ω (fun _ => 0))).set (i := 3) rfl
  generalize mup (mup _ q31 _) a27 _ = M31 at hN ⊢
  refine v_putF F 4 3 fq_X4_init_26 hname dX4_init_34 (hN.at (i := 0) rfl) rfl rfl (Nat.le_of_ble_eq_true rfl) ?_
  have hN : NW M a [(a, .inr (4, [.ref a7, .int (nI 0), .ref a20, .ref a27, f4, f5, f6])), (a7, .inl (ω.2.2 3, 24, .inr (.inr (.inr (.inr (fun _ => none)))))), (a20, .inl (ω.2.2 4, 5, .inr (.inr (.inr (.inr (fun _ => none)))))), (a27, rdE 3 q31 0), (q31, rowE ω (fun _ => 0))] (mup M31 a (.inr (4, [.ref a7, .int (nI 0), .ref a20, .ref a27, f4, f5, f6]))) := hN.set (i := 0) rfl
  change V ω σ (mup M31 a (.inr (4, [.ref a7, .int (nI 0), .ref a20, .ref a27, f4, f5, f6]))) _ _ _ _ _ _
  generalize mup M31 a (.inr (4, [.ref a7, .int (nI 0), .ref a20, .ref a27, f4, f5, f6])) = M34 at hN ⊢
  refine v_aload_n F dX4_init_37 rfl rfl ?_
  refine v_new F 2 tyX2 [.null, .int 0] rfl (by decide +kernel) tyX2_ok (by decide +kernel) (by decide +kernel) (by decide +kernel) (fun j hj => by rcases (show j = 0 ∨ j = 1 by omega) with rfl | rfl <;> rfl) dX4_init_38 ⟨(Nat.le_of_ble_eq_true rfl), (Nat.le_of_ble_eq_true rfl)⟩ (fun a38 n38 => ?_)
  have hN : NW M a [(a, .inr (4, [.ref a7, .int (nI 0), .ref a20, .ref a27, f4, f5, f6])), (a7, .inl (ω.2.2 3, 24, .inr (.inr (.inr (.inr (fun _ => none)))))), (a20, .inl (ω.2.2 4, 5, .inr (.inr (.inr (.inr (fun _ => none)))))), (a27, rdE 3 q31 0), (q31, rowE ω (fun _ => 0)), (a38, .inr (2, [.null, .int 0]))] _ := hN.add n38
  generalize mup _ a38 _ = M38 at hN ⊢
  refine v_dup F dX4_init_41 rfl ?_
  refine v_callINw F 0 [] rfl rfl rfl (c_X2_init (hN.at (i := 5) rfl)) gX4_init_X2_init_n32 rfl hd_X2_init ⟨⟨rfl, rfl⟩, ⟨(Nat.le_of_ble_eq_true rfl), (Nat.le_of_ble_eq_true rfl)⟩, ⟨(Nat.le_of_ble_eq_true rfl), (Nat.le_of_ble_eq_true rfl)⟩, (Nat.le_of_ble_eq_true rfl)⟩ (by decide +kernel) (by decide +kernel) rfl hAO.2.2.2.2 dX4_init_42 (fun v42 M42 q42 => ?_)
  obtain ⟨q42, wq42, rfl, rfl⟩ := q42
  have hN : NW M a [(a, .inr (4, [.ref a7, .int (nI 0), .ref a20, .ref a27, f4, f5, f6])), (a7, .inl (ω.2.2 3, 24, .inr (.inr (.inr (.inr (fun _ => none)))))), (a20, .inl (ω.2.2 4, 5, .inr (.inr (.inr (.inr (fun _ => none)))))), (a27, rdE 3 q31 0), (q31, rowE ω (fun _ => 0)), (a38, rdE 2 q42 0), (q42, rowE ω (fun _ => 0))] _ := (hN.add wq42 (e := rowE ω (fun _ => 0))).set (i := 5) rfl
  generalize mup (mup _ q42 _) a38 _ = M42 at hN ⊢
  refine v_putF F 4 4 fq_X4_init_33 hname dX4_init_45 (hN.at (i := 0) rfl) rfl rfl (Nat.le_of_ble_eq_true rfl) ?_
  have hN : NW M a [(a, .inr (4, [.ref a7, .int (nI 0), .ref a20, .ref a27, .ref a38, f5, f6])), (a7, .inl (ω.2.2 3, 24, .inr (.inr (.inr (.inr (fun _ => none)))))), (a20, .inl (ω.2.2 4, 5, .inr (.inr (.inr (.inr (fun _ => none)))))), (a27, rdE 3 q31 0), (q31, rowE ω (fun _ => 0)), (a38, rdE 2 q42 0), (q42, rowE ω (fun _ => 0))] (mup M42 a (.inr (4, [.ref a7, .int (nI 0), .ref a20, .ref a27, .ref a38, f5, f6]))) := hN.set (i := 0) rfl
  change V ω σ (mup M42 a (.inr (4, [.ref a7, .int (nI 0), .ref a20, .ref a27, .ref a38, f5, f6]))) _ _ _ _ _ _
  generalize mup M42 a (.inr (4, [.ref a7, .int (nI 0), .ref a20, .ref a27, .ref a38, f5, f6])) = M45 at hN ⊢
  refine v_aload_n F dX4_init_48 rfl rfl ?_
  refine v_bipush (v := nI 20) F dX4_init_49 (by decide) ?_
  refine v_newq F 5 (C := "Readingorder$Approval") hAO.2.2.1 (by decide +kernel) rfl (n := 20) (by decide) (by decide) dX4_init_51 ⟨(Nat.le_of_ble_eq_true rfl), (Nat.le_of_ble_eq_true rfl)⟩ (fun a51 n51 => ?_)
  have hN : NW M a [(a, .inr (4, [.ref a7, .int (nI 0), .ref a20, .ref a27, .ref a38, f5, f6])), (a7, .inl (ω.2.2 3, 24, .inr (.inr (.inr (.inr (fun _ => none)))))), (a20, .inl (ω.2.2 4, 5, .inr (.inr (.inr (.inr (fun _ => none)))))), (a27, rdE 3 q31 0), (q31, rowE ω (fun _ => 0)), (a38, rdE 2 q42 0), (q42, rowE ω (fun _ => 0)), (a51, .inl (ω.2.2 5, 20, .inr (.inr (.inr (.inr (fun _ => none))))))] _ := hN.add n51
  generalize mup _ a51 _ = M51 at hN ⊢
  refine v_putF F 4 5 fq_X4_init_39 hname dX4_init_54 (hN.at (i := 0) rfl) rfl rfl (Nat.le_of_ble_eq_true rfl) ?_
  have hN : NW M a [(a, .inr (4, [.ref a7, .int (nI 0), .ref a20, .ref a27, .ref a38, .ref a51, f6])), (a7, .inl (ω.2.2 3, 24, .inr (.inr (.inr (.inr (fun _ => none)))))), (a20, .inl (ω.2.2 4, 5, .inr (.inr (.inr (.inr (fun _ => none)))))), (a27, rdE 3 q31 0), (q31, rowE ω (fun _ => 0)), (a38, rdE 2 q42 0), (q42, rowE ω (fun _ => 0)), (a51, .inl (ω.2.2 5, 20, .inr (.inr (.inr (.inr (fun _ => none))))))] (mup M51 a (.inr (4, [.ref a7, .int (nI 0), .ref a20, .ref a27, .ref a38, .ref a51, f6]))) := hN.set (i := 0) rfl
  change V ω σ (mup M51 a (.inr (4, [.ref a7, .int (nI 0), .ref a20, .ref a27, .ref a38, .ref a51, f6]))) _ _ _ _ _ _
  generalize mup M51 a (.inr (4, [.ref a7, .int (nI 0), .ref a20, .ref a27, .ref a38, .ref a51, f6])) = M54 at hN ⊢
  refine v_aload_n F dX4_init_57 rfl rfl ?_
  refine v_iconst (v := nI 0) F dX4_init_58 (by decide) ?_
  refine v_put F 4 6 fp_X4_init_43 dX4_init_59 (hN.at (i := 0) rfl) rfl rfl (Nat.le_of_ble_eq_true rfl) ?_
  have hN : NW M a [(a, .inr (4, [.ref a7, .int (nI 0), .ref a20, .ref a27, .ref a38, .ref a51, .int (nI 0)])), (a7, .inl (ω.2.2 3, 24, .inr (.inr (.inr (.inr (fun _ => none)))))), (a20, .inl (ω.2.2 4, 5, .inr (.inr (.inr (.inr (fun _ => none)))))), (a27, rdE 3 q31 0), (q31, rowE ω (fun _ => 0)), (a38, rdE 2 q42 0), (q42, rowE ω (fun _ => 0)), (a51, .inl (ω.2.2 5, 20, .inr (.inr (.inr (.inr (fun _ => none))))))] (mup M54 a (.inr (4, [.ref a7, .int (nI 0), .ref a20, .ref a27, .ref a38, .ref a51, .int (nI 0)]))) := hN.set (i := 0) rfl
  change V ω σ (mup M54 a (.inr (4, [.ref a7, .int (nI 0), .ref a20, .ref a27, .ref a38, .ref a51, .int (nI 0)]))) _ _ _ _ _ _
  generalize mup M54 a (.inr (4, [.ref a7, .int (nI 0), .ref a20, .ref a27, .ref a38, .ref a51, .int (nI 0)])) = M59 at hN ⊢
  refine v_iconst (v := nI 0) F dX4_init_62 (by decide) ?_
  refine v_istore_n F dX4_init_63 (Nat.le_of_ble_eq_true rfl) (ok2_d rfl) ?_
  exact l0 _ _ _ _ _ _ _ _  hN
