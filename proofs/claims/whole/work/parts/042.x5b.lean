/-! the reference: reading -/
/-- of the reference only rows 15, 17, 19 and numbers 14, 16, 18, 20 are other ones -/
def Sm (C C' : Nat → Nat → Int32) (T T' : Nat → Nat) : Prop := (∀ f, f ≠ 15 → f ≠ 17 → f ≠ 19 → C' f = C f) ∧ (∀ f, f ≠ 14 → f ≠ 16 → f ≠ 18 → f ≠ 20 → T' f = T f)
/-- .. only row 15 and number 14 -/
def Sm1 (C C' : Nat → Nat → Int32) (T T' : Nat → Nat) : Prop := (∀ f, f ≠ 15 → C' f = C f) ∧ (∀ f, f ≠ 14 → T' f = T f)
theorem CB.sm {C C' : Nat → Nat → Int32} {B : FF} {n : Nat} (h : CB C B n) (hs : ∀ f, f ≠ 15 → f ≠ 17 → f ≠ 19 → C' f = C f) : CB C' B n := by
  intro i hi
  rw [hs 1 (by decide) (by decide) (by decide), hs 2 (by decide) (by decide) (by decide), hs 3 (by decide) (by decide) (by decide), hs 4 (by decide) (by decide) (by decide), hs 5 (by decide) (by decide) (by decide), hs 6 (by decide) (by decide) (by decide), hs 7 (by decide) (by decide) (by decide), hs 8 (by decide) (by decide) (by decide), hs 9 (by decide) (by decide) (by decide)]
  exact h i hi
theorem oI_m1 {x : Nat} (hx : x < 128) : oI x = -1 ↔ x = 0 := by
  cases x with
  | zero => exact ⟨fun _ => rfl, fun _ => rfl⟩
  | succ y =>
    refine ⟨fun h => ?_, fun h => by cases h⟩
    have h1 := congrArg Int32.toInt h
    rw [show (oI (y + 1)).toInt = (y : Int) from nI_toInt (by omega), show (-1 : Int32).toInt = -1 by decide] at h1
    omega
def rmX5_reads : Room := { frames := 0, cells := 0, slots := 0, locals := 0 }
theorem hd_X5_reads : yX5_reads.cls = (RX5, TX5, 21).1 ∧ yX5_reads.cls ≠ "java/lang/invoke/MethodHandle" ∧ yX5_reads.cls ≠ "java/lang/invoke/VarHandle" ∧ (parseMethodDescriptor yX5_reads.desc).map (fun d => d.parameters.length) = some 1 := by decide +kernel
theorem fo_X5_reads_31 : FO wsX5_reads RX5 31 5 8 := ⟨_, _, _, rfl, by decide, by decide +kernel, by decide +kernel⟩
theorem fo_X5_reads_47 : FO wsX5_reads RX5 47 5 15 := ⟨_, _, _, rfl, by decide, by decide +kernel, by decide +kernel⟩
theorem fo_X5_reads_82 : FO wsX5_reads RX5 82 5 14 := ⟨_, _, _, rfl, by decide, by decide +kernel, by decide +kernel⟩
theorem fp_X5_reads_82 : FP wsX5_reads RX5 82 5 14 .int := ⟨_, _, _, tyX5, rfl, by decide, by decide +kernel, by decide +kernel, tyX5_ok, nmX5, rfl, by decide +kernel⟩
set_option maxHeartbeats 4000000 in
set_option maxRecDepth 100000 in
theorem c_reads {l : Launch} {ω : Om} {M : MM} {Y : Nat → Nat} {C : Nat → Nat → Int32} {T : Nat → Nat} (hI : MI ω Y C T M) {B : FF} {n : Nat} (hT0 : T 0 = n) (hCB : CB C B n) (hB : WB B n) {W : Nat → Prop} (hWf : ∀ f, W (Y f)) (ρ : Nat → Nat) (hρ0 : ∀ i, ρ i < 24) (hρ : ∀ i y, i < n → B i 7 = y + 1 → ρ y < ρ i) {x : Nat} (hx : x < n) {l1 : List Nat} (hlen : T 14 = l1.length) (hpf : Pf (C 15) l1) (htot : l1.length + (chn B 24 (x + 1)).length ≤ 24) : Ct l ω yX5_reads wsX5_reads rmX5_reads [.ref (Y 0), .int (nI x)] M (fun v M9 => v = none ∧ ∃ C9 T9, MI ω Y C9 T9 M9 ∧ Fr W M M9 ∧ Sm1 C C9 T T9 ∧ T9 14 = (l1 ++ chn B 24 (x + 1)).length ∧ Pf (C9 15) (l1 ++ chn B 24 (x + 1))) 0 0 := by
  refine Ct.ofV (cc := cX5_reads) (maxL := 3) (ret := none) [some (.ref (Y 0)), some (.int (nI x)), none] (by decide) rfl (Nat.le_of_ble_eq_true rfl) rfl (Lc.av (av := [.ref (Y 0), .int (nI x)]) (k := 1) rfl) ?_
  intro σ F hl hr hname
  have F : Fx ω σ cX5_reads 3 wsX5_reads RX5 rmX5_reads := F
  have hn : n ≤ 24 := hB.1
  have hW : ∀ i j, B i j < 128 := hB.2.1
  refine v_iload_n F dX5_reads_0 rfl ?_
  refine v_istore_n F dX5_reads_1 (Nat.le_of_ble_eq_true rfl) (ok2_d rfl) ?_
  have lp : ∀ f c C2 T2 (l2 : List Nat) M2, (∀ z, c = z + 1 → z < n ∧ ρ z < f) → MI ω Y C2 T2 M2 → Fr W M M2 → Sm1 C C2 T T2 → T2 14 = l2.length → Pf (C2 15) l2 → l2 ++ chn B f c = l1 ++ chn B 24 (x + 1) → V ω σ M2 [some (.ref (Y 0)), some (.int (nI x)), some (.int (oI c))] 0 0 (BQ ω σ (fun v M9 => v = none ∧ ∃ C9 T9, MI ω Y C9 T9 M9 ∧ Fr W M M9 ∧ Sm1 C C9 T T9 ∧ T9 14 = (l1 ++ chn B 24 (x + 1)).length ∧ Pf (C9 15) (l1 ++ chn B 24 (x + 1))) 0 0) 2 [] := by
    refine loop_pr _ (fun f ih2 => ?_)
    intro c C2 T2 l2 M2 hc hI2 hF2 hs2 hl2 hp2 heq2
    have hll := congrArg List.length heq2
    rw [List.length_append, List.length_append] at hll
    rcases c with _ | z
    · have hfin : l2 = l1 ++ chn B 24 (x + 1) := by rw [← heq2, chn_0, List.append_nil]
      refine v_iload_n F dX5_reads_2 rfl ?_
      refine v_iconst (v := (-1)) F dX5_reads_3 (by decide) ?_
      refine v_icmp_eq F 37 dX5_reads_4 (by decide) (fun c4 => ?_) (fun c4 => ?_)
      · exact v_vret F hr dX5_reads_37 (Nat.le_of_ble_eq_true rfl) (Nat.le_of_ble_eq_true rfl) ⟨rfl, C2, T2, hI2, hF2, hs2, by rw [← hfin]; exact hl2, by rw [← hfin]; exact hp2⟩
      · exact absurd rfl c4
    · obtain ⟨hz, hzf⟩ := hc z rfl
      obtain ⟨f, rfl⟩ : ∃ q, f = q + 1 := ⟨f - 1, by omega⟩
      rw [chn_s] at heq2 hll
      rw [List.length_cons] at hll
      have hlt : l2.length < 24 := by omega
      have heq3 : (l2 ++ [z]) ++ chn B f (B z 7) = l1 ++ chn B 24 (x + 1) := by rw [List.append_assoc]; exact heq2
      have hc3 : ∀ z2, B z 7 = z2 + 1 → z2 < n ∧ ρ z2 < f := fun z2 hz2 => ⟨(hB.2.2.2 z z2 hz hz2).1, by have := hρ z z2 hz hz2; omega⟩
      show V ω σ M2 [some (.ref (Y 0)), some (.int (nI x)), some (.int (nI z))] _ _ _ _ _
      refine v_iload_n F dX5_reads_2 rfl ?_
      refine v_iconst (v := (-1)) F dX5_reads_3 (by decide) ?_
      refine v_icmp_eq F 37 dX5_reads_4 (by decide) (fun c4 => ?_) (fun c4 => ?_)
      · exact absurd ((oI_m1 (x := z + 1) (by omega)).mp c4) (by omega)
      · refine v_aload_n F dX5_reads_7 rfl rfl ?_
        refine v_get F 5 15 fo_X5_reads_47 dX5_reads_8 hI2.x rfl ?_
        refine v_aload_n F dX5_reads_11 rfl rfl ?_
        refine v_get F 5 14 fo_X5_reads_82 dX5_reads_12 hI2.x rfl ?_
        refine V.toI (show nI (T2 14) = nI l2.length by rw [hl2]) ?_
        refine v_iload_n F dX5_reads_15 rfl ?_
        refine v_iast_n F dX5_reads_16 (hI2.r (f := 15) (sz := 24) (bl := 0) (by simp [isRow]) (by decide) (by decide)) (by first | omega | exact Nat.lt_trans (hW _ _) (by decide)) (by decide) ?_
        have hI3 := hI2.setC (f := 15) (sz := 24) (bl := 0) (by simp [isRow]) (by decide) (by decide) (upd (C2 15) l2.length (nI z))
        refine v_aload_n F dX5_reads_17 rfl rfl ?_
        refine v_dup F dX5_reads_18 rfl ?_
        refine v_get F 5 14 fo_X5_reads_82 dX5_reads_19 hI3.x rfl ?_
        refine V.toI (show nI (T2 14) = nI l2.length by rw [hl2]) ?_
        refine v_iconst (v := nI 1) F dX5_reads_22 (by decide) ?_
        refine v_iadd_n F dX5_reads_23 ?_
        refine v_put F 5 14 fp_X5_reads_82 dX5_reads_24 hI3.x rfl rfl (Nat.le_of_ble_eq_true rfl) ?_
        have hI4 := hI3.setT (f := 14) (v := l2.length + 1) (l := (moF Y T2).set 14 (.int (nI (l2.length + 1)))) (by simp [moF, uT])
        refine v_aload_n F dX5_reads_27 rfl rfl ?_
        refine v_get F 5 8 fo_X5_reads_31 dX5_reads_28 hI4.x rfl ?_
        refine v_iload_n F dX5_reads_31 rfl ?_
        refine v_iald_n F dX5_reads_32 (hI4.r (f := 8) (sz := 24) (bl := 0) (by simp [isRow]) (by decide) (by decide)) (by first | omega | exact Nat.lt_trans (hW _ _) (by decide)) (by decide) ?_
        refine V.toI (show uC C2 15 (upd (C2 15) l2.length (nI z)) 8 z = oI (B z 7) by rw [uC_n (by decide), hs2.1 8 (by decide)]; exact (hCB z hz).2.2.2.2.2.2.2.1) ?_
        refine v_istore_n F dX5_reads_33 (Nat.le_of_ble_eq_true rfl) (ok2_d rfl) ?_
        refine v_goto F 2 dX5_reads_34 (by decide) ?_
        exact ih2 f rfl (B z 7) _ _ (l2 ++ [z]) _ hc3 hI4 ((hF2.up (hWf 15)).up (hWf 0)) ⟨fun f9 h9 => by rw [uC_n h9]; exact hs2.1 f9 h9, fun f9 h9 => by rw [uT_n h9]; exact hs2.2 f9 h9⟩ (by rw [uT_s, List.length_append, List.length_singleton]) (by rw [uC_s]; exact hp2.snoc) heq3
  exact lp 24 (x + 1) C T l1 M (fun z hz => by rw [show z = x by omega]; exact ⟨hx, hρ0 x⟩) hI Fr.rf ⟨fun _ _ => rfl, fun _ _ => rfl⟩ hlen hpf rfl
/-- how many bits a set has -/
def pc (s : Nat) : Nat → Nat := fl (fun c i => if s.testBit i then c + 1 else c) 0
theorem pc_le (s : Nat) : ∀ n, pc s n ≤ n := by
  intro n
  induction n with
  | zero => exact Nat.le_refl 0
  | succ n ih => unfold pc at ih ⊢; rw [fl_s]; split <;> omega
theorem pc_nd {s y : Nat} (hy : s.testBit y = true) : ∀ n, y < n → pc (nd s (2 ^ y)) n + 1 = pc s n := by
  have e : ∀ i, (nd s (2 ^ y)).testBit i = (s.testBit i && !decide (y = i)) := fun i => by rw [nd_tb, Nat.testBit_two_pow]
  have h0 : ∀ n, n ≤ y → pc (nd s (2 ^ y)) n = pc s n := by
    intro n
    induction n with
    | zero => intro _; rfl
    | succ n ih =>
      intro hn
      have h1 := ih (by omega)
      unfold pc at h1 ⊢
      rw [fl_s, fl_s, h1, e n]
      have h2 : decide (y = n) = false := decide_eq_false (by omega)
      rw [h2]
      simp
  intro n
  induction n with
  | zero => intro h; exact absurd h (Nat.not_lt_zero _)
  | succ n ih =>
    intro hn
    by_cases hyn : y = n
    · subst hyn
      have h1 := h0 y (Nat.le_refl _)
      unfold pc at h1 ⊢
      rw [fl_s, fl_s, h1, e y, hy]
      simp
    · have h1 := ih (by omega)
      unfold pc at h1 ⊢
      rw [fl_s, fl_s, e n]
      have h2 : decide (y = n) = false := decide_eq_false hyn
      rw [h2]
      cases s.testBit n <;> simp <;> omega
theorem pc_pos {s i : Nat} (hi : s.testBit i = true) : ∀ n, i < n → 0 < pc s n := fun n hn => by have := pc_nd hi n hn; omega
theorem ex_bit {s n : Nat} (hs : s < 2 ^ n) (h : s ≠ 0) : ∃ i, i < n ∧ s.testBit i = true := by
  by_cases hex : ∃ i, i < n ∧ s.testBit i = true
  · exact hex
  · refine absurd (Nat.eq_of_testBit_eq fun i => ?_) h
    rw [Nat.zero_testBit]
    by_cases hi : i < n
    · cases hb : s.testBit i with
      | false => rfl
      | true => exact absurd ⟨i, hi, hb⟩ hex
    · exact Nat.testBit_lt_two_pow (Nat.lt_of_lt_of_le hs (Nat.pow_le_pow_right (by decide) (by omega)))
theorem fbe_in {B : FF} {s : Nat} : ∀ {n y}, fbe B s n = y + 1 → s.testBit y = true ∧ y < n := by
  intro n
  induction n with
  | zero => intro y h; cases h
  | succ n ih =>
    intro y h
    unfold fbe at ih h
    rw [fl_s] at h
    split at h
    · next hc => rw [show y = n by omega]; exact ⟨hc.1, by omega⟩
    · obtain ⟨h1, h2⟩ := ih h; exact ⟨h1, by omega⟩
theorem fbe_ne {B : FF} {s i : Nat} (hb : s.testBit i = true) : ∀ n, i < n → fbe B s n ≠ 0 := by
  intro n
  induction n with
  | zero => intro h; exact absurd h (Nat.not_lt_zero _)
  | succ n ih =>
    intro hi
    unfold fbe at ih ⊢
    rw [fl_s]
    by_cases hin : i = n
    · subst hin
      split
      · omega
      · next hc => intro h0; exact hc ⟨hb, Or.inl h0⟩
    · split
      · omega
      · exact ih (by omega)
theorem nd_lt2 {s f n : Nat} (h : s < 2 ^ n) : nd s f < 2 ^ n := by
  apply Nat.lt_pow_two_of_testBit
  intro i hi
  rw [nd_tb, Nat.testBit_lt_two_pow (Nat.lt_of_lt_of_le h (Nat.pow_le_pow_right (by decide) hi))]
  rfl
def rmX5_readsAll : Room := { frames := 1, cells := 0, slots := 0, locals := 22 }
theorem hd_X5_readsAll : yX5_readsAll.cls = (RX5, TX5, 21).1 ∧ yX5_readsAll.cls ≠ "java/lang/invoke/MethodHandle" ∧ yX5_readsAll.cls ≠ "java/lang/invoke/VarHandle" ∧ (parseMethodDescriptor yX5_readsAll.desc).map (fun d => d.parameters.length) = some 1 := by decide +kernel
theorem fo_X5_readsAll_64 : FO wsX5_readsAll RX5 64 5 0 := ⟨_, _, _, rfl, by decide, by decide +kernel, by decide +kernel⟩
set_option maxHeartbeats 4000000 in
set_option maxRecDepth 100000 in
theorem c_readsAll {l : Launch} {ω : Om} {M : MM} {Y : Nat → Nat} {C : Nat → Nat → Int32} {T : Nat → Nat} (hI : MI ω Y C T M) {B : FF} {n : Nat} (hT0 : T 0 = n) (hCB : CB C B n) (hB : WB B n) {W : Nat → Prop} (hWf : ∀ f, W (Y f)) (ρ : Nat → Nat) (hρ0 : ∀ i, ρ i < 24) (hρ : ∀ i y, i < n → B i 7 = y + 1 → ρ y < ρ i) {s : Nat} (hsn : s < 2 ^ n) {l1 : List Nat} (hlen : T 14 = l1.length) (hpf : Pf (C 15) l1) (htot : l1.length + (unc B n 24 s).length ≤ 24) : Ct l ω yX5_readsAll wsX5_readsAll rmX5_readsAll [.ref (Y 0), .int (nI s)] M (fun v M9 => v = none ∧ ∃ C9 T9, MI ω Y C9 T9 M9 ∧ Fr W M M9 ∧ Sm1 C C9 T T9 ∧ T9 14 = (l1 ++ unc B n 24 s).length ∧ Pf (C9 15) (l1 ++ unc B n 24 s)) 0 0 := by
  refine Ct.ofV (cc := cX5_readsAll) (maxL := 5) (ret := none) [some (.ref (Y 0)), some (.int (nI s)), none, none, none] (by decide) rfl (Nat.le_of_ble_eq_true rfl) rfl (Lc.av (av := [.ref (Y 0), .int (nI s)]) (k := 3) rfl) ?_
  intro σ F hl hr hname
  have F : Fx ω σ cX5_readsAll 5 wsX5_readsAll RX5 rmX5_readsAll := F
  have hn : n ≤ 24 := hB.1
  have hW : ∀ i j, B i j < 128 := hB.2.1
  have h224 : (2 : Nat) ^ n ≤ 2 ^ 24 := Nat.pow_le_pow_right (by decide) hn
  refine v_iload_n F dX5_readsAll_0 rfl ?_
  refine v_istore_n F dX5_readsAll_1 (Nat.le_of_ble_eq_true rfl) (ok2_d rfl) ?_
  have lp1 : ∀ f s1 C2 T2 (l2 : List Nat) M2 w3 w4, s1 < 2 ^ n → pc s1 n ≤ f → MI ω Y C2 T2 M2 → Fr W M M2 → Sm1 C C2 T T2 → T2 14 = l2.length → Pf (C2 15) l2 → l2 ++ unc B n f s1 = l1 ++ unc B n 24 s → V ω σ M2 [some (.ref (Y 0)), some (.int (nI s)), some (.int (nI s1)), w3, w4] 0 0 (BQ ω σ (fun v M9 => v = none ∧ ∃ C9 T9, MI ω Y C9 T9 M9 ∧ Fr W M M9 ∧ Sm1 C C9 T T9 ∧ T9 14 = (l1 ++ unc B n 24 s).length ∧ Pf (C9 15) (l1 ++ unc B n 24 s)) 0 0) 2 [] := by
    refine loop_pr _ (fun f ih1 => ?_)
    intro s1 C2 T2 l2 M2 w3 w4 hs1 hpc hI2 hF2 hs2 hl2 hp2 heq
    have hll := congrArg List.length heq
    rw [List.length_append, List.length_append] at hll
    refine v_iload_n F dX5_readsAll_2 rfl ?_
    refine v_if_eq_n F 73 dX5_readsAll_3 (by decide) (by first | omega | exact Nat.lt_trans (hW _ _) (by decide)) (fun c3 => ?_) (fun c3 => ?_)
    · exact v_vret F hr dX5_readsAll_73 (Nat.le_of_ble_eq_true rfl) (Nat.le_of_ble_eq_true rfl) ⟨rfl, C2, T2, hI2, hF2, hs2, by rw [← heq, c3, unc_0, List.append_nil]; exact hl2, by rw [← heq, c3, unc_0, List.append_nil]; exact hp2⟩
    · refine v_iconst (v := (-1)) F dX5_readsAll_6 (by decide) ?_
      refine v_istore_n F dX5_readsAll_7 (Nat.le_of_ble_eq_true rfl) (ok2_d rfl) ?_
      refine v_iconst (v := nI 0) F dX5_readsAll_8 (by decide) ?_
      refine v_istore F dX5_readsAll_9 (Nat.le_of_ble_eq_true rfl) (ok2_d rfl) ?_
      have lp2 : ∀ i, i ≤ n → ∀ c, c = fbe B s1 i → c ≤ n → V ω σ M2 [some (.ref (Y 0)), some (.int (nI s)), some (.int (nI s1)), some (.int (oI c)), some (.int (nI i))] 0 0 (BQ ω σ (fun v M9 => v = none ∧ ∃ C9 T9, MI ω Y C9 T9 M9 ∧ Fr W M M9 ∧ Sm1 C C9 T T9 ∧ T9 14 = (l1 ++ unc B n 24 s).length ∧ Pf (C9 15) (l1 ++ unc B n 24 s)) 0 0) 11 [] := by
        refine loop_up n _ (fun i hi ih => ?_)
        intro c hm hc
        rcases c with _ | y
        · have hnone := hm
          refine v_iload F dX5_readsAll_11 rfl ?_
          refine v_aload_n F dX5_readsAll_13 rfl rfl ?_
          refine v_get F 5 0 fo_X5_readsAll_64 dX5_readsAll_14 hI2.x rfl ?_
          refine V.toI (show nI (T2 0) = nI n by rw [hs2.2 0 (by decide), hT0]) ?_
          refine v_icmp_ge_n F 57 dX5_readsAll_17 (by decide) (by first | omega | exact Nat.lt_trans (hW _ _) (by decide)) (by first | omega | exact Nat.lt_trans (hW _ _) (by decide)) (fun c17 => ?_) (fun c17 => ?_)
          · obtain ⟨i9, h9, hb9⟩ := ex_bit hs1 c3
            exact absurd (by rw [hm, show i = n by omega]) (fbe_ne (B := B) hb9 n h9).symm
          · refine v_iload_n F dX5_readsAll_20 rfl ?_
            refine v_iload F dX5_readsAll_21 rfl ?_
            refine v_callS F 2 [_, _] rfl rfl rfl (c_X5_has (by omega) (by omega)) gX5_readsAll_X5_has rfl hd_X5_has ⟨⟨rfl, rfl⟩, ⟨(Nat.le_of_ble_eq_true rfl), (Nat.le_of_ble_eq_true rfl)⟩, ⟨(Nat.le_of_ble_eq_true rfl), (Nat.le_of_ble_eq_true rfl)⟩, (Nat.le_of_ble_eq_true rfl)⟩ dX5_readsAll_23 (fun v23 M23 q23 => ?_)
            obtain ⟨rfl, e23⟩ := q23
            replace e23 := e23.symm
            subst e23
            refine v_if_eq_b F 49 dX5_readsAll_26 (by decide) (fun c26 => ?_) (fun c26 => ?_)
            · refine v_iload_n F dX5_readsAll_49 rfl ?_
              refine v_istore_n F dX5_readsAll_50 (Nat.le_of_ble_eq_true rfl) (ok2_d rfl) ?_
              refine v_iinc1 F dX5_readsAll_51 rfl (ok2_d rfl) ?_
              refine v_goto F 11 dX5_readsAll_54 (by decide) ?_
              first | exact ih (by omega) 0 (by unfold fbe; rw [fl_s, ← fbe, ← hm]; clear hm ih; simp [*]) (by omega) | exact ih (by omega) (i + 1) (by unfold fbe; rw [fl_s, ← fbe, ← hm]; clear hm ih; simp [*]) (by omega) | exact ih (by omega) (y + 1) (by unfold fbe; rw [fl_s, ← fbe, ← hm]; clear hm ih; simp [*]) (by omega)
            · refine v_iload_n F dX5_readsAll_29 rfl ?_
              refine v_iconst (v := (-1)) F dX5_readsAll_30 (by decide) ?_
              refine v_icmp_eq F 44 dX5_readsAll_31 (by decide) (fun c31 => ?_) (fun c31 => ?_)
              · refine v_iload F dX5_readsAll_44 rfl ?_
                refine v_goto F 50 dX5_readsAll_46 (by decide) ?_
                refine v_istore_n F dX5_readsAll_50 (Nat.le_of_ble_eq_true rfl) (ok2_d rfl) ?_
                refine v_iinc1 F dX5_readsAll_51 rfl (ok2_d rfl) ?_
                refine v_goto F 11 dX5_readsAll_54 (by decide) ?_
                first | exact ih (by omega) 0 (by unfold fbe; rw [fl_s, ← fbe, ← hm]; clear hm ih; simp [*]) (by omega) | exact ih (by omega) (i + 1) (by unfold fbe; rw [fl_s, ← fbe, ← hm]; clear hm ih; simp [*]) (by omega) | exact ih (by omega) (y + 1) (by unfold fbe; rw [fl_s, ← fbe, ← hm]; clear hm ih; simp [*]) (by omega)
              · exact absurd rfl c31
        · have hy : y < n := by omega
          show V ω σ M2 [some (.ref (Y 0)), some (.int (nI s)), some (.int (nI s1)), some (.int (nI y)), some (.int (nI i))] _ _ _ _ _
          refine v_iload F dX5_readsAll_11 rfl ?_
          refine v_aload_n F dX5_readsAll_13 rfl rfl ?_
          refine v_get F 5 0 fo_X5_readsAll_64 dX5_readsAll_14 hI2.x rfl ?_
          refine V.toI (show nI (T2 0) = nI n by rw [hs2.2 0 (by decide), hT0]) ?_
          refine v_icmp_ge_n F 57 dX5_readsAll_17 (by decide) (by first | omega | exact Nat.lt_trans (hW _ _) (by decide)) (by first | omega | exact Nat.lt_trans (hW _ _) (by decide)) (fun c17 => ?_) (fun c17 => ?_)
          · have hfb : fbe B s1 n = y + 1 := by rw [hm, show i = n by omega]
            obtain ⟨hyb, -⟩ := fbe_in hfb
            have hfpos := pc_pos hyb n hy
            obtain ⟨f2, rfl⟩ : ∃ q, f = q + 1 := ⟨f - 1, by omega⟩
            rw [unc_s c3 hfb, List.length_append] at hll
            refine v_aload_n F dX5_readsAll_57 rfl rfl ?_
            refine v_iload_n F dX5_readsAll_58 rfl ?_
            refine v_callV F 1 [_] rfl rfl rfl (c_reads hI2 (by rw [hs2.2 0 (by decide), hT0]) (hCB.sm (fun f9 h1 h2 h3 => hs2.1 f9 h1)) hB hWf ρ hρ0 hρ hy hl2 hp2 (by omega)) gX5_readsAll_X5_reads rfl hd_X5_reads ⟨⟨rfl, rfl⟩, ⟨(Nat.le_of_ble_eq_true rfl), (Nat.le_of_ble_eq_true rfl)⟩, ⟨(Nat.le_of_ble_eq_true rfl), (Nat.le_of_ble_eq_true rfl)⟩, (Nat.le_of_ble_eq_true rfl)⟩ hI2.x rfl dX5_readsAll_59 (fun v59 M59 q59 => ?_)
            obtain ⟨rfl, C3, T3, hI3, hF3, hs3, hl3, hp3⟩ := q59
            refine v_iload_n F dX5_readsAll_62 rfl ?_
            refine v_iconst (v := nI 1) F dX5_readsAll_63 (by decide) ?_
            refine v_iload_n F dX5_readsAll_64 rfl ?_
            refine v_ishl_n F dX5_readsAll_65 (by first | omega | exact Nat.lt_trans (hW _ _) (by decide)) ?_
            refine v_iconst (v := (-1)) F dX5_readsAll_66 (by decide) ?_
            refine v_ixor F dX5_readsAll_67 ?_
            refine v_iand_nd F dX5_readsAll_68 ?_
            refine v_istore_n F dX5_readsAll_69 (Nat.le_of_ble_eq_true rfl) (ok2_d rfl) ?_
            refine v_goto F 2 dX5_readsAll_70 (by decide) ?_
            exact ih1 f2 rfl (nd s1 (2 ^ y)) C3 T3 (l2 ++ chn B 24 (y + 1)) _ _ _ (nd_lt2 hs1) (by have := pc_nd hyb n hy; omega) hI3 (hF2.tr hF3) ⟨fun f9 h9 => (hs3.1 f9 h9).trans (hs2.1 f9 h9), fun f9 h9 => (hs3.2 f9 h9).trans (hs2.2 f9 h9)⟩ hl3 hp3 (by rw [← heq, unc_s c3 hfb, List.append_assoc])
          · refine v_iload_n F dX5_readsAll_20 rfl ?_
            refine v_iload F dX5_readsAll_21 rfl ?_
            refine v_callS F 2 [_, _] rfl rfl rfl (c_X5_has (by omega) (by omega)) gX5_readsAll_X5_has rfl hd_X5_has ⟨⟨rfl, rfl⟩, ⟨(Nat.le_of_ble_eq_true rfl), (Nat.le_of_ble_eq_true rfl)⟩, ⟨(Nat.le_of_ble_eq_true rfl), (Nat.le_of_ble_eq_true rfl)⟩, (Nat.le_of_ble_eq_true rfl)⟩ dX5_readsAll_23 (fun v23 M23 q23 => ?_)
            obtain ⟨rfl, e23⟩ := q23
            replace e23 := e23.symm
            subst e23
            refine v_if_eq_b F 49 dX5_readsAll_26 (by decide) (fun c26 => ?_) (fun c26 => ?_)
            · refine v_iload_n F dX5_readsAll_49 rfl ?_
              refine v_istore_n F dX5_readsAll_50 (Nat.le_of_ble_eq_true rfl) (ok2_d rfl) ?_
              refine v_iinc1 F dX5_readsAll_51 rfl (ok2_d rfl) ?_
              refine v_goto F 11 dX5_readsAll_54 (by decide) ?_
              first | exact ih (by omega) 0 (by unfold fbe; rw [fl_s, ← fbe, ← hm]; clear hm ih; simp [*]) (by omega) | exact ih (by omega) (i + 1) (by unfold fbe; rw [fl_s, ← fbe, ← hm]; clear hm ih; simp [*]) (by omega) | exact ih (by omega) (y + 1) (by unfold fbe; rw [fl_s, ← fbe, ← hm]; clear hm ih; simp [*]) (by omega)
            · refine v_iload_n F dX5_readsAll_29 rfl ?_
              refine v_iconst (v := (-1)) F dX5_readsAll_30 (by decide) ?_
              refine v_icmp_eq F 44 dX5_readsAll_31 (by decide) (fun c31 => ?_) (fun c31 => ?_)
              · exact absurd ((oI_m1 (x := y + 1) (by omega)).mp c31) (by omega)
              · refine v_aload_n F dX5_readsAll_34 rfl rfl ?_
                refine v_iload F dX5_readsAll_35 rfl ?_
                refine v_iload_n F dX5_readsAll_37 rfl ?_
                refine v_callV F 2 [_, _] rfl rfl rfl (c_X5_isAhead hI2 (by rw [hs2.2 0 (by decide), hT0]) (hCB.sm (fun f9 h1 h2 h3 => hs2.1 f9 h1)) hB (by omega) hy) gX5_readsAll_X5_isAhead rfl hd_X5_isAhead ⟨⟨rfl, rfl⟩, ⟨(Nat.le_of_ble_eq_true rfl), (Nat.le_of_ble_eq_true rfl)⟩, ⟨(Nat.le_of_ble_eq_true rfl), (Nat.le_of_ble_eq_true rfl)⟩, (Nat.le_of_ble_eq_true rfl)⟩ hI2.x rfl dX5_readsAll_38 (fun v38 M38 q38 => ?_)
                obtain ⟨rfl, e38⟩ := q38
                replace e38 := e38.symm
                subst e38
                refine v_if_eq_b F 49 dX5_readsAll_41 (by decide) (fun c41 => ?_) (fun c41 => ?_)
                · refine v_iload_n F dX5_readsAll_49 rfl ?_
                  refine v_istore_n F dX5_readsAll_50 (Nat.le_of_ble_eq_true rfl) (ok2_d rfl) ?_
                  refine v_iinc1 F dX5_readsAll_51 rfl (ok2_d rfl) ?_
                  refine v_goto F 11 dX5_readsAll_54 (by decide) ?_
                  first | exact ih (by omega) 0 (by unfold fbe; rw [fl_s, ← fbe, ← hm]; clear hm ih; simp [*]) (by omega) | exact ih (by omega) (i + 1) (by unfold fbe; rw [fl_s, ← fbe, ← hm]; clear hm ih; simp [*]) (by omega) | exact ih (by omega) (y + 1) (by unfold fbe; rw [fl_s, ← fbe, ← hm]; clear hm ih; simp [*]) (by omega)
                · refine v_iload F dX5_readsAll_44 rfl ?_
                  refine v_goto F 50 dX5_readsAll_46 (by decide) ?_
                  refine v_istore_n F dX5_readsAll_50 (Nat.le_of_ble_eq_true rfl) (ok2_d rfl) ?_
                  refine v_iinc1 F dX5_readsAll_51 rfl (ok2_d rfl) ?_
                  refine v_goto F 11 dX5_readsAll_54 (by decide) ?_
                  first | exact ih (by omega) 0 (by unfold fbe; rw [fl_s, ← fbe, ← hm]; clear hm ih; simp [*]) (by omega) | exact ih (by omega) (i + 1) (by unfold fbe; rw [fl_s, ← fbe, ← hm]; clear hm ih; simp [*]) (by omega) | exact ih (by omega) (y + 1) (by unfold fbe; rw [fl_s, ← fbe, ← hm]; clear hm ih; simp [*]) (by omega)
      exact lp2 0 (Nat.zero_le _) 0 rfl (Nat.zero_le _)
  exact lp1 24 s C T l1 M _ _ hsn (Nat.le_trans (pc_le s n) hn) hI Fr.rf ⟨fun _ _ => rfl, fun _ _ => rfl⟩ hlen hpf rfl
