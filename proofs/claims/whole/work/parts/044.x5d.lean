/-! the reference: orders kept, approvals that fall -/
/-- .. the rows 15, 17, 19, the numbers 14, 16, 18: what a question may change -/
def Sm3 (C C' : Nat → Nat → Int32) (T T' : Nat → Nat) : Prop := (∀ f, f ≠ 15 → f ≠ 17 → f ≠ 19 → C' f = C f) ∧ (∀ f, f ≠ 14 → f ≠ 16 → f ≠ 18 → T' f = T f)
theorem CB.sm9 {C C' : Nat → Nat → Int32} {B : FF} {n : Nat} (h : CB C B n) (hs : ∀ f, f < 10 → C' f = C f) : CB C' B n := by
  intro i hi
  rw [hs 1 (by decide), hs 2 (by decide), hs 3 (by decide), hs 4 (by decide), hs 5 (by decide), hs 6 (by decide), hs 7 (by decide), hs 8 (by decide), hs 9 (by decide)]
  exact h i hi
theorem cnt_k {P : FF} {p k : Nat} : ∀ d, cnt P p k (k + d) = cnt P p k k := by
  intro d
  induction d with
  | zero => rfl
  | succ d ih =>
    rw [show k + (d + 1) = (k + d) + 1 by omega]
    unfold cnt at ih ⊢
    rw [fl_s, if_neg (by omega)]
    exact ih
theorem lfP_k {P : FF} {p k i : Nat} (hk : k ≤ i) : ∀ a, a < k → lfP P p i a = lfP P p k a := by
  intro a ha
  funext b
  simp [lfP, show a < i by omega, ha]
def rmX5_keeps : Room := { frames := 4, cells := 0, slots := 0, locals := 97 }
theorem hd_X5_keeps : yX5_keeps.cls = (RX5, TX5, 21).1 ∧ yX5_keeps.cls ≠ "java/lang/invoke/MethodHandle" ∧ yX5_keeps.cls ≠ "java/lang/invoke/VarHandle" ∧ (parseMethodDescriptor yX5_keeps.desc).map (fun d => d.parameters.length) = some 1 := by decide +kernel
theorem fo_X5_keeps_47 : FO wsX5_keeps RX5 47 5 15 := ⟨_, _, _, rfl, by decide, by decide +kernel, by decide +kernel⟩
theorem fo_X5_keeps_50 : FO wsX5_keeps RX5 50 5 17 := ⟨_, _, _, rfl, by decide, by decide +kernel, by decide +kernel⟩
theorem fo_X5_keeps_82 : FO wsX5_keeps RX5 82 5 14 := ⟨_, _, _, rfl, by decide, by decide +kernel, by decide +kernel⟩
theorem fp_X5_keeps_107 : FP wsX5_keeps RX5 107 5 16 .int := ⟨_, _, _, tyX5, rfl, by decide, by decide +kernel, by decide +kernel, tyX5_ok, nmX5, rfl, by decide +kernel⟩
set_option maxHeartbeats 4000000 in
set_option maxRecDepth 100000 in
theorem c_keeps {l : Launch} {ω : Om} {M : MM} {Y : Nat → Nat} {C : Nat → Nat → Int32} {T : Nat → Nat} (hI : MI ω Y C T M) {B : FF} {n : Nat} (hT0 : T 0 = n) (hCB : CB C B n) (hB : WB B n) {W : Nat → Prop} (hWf : ∀ f, W (Y f)) (ρ : Nat → Nat) (hρ0 : ∀ i, ρ i < 24) (hρ : ∀ i y, i < n → B i 7 = y + 1 → ρ y < ρ i) {p : Nat} (hp : p < 5) (hFn : Fnd B n p) : Ct l ω yX5_keeps wsX5_keeps rmX5_keeps [.ref (Y 0), .int (nI p)] M (fun v M9 => v = none ∧ ∃ C9 T9, MI ω Y C9 T9 M9 ∧ Fr W M M9 ∧ Sm3 C C9 T T9 ∧ T9 16 = (ordF B n p).length ∧ Pf (C9 17) (ordF B n p)) 0 0 := by
  refine Ct.ofV (cc := cX5_keeps) (maxL := 3) (ret := none) [some (.ref (Y 0)), some (.int (nI p)), none] (by decide) rfl (Nat.le_of_ble_eq_true rfl) rfl (Lc.av (av := [.ref (Y 0), .int (nI p)]) (k := 1) rfl) ?_
  intro σ F hl hr hname
  have F : Fx ω σ cX5_keeps 3 wsX5_keeps RX5 rmX5_keeps := F
  have hn : n ≤ 24 := hB.1
  have hW : ∀ i j, B i j < 128 := hB.2.1
  have ho24 := hFn.2.2.2.2
  refine v_aload_n F dX5_keeps_0 rfl rfl ?_
  refine v_iload_n F dX5_keeps_1 rfl ?_
  refine v_callV F 1 [_] rfl rfl rfl (c_finds hI hT0 hCB hB hWf ρ hρ0 hρ hp hFn) gX5_keeps_X5_finds rfl hd_X5_finds ⟨⟨rfl, rfl⟩, ⟨(Nat.le_of_ble_eq_true rfl), (Nat.le_of_ble_eq_true rfl)⟩, ⟨(Nat.le_of_ble_eq_true rfl), (Nat.le_of_ble_eq_true rfl)⟩, (Nat.le_of_ble_eq_true rfl)⟩ hI.x rfl dX5_keeps_2 (fun v2 M2 q2 => ?_)
  obtain ⟨rfl, C1, T1, hI1, hF1, hs1, hl1, hp1⟩ := q2
  refine v_aload_n F dX5_keeps_5 rfl rfl ?_
  refine v_aload_n F dX5_keeps_6 rfl rfl ?_
  refine v_get F 5 14 fo_X5_keeps_82 dX5_keeps_7 hI1.x rfl ?_
  refine V.toI (show nI (T1 14) = nI (ordF B n p).length by rw [hl1]) ?_
  refine v_put F 5 16 fp_X5_keeps_107 dX5_keeps_10 hI1.x rfl rfl (Nat.le_of_ble_eq_true rfl) ?_
  have hI2 := hI1.setT (f := 16) (v := (ordF B n p).length) rfl
  refine v_iconst (v := nI 0) F dX5_keeps_13 (by decide) ?_
  refine v_istore_n F dX5_keeps_14 (Nat.le_of_ble_eq_true rfl) (ok2_d rfl) ?_
  have lp : ∀ i, i ≤ (ordF B n p).length → ∀ C2 M2, MI ω Y C2 (uT T1 16 (ordF B n p).length) M2 → Fr W M M2 → (∀ f, f ≠ 17 → C2 f = C1 f) → (∀ q, q < i → C2 17 q = nI ((ordF B n p).getD q 0)) → V ω σ M2 [some (.ref (Y 0)), some (.int (nI p)), some (.int (nI i))] 0 0 (BQ ω σ (fun v M9 => v = none ∧ ∃ C9 T9, MI ω Y C9 T9 M9 ∧ Fr W M M9 ∧ Sm3 C C9 T T9 ∧ T9 16 = (ordF B n p).length ∧ Pf (C9 17) (ordF B n p)) 0 0) 15 [] := by
    refine loop_up (ordF B n p).length _ (fun i hi ih => ?_)
    intro C2 M2 hI2 hF2 hc2 hq2
    refine v_iload_n F dX5_keeps_15 rfl ?_
    refine v_aload_n F dX5_keeps_16 rfl rfl ?_
    refine v_get F 5 14 fo_X5_keeps_82 dX5_keeps_17 hI2.x rfl ?_
    refine V.toI (show nI (uT T1 16 (ordF B n p).length 14) = nI (ordF B n p).length by rw [uT_n (by decide), hl1]) ?_
    refine v_icmp_ge_n F 41 dX5_keeps_20 (by decide) (by first | omega | exact Nat.lt_trans (hW _ _) (by decide)) (by first | omega | exact Nat.lt_trans (hW _ _) (by decide)) (fun c20 => ?_) (fun c20 => ?_)
    · exact v_vret F hr dX5_keeps_41 (Nat.le_of_ble_eq_true rfl) (Nat.le_of_ble_eq_true rfl) ⟨rfl, _, _, hI2, hF2, ⟨fun f h1 h2 h3 => (hc2 f h2).trans (hs1.1 f h1 h3), fun f h1 h2 h3 => (uT_n h2).trans (hs1.2 f h1 h3)⟩, uT_s, fun q hq => hq2 q (by omega)⟩
    · refine v_aload_n F dX5_keeps_23 rfl rfl ?_
      refine v_get F 5 17 fo_X5_keeps_50 dX5_keeps_24 hI2.x rfl ?_
      refine v_iload_n F dX5_keeps_27 rfl ?_
      refine v_aload_n F dX5_keeps_28 rfl rfl ?_
      refine v_get F 5 15 fo_X5_keeps_47 dX5_keeps_29 hI2.x rfl ?_
      refine v_iload_n F dX5_keeps_32 rfl ?_
      refine v_iald_n F dX5_keeps_33 (hI2.r (f := 15) (sz := 24) (bl := 0) (by simp [isRow]) (by decide) (by decide)) (by first | omega | exact Nat.lt_trans (hW _ _) (by decide)) (by decide) ?_
      refine V.toI (show C2 15 i = nI ((ordF B n p).getD i 0) by rw [hc2 15 (by decide)]; exact hp1 i (by omega)) ?_
      refine v_iast_n F dX5_keeps_34 (hI2.r (f := 17) (sz := 24) (bl := 0) (by simp [isRow]) (by decide) (by decide)) (by first | omega | exact Nat.lt_trans (hW _ _) (by decide)) (by decide) ?_
      have hI3 := hI2.setC (f := 17) (sz := 24) (bl := 0) (by simp [isRow]) (by decide) (by decide) (upd (C2 17) i (nI ((ordF B n p).getD i 0)))
      refine v_iinc1 F dX5_keeps_35 rfl (ok2_d rfl) ?_
      refine v_goto F 15 dX5_keeps_38 (by decide) ?_
      exact ih (by omega) _ _ hI3 (hF2.up (hWf 17)) (fun f h => by rw [uC_n h]; exact hc2 f h) (fun q hq => by
        rw [uC_s]
        by_cases h : q = i
        · rw [h, pk_us]
        · rw [pk_un h]; exact hq2 q (by omega))
  exact lp 0 (Nat.zero_le _) _ _ hI2 (hF1.up (hWf 0)) (fun _ _ => rfl) (fun q h => absurd h (Nat.not_lt_zero _))
theorem gd_lt {l : List Nat} {c : Nat} (h : ∀ x, x ∈ l → x < c) {i : Nat} (hi : i < l.length) : l.getD i 0 < c := by
  apply h
  rw [List.getD_eq_getElem?_getD, List.getElem?_eq_getElem hi]
  exact List.getElem_mem hi
def rmX5_isOther : Room := { frames := 4, cells := 0, slots := 0, locals := 97 }
theorem hd_X5_isOther : yX5_isOther.cls = (RX5, TX5, 21).1 ∧ yX5_isOther.cls ≠ "java/lang/invoke/MethodHandle" ∧ yX5_isOther.cls ≠ "java/lang/invoke/VarHandle" ∧ (parseMethodDescriptor yX5_isOther.desc).map (fun d => d.parameters.length) = some 1 := by decide +kernel
theorem fo_X5_isOther_47 : FO wsX5_isOther RX5 47 5 15 := ⟨_, _, _, rfl, by decide, by decide +kernel, by decide +kernel⟩
theorem fo_X5_isOther_50 : FO wsX5_isOther RX5 50 5 17 := ⟨_, _, _, rfl, by decide, by decide +kernel, by decide +kernel⟩
theorem fo_X5_isOther_82 : FO wsX5_isOther RX5 82 5 14 := ⟨_, _, _, rfl, by decide, by decide +kernel, by decide +kernel⟩
theorem fo_X5_isOther_107 : FO wsX5_isOther RX5 107 5 16 := ⟨_, _, _, rfl, by decide, by decide +kernel, by decide +kernel⟩
set_option maxHeartbeats 4000000 in
set_option maxRecDepth 100000 in
theorem c_isOther {l : Launch} {ω : Om} {M : MM} {Y : Nat → Nat} {C : Nat → Nat → Int32} {T : Nat → Nat} (hI : MI ω Y C T M) {B : FF} {n : Nat} (hT0 : T 0 = n) (hCB : CB C B n) (hB : WB B n) {W : Nat → Prop} (hWf : ∀ f, W (Y f)) (ρ : Nat → Nat) (hρ0 : ∀ i, ρ i < 24) (hρ : ∀ i y, i < n → B i 7 = y + 1 → ρ y < ρ i) {p : Nat} (hp : p < 5) (hFn : Fnd B n p) {u : List Nat} (hu16 : T 16 = u.length) (hu17 : Pf (C 17) u) (hu24 : u.length ≤ 24) (huB : ∀ x, x ∈ u → x < 128) (hoB : ∀ x, x ∈ ordF B n p → x < 128) : Ct l ω yX5_isOther wsX5_isOther rmX5_isOther [.ref (Y 0), .int (nI p)] M (fun v M9 => ∃ b9 : Bool, v = some (.int (bI b9)) ∧ (b9 = true ↔ ordF B n p ≠ u) ∧ ∃ C9 T9, MI ω Y C9 T9 M9 ∧ Fr W M M9 ∧ Sm2 C C9 T T9 ∧ T9 14 = (ordF B n p).length ∧ Pf (C9 15) (ordF B n p)) 0 0 := by
  refine Ct.ofV (cc := cX5_isOther) (maxL := 4) (ret := (some .boolean)) [some (.ref (Y 0)), some (.int (nI p)), none, none] (by decide) rfl (Nat.le_of_ble_eq_true rfl) rfl (Lc.av (av := [.ref (Y 0), .int (nI p)]) (k := 2) rfl) ?_
  intro σ F hl hr hname
  have F : Fx ω σ cX5_isOther 4 wsX5_isOther RX5 rmX5_isOther := F
  have hn : n ≤ 24 := hB.1
  have hW : ∀ i j, B i j < 128 := hB.2.1
  have ho24 := hFn.2.2.2.2
  refine v_aload_n F dX5_isOther_0 rfl rfl ?_
  refine v_iload_n F dX5_isOther_1 rfl ?_
  refine v_callV F 1 [_] rfl rfl rfl (c_finds hI hT0 hCB hB hWf ρ hρ0 hρ hp hFn) gX5_isOther_X5_finds rfl hd_X5_finds ⟨⟨rfl, rfl⟩, ⟨(Nat.le_of_ble_eq_true rfl), (Nat.le_of_ble_eq_true rfl)⟩, ⟨(Nat.le_of_ble_eq_true rfl), (Nat.le_of_ble_eq_true rfl)⟩, (Nat.le_of_ble_eq_true rfl)⟩ hI.x rfl dX5_isOther_2 (fun v2 M2 q2 => ?_)
  obtain ⟨rfl, C1, T1, hI1, hF1, hs1, hl1, hp1⟩ := q2
  refine v_aload_n F dX5_isOther_5 rfl rfl ?_
  refine v_get F 5 14 fo_X5_isOther_82 dX5_isOther_6 hI1.x rfl ?_
  refine V.toI (show nI (T1 14) = nI (ordF B n p).length by rw [hl1]) ?_
  refine v_aload_n F dX5_isOther_9 rfl rfl ?_
  refine v_get F 5 16 fo_X5_isOther_107 dX5_isOther_10 hI1.x rfl ?_
  refine V.toI (show nI (T1 16) = nI u.length by rw [hs1.2 16 (by decide) (by decide), hu16]) ?_
  refine v_icmp_eq_n F 20 dX5_isOther_13 (by decide) (by first | omega | exact Nat.lt_trans (gd_lt huB (by omega)) (by decide) | exact Nat.lt_trans (gd_lt hoB (by omega)) (by decide)) (by first | omega | exact Nat.lt_trans (gd_lt huB (by omega)) (by decide) | exact Nat.lt_trans (gd_lt hoB (by omega)) (by decide)) (fun c13 => ?_) (fun c13 => ?_)
  · refine v_iconst (v := nI 0) F dX5_isOther_20 (by decide) ?_
    first | refine V.toI (show nI 1 = bI true from rfl) ?_ | refine V.toI (show nI 0 = bI false from rfl) ?_
    refine v_istore_n F dX5_isOther_21 (Nat.le_of_ble_eq_true rfl) (ok2_d rfl) ?_
    refine v_iconst (v := nI 0) F dX5_isOther_22 (by decide) ?_
    refine v_istore_n F dX5_isOther_23 (Nat.le_of_ble_eq_true rfl) (ok2_d rfl) ?_
    have lp : ∀ i, i ≤ (ordF B n p).length → ∀ b : Bool, (b = true → ordF B n p ≠ u) → (b = false → (ordF B n p).length = u.length ∧ ∀ q, q < i → (ordF B n p).getD q 0 = u.getD q 0) → V ω σ M2 [some (.ref (Y 0)), some (.int (nI p)), some (.int (bI b)), some (.int (nI i))] 0 0 (BQ ω σ (fun v M9 => ∃ b9 : Bool, v = some (.int (bI b9)) ∧ (b9 = true ↔ ordF B n p ≠ u) ∧ ∃ C9 T9, MI ω Y C9 T9 M9 ∧ Fr W M M9 ∧ Sm2 C C9 T T9 ∧ T9 14 = (ordF B n p).length ∧ Pf (C9 15) (ordF B n p)) 0 0) 24 [] := by
      refine loop_up (ordF B n p).length _ (fun i hi ih => ?_)
      intro b hbt hb
      have hbf : b = false → (ordF B n p).length = u.length := fun h => (hb h).1
      refine v_iload_n F dX5_isOther_24 rfl ?_
      refine v_aload_n F dX5_isOther_25 rfl rfl ?_
      refine v_get F 5 14 fo_X5_isOther_82 dX5_isOther_26 hI1.x rfl ?_
      refine V.toI (show nI (T1 14) = nI (ordF B n p).length by rw [hl1]) ?_
      refine v_icmp_ge_n F 63 dX5_isOther_29 (by decide) (by first | omega | exact Nat.lt_trans (gd_lt huB (by omega)) (by decide) | exact Nat.lt_trans (gd_lt hoB (by omega)) (by decide)) (by first | omega | exact Nat.lt_trans (gd_lt huB (by omega)) (by decide) | exact Nat.lt_trans (gd_lt hoB (by omega)) (by decide)) (fun c29 => ?_) (fun c29 => ?_)
      · refine v_iload_n F dX5_isOther_63 rfl ?_
        exact v_zret F hr dX5_isOther_64 bI_n (Nat.le_of_ble_eq_true rfl) (Nat.le_of_ble_eq_true rfl) ⟨b, rfl, ⟨fun h => hbt h, fun h => by cases b with | true => rfl | false => exact absurd (listEq.mp ⟨(hb rfl).1, fun q hq => (hb rfl).2 q (by first | omega | cases c33)⟩) h⟩, C1, T1, hI1, hF1, hs1, hl1, hp1⟩
      · refine v_iload_n F dX5_isOther_32 rfl ?_
        refine v_if_ne_b F 63 dX5_isOther_33 (by decide) (fun c33 => ?_) (fun c33 => ?_)
        · refine v_iload_n F dX5_isOther_63 rfl ?_
          exact v_zret F hr dX5_isOther_64 bI_n (Nat.le_of_ble_eq_true rfl) (Nat.le_of_ble_eq_true rfl) ⟨b, rfl, ⟨fun h => hbt h, fun h => by cases b with | true => rfl | false => exact absurd (listEq.mp ⟨(hb rfl).1, fun q hq => (hb rfl).2 q (by first | omega | cases c33)⟩) h⟩, C1, T1, hI1, hF1, hs1, hl1, hp1⟩
        · refine v_aload_n F dX5_isOther_36 rfl rfl ?_
          refine v_get F 5 15 fo_X5_isOther_47 dX5_isOther_37 hI1.x rfl ?_
          refine v_iload_n F dX5_isOther_40 rfl ?_
          refine v_iald_n F dX5_isOther_41 (hI1.r (f := 15) (sz := 24) (bl := 0) (by simp [isRow]) (by decide) (by decide)) (by first | omega | exact Nat.lt_trans (gd_lt huB (by omega)) (by decide) | exact Nat.lt_trans (gd_lt hoB (by omega)) (by decide)) (by decide) ?_
          refine V.toI (hp1 i (by omega)) ?_
          refine v_aload_n F dX5_isOther_42 rfl rfl ?_
          refine v_get F 5 17 fo_X5_isOther_50 dX5_isOther_43 hI1.x rfl ?_
          refine v_iload_n F dX5_isOther_46 rfl ?_
          refine v_iald_n F dX5_isOther_47 (hI1.r (f := 17) (sz := 24) (bl := 0) (by simp [isRow]) (by decide) (by decide)) (by first | omega | exact Nat.lt_trans (gd_lt huB (by omega)) (by decide) | exact Nat.lt_trans (gd_lt hoB (by omega)) (by decide)) (by decide) ?_
          refine V.toI (show C1 17 i = nI (u.getD i 0) by rw [hs1.1 17 (by decide) (by decide)]; exact hu17 i (by have := hbf (by assumption); omega)) ?_
          refine v_icmp_eq_n F 55 dX5_isOther_48 (by decide) (by first | exact Nat.lt_trans (gd_lt (i := i) hoB (by omega)) (by decide) | exact Nat.lt_trans (gd_lt (i := i) huB (by have := hbf c33; omega)) (by decide)) (by first | exact Nat.lt_trans (gd_lt (i := i) hoB (by omega)) (by decide) | exact Nat.lt_trans (gd_lt (i := i) huB (by have := hbf c33; omega)) (by decide)) (fun c48 => ?_) (fun c48 => ?_)
          · refine v_iconst (v := nI 0) F dX5_isOther_55 (by decide) ?_
            first | refine V.toI (show nI 1 = bI true from rfl) ?_ | refine V.toI (show nI 0 = bI false from rfl) ?_
            refine v_istore_n F dX5_isOther_56 (Nat.le_of_ble_eq_true rfl) (ok2_d rfl) ?_
            refine v_iinc1 F dX5_isOther_57 rfl (ok2_d rfl) ?_
            refine v_goto F 24 dX5_isOther_60 (by decide) ?_
            first | exact ih (by omega) true (fun _ h => by rw [h] at c48; exact c48 rfl) (fun h => by cases h) | exact ih (by omega) false (fun h => by cases h) (fun _ => ⟨hbf c33, fun q hq => by rcases Nat.lt_or_ge q i with h | h; exact (hb c33).2 q h; rw [show q = i by omega]; exact c48⟩)
          · refine v_iconst (v := nI 1) F dX5_isOther_51 (by decide) ?_
            refine v_goto F 56 dX5_isOther_52 (by decide) ?_
            first | refine V.toI (show nI 1 = bI true from rfl) ?_ | refine V.toI (show nI 0 = bI false from rfl) ?_
            refine v_istore_n F dX5_isOther_56 (Nat.le_of_ble_eq_true rfl) (ok2_d rfl) ?_
            refine v_iinc1 F dX5_isOther_57 rfl (ok2_d rfl) ?_
            refine v_goto F 24 dX5_isOther_60 (by decide) ?_
            first | exact ih (by omega) true (fun _ h => by rw [h] at c48; exact c48 rfl) (fun h => by cases h) | exact ih (by omega) false (fun h => by cases h) (fun _ => ⟨hbf c33, fun q hq => by rcases Nat.lt_or_ge q i with h | h; exact (hb c33).2 q h; rw [show q = i by omega]; exact c48⟩)
    first | exact lp 0 (Nat.zero_le _) true (fun _ h => c13 (congrArg List.length h)) (fun h => by cases h) | exact lp 0 (Nat.zero_le _) false (fun h => by cases h) (fun _ => ⟨c13, fun q h => absurd h (Nat.not_lt_zero _)⟩)
  · refine v_iconst (v := nI 1) F dX5_isOther_16 (by decide) ?_
    refine v_goto F 21 dX5_isOther_17 (by decide) ?_
    first | refine V.toI (show nI 1 = bI true from rfl) ?_ | refine V.toI (show nI 0 = bI false from rfl) ?_
    refine v_istore_n F dX5_isOther_21 (Nat.le_of_ble_eq_true rfl) (ok2_d rfl) ?_
    refine v_iconst (v := nI 0) F dX5_isOther_22 (by decide) ?_
    refine v_istore_n F dX5_isOther_23 (Nat.le_of_ble_eq_true rfl) (ok2_d rfl) ?_
    have lp : ∀ i, i ≤ (ordF B n p).length → ∀ b : Bool, (b = true → ordF B n p ≠ u) → (b = false → (ordF B n p).length = u.length ∧ ∀ q, q < i → (ordF B n p).getD q 0 = u.getD q 0) → V ω σ M2 [some (.ref (Y 0)), some (.int (nI p)), some (.int (bI b)), some (.int (nI i))] 0 0 (BQ ω σ (fun v M9 => ∃ b9 : Bool, v = some (.int (bI b9)) ∧ (b9 = true ↔ ordF B n p ≠ u) ∧ ∃ C9 T9, MI ω Y C9 T9 M9 ∧ Fr W M M9 ∧ Sm2 C C9 T T9 ∧ T9 14 = (ordF B n p).length ∧ Pf (C9 15) (ordF B n p)) 0 0) 24 [] := by
      refine loop_up (ordF B n p).length _ (fun i hi ih => ?_)
      intro b hbt hb
      have hbf : b = false → (ordF B n p).length = u.length := fun h => (hb h).1
      refine v_iload_n F dX5_isOther_24 rfl ?_
      refine v_aload_n F dX5_isOther_25 rfl rfl ?_
      refine v_get F 5 14 fo_X5_isOther_82 dX5_isOther_26 hI1.x rfl ?_
      refine V.toI (show nI (T1 14) = nI (ordF B n p).length by rw [hl1]) ?_
      refine v_icmp_ge_n F 63 dX5_isOther_29 (by decide) (by first | omega | exact Nat.lt_trans (gd_lt huB (by omega)) (by decide) | exact Nat.lt_trans (gd_lt hoB (by omega)) (by decide)) (by first | omega | exact Nat.lt_trans (gd_lt huB (by omega)) (by decide) | exact Nat.lt_trans (gd_lt hoB (by omega)) (by decide)) (fun c29 => ?_) (fun c29 => ?_)
      · refine v_iload_n F dX5_isOther_63 rfl ?_
        exact v_zret F hr dX5_isOther_64 bI_n (Nat.le_of_ble_eq_true rfl) (Nat.le_of_ble_eq_true rfl) ⟨b, rfl, ⟨fun h => hbt h, fun h => by cases b with | true => rfl | false => exact absurd (listEq.mp ⟨(hb rfl).1, fun q hq => (hb rfl).2 q (by first | omega | cases c33)⟩) h⟩, C1, T1, hI1, hF1, hs1, hl1, hp1⟩
      · refine v_iload_n F dX5_isOther_32 rfl ?_
        refine v_if_ne_b F 63 dX5_isOther_33 (by decide) (fun c33 => ?_) (fun c33 => ?_)
        · refine v_iload_n F dX5_isOther_63 rfl ?_
          exact v_zret F hr dX5_isOther_64 bI_n (Nat.le_of_ble_eq_true rfl) (Nat.le_of_ble_eq_true rfl) ⟨b, rfl, ⟨fun h => hbt h, fun h => by cases b with | true => rfl | false => exact absurd (listEq.mp ⟨(hb rfl).1, fun q hq => (hb rfl).2 q (by first | omega | cases c33)⟩) h⟩, C1, T1, hI1, hF1, hs1, hl1, hp1⟩
        · refine v_aload_n F dX5_isOther_36 rfl rfl ?_
          refine v_get F 5 15 fo_X5_isOther_47 dX5_isOther_37 hI1.x rfl ?_
          refine v_iload_n F dX5_isOther_40 rfl ?_
          refine v_iald_n F dX5_isOther_41 (hI1.r (f := 15) (sz := 24) (bl := 0) (by simp [isRow]) (by decide) (by decide)) (by first | omega | exact Nat.lt_trans (gd_lt huB (by omega)) (by decide) | exact Nat.lt_trans (gd_lt hoB (by omega)) (by decide)) (by decide) ?_
          refine V.toI (hp1 i (by omega)) ?_
          refine v_aload_n F dX5_isOther_42 rfl rfl ?_
          refine v_get F 5 17 fo_X5_isOther_50 dX5_isOther_43 hI1.x rfl ?_
          refine v_iload_n F dX5_isOther_46 rfl ?_
          refine v_iald_n F dX5_isOther_47 (hI1.r (f := 17) (sz := 24) (bl := 0) (by simp [isRow]) (by decide) (by decide)) (by first | omega | exact Nat.lt_trans (gd_lt huB (by omega)) (by decide) | exact Nat.lt_trans (gd_lt hoB (by omega)) (by decide)) (by decide) ?_
          refine V.toI (show C1 17 i = nI (u.getD i 0) by rw [hs1.1 17 (by decide) (by decide)]; exact hu17 i (by have := hbf (by assumption); omega)) ?_
          refine v_icmp_eq_n F 55 dX5_isOther_48 (by decide) (by first | exact Nat.lt_trans (gd_lt (i := i) hoB (by omega)) (by decide) | exact Nat.lt_trans (gd_lt (i := i) huB (by have := hbf c33; omega)) (by decide)) (by first | exact Nat.lt_trans (gd_lt (i := i) hoB (by omega)) (by decide) | exact Nat.lt_trans (gd_lt (i := i) huB (by have := hbf c33; omega)) (by decide)) (fun c48 => ?_) (fun c48 => ?_)
          · refine v_iconst (v := nI 0) F dX5_isOther_55 (by decide) ?_
            first | refine V.toI (show nI 1 = bI true from rfl) ?_ | refine V.toI (show nI 0 = bI false from rfl) ?_
            refine v_istore_n F dX5_isOther_56 (Nat.le_of_ble_eq_true rfl) (ok2_d rfl) ?_
            refine v_iinc1 F dX5_isOther_57 rfl (ok2_d rfl) ?_
            refine v_goto F 24 dX5_isOther_60 (by decide) ?_
            first | exact ih (by omega) true (fun _ h => by rw [h] at c48; exact c48 rfl) (fun h => by cases h) | exact ih (by omega) false (fun h => by cases h) (fun _ => ⟨hbf c33, fun q hq => by rcases Nat.lt_or_ge q i with h | h; exact (hb c33).2 q h; rw [show q = i by omega]; exact c48⟩)
          · refine v_iconst (v := nI 1) F dX5_isOther_51 (by decide) ?_
            refine v_goto F 56 dX5_isOther_52 (by decide) ?_
            first | refine V.toI (show nI 1 = bI true from rfl) ?_ | refine V.toI (show nI 0 = bI false from rfl) ?_
            refine v_istore_n F dX5_isOther_56 (Nat.le_of_ble_eq_true rfl) (ok2_d rfl) ?_
            refine v_iinc1 F dX5_isOther_57 rfl (ok2_d rfl) ?_
            refine v_goto F 24 dX5_isOther_60 (by decide) ?_
            first | exact ih (by omega) true (fun _ h => by rw [h] at c48; exact c48 rfl) (fun h => by cases h) | exact ih (by omega) false (fun h => by cases h) (fun _ => ⟨hbf c33, fun q hq => by rcases Nat.lt_or_ge q i with h | h; exact (hb c33).2 q h; rw [show q = i by omega]; exact c48⟩)
    first | exact lp 0 (Nat.zero_le _) true (fun _ h => c13 (congrArg List.length h)) (fun h => by cases h) | exact lp 0 (Nat.zero_le _) false (fun h => by cases h) (fun _ => ⟨c13, fun q h => absurd h (Nat.not_lt_zero _)⟩)
def rmX5_standing : Room := { frames := 0, cells := 0, slots := 0, locals := 0 }
theorem hd_X5_standing : yX5_standing.cls = (RX5, TX5, 21).1 ∧ yX5_standing.cls ≠ "java/lang/invoke/MethodHandle" ∧ yX5_standing.cls ≠ "java/lang/invoke/VarHandle" ∧ (parseMethodDescriptor yX5_standing.desc).map (fun d => d.parameters.length) = some 1 := by decide +kernel
theorem fo_X5_standing_41 : FO wsX5_standing RX5 41 5 12 := ⟨_, _, _, rfl, by decide, by decide +kernel, by decide +kernel⟩
theorem fo_X5_standing_44 : FO wsX5_standing RX5 44 5 13 := ⟨_, _, _, rfl, by decide, by decide +kernel, by decide +kernel⟩
theorem fo_X5_standing_110 : FO wsX5_standing RX5 110 5 10 := ⟨_, _, _, rfl, by decide, by decide +kernel, by decide +kernel⟩
set_option maxHeartbeats 4000000 in
set_option maxRecDepth 100000 in
theorem c_standing {l : Launch} {ω : Om} {M : MM} {Y : Nat → Nat} {C : Nat → Nat → Int32} {T : Nat → Nat} (hI : MI ω Y C T M) {P : FF} {k : Nat} (hT10 : T 10 = k) (hCP : CPP C P k) (hk : k ≤ 20) (hWP : ∀ i j, P i j < 128) {p : Nat} (hp : p < 5) : Ct l ω yX5_standing wsX5_standing rmX5_standing [.ref (Y 0), .int (nI p)] M (fun v M9 => v = some (.int (nI (cnt P p k 20))) ∧ M9 = M) 0 0 := by
  refine Ct.ofV (cc := cX5_standing) (maxL := 4) (ret := (some .int)) [some (.ref (Y 0)), some (.int (nI p)), none, none] (by decide) rfl (Nat.le_of_ble_eq_true rfl) rfl (Lc.av (av := [.ref (Y 0), .int (nI p)]) (k := 2) rfl) ?_
  intro σ F hl hr hname
  have F : Fx ω σ cX5_standing 4 wsX5_standing RX5 rmX5_standing := F
  refine v_iconst (v := nI 0) F dX5_standing_0 (by decide) ?_
  refine v_istore_n F dX5_standing_1 (Nat.le_of_ble_eq_true rfl) (ok2_d rfl) ?_
  refine v_iconst (v := nI 0) F dX5_standing_2 (by decide) ?_
  refine v_istore_n F dX5_standing_3 (Nat.le_of_ble_eq_true rfl) (ok2_d rfl) ?_
  have lp : ∀ i, i ≤ k → ∀ c, c = cnt P p k i → V ω σ M [some (.ref (Y 0)), some (.int (nI p)), some (.int (nI c)), some (.int (nI i))] 0 0 (BQ ω σ (fun v M9 => v = some (.int (nI (cnt P p k 20))) ∧ M9 = M) 0 0) 4 [] := by
    refine loop_up k _ (fun i hi ih => ?_)
    intro c hc
    refine v_iload_n F dX5_standing_4 rfl ?_
    refine v_aload_n F dX5_standing_5 rfl rfl ?_
    refine v_get F 5 10 fo_X5_standing_110 dX5_standing_6 hI.x rfl ?_
    refine V.toI (show nI (T 10) = nI k by rw [hT10]) ?_
    refine v_icmp_ge_n F 45 dX5_standing_9 (by decide) (by first | omega | exact Nat.lt_trans (hWP _ _) (by decide) | (have := cnt_le P p k i; omega)) (by first | omega | exact Nat.lt_trans (hWP _ _) (by decide) | (have := cnt_le P p k i; omega)) (fun c9 => ?_) (fun c9 => ?_)
    · refine v_iload_n F dX5_standing_45 rfl ?_
      exact v_iret F hr dX5_standing_46 (Nat.le_of_ble_eq_true rfl) (Nat.le_of_ble_eq_true rfl) ⟨by rw [hc, show i = k by omega, ← cnt_k (P := P) (p := p) (20 - k), show k + (20 - k) = 20 by omega], rfl⟩
    · have hi2 : i < k := by omega
      refine v_iload_n F dX5_standing_12 rfl ?_
      refine v_aload_n F dX5_standing_13 rfl rfl ?_
      refine v_get F 5 12 fo_X5_standing_41 dX5_standing_14 hI.x rfl ?_
      refine v_iload_n F dX5_standing_17 rfl ?_
      refine v_iald_n F dX5_standing_18 (hI.r (f := 12) (sz := 20) (bl := 0) (by simp [isRow]) (by decide) (by decide)) (by first | omega | exact Nat.lt_trans (hWP _ _) (by decide) | (have := cnt_le P p k i; omega)) (by decide) ?_
      refine V.toI ((hCP i hi2).2.1) ?_
      refine v_iload_n F dX5_standing_19 rfl ?_
      refine v_icmp_ne_n F 36 dX5_standing_20 (by decide) (by first | omega | exact Nat.lt_trans (hWP _ _) (by decide) | (have := cnt_le P p k i; omega)) (by first | omega | exact Nat.lt_trans (hWP _ _) (by decide) | (have := cnt_le P p k i; omega)) (fun c20 => ?_) (fun c20 => ?_)
      · refine v_iconst (v := nI 0) F dX5_standing_36 (by decide) ?_
        refine v_iadd_n F dX5_standing_37 ?_
        refine v_istore_n F dX5_standing_38 (Nat.le_of_ble_eq_true rfl) (ok2_d rfl) ?_
        refine v_iinc1 F dX5_standing_39 rfl (ok2_d rfl) ?_
        refine v_goto F 4 dX5_standing_42 (by decide) ?_
        first | exact ih (by omega) (c + 1) (by unfold cnt; rw [fl_s, if_pos ⟨hi2, by omega, by omega⟩, hc]; rfl) | exact ih (by omega) (c + 0) (by unfold cnt; rw [fl_s, if_neg (fun h => by omega)]; exact hc)
      · refine v_aload_n F dX5_standing_23 rfl rfl ?_
        refine v_get F 5 13 fo_X5_standing_44 dX5_standing_24 hI.x rfl ?_
        refine v_iload_n F dX5_standing_27 rfl ?_
        refine v_zald_n F dX5_standing_28 (hI.r (f := 13) (sz := 20) (bl := 1) (by simp [isRow]) (by decide) (by decide)) (by first | omega | exact Nat.lt_trans (hWP _ _) (by decide) | (have := cnt_le P p k i; omega)) (by decide) ?_
        refine V.toI ((hCP i hi2).2.2) ?_
        refine v_if_ne_n F 36 dX5_standing_29 (by decide) (by first | omega | exact Nat.lt_trans (hWP _ _) (by decide) | (have := cnt_le P p k i; omega)) (fun c29 => ?_) (fun c29 => ?_)
        · refine v_iconst (v := nI 0) F dX5_standing_36 (by decide) ?_
          refine v_iadd_n F dX5_standing_37 ?_
          refine v_istore_n F dX5_standing_38 (Nat.le_of_ble_eq_true rfl) (ok2_d rfl) ?_
          refine v_iinc1 F dX5_standing_39 rfl (ok2_d rfl) ?_
          refine v_goto F 4 dX5_standing_42 (by decide) ?_
          first | exact ih (by omega) (c + 1) (by unfold cnt; rw [fl_s, if_pos ⟨hi2, by omega, by omega⟩, hc]; rfl) | exact ih (by omega) (c + 0) (by unfold cnt; rw [fl_s, if_neg (fun h => by omega)]; exact hc)
        · refine v_iconst (v := nI 1) F dX5_standing_32 (by decide) ?_
          refine v_goto F 37 dX5_standing_33 (by decide) ?_
          refine v_iadd_n F dX5_standing_37 ?_
          refine v_istore_n F dX5_standing_38 (Nat.le_of_ble_eq_true rfl) (ok2_d rfl) ?_
          refine v_iinc1 F dX5_standing_39 rfl (ok2_d rfl) ?_
          refine v_goto F 4 dX5_standing_42 (by decide) ?_
          first | exact ih (by omega) (c + 1) (by unfold cnt; rw [fl_s, if_pos ⟨hi2, by omega, by omega⟩, hc]; rfl) | exact ih (by omega) (c + 0) (by unfold cnt; rw [fl_s, if_neg (fun h => by omega)]; exact hc)
  exact lp 0 (Nat.zero_le _) 0 rfl
def rmX5_falls : Room := { frames := 5, cells := 0, slots := 0, locals := 120 }
theorem hd_X5_falls : yX5_falls.cls = (RX5, TX5, 21).1 ∧ yX5_falls.cls ≠ "java/lang/invoke/MethodHandle" ∧ yX5_falls.cls ≠ "java/lang/invoke/VarHandle" ∧ (parseMethodDescriptor yX5_falls.desc).map (fun d => d.parameters.length) = some 1 := by decide +kernel
theorem fo_X5_falls_41 : FO wsX5_falls RX5 41 5 12 := ⟨_, _, _, rfl, by decide, by decide +kernel, by decide +kernel⟩
theorem fo_X5_falls_44 : FO wsX5_falls RX5 44 5 13 := ⟨_, _, _, rfl, by decide, by decide +kernel, by decide +kernel⟩
theorem fo_X5_falls_110 : FO wsX5_falls RX5 110 5 10 := ⟨_, _, _, rfl, by decide, by decide +kernel, by decide +kernel⟩
set_option maxHeartbeats 4000000 in
set_option maxRecDepth 100000 in
theorem c_falls {l : Launch} {ω : Om} {M : MM} {Y : Nat → Nat} {C : Nat → Nat → Int32} {T : Nat → Nat} (hI : MI ω Y C T M) {B : FF} {n : Nat} (hT0 : T 0 = n) (hCB : CB C B n) (hB : WB B n) {W : Nat → Prop} (hWf : ∀ f, W (Y f)) (ρ : Nat → Nat) (hρ0 : ∀ i, ρ i < 24) (hρ : ∀ i y, i < n → B i 7 = y + 1 → ρ y < ρ i) {P : FF} {k : Nat} (hT10 : T 10 = k) (hCP : CPP C P k) (hk : k ≤ 20) (hWP : ∀ i j, P i j < 128) {p : Nat} (hp : p < 5) (hFn : Fnd B n p) {u : List Nat} (hu16 : T 16 = u.length) (hu17 : Pf (C 17) u) (hu24 : u.length ≤ 24) (huB : ∀ x, x ∈ u → x < 128) (hoB : ∀ x, x ∈ ordF B n p → x < 128) : Ct l ω yX5_falls wsX5_falls rmX5_falls [.ref (Y 0), .int (nI p)] M (fun v M9 => ∃ C9 T9 P9 c9, v = some (.int (nI c9)) ∧ MI ω Y C9 T9 M9 ∧ Fr W M M9 ∧ (∀ f, f ≠ 13 → f ≠ 15 → f ≠ 19 → C9 f = C f) ∧ (∀ f, f ≠ 14 → f ≠ 18 → T9 f = T f) ∧ CPP C9 P9 k ∧ Fall P p k (ordF B n p = u) c9 P9 ∧ (∀ q, k ≤ q → C9 13 q = C 13 q)) 0 0 := by
  refine Ct.ofV (cc := cX5_falls) (maxL := 4) (ret := (some .int)) [some (.ref (Y 0)), some (.int (nI p)), none, none] (by decide) rfl (Nat.le_of_ble_eq_true rfl) rfl (Lc.av (av := [.ref (Y 0), .int (nI p)]) (k := 2) rfl) ?_
  intro σ F hl hr hname
  have F : Fx ω σ cX5_falls 4 wsX5_falls RX5 rmX5_falls := F
  have hn : n ≤ 24 := hB.1
  have hW : ∀ i j, B i j < 128 := hB.2.1
  refine v_aload_n F dX5_falls_0 rfl rfl ?_
  refine v_iload_n F dX5_falls_1 rfl ?_
  refine v_callV F 1 [_] rfl rfl rfl (c_isOther hI hT0 hCB hB hWf ρ hρ0 hρ hp hFn hu16 hu17 hu24 huB hoB) gX5_falls_X5_isOther rfl hd_X5_isOther ⟨⟨rfl, rfl⟩, ⟨(Nat.le_of_ble_eq_true rfl), (Nat.le_of_ble_eq_true rfl)⟩, ⟨(Nat.le_of_ble_eq_true rfl), (Nat.le_of_ble_eq_true rfl)⟩, (Nat.le_of_ble_eq_true rfl)⟩ hI.x rfl dX5_falls_2 (fun v2 M2 q2 => ?_)
  obtain ⟨b2, rfl, hb2, C1, T1, hI1, hF1, hs1, hl1, hp1⟩ := q2
  have hCP1 : CPP C1 P k := fun i hi => by rw [hs1.1 11 (by decide) (by decide), hs1.1 12 (by decide) (by decide), hs1.1 13 (by decide) (by decide)]; exact hCP i hi
  refine v_if_ne_b F 10 dX5_falls_5 (by decide) (fun c5 => ?_) (fun c5 => ?_)
  · refine v_aload_n F dX5_falls_10 rfl rfl ?_
    refine v_iload_n F dX5_falls_11 rfl ?_
    refine v_callV F 1 [_] rfl rfl rfl (c_standing hI1 (by rw [hs1.2 10 (by decide) (by decide), hT10]) hCP1 hk hWP hp) gX5_falls_X5_standing rfl hd_X5_standing ⟨⟨rfl, rfl⟩, ⟨(Nat.le_of_ble_eq_true rfl), (Nat.le_of_ble_eq_true rfl)⟩, ⟨(Nat.le_of_ble_eq_true rfl), (Nat.le_of_ble_eq_true rfl)⟩, (Nat.le_of_ble_eq_true rfl)⟩ hI1.x rfl dX5_falls_12 (fun v12 M12 q12 => ?_)
    obtain ⟨rfl, e12⟩ := q12
    replace e12 := e12.symm
    subst e12
    refine v_istore_n F dX5_falls_15 (Nat.le_of_ble_eq_true rfl) (ok2_d rfl) ?_
    refine v_iconst (v := nI 0) F dX5_falls_16 (by decide) ?_
    refine v_istore_n F dX5_falls_17 (Nat.le_of_ble_eq_true rfl) (ok2_d rfl) ?_
    have lp : ∀ i, i ≤ k → ∀ C2 M2, MI ω Y C2 T1 M2 → Fr W M M2 → (∀ f, f ≠ 13 → C2 f = C1 f) → (∀ q, i ≤ q → C2 13 q = C1 13 q) → (∀ q, q < i → C2 13 q = nI (1 - lfP P p k q 2)) → V ω σ M2 [some (.ref (Y 0)), some (.int (nI p)), some (.int (nI (cnt P p k 20))), some (.int (nI i))] 0 0 (BQ ω σ (fun v M9 => ∃ C9 T9 P9 c9, v = some (.int (nI c9)) ∧ MI ω Y C9 T9 M9 ∧ Fr W M M9 ∧ (∀ f, f ≠ 13 → f ≠ 15 → f ≠ 19 → C9 f = C f) ∧ (∀ f, f ≠ 14 → f ≠ 18 → T9 f = T f) ∧ CPP C9 P9 k ∧ Fall P p k (ordF B n p = u) c9 P9 ∧ (∀ q, k ≤ q → C9 13 q = C 13 q)) 0 0) 18 [] := by
      refine loop_up k _ (fun i hi ih => ?_)
      intro C2 M2 hI2 hF2 hc2 h3 hq2
      refine v_iload_n F dX5_falls_18 rfl ?_
      refine v_aload_n F dX5_falls_19 rfl rfl ?_
      refine v_get F 5 10 fo_X5_falls_110 dX5_falls_20 hI2.x rfl ?_
      refine V.toI (show nI (T1 10) = nI k by rw [hs1.2 10 (by decide) (by decide), hT10]) ?_
      refine v_icmp_ge_n F 62 dX5_falls_23 (by decide) (by first | omega | exact Nat.lt_trans (hWP _ _) (by decide)) (by first | omega | exact Nat.lt_trans (hWP _ _) (by decide)) (fun c23 => ?_) (fun c23 => ?_)
      · refine v_iload_n F dX5_falls_62 rfl ?_
        exact v_iret F hr dX5_falls_63 (Nat.le_of_ble_eq_true rfl) (Nat.le_of_ble_eq_true rfl) ⟨C2, T1, lfP P p 20, _, rfl, hI2, hF2, fun f h0 h1 h2 => (hc2 f h0).trans (hs1.1 f h1 h2), hs1.2, fun q hq => ⟨by rw [hc2 11 (by decide)]; exact (hCP1 q hq).1, by rw [hc2 12 (by decide)]; exact (hCP1 q hq).2.1, by rw [lfP_k hk q hq]; exact hq2 q (by omega)⟩, Or.inr ⟨hb2.mp c5, rfl, rfl⟩, fun q hq => by rw [h3 q (by omega), hs1.1 13 (by decide) (by decide)]⟩
      · have hi2 : i < k := by omega
        refine v_aload_n F dX5_falls_26 rfl rfl ?_
        refine v_get F 5 13 fo_X5_falls_44 dX5_falls_27 hI2.x rfl ?_
        refine v_iload_n F dX5_falls_30 rfl ?_
        refine v_aload_n F dX5_falls_31 rfl rfl ?_
        refine v_get F 5 13 fo_X5_falls_44 dX5_falls_32 hI2.x rfl ?_
        refine v_iload_n F dX5_falls_35 rfl ?_
        refine v_zald_n F dX5_falls_36 (hI2.r (f := 13) (sz := 20) (bl := 1) (by simp [isRow]) (by decide) (by decide)) (by first | omega | exact Nat.lt_trans (hWP _ _) (by decide)) (by decide) ?_
        refine V.toI (show C2 13 i = nI (1 - P i 2) by rw [h3 i (Nat.le_refl _)]; exact (hCP1 i hi2).2.2) ?_
        refine v_if_ne_n F 50 dX5_falls_37 (by decide) (by first | omega | exact Nat.lt_trans (hWP _ _) (by decide)) (fun c37 => ?_) (fun c37 => ?_)
        · refine v_iconst (v := nI 1) F dX5_falls_50 (by decide) ?_
          refine v_goto F 55 dX5_falls_51 (by decide) ?_
          refine v_zast_n F dX5_falls_55 (hI2.r (f := 13) (sz := 20) (bl := 1) (by simp [isRow]) (by decide) (by decide)) (by first | omega | exact Nat.lt_trans (hWP _ _) (by decide)) (by decide) ?_
          refine v_iinc1 F dX5_falls_56 rfl (ok2_d rfl) ?_
          refine v_goto F 18 dX5_falls_59 (by decide) ?_
          refine ih (by omega) _ _ (hI2.setC (f := 13) (sz := 20) (bl := 1) (by simp [isRow]) (by decide) (by decide) _) (hF2.up (hWf 13)) (fun f h => by rw [uC_n h]; exact hc2 f h) (fun q hq => by rw [uC_s, pk_un (by omega)]; exact h3 q (by omega)) (fun q h => ?_)
          rw [uC_s]
          by_cases h2 : q = i
          · rw [h2, pk_us]
            unfold lfP
            first | ((have h0 : P i 2 = 0 := by omega); split; rfl; rw [h0]; rfl) | (rw [if_pos ⟨rfl, hi2, c47⟩]; rfl) | (rw [if_neg (fun h9 => c47 h9.2.2), c37]; rfl)
          · rw [pk_un h2]; exact hq2 q (by omega)
        · refine v_aload_n F dX5_falls_40 rfl rfl ?_
          refine v_get F 5 12 fo_X5_falls_41 dX5_falls_41 hI2.x rfl ?_
          refine v_iload_n F dX5_falls_44 rfl ?_
          refine v_iald_n F dX5_falls_45 (hI2.r (f := 12) (sz := 20) (bl := 0) (by simp [isRow]) (by decide) (by decide)) (by first | omega | exact Nat.lt_trans (hWP _ _) (by decide)) (by decide) ?_
          refine V.toI (show C2 12 i = nI (P i 1) by rw [hc2 12 (by decide)]; exact (hCP1 i hi2).2.1) ?_
          refine v_iload_n F dX5_falls_46 rfl ?_
          refine v_icmp_ne_n F 54 dX5_falls_47 (by decide) (by first | omega | exact Nat.lt_trans (hWP _ _) (by decide)) (by first | omega | exact Nat.lt_trans (hWP _ _) (by decide)) (fun c47 => ?_) (fun c47 => ?_)
          · refine v_iconst (v := nI 0) F dX5_falls_54 (by decide) ?_
            refine v_zast_n F dX5_falls_55 (hI2.r (f := 13) (sz := 20) (bl := 1) (by simp [isRow]) (by decide) (by decide)) (by first | omega | exact Nat.lt_trans (hWP _ _) (by decide)) (by decide) ?_
            refine v_iinc1 F dX5_falls_56 rfl (ok2_d rfl) ?_
            refine v_goto F 18 dX5_falls_59 (by decide) ?_
            refine ih (by omega) _ _ (hI2.setC (f := 13) (sz := 20) (bl := 1) (by simp [isRow]) (by decide) (by decide) _) (hF2.up (hWf 13)) (fun f h => by rw [uC_n h]; exact hc2 f h) (fun q hq => by rw [uC_s, pk_un (by omega)]; exact h3 q (by omega)) (fun q h => ?_)
            rw [uC_s]
            by_cases h2 : q = i
            · rw [h2, pk_us]
              unfold lfP
              first | ((have h0 : P i 2 = 0 := by omega); split; rfl; rw [h0]; rfl) | (rw [if_pos ⟨rfl, hi2, c47⟩]; rfl) | (rw [if_neg (fun h9 => c47 h9.2.2), c37]; rfl)
            · rw [pk_un h2]; exact hq2 q (by omega)
          · refine v_iconst (v := nI 1) F dX5_falls_50 (by decide) ?_
            refine v_goto F 55 dX5_falls_51 (by decide) ?_
            refine v_zast_n F dX5_falls_55 (hI2.r (f := 13) (sz := 20) (bl := 1) (by simp [isRow]) (by decide) (by decide)) (by first | omega | exact Nat.lt_trans (hWP _ _) (by decide)) (by decide) ?_
            refine v_iinc1 F dX5_falls_56 rfl (ok2_d rfl) ?_
            refine v_goto F 18 dX5_falls_59 (by decide) ?_
            refine ih (by omega) _ _ (hI2.setC (f := 13) (sz := 20) (bl := 1) (by simp [isRow]) (by decide) (by decide) _) (hF2.up (hWf 13)) (fun f h => by rw [uC_n h]; exact hc2 f h) (fun q hq => by rw [uC_s, pk_un (by omega)]; exact h3 q (by omega)) (fun q h => ?_)
            rw [uC_s]
            by_cases h2 : q = i
            · rw [h2, pk_us]
              unfold lfP
              first | ((have h0 : P i 2 = 0 := by omega); split; rfl; rw [h0]; rfl) | (rw [if_pos ⟨rfl, hi2, c47⟩]; rfl) | (rw [if_neg (fun h9 => c47 h9.2.2), c37]; rfl)
            · rw [pk_un h2]; exact hq2 q (by omega)
    exact lp 0 (Nat.zero_le _) _ _ hI1 hF1 (fun _ _ => rfl) (fun q _ => rfl) (fun q h => absurd h (Nat.not_lt_zero _))
  · refine v_iconst (v := nI 0) F dX5_falls_8 (by decide) ?_
    exact v_iret F hr dX5_falls_9 (Nat.le_of_ble_eq_true rfl) (Nat.le_of_ble_eq_true rfl) ⟨C1, T1, P, 0, rfl, hI1, hF1, fun f _ h1 h2 => hs1.1 f h1 h2, hs1.2, hCP1, Or.inl ⟨Decidable.byContradiction (fun h => by have := hb2.mpr h; rw [c5] at this; cases this), rfl, rfl⟩, fun q _ => by rw [hs1.1 13 (by decide) (by decide)]⟩
