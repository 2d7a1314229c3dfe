/-! the law: its loop, its start -/
theorem and31 (x : Int32) : ∃ op : Nat, op < 32 ∧ x &&& nI 31 = nI op := by
  refine ⟨x.toBitVec.toNat &&& 31, Nat.lt_of_le_of_lt Nat.and_le_right (by decide), ?_⟩
  have h : (x &&& nI 31).toBitVec = (nI (x.toBitVec.toNat &&& 31)).toBitVec := by
    rw [Int32.toBitVec_and, nI_bv, nI_bv]
    apply BitVec.eq_of_toNat_eq
    rw [BitVec.toNat_and, BitVec.toNat_ofNat, BitVec.toNat_ofNat]
    have h2 : x.toBitVec.toNat &&& 31 ≤ 31 := Nat.and_le_right
    rw [Nat.mod_eq_of_lt (show 31 < 2 ^ 32 by decide), Nat.mod_eq_of_lt (by omega)]
  exact Int32.toBitVec_inj.mp h
theorem op_out : ∀ op, op < 32 → 18 ≤ op → 17 < (nI op).toInt := by decide +kernel
theorem cmp7 {n i : Nat} (hn : n < 2 ^ 30) (hi : i < 2 ^ 30) (h : ¬ nI n - nI 7 < nI i) : i + 7 ≤ n := by
  rw [Int32.lt_iff_toInt_lt, pk_sub_toInt hn (by decide), nI_toInt (by omega)] at h
  omega
theorem inc7 {j : Nat} : nI (7 * j) + Int32.ofInt 7 = nI (7 * (j + 1)) := by
  have : Int32.ofInt 7 = nI 7 := by decide
  rw [this, nI_add, show 7 * j + 7 = 7 * (j + 1) by omega]
set_option maxHeartbeats 4000000 in
set_option maxRecDepth 100000 in
theorem law_loop {ω : Om} {σ : Sg} (F : Fx ω σ cL_law 7 wsL_law RL room_1) (hl9 : σ.2.1.stackTraces = false) (hN : Nc3 σ.2.2.2.2.1) {b n : Nat} {xs : Nat → Int32} (hX : va_X b n xs σ.2.2.2.2.1 σ.2.2.2.2.1.heap) (hb : b < σ.2.2.2.2.1.heap.size) (hz : ω.2.1 = σ.2.2.2.2.1.heap.size) (hn : n ≤ 3584) {a y0 O : Nat} {Q : State → Prop}
    (hend : ∀ (M : MM) (L : List (Option Value)) (kc ks : Nat), L.length = 7 → kc ≤ 601024 → ks ≤ 7293034 → V ω σ M L kc ks Q 1343 []) :
    ∀ d j t M w5 w6, n + 1 ≤ 7 * j + d → 7 * j ≤ n → LI ω a y0 O t M → V ω σ M [some (.ref b), some (.ref a), some (.ref y0), some (.ref O), some (.int (nI (7 * j))), w5, w6] (40 + 5 * j) (700 + 34 * j) Q 23 [] := by
  intro d
  induction d with
  | zero => intro j t M w5 w6 h1 h2; omega
  | succ d ih =>
    intro j t M w5 w6 h1 h2 hLI
    refine v_iload F dL_law_23 rfl ?_
    refine v_aload_n F dL_law_25 rfl rfl ?_
    refine v_slen F hX hb hz dL_law_26 ?_
    refine v_bipush (v := nI 7) F dL_law_27 (by decide) ?_
    refine v_isub F dL_law_29 ?_
    refine v_icmp_gt F 1343 dL_law_30 (by decide) (fun c30 => ?_) (fun c30 => ?_)
    · exact hend _ _ _ _ rfl (by omega) (by omega)
    · have hj : 7 * j + 7 ≤ n := cmp7 (by omega) (by omega) c30
      have tail : ∀ kk M2 w5 w6 kc2 ks2, kc2 ≤ 40 + 5 * (j + 1) → ks2 ≤ 700 + 34 * (j + 1) → LI ω a y0 O kk M2 → V ω σ M2 [some (.ref b), some (.ref a), some (.ref y0), some (.ref O), some (.int (nI (7 * j))), w5, w6] kc2 ks2 Q 1337 [] := by
        intro kk M2 w5 w6 kc2 ks2 hk1 hk2 h
        refine v_widen F (40 + 5 * (j + 1)) (700 + 34 * (j + 1)) hk1 hk2 ?_
        refine v_iinc (v := nI (7 * (j + 1))) F dL_law_1337 rfl inc7 (ok2_d rfl) ?_
        refine v_goto F 23 dL_law_1340 (by decide) ?_
        exact ih (j + 1) kk M2 w5 w6 (by omega) (by omega) h
      refine v_aload_n F dL_law_33 rfl rfl ?_
      refine v_iload F dL_law_34 rfl ?_
      refine v_sld_n F hX hb hz (by omega) (by omega) dL_law_36 ?_
      refine v_bipush (v := nI 31) F dL_law_37 (by decide) ?_
      refine v_iand F dL_law_39 ?_
      obtain ⟨op, hop, eop⟩ := and31 (xs (7 * j))
      refine V.toI eop ?_
      by_cases h18 : 18 ≤ op
      · refine v_tableOut F 1337 dL_law_40 (Or.inr (op_out op hop h18)) (by decide) ?_
        exact tail t M w5 w6 _ _ (by omega) (by omega) hLI
      · have hop2 : op < 18 := by omega
        clear eop h18 hop
        obtain ⟨A, Y, B, P, n', k', R, Z, rfl, rfl, hL⟩ := id hLI
        match op, hop2 with
        | 0, _ =>
          refine v_tableIn F 88 128 dL_law_40 (by decide) (by decide) (by decide) (by decide) ?_
          exact law_box F hN hX hb hz hn (by omega) (by omega) (by omega) (st_box hl9 hL _ _ _ _ _ _) (fun kk M2 w5 w6 h => tail kk M2 w5 w6 _ _ (by omega) (by omega) h)
        | 1, _ =>
          refine v_tableIn F 206 246 dL_law_40 (by decide) (by decide) (by decide) (by decide) ?_
          exact law_move F hN hX hb hz hn (by omega) (by omega) (by omega) (st_move hl9 hL _ _ _) (fun kk M2 w5 w6 h => tail kk M2 w5 w6 _ _ (by omega) (by omega) h)
        | 2, _ =>
          refine v_tableIn F 286 326 dL_law_40 (by decide) (by decide) (by decide) (by decide) ?_
          exact law_resize F hN hX hb hz hn (by omega) (by omega) (by omega) (st_resize hl9 hL _ _ _) (fun kk M2 w5 w6 h => tail kk M2 w5 w6 _ _ (by omega) (by omega) h)
        | 3, _ =>
          refine v_tableIn F 366 406 dL_law_40 (by decide) (by decide) (by decide) (by decide) ?_
          exact law_remove F hN hX hb hz hn (by omega) (by omega) (by omega) (st_remove hl9 hL _) (fun kk M2 w5 w6 h => tail kk M2 w5 w6 _ _ (by omega) (by omega) h)
        | 4, _ =>
          refine v_tableIn F 422 462 dL_law_40 (by decide) (by decide) (by decide) (by decide) ?_
          exact law_tie F hN hX hb hz hn (by omega) (by omega) (by omega) (st_tie hl9 hL _ _) (fun kk M2 w5 w6 h => tail kk M2 w5 w6 _ _ (by omega) (by omega) h)
        | 5, _ =>
          refine v_tableIn F 490 530 dL_law_40 (by decide) (by decide) (by decide) (by decide) ?_
          exact law_untie F hN hX hb hz hn (by omega) (by omega) (by omega) (st_untie hl9 hL _) (fun kk M2 w5 w6 h => tail kk M2 w5 w6 _ _ (by omega) (by omega) h)
        | 6, _ =>
          refine v_tableIn F 546 586 dL_law_40 (by decide) (by decide) (by decide) (by decide) ?_
          exact law_order F hN hX hb hz hn (by omega) (by omega) (by omega) (st_order hl9 hL _ _) (fun kk M2 w5 w6 h => tail kk M2 w5 w6 _ _ (by omega) (by omega) h)
        | 7, _ =>
          refine v_tableIn F 614 654 dL_law_40 (by decide) (by decide) (by decide) (by decide) ?_
          exact law_orderAnew F hN hX hb hz hn (by omega) (by omega) (by omega) (st_orderAnew hl9 hL _ _) (fun kk M2 w5 w6 h => tail kk M2 w5 w6 _ _ (by omega) (by omega) h)
        | 8, _ =>
          refine v_tableIn F 682 722 dL_law_40 (by decide) (by decide) (by decide) (by decide) ?_
          exact law_placeOf F hN hX hb hz hn (by omega) (by omega) (by omega) (st_placeOf hl9 hL _) (fun kk M2 w5 w6 h => tail kk M2 w5 w6 _ _ (by omega) (by omega) h)
        | 9, _ =>
          refine v_tableIn F 738 778 dL_law_40 (by decide) (by decide) (by decide) (by decide) ?_
          exact law_boxes F hN hX hb hz hn (by omega) (by omega) (by omega) (st_boxes hl9 hL _) (fun kk M2 w5 w6 h => tail kk M2 w5 w6 _ _ (by omega) (by omega) h)
        | 10, _ =>
          refine v_tableIn F 794 834 dL_law_40 (by decide) (by decide) (by decide) (by decide) ?_
          exact law_about F hN hX hb hz hn (by omega) (by omega) (by omega) (st_about hl9 hL _ _) (fun kk M2 w5 w6 h => tail kk M2 w5 w6 _ _ (by omega) (by omega) h)
        | 11, _ =>
          refine v_tableIn F 862 902 dL_law_40 (by decide) (by decide) (by decide) (by decide) ?_
          exact law_way F hN hX hb hz hn (by omega) (by omega) (by omega) (st_way hl9 hL _) (fun kk M2 w5 w6 h => tail kk M2 w5 w6 _ _ (by omega) (by omega) h)
        | 12, _ =>
          refine v_tableIn F 918 958 dL_law_40 (by decide) (by decide) (by decide) (by decide) ?_
          exact law_faults F hN hX hb hz hn (by omega) (by omega) (by omega) (st_faults hl9 hL _) (fun kk M2 w5 w6 h => tail kk M2 w5 w6 _ _ (by omega) (by omega) h)
        | 13, _ =>
          refine v_tableIn F 974 1014 dL_law_40 (by decide) (by decide) (by decide) (by decide) ?_
          exact law_faulty F hN hX hb hz hn (by omega) (by omega) (by omega) (st_faulty hl9 hL _) (fun kk M2 w5 w6 h => tail kk M2 w5 w6 _ _ (by omega) (by omega) h)
        | 14, _ =>
          refine v_tableIn F 1030 1070 dL_law_40 (by decide) (by decide) (by decide) (by decide) ?_
          exact law_approve F hN hX hb hz hn (by omega) (by omega) (by omega) (st_approve hl9 hL _ _) (fun kk M2 w5 w6 h => tail kk M2 w5 w6 _ _ (by omega) (by omega) h)
        | 15, _ =>
          refine v_tableIn F 1098 1138 dL_law_40 (by decide) (by decide) (by decide) (by decide) ?_
          exact law_stands F hN hX hb hz hn (by omega) (by omega) (by omega) (st_stands hl9 hL _) (fun kk M2 w5 w6 h => tail kk M2 w5 w6 _ _ (by omega) (by omega) h)
        | 16, _ =>
          refine v_tableIn F 1161 1201 dL_law_40 (by decide) (by decide) (by decide) (by decide) ?_
          exact law_approvers F hN hX hb hz hn (by omega) (by omega) (by omega) (st_approvers hl9 hL _) (fun kk M2 w5 w6 h => tail kk M2 w5 w6 _ _ (by omega) (by omega) h)
        | 17, _ =>
          refine v_tableIn F 1217 1257 dL_law_40 (by decide) (by decide) (by decide) (by decide) ?_
          exact law_breaks F hN hX hb hz hn (by omega) (by omega) (by omega) (st_breaks hl9 hL _ _ _) (fun kk M2 w5 w6 h => tail kk M2 w5 w6 _ _ (by omega) (by omega) h)
        | op + 18, h => exact absurd h (by omega)
theorem start_LI {ω : Om} {A : FF} {R9 : Nat → (Nat → Int32) × Nat} {Y : Nat → Nat} {M4 M12 : MM} {a8 a17 : Nat} {e8 : va_E} (hCI : CI ω A (fun _ _ => 0) (fun _ _ => 0) 0 0 R9 (fun z => ∃ i j, z = A i j) M4) (hAn : ∀ i j, M4 (A i j) ≠ none) (n8 : M4 a8 = none)
    (hY0 : Y 0 = a8) (hMS : MS ω Y (fun _ _ => 0) (fun _ _ => 0) 0 0 0 M12) (hYr : ∀ f, isRow f ∨ Y f = Y 0) (hYf : ∀ f, Y f = a8 ∨ (mup M4 a8 e8) (Y f) = none) (hold : ∀ z, (mup M4 a8 e8) z ≠ none → z ≠ a8 → M12 z = (mup M4 a8 e8) z) (n17 : M12 a17 = none) :
    LI ω (A 0 0) a8 a17 0 (mup M12 a17 (.inl (ω.2.2 2, 1, .inr (.inl (fun _ => 0))))) := by
  have hA8 : ∀ i j, A i j ≠ a8 := fun i j h => hAn i j (by rw [h]; exact n8)
  have e4 : ∀ i j, (mup M4 a8 e8) (A i j) = M4 (A i j) := fun i j => mup_n (hA8 i j)
  have e12 : ∀ i j, M12 (A i j) = M4 (A i j) := fun i j => (hold _ (by rw [e4]; exact hAn i j) (hA8 i j)).trans (e4 i j)
  have hAY : ∀ f i j, Y f ≠ A i j := fun f i j h => by
    rcases hYf f with h1 | h1
    · exact hA8 i j (h.symm.trans h1)
    · rw [h, e4] at h1; exact hAn i j h1
  have hA17 : ∀ i j, A i j ≠ a17 := fun i j h => hAn i j (by rw [← e12, h]; exact n17)
  have hY17 : ∀ f, Y f ≠ a17 := fun f h => hMS.has hYr f (by rw [h]; exact n17)
  refine ⟨A, Y, fun _ _ => 0, fun _ _ => 0, 0, 0, R9, _, rfl, hY0, hCI.fr (fun z ⟨i, j, h⟩ => ?_), hMS.fr (fun f => mup_n (hY17 f)), B0_GB, P0_GP, fun f ⟨i, j, h⟩ => hAY f i j h, fun ⟨i, j, h⟩ => hA17 i j h.symm, hY17, hYr, _, mup_s⟩
  rw [h, mup_n (hA17 i j), e12]
set_option maxHeartbeats 4000000 in
set_option maxRecDepth 100000 in
theorem law_body {ω : Om} {σ : Sg} (F : Fx ω σ cL_law 7 wsL_law RL room_1) (hl9 : σ.2.1.stackTraces = false) (hN : Nc3 σ.2.2.2.2.1) (hAO : AO3 σ.2.2.2.2.1) {b n : Nat} {xs : Nat → Int32} (hX : va_X b n xs σ.2.2.2.2.1 σ.2.2.2.2.1.heap) (hb : b < σ.2.2.2.2.1.heap.size) (hz : ω.2.1 = σ.2.2.2.2.1.heap.size) (hn : n ≤ 3584) {Q : State → Prop}
    (hend : ∀ (M : MM) (L : List (Option Value)) (kc ks : Nat), L.length = 7 → kc ≤ 601024 → ks ≤ 7293034 → V ω σ M L kc ks Q 1343 []) : V ω σ (fun _ => none) [some (.ref b), none, none, none, none, none, none] 0 0 Q 0 [] := by
  refine v_new F 4 tyX4 [.null, .int 0, .null, .null, .null, .null, .int 0] rfl inlX4 tyX4_ok (by decide +kernel) (by decide +kernel) (by decide +kernel) (fun j hj => by rcases (show j = 0 ∨ j = 1 ∨ j = 2 ∨ j = 3 ∨ j = 4 ∨ j = 5 ∨ j = 6 by omega) with rfl | rfl | rfl | rfl | rfl | rfl | rfl <;> rfl) dL_law_0 ⟨(Nat.le_of_ble_eq_true rfl), (Nat.le_of_ble_eq_true rfl)⟩ (fun a0 n0 => ?_)
  refine v_dup F dL_law_3 rfl ?_
  refine v_callIA F hAO 0 [] rfl rfl rfl (c_X4_init mup_s) gL_law_X4_init rfl hd_X4_init ⟨⟨rfl, rfl⟩, ⟨(Nat.le_of_ble_eq_true rfl), (Nat.le_of_ble_eq_true rfl)⟩, ⟨(Nat.le_of_ble_eq_true rfl), (Nat.le_of_ble_eq_true rfl)⟩, (Nat.le_of_ble_eq_true rfl)⟩ (by decide +kernel) (by decide +kernel) rfl (by decide +kernel) dL_law_4 (fun v4 M4 q4 => ?_)
  obtain ⟨rfl, A, R9, hA0, hCI, hAn, hAf, -⟩ := q4
  subst hA0
  refine v_astore_n F dL_law_7 rfl (Nat.le_of_ble_eq_true rfl) (ok2_d rfl) ?_
  refine v_new F 5 tyX5 [.int 0, .null, .null, .null, .null, .null, .null, .null, .null, .null, .int 0, .null, .null, .null, .int 0, .null, .int 0, .null, .int 0, .null, .int 0] rfl inlX5 tyX5_ok (by decide +kernel) (by decide +kernel) (by decide +kernel) (fun j hj => by rcases (show j = 0 ∨ j = 1 ∨ j = 2 ∨ j = 3 ∨ j = 4 ∨ j = 5 ∨ j = 6 ∨ j = 7 ∨ j = 8 ∨ j = 9 ∨ j = 10 ∨ j = 11 ∨ j = 12 ∨ j = 13 ∨ j = 14 ∨ j = 15 ∨ j = 16 ∨ j = 17 ∨ j = 18 ∨ j = 19 ∨ j = 20 by omega) with rfl | rfl | rfl | rfl | rfl | rfl | rfl | rfl | rfl | rfl | rfl | rfl | rfl | rfl | rfl | rfl | rfl | rfl | rfl | rfl | rfl <;> rfl) dL_law_8 ⟨(Nat.le_of_ble_eq_true rfl), (Nat.le_of_ble_eq_true rfl)⟩ (fun a8 n8 => ?_)
  refine v_dup F dL_law_11 rfl ?_
  refine v_callI F 0 [] rfl rfl rfl (c_X5_init mup_s) gL_law_X5_init rfl hd_X5_init ⟨⟨rfl, rfl⟩, ⟨(Nat.le_of_ble_eq_true rfl), (Nat.le_of_ble_eq_true rfl)⟩, ⟨(Nat.le_of_ble_eq_true rfl), (Nat.le_of_ble_eq_true rfl)⟩, (Nat.le_of_ble_eq_true rfl)⟩ (by decide +kernel) (by decide +kernel) rfl (by decide +kernel) dL_law_12 (fun v12 M12 q12 => ?_)
  obtain ⟨rfl, Y, hY0, hMS, hYr, hYf, hold⟩ := q12
  refine v_astore_n F dL_law_15 rfl (Nat.le_of_ble_eq_true rfl) (ok2_d rfl) ?_
  refine v_iconst (v := nI 1) F dL_law_16 (by decide) ?_
  refine v_newa F 2 (atype := .long) (ty := .long) rfl (by decide +kernel) rfl (fun C h => by cases h) (n := 1) (by decide) (.inr (.inl (fun _ => 0))) (fun _ => rfl) (by decide) dL_law_17 ⟨(Nat.le_of_ble_eq_true rfl), (Nat.le_of_ble_eq_true rfl)⟩ (fun a17 n17 => ?_)
  refine v_astore_n F dL_law_19 rfl (Nat.le_of_ble_eq_true rfl) (ok2_d rfl) ?_
  refine v_iconst (v := nI 0) F dL_law_20 (by decide) ?_
  refine v_istore F dL_law_21 (Nat.le_of_ble_eq_true rfl) (ok2_d rfl) ?_
  refine v_widen F (40 + 5 * 0) (700 + 34 * 0) (by omega) (by omega) ?_
  exact law_loop F hl9 hN hX hb hz hn hend (n + 1) 0 0 _ none none (by omega) (Nat.zero_le _) (start_LI hCI hAn n8 hY0 hMS hYr hYf hold n17)
