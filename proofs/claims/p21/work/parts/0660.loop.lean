/-! the law: its loop, its start -/
theorem start_LS {ω : Om} {A : FF} {R9 : Nat → (Nat → Int32) × Nat} {M4 : MM} {a9 a14 a19 a25 : Nat} {e9 e14 e19 e25 : va_E} (hCI : CI ω A (fun _ _ => 0) (fun _ _ => 0) 0 0 R9 (fun z => ∃ i j, z = A i j) M4) (hAn : ∀ i j, M4 (A i j) ≠ none) (h9 : e9 = .inl (ω.2.2 0, 3, .inl (fun _ => 0))) (h14 : e14 = .inl (ω.2.2 0, 25, .inl (fun _ => 0))) (h19 : e19 = .inl (ω.2.2 0, 21, .inl (fun _ => 0))) (h25 : e25 = .inl (ω.2.2 0, 21, .inl (fun _ => 0)))
    (n9 : M4 a9 = none) (n14 : mup M4 a9 e9 a14 = none) (n19 : mup (mup M4 a9 e9) a14 e14 a19 = none) (n25 : mup (mup (mup M4 a9 e9) a14 e14) a19 e19 a25 = none) :
    LSt ω a9 a14 a19 a25 A (fun _ _ => 0) (fun _ _ => 0) 0 0 R9 (fun z => ∃ i j, z = A i j) (fun _ => 0) (fun _ => 0) (fun _ => 0) (fun _ => 0) (mup (mup (mup (mup M4 a9 e9) a14 e14) a19 e19) a25 e25) ∧ D4 a9 a14 a19 a25 := by
  have ne : ∀ {M : MM} {a b : Nat} {e : va_E}, mup M a e b = none → b ≠ a ∧ M b = none := by
    intro M a b e h
    have h1 : b ≠ a := fun h2 => by rw [h2, mup_s] at h; cases h
    rw [mup_n h1] at h
    exact ⟨h1, h⟩
  obtain ⟨d1, m14⟩ := ne n14
  obtain ⟨d4, m19⟩ := ne n19
  obtain ⟨d2, m19⟩ := ne m19
  obtain ⟨d6, m25⟩ := ne n25
  obtain ⟨d5, m25⟩ := ne m25
  obtain ⟨d3, m25⟩ := ne m25
  have hz : ∀ {a : Nat}, M4 a = none → ∀ i j, A i j ≠ a := fun h i j h2 => hAn i j (by rw [h2]; exact h)
  refine ⟨⟨hCI.fr (fun z ⟨i, j, h⟩ => ?_), B0_GB, P0_GP, fun i hi => absurd hi (Nat.not_lt_zero _), ⟨fun ⟨i, j, h⟩ => hz n9 i j h.symm, fun ⟨i, j, h⟩ => hz m14 i j h.symm, fun ⟨i, j, h⟩ => hz m19 i j h.symm, fun ⟨i, j, h⟩ => hz m25 i j h.symm⟩, ⟨?_, ?_, ?_, ?_⟩, ⟨rfl, rfl⟩, fun i hi => absurd hi (Nat.not_lt_zero _), fun i hi => absurd hi (Nat.not_lt_zero _), fun i hi => absurd hi (Nat.not_lt_zero _)⟩, d1.symm, d2.symm, d3.symm, d4.symm, d5.symm, d6.symm⟩
  · rw [h, mup_n (hz m25 i j), mup_n (hz m19 i j), mup_n (hz m14 i j), mup_n (hz n9 i j)]
  · rw [mup_n d3.symm, mup_n d2.symm, mup_n d1.symm, mup_s, h9]
  · rw [mup_n d5.symm, mup_n d4.symm, mup_s, h14]
  · rw [mup_n d6.symm, mup_s, h19]
  · rw [mup_s, h25]
set_option maxHeartbeats 4000000 in
set_option maxRecDepth 100000 in
theorem law_loop {ω : Om} {σ : Sg} (F : Fx ω σ cL_law 8 wsL_law RL room_1) (hl9 : σ.2.1.stackTraces = false) (hN : Nc3 σ.2.2.2.2.1) {b n : Nat} {xs : Nat → Int32} (hX : va_X b n xs σ.2.2.2.2.1 σ.2.2.2.2.1.heap) (hb : b < σ.2.2.2.2.1.heap.size) (hz : ω.2.1 = σ.2.2.2.2.1.heap.size) (hn : n ≤ 260) {a G Pp Aa Ww : Nat} (hd : D4 G Pp Aa Ww) {Q : State → Prop}
    (hend : ∀ (M : MM) (L : List (Option Value)) (kc ks : Nat), L.length = 8 → kc ≤ 658063 → ks ≤ 7127581 → V ω σ M L kc ks Q 131 []) : ∀ j, j ≤ 50 → ∀ M, LW ω a G Pp Aa Ww M → V ω σ M [some (.ref b), some (.ref a), some (.ref G), some (.ref Pp), some (.ref Aa), some (.ref Ww), some (.int (nI 1)), some (.int (nI j))] (40 + 900 * j) (400 + 5400 * j) Q 47 [] := by
  have hzb : b < ω.2.1 := by omega
  refine loop_up 50 _ (fun j hj ih => ?_)
  intro M hLW
  refine v_iload F dL_law_47 rfl ?_
  refine v_bipush (v := nI 50) F dL_law_49 (by decide) ?_
  refine v_icmp_ge_n F 95 dL_law_51 (by decide) (by first | omega) (by first | omega) (fun c51 => ?_) (fun c51 => ?_)
  · refine v_iload F dL_law_95 rfl ?_
    refine v_if_eq_n F 135 dL_law_97 (by decide) (by first | omega) (fun c97 => ?_) (fun c97 => ?_)
    · exact absurd c97 (by decide)
    · obtain ⟨A, B, P, n2, k2, R, Z, fg, fp, fa, fw, eA, hS⟩ := hLW
      subst eA
      obtain ⟨hC, hG, hP, hQ, ⟨z1, z2, z3, z4⟩, ⟨hg, hpp, ha, hw⟩, ⟨h0g, h1g⟩, hfp, hfa, hfw⟩ := id hS
      refine v_aload_n F dL_law_100 rfl rfl ?_
      refine v_aload_n F dL_law_101 rfl rfl ?_
      refine v_aload_n F dL_law_102 rfl rfl ?_
      refine v_iconst (v := nI 2) F dL_law_103 (by decide) ?_
      refine v_callSM F hN 4 [_, _, _, _] rfl rfl rfl (c_isPage hl9 hC hG hg hpp z2 h0g hfp (by decide)) gL_law_L_isPage rfl hd_L_isPage ⟨⟨rfl, rfl⟩, ⟨(Nat.le_of_ble_eq_true rfl), (Nat.le_of_ble_eq_true rfl)⟩, ⟨(by show _ ≤ 658063; omega), (by show _ ≤ 7127581; omega)⟩, (Nat.le_of_ble_eq_true rfl)⟩ dL_law_104 (fun v104 M104 q104 => ?_)
      obtain ⟨rfl, R6, hC6, hF6⟩ := q104
      have hS6 := hS.anew hC6 hF6
      obtain ⟨-, -, -, -, -, ⟨hg6, hpp6, ha6, hw6⟩, -⟩ := id hS6
      refine v_if_eq_n F 135 dL_law_107 (by decide) (by first | omega) (fun c107 => ?_) (fun c107 => ?_)
      · exact absurd c107 (by decide)
      · refine v_aload_n F dL_law_110 rfl rfl ?_
        refine v_aload_n F dL_law_111 rfl rfl ?_
        refine v_aload F dL_law_112 rfl rfl ?_
        refine v_aload F dL_law_114 rfl rfl ?_
        refine v_callSM F hN 4 [_, _, _, _] rfl rfl rfl (c_areApprovals hl9 hC6 hP hQ hg6 ha6 hw6 h1g hfa hfw) gL_law_L_areApprovals rfl hd_L_areApprovals ⟨⟨rfl, rfl⟩, ⟨(Nat.le_of_ble_eq_true rfl), (Nat.le_of_ble_eq_true rfl)⟩, ⟨(by show _ ≤ 658063; omega), (by show _ ≤ 7127581; omega)⟩, (Nat.le_of_ble_eq_true rfl)⟩ dL_law_116 (fun v116 M116 q116 => ?_)
        obtain ⟨rfl, e116⟩ := q116
        replace e116 := e116.symm
        subst e116
        refine v_if_eq_n F 135 dL_law_119 (by decide) (by first | omega) (fun c119 => ?_) (fun c119 => ?_)
        · exact absurd c119 (by decide)
        · refine v_aload_n F dL_law_122 rfl rfl ?_
          refine v_aload_n F dL_law_123 rfl rfl ?_
          refine v_aload_n F dL_law_124 rfl rfl ?_
          refine v_callSM F hN 3 [_, _, _] rfl rfl rfl (c_areBoxes hl9 hC6 hG hg6 hpp6 h0g hfp) gL_law_L_areBoxes rfl hd_L_areBoxes ⟨⟨rfl, rfl⟩, ⟨(Nat.le_of_ble_eq_true rfl), (Nat.le_of_ble_eq_true rfl)⟩, ⟨(by show _ ≤ 658063; omega), (by show _ ≤ 7127581; omega)⟩, (Nat.le_of_ble_eq_true rfl)⟩ dL_law_125 (fun v125 M125 q125 => ?_)
          obtain ⟨rfl, e125⟩ := q125
          replace e125 := e125.symm
          subst e125
          refine v_if_eq_n F 135 dL_law_128 (by decide) (by first | omega) (fun c128 => ?_) (fun c128 => ?_)
          · exact absurd c128 (by decide)
          · exact hend _ _ _ _ rfl (by omega) (by omega)
  · refine v_iload F dL_law_54 rfl ?_
    refine v_if_eq_n F 95 dL_law_56 (by decide) (by first | omega) (fun c56 => ?_) (fun c56 => ?_)
    · exact absurd c56 (by decide)
    · obtain ⟨A, B, P, n2, k2, R, Z, fg, fp, fa, fw, eA, hS⟩ := hLW
      subst eA
      refine v_aload_n F dL_law_59 rfl rfl ?_
      refine v_aload_n F dL_law_60 rfl rfl ?_
      refine v_aload_n F dL_law_61 rfl rfl ?_
      refine v_aload F dL_law_62 rfl rfl ?_
      refine v_aload F dL_law_64 rfl rfl ?_
      refine v_aload_n F dL_law_66 rfl rfl ?_
      refine v_iconst (v := nI 2) F dL_law_67 (by decide) ?_
      refine v_iload F dL_law_68 rfl ?_
      refine v_imul_n F dL_law_70 ?_
      refine v_callSS F hX hb hzb 2 [_, _] rfl rfl rfl (h_at hzb (by omega) (by omega)) gL_law_L_at rfl hd_L_at ⟨⟨rfl, rfl⟩, ⟨(Nat.le_of_ble_eq_true rfl), (Nat.le_of_ble_eq_true rfl)⟩, ⟨(by show _ ≤ 658063; omega), (by show _ ≤ 7127581; omega)⟩, (Nat.le_of_ble_eq_true rfl)⟩ dL_law_71 (fun v71 M71 q71 => ?_)
      obtain ⟨x71, rfl, e71⟩ := q71
      replace e71 := e71.symm
      subst e71
      refine v_aload_n F dL_law_74 rfl rfl ?_
      refine v_iconst (v := nI 2) F dL_law_75 (by decide) ?_
      refine v_iload F dL_law_76 rfl ?_
      refine v_imul_n F dL_law_78 ?_
      refine v_iconst (v := nI 1) F dL_law_79 (by decide) ?_
      refine v_iadd_n F dL_law_80 ?_
      refine v_callSS F hX hb hzb 2 [_, _] rfl rfl rfl (h_at hzb (by omega) (by omega)) gL_law_L_at rfl hd_L_at ⟨⟨rfl, rfl⟩, ⟨(Nat.le_of_ble_eq_true rfl), (Nat.le_of_ble_eq_true rfl)⟩, ⟨(by show _ ≤ 658063; omega), (by show _ ≤ 7127581; omega)⟩, (Nat.le_of_ble_eq_true rfl)⟩ dL_law_81 (fun v81 M81 q81 => ?_)
      obtain ⟨x81, rfl, e81⟩ := q81
      replace e81 := e81.symm
      subst e81
      refine v_callSM F hN 7 [_, _, _, _, _, _, _] rfl rfl rfl (c_acts hl9 hS hd) gL_law_L_acts rfl hd_L_acts ⟨⟨rfl, rfl⟩, ⟨(Nat.le_of_ble_eq_true rfl), (Nat.le_of_ble_eq_true rfl)⟩, ⟨(by show _ ≤ 658063; omega), (by show _ ≤ 7127581; omega)⟩, (Nat.le_of_ble_eq_true rfl)⟩ dL_law_84 (fun v84 M84 q84 => ?_)
      obtain ⟨rfl, hLW9⟩ := q84
      refine v_istore F dL_law_87 (Nat.le_of_ble_eq_true rfl) (ok2_d rfl) ?_
      refine v_iinc1 F dL_law_89 rfl (ok2_d rfl) ?_
      refine v_goto F 47 dL_law_92 (by decide) ?_
      refine v_widen F (40 + 900 * (j + 1)) (400 + 5400 * (j + 1)) (by omega) (by omega) ?_
      exact ih (by omega) _ hLW9
set_option maxHeartbeats 4000000 in
set_option maxRecDepth 100000 in
theorem law_body {ω : Om} {σ : Sg} (F : Fx ω σ cL_law 8 wsL_law RL room_1) (hl9 : σ.2.1.stackTraces = false) (hN : Nc3 σ.2.2.2.2.1) (hAO : AO3 σ.2.2.2.2.1) {b n : Nat} {xs : Nat → Int32} (hX : va_X b n xs σ.2.2.2.2.1 σ.2.2.2.2.1.heap) (hb : b < σ.2.2.2.2.1.heap.size) (hz : ω.2.1 = σ.2.2.2.2.1.heap.size) (hn : n ≤ 260) {Q : State → Prop}
    (hend : ∀ (M : MM) (L : List (Option Value)) (kc ks : Nat), L.length = 8 → kc ≤ 658063 → ks ≤ 7127581 → V ω σ M L kc ks Q 131 []) : V ω σ (fun _ => none) [some (.ref b), none, none, none, none, none, none, none] 0 0 Q 0 [] := by
  refine v_new F 4 tyX4 [.null, .int 0, .null, .null, .null, .null, .int 0] rfl inlX4 tyX4_ok (by decide +kernel) (by decide +kernel) (by decide +kernel) (fun j hj => by rcases (show j = 0 ∨ j = 1 ∨ j = 2 ∨ j = 3 ∨ j = 4 ∨ j = 5 ∨ j = 6 by omega) with rfl | rfl | rfl | rfl | rfl | rfl | rfl <;> rfl) dL_law_0 ⟨(Nat.le_of_ble_eq_true rfl), (Nat.le_of_ble_eq_true rfl)⟩ (fun a0 n0 => ?_)
  refine v_dup F dL_law_3 rfl ?_
  refine v_callIA F hAO 0 [] rfl rfl rfl (c_X4_init mup_s) gL_law_X4_init rfl hd_X4_init ⟨⟨rfl, rfl⟩, ⟨(Nat.le_of_ble_eq_true rfl), (Nat.le_of_ble_eq_true rfl)⟩, ⟨(by show _ ≤ 658063; omega), (by show _ ≤ 7127581; omega)⟩, (Nat.le_of_ble_eq_true rfl)⟩ (by decide +kernel) (by decide +kernel) rfl (by decide +kernel) dL_law_4 (fun v4 M4 q4 => ?_)
  obtain ⟨rfl, A, R9, hA0, hCI, hAn, hAf, -⟩ := q4
  subst hA0
  refine v_astore_n F dL_law_7 rfl (Nat.le_of_ble_eq_true rfl) (ok2_d rfl) ?_
  refine v_iconst (v := nI 3) F dL_law_8 (by decide) ?_
  refine v_newa F 0 (atype := .int) (ty := .int) rfl (by decide +kernel) rfl (fun C h => by cases h) (n := 3) (by decide) (.inl (fun _ => 0)) (fun _ => rfl) (by decide) dL_law_9 ⟨(Nat.le_of_ble_eq_true rfl), (Nat.le_of_ble_eq_true rfl)⟩ (fun a9 n9 => ?_)
  refine v_astore_n F dL_law_11 rfl (Nat.le_of_ble_eq_true rfl) (ok2_d rfl) ?_
  refine v_bipush (v := nI 25) F dL_law_12 (by decide) ?_
  refine v_newa F 0 (atype := .int) (ty := .int) rfl (by decide +kernel) rfl (fun C h => by cases h) (n := 25) (by decide) (.inl (fun _ => 0)) (fun _ => rfl) (by decide) dL_law_14 ⟨(Nat.le_of_ble_eq_true rfl), (Nat.le_of_ble_eq_true rfl)⟩ (fun a14 n14 => ?_)
  refine v_astore_n F dL_law_16 rfl (Nat.le_of_ble_eq_true rfl) (ok2_d rfl) ?_
  refine v_bipush (v := nI 21) F dL_law_17 (by decide) ?_
  refine v_newa F 0 (atype := .int) (ty := .int) rfl (by decide +kernel) rfl (fun C h => by cases h) (n := 21) (by decide) (.inl (fun _ => 0)) (fun _ => rfl) (by decide) dL_law_19 ⟨(Nat.le_of_ble_eq_true rfl), (Nat.le_of_ble_eq_true rfl)⟩ (fun a19 n19 => ?_)
  refine v_astore F dL_law_21 rfl (Nat.le_of_ble_eq_true rfl) (ok2_d rfl) ?_
  refine v_bipush (v := nI 21) F dL_law_23 (by decide) ?_
  refine v_newa F 0 (atype := .int) (ty := .int) rfl (by decide +kernel) rfl (fun C h => by cases h) (n := 21) (by decide) (.inl (fun _ => 0)) (fun _ => rfl) (by decide) dL_law_25 ⟨(Nat.le_of_ble_eq_true rfl), (Nat.le_of_ble_eq_true rfl)⟩ (fun a25 n25 => ?_)
  obtain ⟨hS, hd⟩ := start_LS hCI hAn rfl rfl rfl rfl n9 n14 n19 n25
  refine v_astore F dL_law_27 rfl (Nat.le_of_ble_eq_true rfl) (ok2_d rfl) ?_
  refine v_aload_n F dL_law_29 rfl rfl ?_
  refine v_iconst (v := nI 0) F dL_law_30 (by decide) ?_
  refine v_callSN F hN 2 [_, _] rfl rfl rfl (a_boxes hl9 hS.1 (by decide)) gL_law_L_boxes rfl hd_L_boxes ⟨⟨rfl, rfl⟩, ⟨(Nat.le_of_ble_eq_true rfl), (Nat.le_of_ble_eq_true rfl)⟩, ⟨(by show _ ≤ 658063; omega), (by show _ ≤ 7127581; omega)⟩, (Nat.le_of_ble_eq_true rfl)⟩ dL_law_31 (fun v31 M31 q31 => ?_)
  obtain ⟨rfl, e31⟩ := q31
  replace e31 := e31.symm
  subst e31
  refine v_if_ne_n F 41 dL_law_34 (by decide) (by rw [B0_ord]; decide) (fun c34 => ?_) (fun c34 => ?_)
  · exact absurd (by rw [B0_ord]; rfl) c34
  · refine v_iconst (v := nI 1) F dL_law_37 (by decide) ?_
    refine v_goto F 42 dL_law_38 (by decide) ?_
    refine v_istore F dL_law_42 (Nat.le_of_ble_eq_true rfl) (ok2_d rfl) ?_
    refine v_iconst (v := nI 0) F dL_law_44 (by decide) ?_
    refine v_istore F dL_law_45 (Nat.le_of_ble_eq_true rfl) (ok2_d rfl) ?_
    refine v_widen F (40 + 900 * 0) (400 + 5400 * 0) (by omega) (by omega) ?_
    exact law_loop F hl9 hN hX hb hz hn hd hend 0 (Nat.zero_le _) _ ⟨A, _, _, _, _, _, _, _, _, _, _, rfl, hS⟩
