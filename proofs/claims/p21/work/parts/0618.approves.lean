/-! the law: a page is approved -/
def rmL_approves : Room := { frames := 9, cells := 10, slots := 60, locals := 159 }
theorem hd_L_approves : yL_approves.cls ≠ "java/lang/invoke/MethodHandle" ∧ yL_approves.cls ≠ "java/lang/invoke/VarHandle" ∧ (parseMethodDescriptor yL_approves.desc).map (fun d => d.parameters.length) = some 5 := by decide +kernel
set_option maxHeartbeats 4000000 in
set_option maxRecDepth 100000 in
theorem c_approves {l : Launch} {ω : Om} {M : MM} (hl9 : l.stackTraces = false) {A B P : FF} {n k : Nat} {R : Nat → (Nat → Int32) × Nat} {Z : Nat → Prop} {G Pp Aa Ww : Nat} {fg fp fa fw : Nat → Int32} (hS : LSt ω G Pp Aa Ww A B P n k R Z fg fp fa fw M) (hd : D4 G Pp Aa Ww) {x : Int32} : CtN l ω yL_approves wsL_approves rmL_approves [.ref (A 0 0), .ref G, .ref Aa, .ref Ww, .int x] M (fun v M9 => v = some (.int (nI 1)) ∧ LW ω (A 0 0) G Pp Aa Ww M9) 10 60 := by
  refine CtN.ofC (cc := cL_approves) (maxL := 8) (ret := (some .boolean)) [some (.ref (A 0 0)), some (.ref G), some (.ref Aa), some (.ref Ww), some (.int x), none, none, none] (by decide) rfl (Nat.le_of_ble_eq_true rfl) rfl (Lc.av (av := [.ref (A 0 0), .ref G, .ref Aa, .ref Ww, .int x]) (k := 3) rfl) ?_
  intro σ F hl hr hN
  have F : Fx ω σ cL_approves 8 wsL_approves RL rmL_approves := F
  subst hl
  obtain ⟨hC, hG, hP, hQ, ⟨z1, z2, z3, z4⟩, ⟨hg, hpp, ha, hw⟩, ⟨h0g, h1g⟩, hfp, hfa, hfw⟩ := id hS
  obtain ⟨d1, d2, d3, d4, d5, d6⟩ := hd
  have hn24 : n ≤ 24 := hG.1.1
  have hW : ∀ i j, B i j < 128 := hG.1.2.1
  have hk20 : k ≤ 20 := hP.2.2.1
  have h24 : ∀ p, (ordF B n p).length ≤ 24 := fun p => hG.len
  refine v_iload F dL_approves_0 rfl ?_
  refine v_bipush (v := nI 6) F dL_approves_2 (by decide) ?_
  refine v_callS F 2 [_, _] rfl rfl rfl (h_low (by decide) (by decide)) gL_approves_L_low rfl hd_L_low ⟨⟨rfl, rfl⟩, ⟨(Nat.le_of_ble_eq_true rfl), (Nat.le_of_ble_eq_true rfl)⟩, ⟨(by show _ ≤ 10; omega), (by show _ ≤ 60; omega)⟩, (Nat.le_of_ble_eq_true rfl)⟩ dL_approves_4 (fun v4 M4 q4 => ?_)
  obtain ⟨r4, hr4, rfl, e4⟩ := q4
  replace e4 := e4.symm
  subst e4
  refine v_istore F dL_approves_7 (Nat.le_of_ble_eq_true rfl) (ok2_d rfl) ?_
  refine v_iload F dL_approves_9 rfl ?_
  refine v_iconst (v := nI 3) F dL_approves_11 (by decide) ?_
  refine v_ishr F dL_approves_12 ?_
  refine v_iconst (v := nI 5) F dL_approves_13 (by decide) ?_
  refine v_callS F 2 [_, _] rfl rfl rfl (h_low (by decide) (by decide)) gL_approves_L_low rfl hd_L_low ⟨⟨rfl, rfl⟩, ⟨(Nat.le_of_ble_eq_true rfl), (Nat.le_of_ble_eq_true rfl)⟩, ⟨(by show _ ≤ 10; omega), (by show _ ≤ 60; omega)⟩, (Nat.le_of_ble_eq_true rfl)⟩ dL_approves_14 (fun v14 M14 q14 => ?_)
  obtain ⟨r14, hr14, rfl, e14⟩ := q14
  replace e14 := e14.symm
  subst e14
  refine v_istore F dL_approves_17 (Nat.le_of_ble_eq_true rfl) (ok2_d rfl) ?_
  refine v_aload_n F dL_approves_19 rfl rfl ?_
  refine v_iload F dL_approves_20 rfl ?_
  refine v_iload F dL_approves_22 rfl ?_
  by_cases hne : 0 < (ordF B n r14).length ∧ k < 20
  · refine v_callSN F hN 3 [_, _, _] rfl rfl rfl (b_approve hl9 hC hr4 hr14 hne.1 hne.2) gL_approves_L_approve rfl hd_L_approve ⟨⟨rfl, rfl⟩, ⟨(Nat.le_of_ble_eq_true rfl), (Nat.le_of_ble_eq_true rfl)⟩, ⟨(by show _ ≤ 10; omega), (by show _ ≤ 60; omega)⟩, (Nat.le_of_ble_eq_true rfl)⟩ dL_approves_24 (fun v24 M24 q24 => ?_)
    obtain ⟨qn, hqn, rfl, hC9, hF9⟩ := q24
    have hk2 := hne.2
    have hA0 : u2 A 4 k qn 0 0 = A 0 0 := by simp [u2]
    have hg9 := fr_or hF9 hqn z1 hg
    have hpp9 := fr_or hF9 hqn z2 hpp
    have ha9 := fr_or hF9 hqn z3 ha
    have hw9 := fr_or hF9 hqn z4 hw
    have y1 := z_or hqn z1 hg
    have y2 := z_or hqn z2 hpp
    have y3 := z_or hqn z3 ha
    have y4 := z_or hqn z4 hw
    have hP9 := hP.nw hne.2 hr4 hr14
    have hQ9 := hQ.nw (a := r4) hr14
    refine v_istore F dL_approves_27 (Nat.le_of_ble_eq_true rfl) (ok2_d rfl) ?_
    refine v_iload F dL_approves_29 rfl ?_
    refine v_if_ge_n F 64 dL_approves_31 (by decide) (by first | omega | (have := h24 r14; omega)) ?_
    refine v_aload_n F dL_approves_64 rfl rfl ?_
    refine v_aload_n F dL_approves_65 rfl rfl ?_
    refine v_iconst (v := nI 1) F dL_approves_66 (by decide) ?_
    refine v_iald_n F dL_approves_67 hg9 (show 1 < 3 by decide) (by decide) ?_
    refine V.toI (h1g) ?_
    refine v_iload F dL_approves_68 rfl ?_
    refine v_iast_n F dL_approves_70 ha9 (by first | omega | (have := h24 r14; omega)) (by decide) ?_
    refine v_aload_n F dL_approves_71 rfl rfl ?_
    refine v_aload_n F dL_approves_72 rfl rfl ?_
    refine v_iconst (v := nI 1) F dL_approves_73 (by decide) ?_
    refine v_iald_n F dL_approves_74 ((mup_n d2).trans hg9) (show 1 < 3 by decide) (by decide) ?_
    refine V.toI (h1g) ?_
    refine v_iload F dL_approves_75 rfl ?_
    refine v_iast_n F dL_approves_77 ((mup_n d6.symm).trans hw9) (by first | omega | (have := h24 r14; omega)) (by decide) ?_
    refine v_aload_n F dL_approves_78 rfl rfl ?_
    refine v_iconst (v := nI 1) F dL_approves_79 (by decide) ?_
    refine v_dup2 F dL_approves_80 rfl rfl ?_
    refine v_iald_n F dL_approves_81 ((mup_n d3).trans ((mup_n d2).trans hg9)) (show 1 < 3 by decide) (by decide) ?_
    refine V.toI (h1g) ?_
    refine v_iconst (v := nI 1) F dL_approves_82 (by decide) ?_
    refine v_iadd_n F dL_approves_83 ?_
    refine v_iast_n F dL_approves_84 ((mup_n d3).trans ((mup_n d2).trans hg9)) (show 1 < 3 by decide) (by decide) ?_
    generalize e5 : mup (mup (mup M24 Aa (.inl (ω.2.2 0, 21, .inl (upd fa k (nI r14))))) Ww (.inl (ω.2.2 0, 21, .inl (upd fw k (nI r4))))) G (.inl (ω.2.2 0, 3, .inl (upd fg 1 (nI (k + 1))))) = M5
    have hg5 : M5 G = some (.inl (ω.2.2 0, 3, .inl (upd fg 1 (nI (k + 1))))) := by rw [← e5]; exact mup_s
    have hpp5 : M5 Pp = some (.inl (ω.2.2 0, 25, .inl fp)) := by rw [← e5, mup_n d1.symm, mup_n d5, mup_n d4]; exact hpp9
    have ha5 : M5 Aa = some (.inl (ω.2.2 0, 21, .inl (upd fa k (nI r14)))) := by rw [← e5, mup_n d2.symm, mup_n d6]; exact mup_s
    have hw5 : M5 Ww = some (.inl (ω.2.2 0, 21, .inl (upd fw k (nI r4)))) := by rw [← e5, mup_n d3.symm]; exact mup_s
    have n1 : ∀ z, (Z z ∨ z = qn) → z ≠ G := fun z hz h => y1 (by rw [← h]; exact hz)
    have n3 : ∀ z, (Z z ∨ z = qn) → z ≠ Aa := fun z hz h => y3 (by rw [← h]; exact hz)
    have n4 : ∀ z, (Z z ∨ z = qn) → z ≠ Ww := fun z hz h => y4 (by rw [← h]; exact hz)
    have hC5 := hC9.fr (M' := M5) (fun z hz => by rw [← e5, mup_n (n1 z hz), mup_n (n4 z hz), mup_n (n3 z hz)])
    have h0g5 : upd fg 1 (nI (k + 1)) 0 = nI n := (pk_un (by decide)).trans h0g
    have h1g5 : upd fg 1 (nI (k + 1)) 1 = nI (k + 1) := pk_us
    have hwho := a_who hl9 hC5 hP9 hr14
    rw [hA0] at hwho
    refine v_iload F dL_approves_85 rfl ?_
    refine v_aload_n F dL_approves_87 rfl rfl ?_
    refine v_iconst (v := nI 1) F dL_approves_88 (by decide) ?_
    refine v_iald_n F dL_approves_89 hg5 (show 1 < 3 by decide) (by decide) ?_
    refine V.toI (h1g5) ?_
    refine v_iconst (v := nI 1) F dL_approves_90 (by decide) ?_
    refine v_isub_n F dL_approves_91 (by first | omega | (have := h24 r14; omega)) ?_
    refine v_icmp_ne_n F 114 dL_approves_92 (by decide) (by first | omega | (have := h24 r14; omega)) (by first | omega | (have := h24 r14; omega)) (fun c92 => ?_) (fun c92 => ?_)
    · exact absurd (by omega) c92
    · refine v_aload_n F dL_approves_95 rfl rfl ?_
      refine v_iload F dL_approves_96 rfl ?_
      refine v_callSN F hN 2 [_, _] rfl rfl rfl (hwho) gL_approves_L_approvers rfl hd_L_approvers ⟨⟨rfl, rfl⟩, ⟨(Nat.le_of_ble_eq_true rfl), (Nat.le_of_ble_eq_true rfl)⟩, ⟨(by show _ ≤ 10; omega), (by show _ ≤ 60; omega)⟩, (Nat.le_of_ble_eq_true rfl)⟩ dL_approves_98 (fun v98 M98 q98 => ?_)
      obtain ⟨rfl, e98⟩ := q98
      replace e98 := e98.symm
      subst e98
      refine v_iload F dL_approves_101 rfl ?_
      refine v_ishr_n F dL_approves_103 (by first | exact Nat.lt_trans (mkF_lt hP9.1 _) (by decide) | omega) (by first | exact Nat.lt_trans (mkF_lt hP9.1 _) (by decide) | omega) ?_
      refine v_iconst (v := nI 1) F dL_approves_104 (by decide) ?_
      refine v_iand_n F dL_approves_105 ?_
      refine v_iconst (v := nI 1) F dL_approves_106 (by decide) ?_
      refine v_icmp_ne_n F 114 dL_approves_107 (by decide) (by first | exact and1_lt (by decide) | decide) (by first | exact and1_lt (by decide) | decide) (fun c107 => ?_) (fun c107 => ?_)
      · exact absurd who_bit c107
      · refine v_iconst (v := nI 1) F dL_approves_110 (by decide) ?_
        refine v_goto F 115 dL_approves_111 (by decide) ?_
        exact v_zret F hr dL_approves_115 rfl (by omega) (by omega) ⟨rfl, u2 A 4 k qn, B, nwP P k r4 r14, n, k + 1, R, _, _, _, _, _, hA0, hC5, hG, hP9, hQ9, ⟨y1, y2, y3, y4⟩, ⟨hg5, hpp5, ha5, hw5⟩, ⟨h0g5, h1g5⟩, hfp, hfa.nw, hfw.nw⟩
  · refine v_callSN F hN 3 [_, _, _] rfl rfl rfl (b_approve_no hl9 hC hr4 hr14 hne) gL_approves_L_approve rfl hd_L_approve ⟨⟨rfl, rfl⟩, ⟨(Nat.le_of_ble_eq_true rfl), (Nat.le_of_ble_eq_true rfl)⟩, ⟨(by show _ ≤ 10; omega), (by show _ ≤ 60; omega)⟩, (Nat.le_of_ble_eq_true rfl)⟩ dL_approves_24 (fun v24 M24 q24 => ?_)
    obtain ⟨rfl, e24⟩ := q24
    replace e24 := e24.symm
    subst e24
    refine v_istore F dL_approves_27 (Nat.le_of_ble_eq_true rfl) (ok2_d rfl) ?_
    refine v_iload F dL_approves_29 rfl ?_
    refine v_if_ge F 64 dL_approves_31 (by decide) (fun c31 => ?_) (fun c31 => ?_)
    · exact absurd c31 (by decide)
    · refine v_iload F dL_approves_34 rfl ?_
      refine v_ldc (v := (-1000003)) F (by decide +kernel) dL_approves_36 ?_
      refine v_icmp_ne F 62 dL_approves_38 (by decide) (fun c38 => ?_) (fun c38 => ?_)
      · exact absurd rfl c38
      · refine v_aload_n F dL_approves_41 rfl rfl ?_
        refine v_iconst (v := nI 1) F dL_approves_42 (by decide) ?_
        refine v_iald_n F dL_approves_43 hg (show 1 < 3 by decide) (by decide) ?_
        refine V.toI (h1g) ?_
        refine v_bipush (v := nI 20) F dL_approves_44 (by decide) ?_
        refine v_icmp_eq_n F 58 dL_approves_46 (by decide) (by first | omega | (have := h24 r14; omega)) (by first | omega | (have := h24 r14; omega)) (fun c46 => ?_) (fun c46 => ?_)
        · refine v_iconst (v := nI 1) F dL_approves_58 (by decide) ?_
          refine v_goto F 63 dL_approves_59 (by decide) ?_
          exact v_zret F hr dL_approves_63 rfl (by omega) (by omega) ⟨rfl, ⟨A, B, P, n, k, R, Z, fg, fp, fa, fw, rfl, hS⟩⟩
        · refine v_aload_n F dL_approves_49 rfl rfl ?_
          refine v_iload F dL_approves_50 rfl ?_
          refine v_callSN F hN 2 [_, _] rfl rfl rfl (a_boxes hl9 hC hr14) gL_approves_L_boxes rfl hd_L_boxes ⟨⟨rfl, rfl⟩, ⟨(Nat.le_of_ble_eq_true rfl), (Nat.le_of_ble_eq_true rfl)⟩, ⟨(by show _ ≤ 10; omega), (by show _ ≤ 60; omega)⟩, (Nat.le_of_ble_eq_true rfl)⟩ dL_approves_52 (fun v52 M52 q52 => ?_)
          obtain ⟨rfl, e52⟩ := q52
          replace e52 := e52.symm
          subst e52
          refine v_if_ne_n F 62 dL_approves_55 (by decide) (by have := h24 r14; omega) (fun c55 => ?_) (fun c55 => ?_)
          · exact absurd (by omega) c55
          · refine v_iconst (v := nI 1) F dL_approves_58 (by decide) ?_
            refine v_goto F 63 dL_approves_59 (by decide) ?_
            exact v_zret F hr dL_approves_63 rfl (by omega) (by omega) ⟨rfl, ⟨A, B, P, n, k, R, Z, fg, fp, fa, fw, rfl, hS⟩⟩
