/-! the law: an act -/
def rmL_acts : Room := { frames := 76, cells := 900, slots := 5400, locals := 1755 }
theorem hd_L_acts : yL_acts.cls ≠ "java/lang/invoke/MethodHandle" ∧ yL_acts.cls ≠ "java/lang/invoke/VarHandle" ∧ (parseMethodDescriptor yL_acts.desc).map (fun d => d.parameters.length) = some 7 := by decide +kernel
set_option maxHeartbeats 4000000 in
set_option maxRecDepth 100000 in
theorem c_acts {l : Launch} {ω : Om} {M : MM} (hl9 : l.stackTraces = false) {A B P : FF} {n k : Nat} {R : Nat → (Nat → Int32) × Nat} {Z : Nat → Prop} {G Pp Aa Ww : Nat} {fg fp fa fw : Nat → Int32} (hS : LSt ω G Pp Aa Ww A B P n k R Z fg fp fa fw M) (hd : D4 G Pp Aa Ww) {x y : Int32} : CtN l ω yL_acts wsL_acts rmL_acts [.ref (A 0 0), .ref G, .ref Pp, .ref Aa, .ref Ww, .int x, .int y] M (fun v M9 => v = some (.int (nI 1)) ∧ LW ω (A 0 0) G Pp Aa Ww M9) 900 5400 := by
  refine CtN.ofC (cc := cL_acts) (maxL := 8) (ret := (some .boolean)) [some (.ref (A 0 0)), some (.ref G), some (.ref Pp), some (.ref Aa), some (.ref Ww), some (.int x), some (.int y), none] (by decide) rfl (Nat.le_of_ble_eq_true rfl) rfl (Lc.av (av := [.ref (A 0 0), .ref G, .ref Pp, .ref Aa, .ref Ww, .int x, .int y]) (k := 1) rfl) ?_
  intro σ F hl hr hN
  have F : Fx ω σ cL_acts 8 wsL_acts RL rmL_acts := F
  subst hl
  obtain ⟨hC, hG, hP, hQ, ⟨z1, z2, z3, z4⟩, ⟨hg, hpp, ha, hw⟩, ⟨h0g, h1g⟩, hfp, hfa, hfw⟩ := id hS
  obtain ⟨d1, d2, d3, d4, d5, d6⟩ := id hd
  have hn24 : n ≤ 24 := hG.1.1
  have hW : ∀ i j, B i j < 128 := hG.1.2.1
  have hk20 : k ≤ 20 := hP.2.2.1
  refine v_iload F dL_acts_0 rfl ?_
  refine v_bipush (v := nI 16) F dL_acts_2 (by decide) ?_
  refine v_callS F 2 [_, _] rfl rfl rfl (h_low (by decide) (by decide)) gL_acts_L_low rfl hd_L_low ⟨⟨rfl, rfl⟩, ⟨(Nat.le_of_ble_eq_true rfl), (Nat.le_of_ble_eq_true rfl)⟩, ⟨(by show _ ≤ 900; omega), (by show _ ≤ 5400; omega)⟩, (Nat.le_of_ble_eq_true rfl)⟩ dL_acts_4 (fun v4 M4 q4 => ?_)
  obtain ⟨r4, hr4, rfl, e4⟩ := q4
  replace e4 := e4.symm
  subst e4
  refine v_istore F dL_acts_7 (Nat.le_of_ble_eq_true rfl) (ok2_d rfl) ?_
  refine v_iload F dL_acts_9 rfl ?_
  refine v_iconst (v := nI 4) F dL_acts_11 (by decide) ?_
  refine v_icmp_lt_n F 21 dL_acts_12 (by decide) (by first | omega) (by first | omega) (fun c12 => ?_) (fun c12 => ?_)
  · refine v_aload_n F dL_acts_21 rfl rfl ?_
    refine v_aload_n F dL_acts_22 rfl rfl ?_
    refine v_aload_n F dL_acts_23 rfl rfl ?_
    refine v_aload_n F dL_acts_24 rfl rfl ?_
    refine v_iload F dL_acts_25 rfl ?_
    refine v_iconst (v := nI 4) F dL_acts_27 (by decide) ?_
    refine v_ishr F dL_acts_28 ?_
    refine v_iload F dL_acts_29 rfl ?_
    refine v_callSM F hN 6 [_, _, _, _, _, _] rfl rfl rfl (c_places hl9 hS hd) gL_acts_L_places rfl hd_L_places ⟨⟨rfl, rfl⟩, ⟨(Nat.le_of_ble_eq_true rfl), (Nat.le_of_ble_eq_true rfl)⟩, ⟨(by show _ ≤ 900; omega), (by show _ ≤ 5400; omega)⟩, (Nat.le_of_ble_eq_true rfl)⟩ dL_acts_31 (fun v31 M31 q31 => ?_)
    obtain ⟨rfl, hW9⟩ := q31
    exact v_zret F hr dL_acts_34 rfl (by omega) (by omega) ⟨rfl, hW9⟩
  · refine v_aload_n F dL_acts_15 rfl rfl ?_
    refine v_iconst (v := nI 0) F dL_acts_16 (by decide) ?_
    refine v_iald_n F dL_acts_17 hg (show 0 < 3 by decide) (by decide) ?_
    refine V.toI (h0g) ?_
    refine v_if_ne_n F 35 dL_acts_18 (by decide) (by first | omega) (fun c18 => ?_) (fun c18 => ?_)
    · refine v_iload F dL_acts_35 rfl ?_
      refine v_bipush (v := nI 7) F dL_acts_37 (by decide) ?_
      refine v_icmp_ge_n F 62 dL_acts_39 (by decide) (by first | omega) (by first | omega) (fun c39 => ?_) (fun c39 => ?_)
      · refine v_iload F dL_acts_62 rfl ?_
        refine v_bipush (v := nI 12) F dL_acts_64 (by decide) ?_
        refine v_icmp_ge_n F 99 dL_acts_66 (by decide) (by first | omega) (by first | omega) (fun c66 => ?_) (fun c66 => ?_)
        · refine v_iload F dL_acts_99 rfl ?_
          refine v_bipush (v := nI 14) F dL_acts_101 (by decide) ?_
          refine v_icmp_ge_n F 117 dL_acts_103 (by decide) (by first | omega) (by first | omega) (fun c103 => ?_) (fun c103 => ?_)
          · refine v_aload_n F dL_acts_117 rfl rfl ?_
            refine v_iconst (v := nI 2) F dL_acts_118 (by decide) ?_
            refine v_dup2 F dL_acts_119 rfl rfl ?_
            refine v_iald_n F dL_acts_120 hg (show 2 < 3 by decide) (by decide) ?_
            refine v_iconst (v := nI 1) F dL_acts_121 (by decide) ?_
            refine v_iadd F dL_acts_122 ?_
            refine v_iast_n F dL_acts_123 hg (show 2 < 3 by decide) (by decide) ?_
            generalize e5 : mup M G (.inl (ω.2.2 0, 3, .inl (upd fg 2 (fg 2 + nI 1)))) = M5
            have n1 : ∀ z, Z z → z ≠ G := fun z hz h => z1 (by rw [← h]; exact hz)
            have hC5 := hC.fr (M' := M5) (fun z hz => by rw [← e5, mup_n (n1 z hz)])
            have hg5 : M5 G = some (.inl (ω.2.2 0, 3, .inl (upd fg 2 (fg 2 + nI 1)))) := by rw [← e5]; exact mup_s
            have hpp5 : M5 Pp = some (.inl (ω.2.2 0, 25, .inl fp)) := by rw [← e5, mup_n d1.symm]; exact hpp
            have ha5 : M5 Aa = some (.inl (ω.2.2 0, 21, .inl fa)) := by rw [← e5, mup_n d2.symm]; exact ha
            have hw5 : M5 Ww = some (.inl (ω.2.2 0, 21, .inl fw)) := by rw [← e5, mup_n d3.symm]; exact hw
            have h0g5 : upd fg 2 (fg 2 + nI 1) 0 = nI n := (pk_un (by decide)).trans h0g
            have h1g5 : upd fg 2 (fg 2 + nI 1) 1 = nI k := (pk_un (by decide)).trans h1g
            have hS5 : LSt ω G Pp Aa Ww A B P n k R Z (upd fg 2 (fg 2 + nI 1)) fp fa fw M5 := ⟨hC5, hG, hP, hQ, ⟨z1, z2, z3, z4⟩, ⟨hg5, hpp5, ha5, hw5⟩, ⟨h0g5, h1g5⟩, hfp, hfa, hfw⟩
            refine v_aload_n F dL_acts_124 rfl rfl ?_
            refine v_iconst (v := nI 2) F dL_acts_125 (by decide) ?_
            refine v_iald_n F dL_acts_126 hg5 (show 2 < 3 by decide) (by decide) ?_
            refine v_iconst (v := nI 2) F dL_acts_127 (by decide) ?_
            refine v_icmp_gt F 166 dL_acts_128 (by decide) (fun c128 => ?_) (fun c128 => ?_)
            · refine v_iconst (v := nI 1) F dL_acts_166 (by decide) ?_
              refine v_goto F 171 dL_acts_167 (by decide) ?_
              exact v_zret F hr dL_acts_171 rfl (by omega) (by omega) (by first | exact ⟨rfl, _, _, _, _, _, _, _, _, _, _, _, rfl, hS6⟩ | exact ⟨rfl, _, _, _, _, _, _, _, _, _, _, _, rfl, hS5⟩)
            · refine v_aload_n F dL_acts_131 rfl rfl ?_
              refine v_aload_n F dL_acts_132 rfl rfl ?_
              refine v_aload_n F dL_acts_133 rfl rfl ?_
              refine v_iload F dL_acts_134 rfl ?_
              refine v_iconst (v := nI 5) F dL_acts_136 (by decide) ?_
              refine v_callS F 2 [_, _] rfl rfl rfl (h_low (by decide) (by decide)) gL_acts_L_low rfl hd_L_low ⟨⟨rfl, rfl⟩, ⟨(Nat.le_of_ble_eq_true rfl), (Nat.le_of_ble_eq_true rfl)⟩, ⟨(by show _ ≤ 900; omega), (by show _ ≤ 5400; omega)⟩, (Nat.le_of_ble_eq_true rfl)⟩ dL_acts_137 (fun v137 M137 q137 => ?_)
              obtain ⟨r137, hr137, rfl, e137⟩ := q137
              replace e137 := e137.symm
              subst e137
              refine v_callSM F hN 4 [_, _, _, _] rfl rfl rfl (c_isPage hl9 hC5 hG hg5 hpp5 z2 h0g5 hfp hr137) gL_acts_L_isPage rfl hd_L_isPage ⟨⟨rfl, rfl⟩, ⟨(Nat.le_of_ble_eq_true rfl), (Nat.le_of_ble_eq_true rfl)⟩, ⟨(by show _ ≤ 900; omega), (by show _ ≤ 5400; omega)⟩, (Nat.le_of_ble_eq_true rfl)⟩ dL_acts_140 (fun v140 M140 q140 => ?_)
              obtain ⟨rfl, R6, hC6, hF6⟩ := q140
              have hS6 := hS5.anew hC6 hF6
              obtain ⟨-, -, -, -, -, ⟨hg6, hpp6, ha6, hw6⟩, -⟩ := id hS6
              refine v_if_eq_n F 170 dL_acts_143 (by decide) (by first | omega) (fun c143 => ?_) (fun c143 => ?_)
              · exact absurd c143 (by decide)
              · refine v_aload_n F dL_acts_146 rfl rfl ?_
                refine v_aload_n F dL_acts_147 rfl rfl ?_
                refine v_aload_n F dL_acts_148 rfl rfl ?_
                refine v_aload F dL_acts_149 rfl rfl ?_
                refine v_callSM F hN 4 [_, _, _, _] rfl rfl rfl (c_areApprovals hl9 hC6 hP hQ hg6 ha6 hw6 h1g5 hfa hfw) gL_acts_L_areApprovals rfl hd_L_areApprovals ⟨⟨rfl, rfl⟩, ⟨(Nat.le_of_ble_eq_true rfl), (Nat.le_of_ble_eq_true rfl)⟩, ⟨(by show _ ≤ 900; omega), (by show _ ≤ 5400; omega)⟩, (Nat.le_of_ble_eq_true rfl)⟩ dL_acts_151 (fun v151 M151 q151 => ?_)
                obtain ⟨rfl, e151⟩ := q151
                replace e151 := e151.symm
                subst e151
                refine v_if_eq_n F 170 dL_acts_154 (by decide) (by first | omega) (fun c154 => ?_) (fun c154 => ?_)
                · exact absurd c154 (by decide)
                · refine v_aload_n F dL_acts_157 rfl rfl ?_
                  refine v_aload_n F dL_acts_158 rfl rfl ?_
                  refine v_aload_n F dL_acts_159 rfl rfl ?_
                  refine v_callSM F hN 3 [_, _, _] rfl rfl rfl (c_areBoxes hl9 hC6 hG hg6 hpp6 h0g5 hfp) gL_acts_L_areBoxes rfl hd_L_areBoxes ⟨⟨rfl, rfl⟩, ⟨(Nat.le_of_ble_eq_true rfl), (Nat.le_of_ble_eq_true rfl)⟩, ⟨(by show _ ≤ 900; omega), (by show _ ≤ 5400; omega)⟩, (Nat.le_of_ble_eq_true rfl)⟩ dL_acts_160 (fun v160 M160 q160 => ?_)
                  obtain ⟨rfl, e160⟩ := q160
                  replace e160 := e160.symm
                  subst e160
                  refine v_if_eq_n F 170 dL_acts_163 (by decide) (by first | omega) (fun c163 => ?_) (fun c163 => ?_)
                  · exact absurd c163 (by decide)
                  · refine v_iconst (v := nI 1) F dL_acts_166 (by decide) ?_
                    refine v_goto F 171 dL_acts_167 (by decide) ?_
                    exact v_zret F hr dL_acts_171 rfl (by omega) (by omega) (by first | exact ⟨rfl, _, _, _, _, _, _, _, _, _, _, _, rfl, hS6⟩ | exact ⟨rfl, _, _, _, _, _, _, _, _, _, _, _, rfl, hS5⟩)
          · refine v_aload_n F dL_acts_106 rfl rfl ?_
            refine v_aload_n F dL_acts_107 rfl rfl ?_
            refine v_aload_n F dL_acts_108 rfl rfl ?_
            refine v_aload F dL_acts_109 rfl rfl ?_
            refine v_iload F dL_acts_111 rfl ?_
            refine v_callSM F hN 5 [_, _, _, _, _] rfl rfl rfl (c_approves hl9 hS hd) gL_acts_L_approves rfl hd_L_approves ⟨⟨rfl, rfl⟩, ⟨(Nat.le_of_ble_eq_true rfl), (Nat.le_of_ble_eq_true rfl)⟩, ⟨(by show _ ≤ 900; omega), (by show _ ≤ 5400; omega)⟩, (Nat.le_of_ble_eq_true rfl)⟩ dL_acts_113 (fun v113 M113 q113 => ?_)
            obtain ⟨rfl, hW9⟩ := q113
            exact v_zret F hr dL_acts_116 rfl (by omega) (by omega) ⟨rfl, hW9⟩
        · refine v_aload_n F dL_acts_69 rfl rfl ?_
          refine v_aload_n F dL_acts_70 rfl rfl ?_
          refine v_aload_n F dL_acts_71 rfl rfl ?_
          refine v_aload_n F dL_acts_72 rfl rfl ?_
          refine v_iload F dL_acts_73 rfl ?_
          refine v_bipush (v := nI 11) F dL_acts_75 (by decide) ?_
          refine v_icmp_ne_n F 84 dL_acts_77 (by decide) (by first | omega) (by first | omega) (fun c77 => ?_) (fun c77 => ?_)
          · refine v_iload F dL_acts_84 rfl ?_
            refine v_bipush (v := nI 7) F dL_acts_86 (by decide) ?_
            refine v_isub_n F dL_acts_88 (by first | omega) ?_
            refine v_iload F dL_acts_89 rfl ?_
            refine v_iconst (v := nI 4) F dL_acts_91 (by decide) ?_
            refine v_ishr F dL_acts_92 ?_
            refine v_iload F dL_acts_93 rfl ?_
            refine v_callSM F hN 7 [_, _, _, _, _, _, _] rfl rfl rfl (c_alters hl9 hS hd (show 0 < n by omega) (by omega)) gL_acts_L_alters rfl hd_L_alters ⟨⟨rfl, rfl⟩, ⟨(Nat.le_of_ble_eq_true rfl), (Nat.le_of_ble_eq_true rfl)⟩, ⟨(by show _ ≤ 900; omega), (by show _ ≤ 5400; omega)⟩, (Nat.le_of_ble_eq_true rfl)⟩ dL_acts_95 (fun v95 M95 q95 => ?_)
            obtain ⟨rfl, hW9⟩ := q95
            exact v_zret F hr dL_acts_98 rfl (by omega) (by omega) ⟨rfl, hW9⟩
          · refine v_iconst (v := nI 3) F dL_acts_80 (by decide) ?_
            refine v_goto F 89 dL_acts_81 (by decide) ?_
            refine v_iload F dL_acts_89 rfl ?_
            refine v_iconst (v := nI 4) F dL_acts_91 (by decide) ?_
            refine v_ishr F dL_acts_92 ?_
            refine v_iload F dL_acts_93 rfl ?_
            refine v_callSM F hN 7 [_, _, _, _, _, _, _] rfl rfl rfl (c_alters hl9 hS hd (show 0 < n by omega) (by omega)) gL_acts_L_alters rfl hd_L_alters ⟨⟨rfl, rfl⟩, ⟨(Nat.le_of_ble_eq_true rfl), (Nat.le_of_ble_eq_true rfl)⟩, ⟨(by show _ ≤ 900; omega), (by show _ ≤ 5400; omega)⟩, (Nat.le_of_ble_eq_true rfl)⟩ dL_acts_95 (fun v95 M95 q95 => ?_)
            obtain ⟨rfl, hW9⟩ := q95
            exact v_zret F hr dL_acts_98 rfl (by omega) (by omega) ⟨rfl, hW9⟩
      · refine v_aload_n F dL_acts_42 rfl rfl ?_
        refine v_aload_n F dL_acts_43 rfl rfl ?_
        refine v_aload_n F dL_acts_44 rfl rfl ?_
        refine v_aload_n F dL_acts_45 rfl rfl ?_
        refine v_iload F dL_acts_46 rfl ?_
        refine v_iconst (v := nI 4) F dL_acts_48 (by decide) ?_
        refine v_ishr F dL_acts_49 ?_
        refine v_aload_n F dL_acts_50 rfl rfl ?_
        refine v_iconst (v := nI 0) F dL_acts_51 (by decide) ?_
        refine v_iald_n F dL_acts_52 hg (show 0 < 3 by decide) (by decide) ?_
        refine V.toI (h0g) ?_
        refine v_callS F 2 [_, _] rfl rfl rfl (h_low (show 0 < n by omega) (by omega)) gL_acts_L_low rfl hd_L_low ⟨⟨rfl, rfl⟩, ⟨(Nat.le_of_ble_eq_true rfl), (Nat.le_of_ble_eq_true rfl)⟩, ⟨(by show _ ≤ 900; omega), (by show _ ≤ 5400; omega)⟩, (Nat.le_of_ble_eq_true rfl)⟩ dL_acts_53 (fun v53 M53 q53 => ?_)
        obtain ⟨r53, hr53, rfl, e53⟩ := q53
        replace e53 := e53.symm
        subst e53
        refine v_iload F dL_acts_56 rfl ?_
        refine v_callSM F hN 6 [_, _, _, _, _, _] rfl rfl rfl (c_moves hl9 hS hd hr53) gL_acts_L_moves rfl hd_L_moves ⟨⟨rfl, rfl⟩, ⟨(Nat.le_of_ble_eq_true rfl), (Nat.le_of_ble_eq_true rfl)⟩, ⟨(by show _ ≤ 900; omega), (by show _ ≤ 5400; omega)⟩, (Nat.le_of_ble_eq_true rfl)⟩ dL_acts_58 (fun v58 M58 q58 => ?_)
        obtain ⟨rfl, hW9⟩ := q58
        exact v_zret F hr dL_acts_61 rfl (by omega) (by omega) ⟨rfl, hW9⟩
    · refine v_aload_n F dL_acts_21 rfl rfl ?_
      refine v_aload_n F dL_acts_22 rfl rfl ?_
      refine v_aload_n F dL_acts_23 rfl rfl ?_
      refine v_aload_n F dL_acts_24 rfl rfl ?_
      refine v_iload F dL_acts_25 rfl ?_
      refine v_iconst (v := nI 4) F dL_acts_27 (by decide) ?_
      refine v_ishr F dL_acts_28 ?_
      refine v_iload F dL_acts_29 rfl ?_
      refine v_callSM F hN 6 [_, _, _, _, _, _] rfl rfl rfl (c_places hl9 hS hd) gL_acts_L_places rfl hd_L_places ⟨⟨rfl, rfl⟩, ⟨(Nat.le_of_ble_eq_true rfl), (Nat.le_of_ble_eq_true rfl)⟩, ⟨(by show _ ≤ 900; omega), (by show _ ≤ 5400; omega)⟩, (Nat.le_of_ble_eq_true rfl)⟩ dL_acts_31 (fun v31 M31 q31 => ?_)
      obtain ⟨rfl, hW9⟩ := q31
      exact v_zret F hr dL_acts_34 rfl (by omega) (by omega) ⟨rfl, hW9⟩
