/-! the law: a box is put -/
def rmL_places : Room := { frames := 75, cells := 20, slots := 100, locals := 1722 }
theorem hd_L_places : yL_places.cls ≠ "java/lang/invoke/MethodHandle" ∧ yL_places.cls ≠ "java/lang/invoke/VarHandle" ∧ (parseMethodDescriptor yL_places.desc).map (fun d => d.parameters.length) = some 6 := by decide +kernel
set_option maxHeartbeats 4000000 in
set_option maxRecDepth 100000 in
theorem c_places {l : Launch} {ω : Om} {M : MM} (hl9 : l.stackTraces = false) {A B P : FF} {n k : Nat} {R : Nat → (Nat → Int32) × Nat} {Z : Nat → Prop} {G Pp Aa Ww : Nat} {fg fp fa fw : Nat → Int32} (hS : LSt ω G Pp Aa Ww A B P n k R Z fg fp fa fw M) (hd : D4 G Pp Aa Ww) {x y : Int32} : CtN l ω yL_places wsL_places rmL_places [.ref (A 0 0), .ref G, .ref Pp, .ref Aa, .int x, .int y] M (fun v M9 => v = some (.int (nI 1)) ∧ LW ω (A 0 0) G Pp Aa Ww M9) 20 100 := by
  refine CtN.ofC (cc := cL_places) (maxL := 14) (ret := (some .boolean)) [some (.ref (A 0 0)), some (.ref G), some (.ref Pp), some (.ref Aa), some (.int x), some (.int y), none, none, none, none, none, none, none, none] (by decide) rfl (Nat.le_of_ble_eq_true rfl) rfl (Lc.av (av := [.ref (A 0 0), .ref G, .ref Pp, .ref Aa, .int x, .int y]) (k := 8) rfl) ?_
  intro σ F hl hr hN
  have F : Fx ω σ cL_places 14 wsL_places RL rmL_places := F
  subst hl
  obtain ⟨hC, hG, hP, hQ, ⟨z1, z2, z3, z4⟩, ⟨hg, hpp, ha, hw⟩, ⟨h0g, h1g⟩, hfp, hfa, hfw⟩ := id hS
  obtain ⟨d1, d2, d3, d4, d5, d6⟩ := hd
  have hn24 : n ≤ 24 := hG.1.1
  have hW : ∀ i j, B i j < 128 := hG.1.2.1
  have hk20 : k ≤ 20 := hP.2.2.1
  have j21 : ∀ pg, pg < 5 → V ω σ M [some (.ref (A 0 0)), some (.ref G), some (.ref Pp), some (.ref Aa), some (.int x), some (.int y), none, none, none, none, none, none, none, none] 0 0 (BQ ω σ (fun v M9 => v = some (.int (nI 1)) ∧ LW ω (A 0 0) G Pp Aa Ww M9) 20 100) 21 [.int (nI pg)] := by
    intro pg hpg
    refine v_istore F dL_places_21 (Nat.le_of_ble_eq_true rfl) (ok2_d rfl) ?_
    refine v_iload F dL_places_23 rfl ?_
    refine v_bipush (v := nI 50) F dL_places_25 (by decide) ?_
    refine v_callS F 2 [_, _] rfl rfl rfl (h_low (by decide) (by decide)) gL_places_L_low rfl hd_L_low ⟨⟨rfl, rfl⟩, ⟨(Nat.le_of_ble_eq_true rfl), (Nat.le_of_ble_eq_true rfl)⟩, ⟨(by show _ ≤ 20; omega), (by show _ ≤ 100; omega)⟩, (Nat.le_of_ble_eq_true rfl)⟩ dL_places_27 (fun v27 M27 q27 => ?_)
    obtain ⟨r27, hr27, rfl, e27⟩ := q27
    replace e27 := e27.symm
    subst e27
    refine v_istore F dL_places_30 (Nat.le_of_ble_eq_true rfl) (ok2_d rfl) ?_
    refine v_iload F dL_places_32 rfl ?_
    refine v_bipush (v := nI 6) F dL_places_34 (by decide) ?_
    refine v_ishr F dL_places_36 ?_
    refine v_bipush (v := nI 60) F dL_places_37 (by decide) ?_
    refine v_callS F 2 [_, _] rfl rfl rfl (h_low (by decide) (by decide)) gL_places_L_low rfl hd_L_low ⟨⟨rfl, rfl⟩, ⟨(Nat.le_of_ble_eq_true rfl), (Nat.le_of_ble_eq_true rfl)⟩, ⟨(by show _ ≤ 20; omega), (by show _ ≤ 100; omega)⟩, (Nat.le_of_ble_eq_true rfl)⟩ dL_places_39 (fun v39 M39 q39 => ?_)
    obtain ⟨r39, hr39, rfl, e39⟩ := q39
    replace e39 := e39.symm
    subst e39
    refine v_istore F dL_places_42 (Nat.le_of_ble_eq_true rfl) (ok2_d rfl) ?_
    refine v_iconst (v := nI 1) F dL_places_44 (by decide) ?_
    refine v_iload F dL_places_45 rfl ?_
    refine v_bipush (v := nI 12) F dL_places_47 (by decide) ?_
    refine v_ishr F dL_places_49 ?_
    refine v_bipush (v := nI 60) F dL_places_50 (by decide) ?_
    refine v_iload F dL_places_52 rfl ?_
    refine v_isub_n F dL_places_54 (by first | omega | exact Nat.lt_trans (hW _ _) (by decide)) ?_
    refine v_callS F 2 [_, _] rfl rfl rfl (h_low (by omega) (by omega)) gL_places_L_low rfl hd_L_low ⟨⟨rfl, rfl⟩, ⟨(Nat.le_of_ble_eq_true rfl), (Nat.le_of_ble_eq_true rfl)⟩, ⟨(by show _ ≤ 20; omega), (by show _ ≤ 100; omega)⟩, (Nat.le_of_ble_eq_true rfl)⟩ dL_places_55 (fun v55 M55 q55 => ?_)
    obtain ⟨r55, hr55, rfl, e55⟩ := q55
    replace e55 := e55.symm
    subst e55
    refine v_iadd_n F dL_places_58 ?_
    refine v_istore F dL_places_59 (Nat.le_of_ble_eq_true rfl) (ok2_d rfl) ?_
    refine v_iconst (v := nI 1) F dL_places_61 (by decide) ?_
    refine v_iload F dL_places_62 rfl ?_
    refine v_bipush (v := nI 18) F dL_places_64 (by decide) ?_
    refine v_ishr F dL_places_66 ?_
    refine v_bipush (v := nI 80) F dL_places_67 (by decide) ?_
    refine v_iload F dL_places_69 rfl ?_
    refine v_isub_n F dL_places_71 (by first | omega | exact Nat.lt_trans (hW _ _) (by decide)) ?_
    refine v_callS F 2 [_, _] rfl rfl rfl (h_low (by omega) (by omega)) gL_places_L_low rfl hd_L_low ⟨⟨rfl, rfl⟩, ⟨(Nat.le_of_ble_eq_true rfl), (Nat.le_of_ble_eq_true rfl)⟩, ⟨(by show _ ≤ 20; omega), (by show _ ≤ 100; omega)⟩, (Nat.le_of_ble_eq_true rfl)⟩ dL_places_72 (fun v72 M72 q72 => ?_)
    obtain ⟨r72, hr72, rfl, e72⟩ := q72
    replace e72 := e72.symm
    subst e72
    refine v_iadd_n F dL_places_75 ?_
    refine v_istore F dL_places_76 (Nat.le_of_ble_eq_true rfl) (ok2_d rfl) ?_
    refine v_aload_n F dL_places_78 rfl rfl ?_
    refine v_iload F dL_places_79 rfl ?_
    refine v_iload F dL_places_81 rfl ?_
    refine v_iload F dL_places_83 rfl ?_
    refine v_iload F dL_places_85 rfl ?_
    refine v_iload F dL_places_87 rfl ?_
    refine v_iload F dL_places_89 rfl ?_
    refine v_iconst (v := nI 5) F dL_places_91 (by decide) ?_
    refine v_ishr F dL_places_92 ?_
    refine v_bipush (v := nI 7) F dL_places_93 (by decide) ?_
    refine v_callS F 2 [_, _] rfl rfl rfl (h_low (by decide) (by decide)) gL_places_L_low rfl hd_L_low ⟨⟨rfl, rfl⟩, ⟨(Nat.le_of_ble_eq_true rfl), (Nat.le_of_ble_eq_true rfl)⟩, ⟨(by show _ ≤ 20; omega), (by show _ ≤ 100; omega)⟩, (Nat.le_of_ble_eq_true rfl)⟩ dL_places_95 (fun v95 M95 q95 => ?_)
    obtain ⟨r95, hr95, rfl, e95⟩ := q95
    replace e95 := e95.symm
    subst e95
    by_cases hn : n < 24
    · refine v_callSN F hN 7 [_, _, _, _, _, _, _] rfl rfl rfl (b_box hl9 hC hG hpg (show r95 ≤ 6 by omega) (by omega) (by omega) (by omega) (by omega) hn) gL_places_L_box rfl hd_L_box ⟨⟨rfl, rfl⟩, ⟨(Nat.le_of_ble_eq_true rfl), (Nat.le_of_ble_eq_true rfl)⟩, ⟨(by show _ ≤ 20; omega), (by show _ ≤ 100; omega)⟩, (Nat.le_of_ble_eq_true rfl)⟩ dL_places_98 (fun v98 M98 q98 => ?_)
      obtain ⟨qn, R9, P9, c9, hqn, rfl, hC9, hF9, hFl⟩ := q98
      have hG2 := hG.new (x := r27) (y := r39) (w := 1 + r55) (h := 1 + r72) (kd := r95) hpg (by omega) (by omega) (by omega) (by omega) (by omega) hn
      have hne := ord_new hG hG2
      have hA0 : u2 A 1 n qn 0 0 = A 0 0 := by simp [u2]
      have hg9 := fr_or hF9 hqn z1 hg
      have hpp9 := fr_or hF9 hqn z2 hpp
      have ha9 := fr_or hF9 hqn z3 ha
      have hw9 := fr_or hF9 hqn z4 hw
      have y1 := z_or hqn z1 hg
      have y2 := z_or hqn z2 hpp
      have y3 := z_or hqn z3 ha
      have y4 := z_or hqn z4 hw
      refine v_istore F dL_places_101 (Nat.le_of_ble_eq_true rfl) (ok2_d rfl) ?_
      refine v_aload_n F dL_places_103 rfl rfl ?_
      refine v_iconst (v := nI 0) F dL_places_104 (by decide) ?_
      refine v_iald_n F dL_places_105 hg9 (show 0 < 3 by decide) (by decide) ?_
      refine V.toI (h0g) ?_
      refine v_bipush (v := nI 24) F dL_places_106 (by decide) ?_
      refine v_icmp_ne_n F 124 dL_places_108 (by decide) (by first | omega | exact Nat.lt_trans (hW _ _) (by decide)) (by first | omega | exact Nat.lt_trans (hW _ _) (by decide)) (fun c108 => ?_) (fun c108 => ?_)
      · refine v_aload_n F dL_places_124 rfl rfl ?_
        refine v_aload_n F dL_places_125 rfl rfl ?_
        refine v_iconst (v := nI 0) F dL_places_126 (by decide) ?_
        refine v_iald_n F dL_places_127 hg9 (show 0 < 3 by decide) (by decide) ?_
        refine V.toI (h0g) ?_
        refine v_iload F dL_places_128 rfl ?_
        refine v_iast_n F dL_places_130 hpp9 (by first | omega | exact Nat.lt_trans (hW _ _) (by decide)) (by decide) ?_
        refine v_aload_n F dL_places_131 rfl rfl ?_
        refine v_iconst (v := nI 0) F dL_places_132 (by decide) ?_
        refine v_dup2 F dL_places_133 rfl rfl ?_
        refine v_iald_n F dL_places_134 ((mup_n d1).trans hg9) (show 0 < 3 by decide) (by decide) ?_
        refine V.toI (h0g) ?_
        refine v_iconst (v := nI 1) F dL_places_135 (by decide) ?_
        refine v_iadd_n F dL_places_136 ?_
        refine v_iast_n F dL_places_137 ((mup_n d1).trans hg9) (show 0 < 3 by decide) (by decide) ?_
        generalize e5 : mup (mup M98 Pp (.inl (ω.2.2 0, 25, .inl (upd fp n (nI pg))))) G (.inl (ω.2.2 0, 3, .inl (upd fg 0 (nI (n + 1))))) = M5
        have hg5 : M5 G = some (.inl (ω.2.2 0, 3, .inl (upd fg 0 (nI (n + 1))))) := by rw [← e5]; exact mup_s
        have hpp5 : M5 Pp = some (.inl (ω.2.2 0, 25, .inl (upd fp n (nI pg)))) := by rw [← e5, mup_n d1.symm]; exact mup_s
        have ha5 : M5 Aa = some (.inl (ω.2.2 0, 21, .inl fa)) := by rw [← e5, mup_n d2.symm, mup_n d4.symm]; exact ha9
        have hw5 : M5 Ww = some (.inl (ω.2.2 0, 21, .inl fw)) := by rw [← e5, mup_n d3.symm, mup_n d5.symm]; exact hw9
        have n1 : ∀ z, (Z z ∨ z = qn) → z ≠ G := fun z hz h => y1 (by rw [← h]; exact hz)
        have n2 : ∀ z, (Z z ∨ z = qn) → z ≠ Pp := fun z hz h => y2 (by rw [← h]; exact hz)
        have hC5 := hC9.fr (M' := M5) (fun z hz => by rw [← e5, mup_n (n1 z hz), mup_n (n2 z hz)])
        have h0g5 : upd fg 0 (nI (n + 1)) 0 = nI (n + 1) := pk_us
        have h1g5 : upd fg 0 (nI (n + 1)) 1 = nI k := (pk_un (by decide)).trans h1g
        refine v_iconst (v := nI 0) F dL_places_138 (by decide) ?_
        refine v_istore F dL_places_139 (Nat.le_of_ble_eq_true rfl) (ok2_d rfl) ?_
        refine v_iconst (v := nI 0) F dL_places_141 (by decide) ?_
        refine v_istore F dL_places_142 (Nat.le_of_ble_eq_true rfl) (ok2_d rfl) ?_
        have lp : ∀ i, i ≤ k → ∀ c, c = ctF (pgP P) pg i → V ω σ M5 [some (.ref (A 0 0)), some (.ref G), some (.ref Pp), some (.ref Aa), some (.int x), some (.int y), some (.int (nI pg)), some (.int (nI r27)), some (.int (nI r39)), some (.int (nI (1 + r55))), some (.int (nI (1 + r72))), some (.int (nI n)), some (.int (nI c)), some (.int (nI i))] 5 34 (BQ ω σ (fun v M9 => v = some (.int (nI 1)) ∧ LW ω (A 0 0) G Pp Aa Ww M9) 20 100) 144 [] := by
          refine loop_up k _ (fun i hi ih => ?_)
          intro c hc
          refine v_iload F dL_places_144 rfl ?_
          refine v_aload_n F dL_places_146 rfl rfl ?_
          refine v_iconst (v := nI 1) F dL_places_147 (by decide) ?_
          refine v_iald_n F dL_places_148 hg5 (show 1 < 3 by decide) (by decide) ?_
          refine V.toI (h1g5) ?_
          refine v_icmp_ge_n F 177 dL_places_149 (by decide) (by first | omega | exact Nat.lt_trans (hW _ _) (by decide)) (by first | omega | exact Nat.lt_trans (hW _ _) (by decide)) (fun c149 => ?_) (fun c149 => ?_)
          · obtain rfl : c9 = c := (hFl.no hne hpg hk20).trans (by rw [hc, show i = k by omega])
            have hc20 := hFl.le20 hpg hk20
            refine v_iload F dL_places_177 rfl ?_
            refine v_aload_n F dL_places_179 rfl rfl ?_
            refine v_iconst (v := nI 0) F dL_places_180 (by decide) ?_
            refine v_iald_n F dL_places_181 hg5 (show 0 < 3 by decide) (by decide) ?_
            refine V.toI (h0g5) ?_
            refine v_iconst (v := nI 1) F dL_places_182 (by decide) ?_
            refine v_isub_n F dL_places_183 (by first | omega | exact Nat.lt_trans (hW _ _) (by decide)) ?_
            refine v_icmp_ne_n F 225 dL_places_184 (by decide) (by first | omega | exact Nat.lt_trans (hW _ _) (by decide)) (by first | omega | exact Nat.lt_trans (hW _ _) (by decide)) (fun c184 => ?_) (fun c184 => ?_)
            · exact absurd (by omega) c184
            · refine v_aload_n F dL_places_187 rfl rfl ?_
              refine v_aload_n F dL_places_188 rfl rfl ?_
              refine v_aload_n F dL_places_189 rfl rfl ?_
              refine v_iload F dL_places_190 rfl ?_
              refine v_iload F dL_places_192 rfl ?_
              refine v_callS F 5 [_, _, _, _, _] rfl rfl rfl (c_fall hg5 ha5 d2 h1g5 hk20 hpg hfa hQ hFl) gL_places_L_fall rfl hd_L_fall ⟨⟨rfl, rfl⟩, ⟨(Nat.le_of_ble_eq_true rfl), (Nat.le_of_ble_eq_true rfl)⟩, ⟨(by show _ ≤ 20; omega), (by show _ ≤ 100; omega)⟩, (Nat.le_of_ble_eq_true rfl)⟩ dL_places_194 (fun v194 M194 q194 => ?_)
              obtain ⟨rfl, fa9, hfa9, ha6, hfr6⟩ := q194
              have hC6 := hC5.fr (fun z hz => hfr6 z (fun h => y3 (h ▸ hz)))
              have hg6 := (hfr6 G d2).trans hg5
              have hpp6 := (hfr6 Pp d4).trans hpp5
              have hw6 := (hfr6 Ww d6.symm).trans hw5
              have hP9 := hP.fall (q := 0) hFl
              have hQ9 := hFl.gq hQ
              have hab := a_about_3 (l := σ.2.1) hC6 (Nat.lt_succ_self n)
              rw [hA0] at hab
              have hwho := a_who hl9 hC6 hP9 hpg
              rw [hA0] at hwho
              refine v_if_eq_n F 225 dL_places_197 (by decide) (by first | omega | exact Nat.lt_trans (hW _ _) (by decide)) (fun c197 => ?_) (fun c197 => ?_)
              · exact absurd c197 (by decide)
              · refine v_aload_n F dL_places_200 rfl rfl ?_
                refine v_iload F dL_places_201 rfl ?_
                refine v_iconst (v := nI 3) F dL_places_203 (by decide) ?_
                refine v_callSN F hN 3 [_, _, _] rfl rfl rfl (hab) gL_places_L_about rfl hd_L_about ⟨⟨rfl, rfl⟩, ⟨(Nat.le_of_ble_eq_true rfl), (Nat.le_of_ble_eq_true rfl)⟩, ⟨(by show _ ≤ 20; omega), (by show _ ≤ 100; omega)⟩, (Nat.le_of_ble_eq_true rfl)⟩ dL_places_204 (fun v204 M204 q204 => ?_)
                obtain ⟨rfl, e204⟩ := q204
                replace e204 := e204.symm
                subst e204
                refine V.toI ((show nI ((nwB B n pg r27 r39 (1 + r55) (1 + r72) r95) n 3) = nI (1 + r55) by simp [nwB])) ?_
                refine v_iload F dL_places_207 rfl ?_
                refine v_icmp_ne_n F 225 dL_places_209 (by decide) (by first | omega | exact Nat.lt_trans (hW _ _) (by decide)) (by first | omega | exact Nat.lt_trans (hW _ _) (by decide)) (fun c209 => ?_) (fun c209 => ?_)
                · exact absurd rfl c209
                · refine v_aload_n F dL_places_212 rfl rfl ?_
                  refine v_iload F dL_places_213 rfl ?_
                  refine v_callSN F hN 2 [_, _] rfl rfl rfl (hwho) gL_places_L_approvers rfl hd_L_approvers ⟨⟨rfl, rfl⟩, ⟨(Nat.le_of_ble_eq_true rfl), (Nat.le_of_ble_eq_true rfl)⟩, ⟨(by show _ ≤ 20; omega), (by show _ ≤ 100; omega)⟩, (Nat.le_of_ble_eq_true rfl)⟩ dL_places_215 (fun v215 M215 q215 => ?_)
                  obtain ⟨rfl, e215⟩ := q215
                  replace e215 := e215.symm
                  subst e215
                  refine v_if_ne_n F 225 dL_places_218 (by decide) (Nat.lt_trans (mkF_lt hP9.1 _) (by decide)) (fun c218 => ?_) (fun c218 => ?_)
                  · exact absurd (mkF_0 k (hFl.none hne hpg hk20)) c218
                  · refine v_iconst (v := nI 1) F dL_places_221 (by decide) ?_
                    refine v_goto F 226 dL_places_222 (by decide) ?_
                    exact v_zret F hr dL_places_226 rfl (by omega) (by omega) ⟨rfl, u2 A 1 n qn, (nwB B n pg r27 r39 (1 + r55) (1 + r72) r95), P9, n + 1, k, R9, _, _, _, _, _, hA0, hC6, hG2, hP9, hQ9, ⟨y1, y2, y3, y4⟩, ⟨hg6, hpp6, ha6, hw6⟩, ⟨h0g5, h1g5⟩, hfp.new, hfa9, hfw.fall hFl⟩
          · refine v_iload F dL_places_152 rfl ?_
            refine v_aload_n F dL_places_154 rfl rfl ?_
            refine v_iload F dL_places_155 rfl ?_
            refine v_iald_n F dL_places_157 ha5 (by first | omega | exact Nat.lt_trans (hW _ _) (by decide)) (by decide) ?_
            refine V.toI (hfa i (by omega)) ?_
            refine v_iload F dL_places_158 rfl ?_
            refine v_icmp_ne_n F 167 dL_places_160 (by decide) (by first | omega | (have := pgP_lt hQ (show i < k by omega); omega)) (by first | omega | (have := pgP_lt hQ (show i < k by omega); omega)) (fun c160 => ?_) (fun c160 => ?_)
            · refine v_iconst (v := nI 0) F dL_places_167 (by decide) ?_
              refine v_iadd_n F dL_places_168 ?_
              refine v_istore F dL_places_169 (Nat.le_of_ble_eq_true rfl) (ok2_d rfl) ?_
              refine v_iinc1 F dL_places_171 rfl (ok2_d rfl) ?_
              refine v_goto F 144 dL_places_174 (by decide) ?_
              exact ih (by omega) _ (by first | exact ct_1 hc c160 | exact ct_0 hc c160)
            · refine v_iconst (v := nI 1) F dL_places_163 (by decide) ?_
              refine v_goto F 168 dL_places_164 (by decide) ?_
              refine v_iadd_n F dL_places_168 ?_
              refine v_istore F dL_places_169 (Nat.le_of_ble_eq_true rfl) (ok2_d rfl) ?_
              refine v_iinc1 F dL_places_171 rfl (ok2_d rfl) ?_
              refine v_goto F 144 dL_places_174 (by decide) ?_
              exact ih (by omega) _ (by first | exact ct_1 hc c160 | exact ct_0 hc c160)
        exact lp 0 (Nat.zero_le _) 0 rfl
      · exact absurd c108 (by omega)
    · refine v_callSN F hN 7 [_, _, _, _, _, _, _] rfl rfl rfl (b_box_full hl9 hC hpg (show r95 ≤ 6 by omega) (by omega) (by omega) (by omega) (by omega) hn) gL_places_L_box rfl hd_L_box ⟨⟨rfl, rfl⟩, ⟨(Nat.le_of_ble_eq_true rfl), (Nat.le_of_ble_eq_true rfl)⟩, ⟨(by show _ ≤ 20; omega), (by show _ ≤ 100; omega)⟩, (Nat.le_of_ble_eq_true rfl)⟩ dL_places_98 (fun v98 M98 q98 => ?_)
      obtain ⟨rfl, e98⟩ := q98
      replace e98 := e98.symm
      subst e98
      refine v_istore F dL_places_101 (Nat.le_of_ble_eq_true rfl) (ok2_d rfl) ?_
      refine v_aload_n F dL_places_103 rfl rfl ?_
      refine v_iconst (v := nI 0) F dL_places_104 (by decide) ?_
      refine v_iald_n F dL_places_105 hg (show 0 < 3 by decide) (by decide) ?_
      refine V.toI (h0g) ?_
      refine v_bipush (v := nI 24) F dL_places_106 (by decide) ?_
      refine v_icmp_ne_n F 124 dL_places_108 (by decide) (by first | omega | exact Nat.lt_trans (hW _ _) (by decide)) (by first | omega | exact Nat.lt_trans (hW _ _) (by decide)) (fun c108 => ?_) (fun c108 => ?_)
      · exact absurd (by omega) c108
      · refine v_iload F dL_places_111 rfl ?_
        refine v_ldc (v := (-1000003)) F (by decide +kernel) dL_places_113 ?_
        refine v_icmp_ne F 122 dL_places_115 (by decide) (fun c115 => ?_) (fun c115 => ?_)
        · exact absurd rfl c115
        · refine v_iconst (v := nI 1) F dL_places_118 (by decide) ?_
          refine v_goto F 123 dL_places_119 (by decide) ?_
          exact v_zret F hr dL_places_123 rfl (by omega) (by omega) ⟨rfl, ⟨A, B, P, n, k, R, Z, fg, fp, fa, fw, rfl, hS⟩⟩
  refine v_iload F dL_places_0 rfl ?_
  refine v_iconst (v := nI 3) F dL_places_2 (by decide) ?_
  refine v_callS F 2 [_, _] rfl rfl rfl (h_low (by decide) (by decide)) gL_places_L_low rfl hd_L_low ⟨⟨rfl, rfl⟩, ⟨(Nat.le_of_ble_eq_true rfl), (Nat.le_of_ble_eq_true rfl)⟩, ⟨(by show _ ≤ 20; omega), (by show _ ≤ 100; omega)⟩, (Nat.le_of_ble_eq_true rfl)⟩ dL_places_3 (fun v3 M3 q3 => ?_)
  obtain ⟨r3, hr3, rfl, e3⟩ := q3
  replace e3 := e3.symm
  subst e3
  refine v_if_le_n F 20 dL_places_6 (by decide) (by first | omega | exact Nat.lt_trans (hW _ _) (by decide)) (fun c6 => ?_) (fun c6 => ?_)
  · refine v_iconst (v := nI 2) F dL_places_20 (by decide) ?_
    first | exact j21 _ hr14 | exact j21 _ (by decide)
  · refine v_iload F dL_places_9 rfl ?_
    refine v_iconst (v := nI 2) F dL_places_11 (by decide) ?_
    refine v_ishr F dL_places_12 ?_
    refine v_iconst (v := nI 5) F dL_places_13 (by decide) ?_
    refine v_callS F 2 [_, _] rfl rfl rfl (h_low (by decide) (by decide)) gL_places_L_low rfl hd_L_low ⟨⟨rfl, rfl⟩, ⟨(Nat.le_of_ble_eq_true rfl), (Nat.le_of_ble_eq_true rfl)⟩, ⟨(by show _ ≤ 20; omega), (by show _ ≤ 100; omega)⟩, (Nat.le_of_ble_eq_true rfl)⟩ dL_places_14 (fun v14 M14 q14 => ?_)
    obtain ⟨r14, hr14, rfl, e14⟩ := q14
    replace e14 := e14.symm
    subst e14
    refine v_goto F 21 dL_places_17 (by decide) ?_
    first | exact j21 _ hr14 | exact j21 _ (by decide)
