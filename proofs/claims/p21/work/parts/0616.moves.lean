/-! the law: a box moves -/
def rmL_moves : Room := { frames := 75, cells := 40, slots := 200, locals := 1716 }
theorem hd_L_moves : yL_moves.cls ≠ "java/lang/invoke/MethodHandle" ∧ yL_moves.cls ≠ "java/lang/invoke/VarHandle" ∧ (parseMethodDescriptor yL_moves.desc).map (fun d => d.parameters.length) = some 6 := by decide +kernel
set_option maxHeartbeats 4000000 in
set_option maxRecDepth 100000 in
theorem c_moves {l : Launch} {ω : Om} {M : MM} (hl9 : l.stackTraces = false) {A B P : FF} {n k : Nat} {R : Nat → (Nat → Int32) × Nat} {Z : Nat → Prop} {G Pp Aa Ww : Nat} {fg fp fa fw : Nat → Int32} (hS : LSt ω G Pp Aa Ww A B P n k R Z fg fp fa fw M) (hd : D4 G Pp Aa Ww) {j : Nat} (hj : j < n) {y : Int32} : CtN l ω yL_moves wsL_moves rmL_moves [.ref (A 0 0), .ref G, .ref Pp, .ref Aa, .int (nI j), .int y] M (fun v M9 => v = some (.int (nI 1)) ∧ LW ω (A 0 0) G Pp Aa Ww M9) 40 200 := by
  refine CtN.ofC (cc := cL_moves) (maxL := 11) (ret := (some .boolean)) [some (.ref (A 0 0)), some (.ref G), some (.ref Pp), some (.ref Aa), some (.int (nI j)), some (.int y), none, none, none, none, none] (by decide) rfl (Nat.le_of_ble_eq_true rfl) rfl (Lc.av (av := [.ref (A 0 0), .ref G, .ref Pp, .ref Aa, .int (nI j), .int y]) (k := 5) rfl) ?_
  intro σ F hl hr hN
  have F : Fx ω σ cL_moves 11 wsL_moves RL rmL_moves := F
  subst hl
  obtain ⟨hC, hG, hP, hQ, ⟨z1, z2, z3, z4⟩, ⟨hg, hpp, ha, hw⟩, ⟨h0g, h1g⟩, hfp, hfa, hfw⟩ := id hS
  obtain ⟨d1, d2, d3, d4, d5, d6⟩ := hd
  have hn24 : n ≤ 24 := hG.1.1
  have hW : ∀ i j, B i j < 128 := hG.1.2.1
  have hk20 : k ≤ 20 := hP.2.2.1
  have hp5 := (hG.2.2.2.2.1 j hj).1
  have hpl := pgB_lt hG hj
  refine v_iload F dL_moves_0 rfl ?_
  refine v_bipush (v := nI 60) F dL_moves_2 (by decide) ?_
  refine v_callS F 2 [_, _] rfl rfl rfl (h_low (by decide) (by decide)) gL_moves_L_low rfl hd_L_low ⟨⟨rfl, rfl⟩, ⟨(Nat.le_of_ble_eq_true rfl), (Nat.le_of_ble_eq_true rfl)⟩, ⟨(by show _ ≤ 40; omega), (by show _ ≤ 200; omega)⟩, (Nat.le_of_ble_eq_true rfl)⟩ dL_moves_4 (fun v4 M4 q4 => ?_)
  obtain ⟨r4, hr4, rfl, e4⟩ := q4
  replace e4 := e4.symm
  subst e4
  refine v_istore F dL_moves_7 (Nat.le_of_ble_eq_true rfl) (ok2_d rfl) ?_
  refine v_iload F dL_moves_9 rfl ?_
  refine v_bipush (v := nI 6) F dL_moves_11 (by decide) ?_
  refine v_ishr F dL_moves_13 ?_
  refine v_bipush (v := nI 80) F dL_moves_14 (by decide) ?_
  refine v_callS F 2 [_, _] rfl rfl rfl (h_low (by decide) (by decide)) gL_moves_L_low rfl hd_L_low ⟨⟨rfl, rfl⟩, ⟨(Nat.le_of_ble_eq_true rfl), (Nat.le_of_ble_eq_true rfl)⟩, ⟨(by show _ ≤ 40; omega), (by show _ ≤ 200; omega)⟩, (Nat.le_of_ble_eq_true rfl)⟩ dL_moves_16 (fun v16 M16 q16 => ?_)
  obtain ⟨r16, hr16, rfl, e16⟩ := q16
  replace e16 := e16.symm
  subst e16
  refine v_istore F dL_moves_19 (Nat.le_of_ble_eq_true rfl) (ok2_d rfl) ?_
  by_cases hg8 : B j 8 = 0
  · refine v_aload_n F dL_moves_21 rfl rfl ?_
    refine v_iload F dL_moves_22 rfl ?_
    refine v_iald_n F dL_moves_24 hpp (by first | omega | exact Nat.lt_trans (hW _ _) (by decide)) (by decide) ?_
    refine V.toI (hfp j hj) ?_
    refine v_bipush (v := nI 9) F dL_moves_25 (by decide) ?_
    refine v_icmp_ne_n F 66 dL_moves_27 (by decide) (by first | omega | exact Nat.lt_trans (hW _ _) (by decide)) (by first | omega | exact Nat.lt_trans (hW _ _) (by decide)) (fun c27 => ?_) (fun c27 => ?_)
    · by_cases hfit : r4 + B j 3 ≤ 60 ∧ r16 + B j 4 ≤ 80
      · refine v_iload F dL_moves_66 rfl ?_
        refine v_aload_n F dL_moves_68 rfl rfl ?_
        refine v_iload F dL_moves_69 rfl ?_
        refine v_iconst (v := nI 3) F dL_moves_71 (by decide) ?_
        refine v_callSN F hN 3 [_, _, _] rfl rfl rfl (a_about_3 hC hj) gL_moves_L_about rfl hd_L_about ⟨⟨rfl, rfl⟩, ⟨(Nat.le_of_ble_eq_true rfl), (Nat.le_of_ble_eq_true rfl)⟩, ⟨(by show _ ≤ 40; omega), (by show _ ≤ 200; omega)⟩, (Nat.le_of_ble_eq_true rfl)⟩ dL_moves_72 (fun v72 M72 q72 => ?_)
        obtain ⟨rfl, e72⟩ := q72
        replace e72 := e72.symm
        subst e72
        have hb3 := hW j 3
        have hb4 := hW j 4
        refine v_iadd_n F dL_moves_75 ?_
        refine v_bipush (v := nI 60) F dL_moves_76 (by decide) ?_
        refine v_icmp_gt_n F 100 dL_moves_78 (by decide) (by first | omega | exact Nat.lt_trans (hW _ _) (by decide)) (by first | omega | exact Nat.lt_trans (hW _ _) (by decide)) (fun c78 => ?_) (fun c78 => ?_)
        · exact absurd c78 (by omega)
        · refine v_iload F dL_moves_81 rfl ?_
          refine v_aload_n F dL_moves_83 rfl rfl ?_
          refine v_iload F dL_moves_84 rfl ?_
          refine v_iconst (v := nI 4) F dL_moves_86 (by decide) ?_
          refine v_callSN F hN 3 [_, _, _] rfl rfl rfl (a_about_4 hC hj) gL_moves_L_about rfl hd_L_about ⟨⟨rfl, rfl⟩, ⟨(Nat.le_of_ble_eq_true rfl), (Nat.le_of_ble_eq_true rfl)⟩, ⟨(by show _ ≤ 40; omega), (by show _ ≤ 200; omega)⟩, (Nat.le_of_ble_eq_true rfl)⟩ dL_moves_87 (fun v87 M87 q87 => ?_)
          obtain ⟨rfl, e87⟩ := q87
          replace e87 := e87.symm
          subst e87
          refine v_iadd_n F dL_moves_90 ?_
          refine v_bipush (v := nI 80) F dL_moves_91 (by decide) ?_
          refine v_icmp_gt_n F 100 dL_moves_93 (by decide) (by first | omega | exact Nat.lt_trans (hW _ _) (by decide)) (by first | omega | exact Nat.lt_trans (hW _ _) (by decide)) (fun c93 => ?_) (fun c93 => ?_)
          · exact absurd c93 (by omega)
          · refine v_iconst (v := nI 1) F dL_moves_96 (by decide) ?_
            refine v_goto F 101 dL_moves_97 (by decide) ?_
            refine v_istore F dL_moves_101 (Nat.le_of_ble_eq_true rfl) (ok2_d rfl) ?_
            refine v_aload_n F dL_moves_103 rfl rfl ?_
            refine v_iload F dL_moves_104 rfl ?_
            refine v_iload F dL_moves_106 rfl ?_
            refine v_iload F dL_moves_108 rfl ?_
            refine v_callSN F hN 4 [_, _, _, _] rfl rfl rfl (b_breaks hl9 hC hG hj hg8 hfit.1 hfit.2) gL_moves_L_breaks rfl hd_L_breaks ⟨⟨rfl, rfl⟩, ⟨(Nat.le_of_ble_eq_true rfl), (Nat.le_of_ble_eq_true rfl)⟩, ⟨(by show _ ≤ 40; omega), (by show _ ≤ 200; omega)⟩, (Nat.le_of_ble_eq_true rfl)⟩ dL_moves_110 (fun v110 M110 q110 => ?_)
            obtain ⟨Rb, cb, rfl, hCb, hFb, hcb⟩ := q110
            refine v_istore F dL_moves_113 (Nat.le_of_ble_eq_true rfl) (ok2_d rfl) ?_
            refine v_aload_n F dL_moves_115 rfl rfl ?_
            refine v_iload F dL_moves_116 rfl ?_
            refine v_iload F dL_moves_118 rfl ?_
            refine v_iload F dL_moves_120 rfl ?_
            refine v_callSN F hN 4 [_, _, _, _] rfl rfl rfl (b_move hl9 hCb hG hj hg8 hfit.1 hfit.2) gL_moves_L_move rfl hd_L_move ⟨⟨rfl, rfl⟩, ⟨(Nat.le_of_ble_eq_true rfl), (Nat.le_of_ble_eq_true rfl)⟩, ⟨(by show _ ≤ 40; omega), (by show _ ≤ 200; omega)⟩, (Nat.le_of_ble_eq_true rfl)⟩ dL_moves_122 (fun v122 M122 q122 => ?_)
            obtain ⟨Rm, P9, cm, rfl, hCm, hFm, hFl⟩ := q122
            obtain rfl : cb = cm := brk_eq hFl hcb
            have hc20 := hFl.le20 hp5 hk20
            have hgm := (hFm _ z1).trans ((hFb _ z1).trans hg)
            have hppm := (hFm _ z2).trans ((hFb _ z2).trans hpp)
            have ham := (hFm _ z3).trans ((hFb _ z3).trans ha)
            have hwm := (hFm _ z4).trans ((hFb _ z4).trans hw)
            have hG2 := hG.mv (x := r4) (y := r16) hj hfit.1 hfit.2
            have hP9 := hP.fall (q := 0) hFl
            have hQ9 := hFl.gq hQ
            refine v_istore F dL_moves_125 (Nat.le_of_ble_eq_true rfl) (ok2_d rfl) ?_
            refine v_iload F dL_moves_127 rfl ?_
            refine v_if_ne_n F 152 dL_moves_129 (by decide) (by first | omega | exact Nat.lt_trans (hW _ _) (by decide)) (fun c129 => ?_) (fun c129 => ?_)
            · refine v_iload F dL_moves_152 rfl ?_
              refine v_iload F dL_moves_154 rfl ?_
              refine v_icmp_ne_n F 215 dL_moves_156 (by decide) (by first | omega | exact Nat.lt_trans (hW _ _) (by decide)) (by first | omega | exact Nat.lt_trans (hW _ _) (by decide)) (fun c156 => ?_) (fun c156 => ?_)
              · exact absurd rfl c156
              · refine v_aload_n F dL_moves_159 rfl rfl ?_
                refine v_aload_n F dL_moves_160 rfl rfl ?_
                refine v_aload_n F dL_moves_161 rfl rfl ?_
                refine v_aload_n F dL_moves_162 rfl rfl ?_
                refine v_iload F dL_moves_163 rfl ?_
                refine v_iald_n F dL_moves_165 hppm (by first | omega | exact Nat.lt_trans (hW _ _) (by decide)) (by decide) ?_
                refine V.toI ((hfp j hj).trans (by rw [pgB_0 hg8])) ?_
                refine v_iload F dL_moves_166 rfl ?_
                refine v_callS F 5 [_, _, _, _, _] rfl rfl rfl (c_fall hgm ham d2 h1g hk20 hp5 hfa hQ hFl) gL_moves_L_fall rfl hd_L_fall ⟨⟨rfl, rfl⟩, ⟨(Nat.le_of_ble_eq_true rfl), (Nat.le_of_ble_eq_true rfl)⟩, ⟨(by show _ ≤ 40; omega), (by show _ ≤ 200; omega)⟩, (Nat.le_of_ble_eq_true rfl)⟩ dL_moves_168 (fun v168 M168 q168 => ?_)
                obtain ⟨rfl, fa9, hfa9, ha6, hfr6⟩ := q168
                have hC6 := hCm.fr (fun z hz => hfr6 z (fun h => z3 (h ▸ hz)))
                have hg6 := (hfr6 G d2).trans hgm
                have hpp6 := (hfr6 Pp d4).trans hppm
                have hw6 := (hfr6 Ww d6.symm).trans hwm
                refine v_if_eq_n F 215 dL_moves_171 (by decide) (by first | omega | exact Nat.lt_trans (hW _ _) (by decide)) (fun c171 => ?_) (fun c171 => ?_)
                · exact absurd c171 (by decide)
                · refine v_aload_n F dL_moves_174 rfl rfl ?_
                  refine v_iload F dL_moves_175 rfl ?_
                  refine v_iconst (v := nI 1) F dL_moves_177 (by decide) ?_
                  refine v_callSN F hN 3 [_, _, _] rfl rfl rfl (a_about_1 hC6 hj) gL_moves_L_about rfl hd_L_about ⟨⟨rfl, rfl⟩, ⟨(Nat.le_of_ble_eq_true rfl), (Nat.le_of_ble_eq_true rfl)⟩, ⟨(by show _ ≤ 40; omega), (by show _ ≤ 200; omega)⟩, (Nat.le_of_ble_eq_true rfl)⟩ dL_moves_178 (fun v178 M178 q178 => ?_)
                  obtain ⟨rfl, e178⟩ := q178
                  replace e178 := e178.symm
                  subst e178
                  refine V.toI ((show nI ((mvB B j r4 r16) j 1) = nI r4 by simp [mvB, u2])) ?_
                  refine v_iload F dL_moves_181 rfl ?_
                  refine v_icmp_ne_n F 215 dL_moves_183 (by decide) (by first | omega | exact Nat.lt_trans (hW _ _) (by decide)) (by first | omega | exact Nat.lt_trans (hW _ _) (by decide)) (fun c183 => ?_) (fun c183 => ?_)
                  · exact absurd rfl c183
                  · refine v_aload_n F dL_moves_186 rfl rfl ?_
                    refine v_iload F dL_moves_187 rfl ?_
                    refine v_iconst (v := nI 2) F dL_moves_189 (by decide) ?_
                    refine v_callSN F hN 3 [_, _, _] rfl rfl rfl (a_about_2 hC6 hj) gL_moves_L_about rfl hd_L_about ⟨⟨rfl, rfl⟩, ⟨(Nat.le_of_ble_eq_true rfl), (Nat.le_of_ble_eq_true rfl)⟩, ⟨(by show _ ≤ 40; omega), (by show _ ≤ 200; omega)⟩, (Nat.le_of_ble_eq_true rfl)⟩ dL_moves_190 (fun v190 M190 q190 => ?_)
                    obtain ⟨rfl, e190⟩ := q190
                    replace e190 := e190.symm
                    subst e190
                    refine V.toI ((show nI ((mvB B j r4 r16) j 2) = nI r16 by simp [mvB, u2])) ?_
                    refine v_iload F dL_moves_193 rfl ?_
                    refine v_icmp_ne_n F 215 dL_moves_195 (by decide) (by first | omega | exact Nat.lt_trans (hW _ _) (by decide)) (by first | omega | exact Nat.lt_trans (hW _ _) (by decide)) (fun c195 => ?_) (fun c195 => ?_)
                    · exact absurd rfl c195
                    · refine v_aload_n F dL_moves_198 rfl rfl ?_
                      refine v_iload F dL_moves_199 rfl ?_
                      refine v_iload F dL_moves_201 rfl ?_
                      refine v_iload F dL_moves_203 rfl ?_
                      refine v_callSN F hN 4 [_, _, _, _] rfl rfl rfl (b_breaks_0 hl9 hC6 hG hj hg8 hfit.1 hfit.2) gL_moves_L_breaks rfl hd_L_breaks ⟨⟨rfl, rfl⟩, ⟨(Nat.le_of_ble_eq_true rfl), (Nat.le_of_ble_eq_true rfl)⟩, ⟨(by show _ ≤ 40; omega), (by show _ ≤ 200; omega)⟩, (Nat.le_of_ble_eq_true rfl)⟩ dL_moves_205 (fun v205 M205 q205 => ?_)
                      obtain ⟨rfl, R7, hC7, hF7⟩ := q205
                      refine v_if_ne_n F 215 dL_moves_208 (by decide) (by decide) (fun c208 => ?_) (fun c208 => ?_)
                      · exact absurd rfl c208
                      · refine v_iconst (v := nI 1) F dL_moves_211 (by decide) ?_
                        refine v_goto F 216 dL_moves_212 (by decide) ?_
                        exact v_zret F hr dL_moves_216 rfl (by omega) (by omega) ⟨rfl, A, (mvB B j r4 r16), P9, n, k, R7, Z, fg, fp, fa9, fw, rfl, hC7, hG2, hP9, hQ9, ⟨z1, z2, z3, z4⟩, ⟨(hF7 _ z1).trans hg6, (hF7 _ z2).trans hpp6, (hF7 _ z3).trans ha6, (hF7 _ z4).trans hw6⟩, ⟨h0g, h1g⟩, hfp.geo (fun i => ⟨by simp [mvB, u2], by simp [mvB, u2]⟩), hfa9, hfw.fall hFl⟩
            · exact absurd c129 (by decide)
      · refine v_iload F dL_moves_66 rfl ?_
        refine v_aload_n F dL_moves_68 rfl rfl ?_
        refine v_iload F dL_moves_69 rfl ?_
        refine v_iconst (v := nI 3) F dL_moves_71 (by decide) ?_
        refine v_callSN F hN 3 [_, _, _] rfl rfl rfl (a_about_3 hC hj) gL_moves_L_about rfl hd_L_about ⟨⟨rfl, rfl⟩, ⟨(Nat.le_of_ble_eq_true rfl), (Nat.le_of_ble_eq_true rfl)⟩, ⟨(by show _ ≤ 40; omega), (by show _ ≤ 200; omega)⟩, (Nat.le_of_ble_eq_true rfl)⟩ dL_moves_72 (fun v72 M72 q72 => ?_)
        obtain ⟨rfl, e72⟩ := q72
        replace e72 := e72.symm
        subst e72
        have hb3 := hW j 3
        have hb4 := hW j 4
        refine v_iadd_n F dL_moves_75 ?_
        refine v_bipush (v := nI 60) F dL_moves_76 (by decide) ?_
        refine v_icmp_gt_n F 100 dL_moves_78 (by decide) (by first | omega | exact Nat.lt_trans (hW _ _) (by decide)) (by first | omega | exact Nat.lt_trans (hW _ _) (by decide)) (fun c78 => ?_) (fun c78 => ?_)
        · refine v_iconst (v := nI 0) F dL_moves_100 (by decide) ?_
          refine v_istore F dL_moves_101 (Nat.le_of_ble_eq_true rfl) (ok2_d rfl) ?_
          refine v_aload_n F dL_moves_103 rfl rfl ?_
          refine v_iload F dL_moves_104 rfl ?_
          refine v_iload F dL_moves_106 rfl ?_
          refine v_iload F dL_moves_108 rfl ?_
          refine v_callSN F hN 4 [_, _, _, _] rfl rfl rfl (b_breaks_bad hl9 hC hj hg8 (inPg_no (by omega) (by omega) (Nat.lt_trans (hW _ _) (by decide)) (Nat.lt_trans (hW _ _) (by decide)) hfit)) gL_moves_L_breaks rfl hd_L_breaks ⟨⟨rfl, rfl⟩, ⟨(Nat.le_of_ble_eq_true rfl), (Nat.le_of_ble_eq_true rfl)⟩, ⟨(by show _ ≤ 40; omega), (by show _ ≤ 200; omega)⟩, (Nat.le_of_ble_eq_true rfl)⟩ dL_moves_110 (fun v110 M110 q110 => ?_)
          obtain ⟨rfl, e110⟩ := q110
          replace e110 := e110.symm
          subst e110
          refine v_istore F dL_moves_113 (Nat.le_of_ble_eq_true rfl) (ok2_d rfl) ?_
          refine v_aload_n F dL_moves_115 rfl rfl ?_
          refine v_iload F dL_moves_116 rfl ?_
          refine v_iload F dL_moves_118 rfl ?_
          refine v_iload F dL_moves_120 rfl ?_
          refine v_callSN F hN 4 [_, _, _, _] rfl rfl rfl (b_move_bad hl9 hC hj hg8 (inPg_no (by omega) (by omega) (Nat.lt_trans (hW _ _) (by decide)) (Nat.lt_trans (hW _ _) (by decide)) hfit)) gL_moves_L_move rfl hd_L_move ⟨⟨rfl, rfl⟩, ⟨(Nat.le_of_ble_eq_true rfl), (Nat.le_of_ble_eq_true rfl)⟩, ⟨(by show _ ≤ 40; omega), (by show _ ≤ 200; omega)⟩, (Nat.le_of_ble_eq_true rfl)⟩ dL_moves_122 (fun v122 M122 q122 => ?_)
          obtain ⟨rfl, e122⟩ := q122
          replace e122 := e122.symm
          subst e122
          refine v_istore F dL_moves_125 (Nat.le_of_ble_eq_true rfl) (ok2_d rfl) ?_
          refine v_iload F dL_moves_127 rfl ?_
          refine v_if_ne_n F 152 dL_moves_129 (by decide) (by first | omega | exact Nat.lt_trans (hW _ _) (by decide)) (fun c129 => ?_) (fun c129 => ?_)
          · exact absurd rfl c129
          · refine v_iload F dL_moves_132 rfl ?_
            refine v_ldc (v := (-1000002)) F (by decide +kernel) dL_moves_134 ?_
            refine v_icmp_ne F 150 dL_moves_136 (by decide) (fun c136 => ?_) (fun c136 => ?_)
            · exact absurd rfl c136
            · refine v_iload F dL_moves_139 rfl ?_
              refine v_ldc (v := (-1000002)) F (by decide +kernel) dL_moves_141 ?_
              refine v_icmp_ne F 150 dL_moves_143 (by decide) (fun c143 => ?_) (fun c143 => ?_)
              · exact absurd rfl c143
              · refine v_iconst (v := nI 1) F dL_moves_146 (by decide) ?_
                refine v_goto F 151 dL_moves_147 (by decide) ?_
                exact v_zret F hr dL_moves_151 rfl (by omega) (by omega) ⟨rfl, ⟨A, B, P, n, k, R, Z, fg, fp, fa, fw, rfl, hS⟩⟩
        · refine v_iload F dL_moves_81 rfl ?_
          refine v_aload_n F dL_moves_83 rfl rfl ?_
          refine v_iload F dL_moves_84 rfl ?_
          refine v_iconst (v := nI 4) F dL_moves_86 (by decide) ?_
          refine v_callSN F hN 3 [_, _, _] rfl rfl rfl (a_about_4 hC hj) gL_moves_L_about rfl hd_L_about ⟨⟨rfl, rfl⟩, ⟨(Nat.le_of_ble_eq_true rfl), (Nat.le_of_ble_eq_true rfl)⟩, ⟨(by show _ ≤ 40; omega), (by show _ ≤ 200; omega)⟩, (Nat.le_of_ble_eq_true rfl)⟩ dL_moves_87 (fun v87 M87 q87 => ?_)
          obtain ⟨rfl, e87⟩ := q87
          replace e87 := e87.symm
          subst e87
          refine v_iadd_n F dL_moves_90 ?_
          refine v_bipush (v := nI 80) F dL_moves_91 (by decide) ?_
          refine v_icmp_gt_n F 100 dL_moves_93 (by decide) (by first | omega | exact Nat.lt_trans (hW _ _) (by decide)) (by first | omega | exact Nat.lt_trans (hW _ _) (by decide)) (fun c93 => ?_) (fun c93 => ?_)
          · refine v_iconst (v := nI 0) F dL_moves_100 (by decide) ?_
            refine v_istore F dL_moves_101 (Nat.le_of_ble_eq_true rfl) (ok2_d rfl) ?_
            refine v_aload_n F dL_moves_103 rfl rfl ?_
            refine v_iload F dL_moves_104 rfl ?_
            refine v_iload F dL_moves_106 rfl ?_
            refine v_iload F dL_moves_108 rfl ?_
            refine v_callSN F hN 4 [_, _, _, _] rfl rfl rfl (b_breaks_bad hl9 hC hj hg8 (inPg_no (by omega) (by omega) (Nat.lt_trans (hW _ _) (by decide)) (Nat.lt_trans (hW _ _) (by decide)) hfit)) gL_moves_L_breaks rfl hd_L_breaks ⟨⟨rfl, rfl⟩, ⟨(Nat.le_of_ble_eq_true rfl), (Nat.le_of_ble_eq_true rfl)⟩, ⟨(by show _ ≤ 40; omega), (by show _ ≤ 200; omega)⟩, (Nat.le_of_ble_eq_true rfl)⟩ dL_moves_110 (fun v110 M110 q110 => ?_)
            obtain ⟨rfl, e110⟩ := q110
            replace e110 := e110.symm
            subst e110
            refine v_istore F dL_moves_113 (Nat.le_of_ble_eq_true rfl) (ok2_d rfl) ?_
            refine v_aload_n F dL_moves_115 rfl rfl ?_
            refine v_iload F dL_moves_116 rfl ?_
            refine v_iload F dL_moves_118 rfl ?_
            refine v_iload F dL_moves_120 rfl ?_
            refine v_callSN F hN 4 [_, _, _, _] rfl rfl rfl (b_move_bad hl9 hC hj hg8 (inPg_no (by omega) (by omega) (Nat.lt_trans (hW _ _) (by decide)) (Nat.lt_trans (hW _ _) (by decide)) hfit)) gL_moves_L_move rfl hd_L_move ⟨⟨rfl, rfl⟩, ⟨(Nat.le_of_ble_eq_true rfl), (Nat.le_of_ble_eq_true rfl)⟩, ⟨(by show _ ≤ 40; omega), (by show _ ≤ 200; omega)⟩, (Nat.le_of_ble_eq_true rfl)⟩ dL_moves_122 (fun v122 M122 q122 => ?_)
            obtain ⟨rfl, e122⟩ := q122
            replace e122 := e122.symm
            subst e122
            refine v_istore F dL_moves_125 (Nat.le_of_ble_eq_true rfl) (ok2_d rfl) ?_
            refine v_iload F dL_moves_127 rfl ?_
            refine v_if_ne_n F 152 dL_moves_129 (by decide) (by first | omega | exact Nat.lt_trans (hW _ _) (by decide)) (fun c129 => ?_) (fun c129 => ?_)
            · exact absurd rfl c129
            · refine v_iload F dL_moves_132 rfl ?_
              refine v_ldc (v := (-1000002)) F (by decide +kernel) dL_moves_134 ?_
              refine v_icmp_ne F 150 dL_moves_136 (by decide) (fun c136 => ?_) (fun c136 => ?_)
              · exact absurd rfl c136
              · refine v_iload F dL_moves_139 rfl ?_
                refine v_ldc (v := (-1000002)) F (by decide +kernel) dL_moves_141 ?_
                refine v_icmp_ne F 150 dL_moves_143 (by decide) (fun c143 => ?_) (fun c143 => ?_)
                · exact absurd rfl c143
                · refine v_iconst (v := nI 1) F dL_moves_146 (by decide) ?_
                  refine v_goto F 151 dL_moves_147 (by decide) ?_
                  exact v_zret F hr dL_moves_151 rfl (by omega) (by omega) ⟨rfl, ⟨A, B, P, n, k, R, Z, fg, fp, fa, fw, rfl, hS⟩⟩
          · exact absurd ⟨by omega, by omega⟩ hfit
    · exact absurd c27 (by have := pgB_n9 hG hj hg8; omega)
  · refine v_aload_n F dL_moves_21 rfl rfl ?_
    refine v_iload F dL_moves_22 rfl ?_
    refine v_iald_n F dL_moves_24 hpp (by first | omega | exact Nat.lt_trans (hW _ _) (by decide)) (by decide) ?_
    refine V.toI (hfp j hj) ?_
    refine v_bipush (v := nI 9) F dL_moves_25 (by decide) ?_
    refine v_icmp_ne_n F 66 dL_moves_27 (by decide) (by first | omega | exact Nat.lt_trans (hW _ _) (by decide)) (by first | omega | exact Nat.lt_trans (hW _ _) (by decide)) (fun c27 => ?_) (fun c27 => ?_)
    · exact absurd (pgB_9 hg8) c27
    · refine v_aload_n F dL_moves_30 rfl rfl ?_
      refine v_iload F dL_moves_31 rfl ?_
      refine v_iload F dL_moves_33 rfl ?_
      refine v_iload F dL_moves_35 rfl ?_
      refine v_callSN F hN 4 [_, _, _, _] rfl rfl rfl (b_move_gone hl9 hC hj hg8) gL_moves_L_move rfl hd_L_move ⟨⟨rfl, rfl⟩, ⟨(Nat.le_of_ble_eq_true rfl), (Nat.le_of_ble_eq_true rfl)⟩, ⟨(by show _ ≤ 40; omega), (by show _ ≤ 200; omega)⟩, (Nat.le_of_ble_eq_true rfl)⟩ dL_moves_37 (fun v37 M37 q37 => ?_)
      obtain ⟨rfl, e37⟩ := q37
      replace e37 := e37.symm
      subst e37
      refine v_ldc (v := (-1000001)) F (by decide +kernel) dL_moves_40 ?_
      refine v_icmp_ne F 64 dL_moves_42 (by decide) (fun c42 => ?_) (fun c42 => ?_)
      · exact absurd rfl c42
      · refine v_aload_n F dL_moves_45 rfl rfl ?_
        refine v_iload F dL_moves_46 rfl ?_
        refine v_iload F dL_moves_48 rfl ?_
        refine v_iload F dL_moves_50 rfl ?_
        refine v_callSN F hN 4 [_, _, _, _] rfl rfl rfl (b_breaks_gone hl9 hC hj hg8) gL_moves_L_breaks rfl hd_L_breaks ⟨⟨rfl, rfl⟩, ⟨(Nat.le_of_ble_eq_true rfl), (Nat.le_of_ble_eq_true rfl)⟩, ⟨(by show _ ≤ 40; omega), (by show _ ≤ 200; omega)⟩, (Nat.le_of_ble_eq_true rfl)⟩ dL_moves_52 (fun v52 M52 q52 => ?_)
        obtain ⟨rfl, e52⟩ := q52
        replace e52 := e52.symm
        subst e52
        refine v_ldc (v := (-1000001)) F (by decide +kernel) dL_moves_55 ?_
        refine v_icmp_ne F 64 dL_moves_57 (by decide) (fun c57 => ?_) (fun c57 => ?_)
        · exact absurd rfl c57
        · refine v_iconst (v := nI 1) F dL_moves_60 (by decide) ?_
          refine v_goto F 65 dL_moves_61 (by decide) ?_
          exact v_zret F hr dL_moves_65 rfl (by omega) (by omega) ⟨rfl, ⟨A, B, P, n, k, R, Z, fg, fp, fa, fw, rfl, hS⟩⟩
