/-! the law: the boxes -/
def rmL_areBoxes : Room := { frames := 9, cells := 350, slots := 2100, locals := 157 }
theorem hd_L_areBoxes : yL_areBoxes.cls ≠ "java/lang/invoke/MethodHandle" ∧ yL_areBoxes.cls ≠ "java/lang/invoke/VarHandle" ∧ (parseMethodDescriptor yL_areBoxes.desc).map (fun d => d.parameters.length) = some 3 := by decide +kernel
set_option maxHeartbeats 4000000 in
set_option maxRecDepth 100000 in
theorem c_areBoxes {l : Launch} {ω : Om} {M : MM} (hl9 : l.stackTraces = false) {A B P : FF} {n k : Nat} {R : Nat → (Nat → Int32) × Nat} {Z : Nat → Prop} (hC : CI ω A B P n k R Z M) (hG : GB B n) {G Pp : Nat} {fg fp : Nat → Int32} (hg : M G = some (.inl (ω.2.2 0, 3, .inl fg))) (hpp : M Pp = some (.inl (ω.2.2 0, 25, .inl fp))) (h0g : fg 0 = nI n) (hfp : RB fp B n) : CtN l ω yL_areBoxes wsL_areBoxes rmL_areBoxes [.ref (A 0 0), .ref G, .ref Pp] M (fun v M9 => v = some (.int (nI 1)) ∧ M9 = M) 350 2100 := by
  refine CtN.ofC (cc := cL_areBoxes) (maxL := 7) (ret := (some .boolean)) [some (.ref (A 0 0)), some (.ref G), some (.ref Pp), none, none, none, none] (by decide) rfl (Nat.le_of_ble_eq_true rfl) rfl (Lc.av (av := [.ref (A 0 0), .ref G, .ref Pp]) (k := 4) rfl) ?_
  intro σ F hl hr hN
  have F : Fx ω σ cL_areBoxes 7 wsL_areBoxes RL rmL_areBoxes := F
  subst hl
  have hn24 : n ≤ 24 := hG.1.1
  have hW : ∀ i j, B i j < 128 := hG.1.2.1
  refine v_aload_n F dL_areBoxes_0 rfl rfl ?_
  refine v_aload_n F dL_areBoxes_1 rfl rfl ?_
  refine v_iconst (v := nI 0) F dL_areBoxes_2 (by decide) ?_
  refine v_iald_n F dL_areBoxes_3 hg (show 0 < 3 by decide) (by decide) ?_
  refine V.toI (h0g) ?_
  refine v_iconst (v := nI 0) F dL_areBoxes_4 (by decide) ?_
  refine v_callSN F hN 3 [_, _, _] rfl rfl rfl (a_about_out hl9 hC) gL_areBoxes_L_about rfl hd_L_about ⟨⟨rfl, rfl⟩, ⟨(Nat.le_of_ble_eq_true rfl), (Nat.le_of_ble_eq_true rfl)⟩, ⟨(by show _ ≤ 350; omega), (by show _ ≤ 2100; omega)⟩, (Nat.le_of_ble_eq_true rfl)⟩ dL_areBoxes_5 (fun v5 M5 q5 => ?_)
  obtain ⟨rfl, e5⟩ := q5
  replace e5 := e5.symm
  subst e5
  refine v_ldc (v := (-1000001)) F (by decide +kernel) dL_areBoxes_8 ?_
  refine v_icmp_ne F 39 dL_areBoxes_10 (by decide) (fun c10 => ?_) (fun c10 => ?_)
  · exact absurd rfl c10
  · refine v_aload_n F dL_areBoxes_13 rfl rfl ?_
    refine v_aload_n F dL_areBoxes_14 rfl rfl ?_
    refine v_iconst (v := nI 0) F dL_areBoxes_15 (by decide) ?_
    refine v_iald_n F dL_areBoxes_16 hg (show 0 < 3 by decide) (by decide) ?_
    refine V.toI (h0g) ?_
    refine v_callSN F hN 2 [_, _] rfl rfl rfl (a_faults_out hl9 hC) gL_areBoxes_L_faults rfl hd_L_faults ⟨⟨rfl, rfl⟩, ⟨(Nat.le_of_ble_eq_true rfl), (Nat.le_of_ble_eq_true rfl)⟩, ⟨(by show _ ≤ 350; omega), (by show _ ≤ 2100; omega)⟩, (Nat.le_of_ble_eq_true rfl)⟩ dL_areBoxes_17 (fun v17 M17 q17 => ?_)
    obtain ⟨rfl, e17⟩ := q17
    replace e17 := e17.symm
    subst e17
    refine v_ldc (v := (-1000001)) F (by decide +kernel) dL_areBoxes_20 ?_
    refine v_icmp_ne F 39 dL_areBoxes_22 (by decide) (fun c22 => ?_) (fun c22 => ?_)
    · exact absurd rfl c22
    · refine v_aload_n F dL_areBoxes_25 rfl rfl ?_
      refine v_iconst (v := (-1)) F dL_areBoxes_26 (by decide) ?_
      refine v_callSN F hN 2 [_, _] rfl rfl rfl (a_place_out hl9 hC) gL_areBoxes_L_placeOf rfl hd_L_placeOf ⟨⟨rfl, rfl⟩, ⟨(Nat.le_of_ble_eq_true rfl), (Nat.le_of_ble_eq_true rfl)⟩, ⟨(by show _ ≤ 350; omega), (by show _ ≤ 2100; omega)⟩, (Nat.le_of_ble_eq_true rfl)⟩ dL_areBoxes_27 (fun v27 M27 q27 => ?_)
      obtain ⟨rfl, e27⟩ := q27
      replace e27 := e27.symm
      subst e27
      refine v_ldc (v := (-1000001)) F (by decide +kernel) dL_areBoxes_30 ?_
      refine v_icmp_ne F 39 dL_areBoxes_32 (by decide) (fun c32 => ?_) (fun c32 => ?_)
      · exact absurd rfl c32
      · refine v_iconst (v := nI 1) F dL_areBoxes_35 (by decide) ?_
        refine v_goto F 40 dL_areBoxes_36 (by decide) ?_
        refine v_istore_n F dL_areBoxes_40 (Nat.le_of_ble_eq_true rfl) (ok2_d rfl) ?_
        refine v_iconst (v := nI 0) F dL_areBoxes_41 (by decide) ?_
        refine v_istore F dL_areBoxes_42 (Nat.le_of_ble_eq_true rfl) (ok2_d rfl) ?_
        have lp : ∀ i, i ≤ n → ∀ (w5 w6 : Option Value), V ω σ M [some (.ref (A 0 0)), some (.ref G), some (.ref Pp), some (.int (nI 1)), some (.int (nI i)), w5, w6] (5 + 14 * i) (30 + 84 * i) (BQ ω σ (fun v M9 => v = some (.int (nI 1)) ∧ M9 = M) 350 2100) 44 [] := by
          refine loop_up n _ (fun i hi ih => ?_)
          intro w5 w6
          refine v_iload F dL_areBoxes_44 rfl ?_
          refine v_aload_n F dL_areBoxes_46 rfl rfl ?_
          refine v_iconst (v := nI 0) F dL_areBoxes_47 (by decide) ?_
          refine v_iald_n F dL_areBoxes_48 hg (show 0 < 3 by decide) (by decide) ?_
          refine V.toI (h0g) ?_
          refine v_icmp_ge_n F 273 dL_areBoxes_49 (by decide) (by first | omega | exact Nat.lt_trans (hW _ _) (by decide)) (by first | omega | exact Nat.lt_trans (hW _ _) (by decide)) (fun c49 => ?_) (fun c49 => ?_)
          · refine v_iload_n F dL_areBoxes_273 rfl ?_
            exact v_zret F hr dL_areBoxes_274 rfl (by omega) (by omega) ⟨rfl, rfl⟩
          · have hi2 : i < n := by omega
            obtain ⟨hin1, hin2, -, -⟩ := hG.2.1 i hi2
            have h81 := (hG.2.2.2.2.1 i hi2).2.2
            have hpl := pgB_lt hG hi2
            refine v_iload_n F dL_areBoxes_52 rfl ?_
            refine v_if_eq_n F 273 dL_areBoxes_53 (by decide) (by first | omega | exact Nat.lt_trans (hW _ _) (by decide)) (fun c53 => ?_) (fun c53 => ?_)
            · exact absurd c53 (by decide)
            · have j234 : V ω σ M [some (.ref (A 0 0)), some (.ref G), some (.ref Pp), some (.int (nI 1)), some (.int (nI i)), some (.int (lkI (B i 7))), some (.int (lkI (B i 6)))] (5 + 14 * i + 12) (30 + 84 * i + 72) (BQ ω σ (fun v M9 => v = some (.int (nI 1)) ∧ M9 = M) 350 2100) 234 [] := by
                refine v_iload F dL_areBoxes_234 rfl ?_
                refine v_if_lt F 261 dL_areBoxes_236 (by decide) (fun c236 => ?_) (fun c236 => ?_)
                · refine v_iconst (v := nI 1) F dL_areBoxes_261 (by decide) ?_
                  refine v_goto F 266 dL_areBoxes_262 (by decide) ?_
                  refine v_istore_n F dL_areBoxes_266 (Nat.le_of_ble_eq_true rfl) (ok2_d rfl) ?_
                  refine v_iinc1 F dL_areBoxes_267 rfl (ok2_d rfl) ?_
                  refine v_goto F 44 dL_areBoxes_270 (by decide) ?_
                  refine v_widen F (5 + 14 * (i + 1)) (30 + 84 * (i + 1)) (by omega) (by omega) ?_
                  exact ih (by omega) _ _
                · obtain ⟨y, h6, e6⟩ := lk_y c236
                  have hy := (hG.n6 hi2 h6).1
                  have h67 := (hG.1.2.2.1 i y hi2 h6).2
                  have hg8 : B i 8 = 0 := Decidable.byContradiction fun h => by have := (hG.2.2.2.2.2 i hi2 h).1; rw [h6] at this; cases this
                  have hp9 := pgB_n9 hG hi2 hg8
                  refine v_aload_n F dL_areBoxes_239 rfl rfl ?_
                  refine v_iload F dL_areBoxes_240 rfl ?_
                  refine v_iald_n F dL_areBoxes_242 hpp (by first | omega | exact Nat.lt_trans (hW _ _) (by decide)) (by decide) ?_
                  refine V.toI (hfp i hi2) ?_
                  refine v_bipush (v := nI 9) F dL_areBoxes_243 (by decide) ?_
                  refine v_icmp_ge_n F 265 dL_areBoxes_245 (by decide) (by first | omega | exact Nat.lt_trans (hW _ _) (by decide)) (by first | omega | exact Nat.lt_trans (hW _ _) (by decide)) (fun c245 => ?_) (fun c245 => ?_)
                  · exact absurd c245 (by omega)
                  · refine v_aload_n F dL_areBoxes_248 rfl rfl ?_
                    refine v_iload F dL_areBoxes_249 rfl ?_
                    refine V.toI (e6) ?_
                    refine v_bipush (v := nI 7) F dL_areBoxes_251 (by decide) ?_
                    refine v_callSN F hN 3 [_, _, _] rfl rfl rfl (a_about_7 hC hG hy) gL_areBoxes_L_about rfl hd_L_about ⟨⟨rfl, rfl⟩, ⟨(Nat.le_of_ble_eq_true rfl), (Nat.le_of_ble_eq_true rfl)⟩, ⟨(by show _ ≤ 350; omega), (by show _ ≤ 2100; omega)⟩, (Nat.le_of_ble_eq_true rfl)⟩ dL_areBoxes_253 (fun v253 M253 q253 => ?_)
                    obtain ⟨rfl, e253⟩ := q253
                    replace e253 := e253.symm
                    subst e253
                    refine v_iload F dL_areBoxes_256 rfl ?_
                    refine v_icmp_ne F 265 dL_areBoxes_258 (by decide) (fun c258 => ?_) (fun c258 => ?_)
                    · exact absurd (by rw [h67]; rfl) c258
                    · refine v_iconst (v := nI 1) F dL_areBoxes_261 (by decide) ?_
                      refine v_goto F 266 dL_areBoxes_262 (by decide) ?_
                      refine v_istore_n F dL_areBoxes_266 (Nat.le_of_ble_eq_true rfl) (ok2_d rfl) ?_
                      refine v_iinc1 F dL_areBoxes_267 rfl (ok2_d rfl) ?_
                      refine v_goto F 44 dL_areBoxes_270 (by decide) ?_
                      refine v_widen F (5 + 14 * (i + 1)) (30 + 84 * (i + 1)) (by omega) (by omega) ?_
                      exact ih (by omega) _ _
              have j133 : V ω σ M [some (.ref (A 0 0)), some (.ref G), some (.ref Pp), some (.int (nI 1)), some (.int (nI i)), some (.int (lkI (B i 7))), some (.int (lkI (B i 6)))] (5 + 14 * i + 4) (30 + 84 * i + 24) (BQ ω σ (fun v M9 => v = some (.int (nI 1)) ∧ M9 = M) 350 2100) 133 [] := by
                refine v_aload_n F dL_areBoxes_133 rfl rfl ?_
                refine v_iload F dL_areBoxes_134 rfl ?_
                refine v_iconst (v := nI 1) F dL_areBoxes_136 (by decide) ?_
                refine v_callSN F hN 3 [_, _, _] rfl rfl rfl (a_about_1 hC hi2) gL_areBoxes_L_about rfl hd_L_about ⟨⟨rfl, rfl⟩, ⟨(Nat.le_of_ble_eq_true rfl), (Nat.le_of_ble_eq_true rfl)⟩, ⟨(by show _ ≤ 350; omega), (by show _ ≤ 2100; omega)⟩, (Nat.le_of_ble_eq_true rfl)⟩ dL_areBoxes_137 (fun v137 M137 q137 => ?_)
                obtain ⟨rfl, e137⟩ := q137
                replace e137 := e137.symm
                subst e137
                refine v_if_lt_n F 265 dL_areBoxes_140 (by decide) (by first | omega | exact Nat.lt_trans (hW _ _) (by decide)) ?_
                refine v_aload_n F dL_areBoxes_143 rfl rfl ?_
                refine v_iload F dL_areBoxes_144 rfl ?_
                refine v_iconst (v := nI 1) F dL_areBoxes_146 (by decide) ?_
                refine v_callSN F hN 3 [_, _, _] rfl rfl rfl (a_about_1 hC hi2) gL_areBoxes_L_about rfl hd_L_about ⟨⟨rfl, rfl⟩, ⟨(Nat.le_of_ble_eq_true rfl), (Nat.le_of_ble_eq_true rfl)⟩, ⟨(by show _ ≤ 350; omega), (by show _ ≤ 2100; omega)⟩, (Nat.le_of_ble_eq_true rfl)⟩ dL_areBoxes_147 (fun v147 M147 q147 => ?_)
                obtain ⟨rfl, e147⟩ := q147
                replace e147 := e147.symm
                subst e147
                refine v_aload_n F dL_areBoxes_150 rfl rfl ?_
                refine v_iload F dL_areBoxes_151 rfl ?_
                refine v_iconst (v := nI 3) F dL_areBoxes_153 (by decide) ?_
                refine v_callSN F hN 3 [_, _, _] rfl rfl rfl (a_about_3 hC hi2) gL_areBoxes_L_about rfl hd_L_about ⟨⟨rfl, rfl⟩, ⟨(Nat.le_of_ble_eq_true rfl), (Nat.le_of_ble_eq_true rfl)⟩, ⟨(by show _ ≤ 350; omega), (by show _ ≤ 2100; omega)⟩, (Nat.le_of_ble_eq_true rfl)⟩ dL_areBoxes_154 (fun v154 M154 q154 => ?_)
                obtain ⟨rfl, e154⟩ := q154
                replace e154 := e154.symm
                subst e154
                refine v_iadd_n F dL_areBoxes_157 ?_
                refine v_bipush (v := nI 60) F dL_areBoxes_158 (by decide) ?_
                refine v_icmp_gt_n F 265 dL_areBoxes_160 (by decide) (by first | omega | exact Nat.lt_trans (hW _ _) (by decide)) (by first | omega | exact Nat.lt_trans (hW _ _) (by decide)) (fun c160 => ?_) (fun c160 => ?_)
                · exact absurd c160 (by omega)
                · refine v_aload_n F dL_areBoxes_163 rfl rfl ?_
                  refine v_iload F dL_areBoxes_164 rfl ?_
                  refine v_iconst (v := nI 2) F dL_areBoxes_166 (by decide) ?_
                  refine v_callSN F hN 3 [_, _, _] rfl rfl rfl (a_about_2 hC hi2) gL_areBoxes_L_about rfl hd_L_about ⟨⟨rfl, rfl⟩, ⟨(Nat.le_of_ble_eq_true rfl), (Nat.le_of_ble_eq_true rfl)⟩, ⟨(by show _ ≤ 350; omega), (by show _ ≤ 2100; omega)⟩, (Nat.le_of_ble_eq_true rfl)⟩ dL_areBoxes_167 (fun v167 M167 q167 => ?_)
                  obtain ⟨rfl, e167⟩ := q167
                  replace e167 := e167.symm
                  subst e167
                  refine v_if_lt_n F 265 dL_areBoxes_170 (by decide) (by first | omega | exact Nat.lt_trans (hW _ _) (by decide)) ?_
                  refine v_aload_n F dL_areBoxes_173 rfl rfl ?_
                  refine v_iload F dL_areBoxes_174 rfl ?_
                  refine v_iconst (v := nI 2) F dL_areBoxes_176 (by decide) ?_
                  refine v_callSN F hN 3 [_, _, _] rfl rfl rfl (a_about_2 hC hi2) gL_areBoxes_L_about rfl hd_L_about ⟨⟨rfl, rfl⟩, ⟨(Nat.le_of_ble_eq_true rfl), (Nat.le_of_ble_eq_true rfl)⟩, ⟨(by show _ ≤ 350; omega), (by show _ ≤ 2100; omega)⟩, (Nat.le_of_ble_eq_true rfl)⟩ dL_areBoxes_177 (fun v177 M177 q177 => ?_)
                  obtain ⟨rfl, e177⟩ := q177
                  replace e177 := e177.symm
                  subst e177
                  refine v_aload_n F dL_areBoxes_180 rfl rfl ?_
                  refine v_iload F dL_areBoxes_181 rfl ?_
                  refine v_iconst (v := nI 4) F dL_areBoxes_183 (by decide) ?_
                  refine v_callSN F hN 3 [_, _, _] rfl rfl rfl (a_about_4 hC hi2) gL_areBoxes_L_about rfl hd_L_about ⟨⟨rfl, rfl⟩, ⟨(Nat.le_of_ble_eq_true rfl), (Nat.le_of_ble_eq_true rfl)⟩, ⟨(by show _ ≤ 350; omega), (by show _ ≤ 2100; omega)⟩, (Nat.le_of_ble_eq_true rfl)⟩ dL_areBoxes_184 (fun v184 M184 q184 => ?_)
                  obtain ⟨rfl, e184⟩ := q184
                  replace e184 := e184.symm
                  subst e184
                  refine v_iadd_n F dL_areBoxes_187 ?_
                  refine v_bipush (v := nI 80) F dL_areBoxes_188 (by decide) ?_
                  refine v_icmp_gt_n F 265 dL_areBoxes_190 (by decide) (by first | omega | exact Nat.lt_trans (hW _ _) (by decide)) (by first | omega | exact Nat.lt_trans (hW _ _) (by decide)) (fun c190 => ?_) (fun c190 => ?_)
                  · exact absurd c190 (by omega)
                  · refine v_iload F dL_areBoxes_193 rfl ?_
                    refine v_if_lt F 234 dL_areBoxes_195 (by decide) (fun c195 => ?_) (fun c195 => ?_)
                    · refine v_widen F (5 + 14 * i + 12) (30 + 84 * i + 72) (by omega) (by omega) ?_
                      exact j234
                    · obtain ⟨y, h7, e7⟩ := lk_y c195
                      have hy := (hG.n7 hi2 h7).1
                      have h76 := (hG.1.2.2.2 i y hi2 h7).2
                      have hg8 : B i 8 = 0 := Decidable.byContradiction fun h => by have := (hG.2.2.2.2.2 i hi2 h).2; rw [h7] at this; cases this
                      have hp9 := pgB_n9 hG hi2 hg8
                      have hyp := hG.2.2.1 i y hi2 h7
                      refine v_aload_n F dL_areBoxes_198 rfl rfl ?_
                      refine v_iload F dL_areBoxes_199 rfl ?_
                      refine v_iald_n F dL_areBoxes_201 hpp (by first | omega | exact Nat.lt_trans (hW _ _) (by decide)) (by decide) ?_
                      refine V.toI (hfp i hi2) ?_
                      refine v_bipush (v := nI 9) F dL_areBoxes_202 (by decide) ?_
                      refine v_icmp_ge_n F 265 dL_areBoxes_204 (by decide) (by first | omega | exact Nat.lt_trans (hW _ _) (by decide)) (by first | omega | exact Nat.lt_trans (hW _ _) (by decide)) (fun c204 => ?_) (fun c204 => ?_)
                      · exact absurd c204 (by omega)
                      · refine v_aload_n F dL_areBoxes_207 rfl rfl ?_
                        refine v_iload F dL_areBoxes_208 rfl ?_
                        refine V.toI (e7) ?_
                        refine v_bipush (v := nI 6) F dL_areBoxes_210 (by decide) ?_
                        refine v_callSN F hN 3 [_, _, _] rfl rfl rfl (a_about_6 hC hG hy) gL_areBoxes_L_about rfl hd_L_about ⟨⟨rfl, rfl⟩, ⟨(Nat.le_of_ble_eq_true rfl), (Nat.le_of_ble_eq_true rfl)⟩, ⟨(by show _ ≤ 350; omega), (by show _ ≤ 2100; omega)⟩, (Nat.le_of_ble_eq_true rfl)⟩ dL_areBoxes_212 (fun v212 M212 q212 => ?_)
                        obtain ⟨rfl, e212⟩ := q212
                        replace e212 := e212.symm
                        subst e212
                        refine v_iload F dL_areBoxes_215 rfl ?_
                        refine v_icmp_ne F 265 dL_areBoxes_217 (by decide) (fun c217 => ?_) (fun c217 => ?_)
                        · exact absurd (by rw [h76]; rfl) c217
                        · refine v_aload_n F dL_areBoxes_220 rfl rfl ?_
                          refine v_iload F dL_areBoxes_221 rfl ?_
                          refine V.toI (e7) ?_
                          refine v_iconst (v := nI 0) F dL_areBoxes_223 (by decide) ?_
                          refine v_callSN F hN 3 [_, _, _] rfl rfl rfl (a_about_0 hC hy) gL_areBoxes_L_about rfl hd_L_about ⟨⟨rfl, rfl⟩, ⟨(Nat.le_of_ble_eq_true rfl), (Nat.le_of_ble_eq_true rfl)⟩, ⟨(by show _ ≤ 350; omega), (by show _ ≤ 2100; omega)⟩, (Nat.le_of_ble_eq_true rfl)⟩ dL_areBoxes_224 (fun v224 M224 q224 => ?_)
                          obtain ⟨rfl, e224⟩ := q224
                          replace e224 := e224.symm
                          subst e224
                          refine v_aload_n F dL_areBoxes_227 rfl rfl ?_
                          refine v_iload F dL_areBoxes_228 rfl ?_
                          refine v_iald_n F dL_areBoxes_230 hpp (by first | omega | exact Nat.lt_trans (hW _ _) (by decide)) (by decide) ?_
                          refine V.toI (hfp i hi2) ?_
                          refine v_icmp_ne_n F 265 dL_areBoxes_231 (by decide) (by first | omega | exact Nat.lt_trans (hW _ _) (by decide)) (by first | omega | exact Nat.lt_trans (hW _ _) (by decide)) (fun c231 => ?_) (fun c231 => ?_)
                          · exact absurd (by rw [pgB_0 hg8]; exact hyp) c231
                          · refine v_widen F (5 + 14 * i + 12) (30 + 84 * i + 72) (by omega) (by omega) ?_
                            exact j234
              refine v_aload_n F dL_areBoxes_56 rfl rfl ?_
              refine v_iload F dL_areBoxes_57 rfl ?_
              refine v_bipush (v := nI 7) F dL_areBoxes_59 (by decide) ?_
              refine v_callSN F hN 3 [_, _, _] rfl rfl rfl (a_about_7 hC hG hi2) gL_areBoxes_L_about rfl hd_L_about ⟨⟨rfl, rfl⟩, ⟨(Nat.le_of_ble_eq_true rfl), (Nat.le_of_ble_eq_true rfl)⟩, ⟨(by show _ ≤ 350; omega), (by show _ ≤ 2100; omega)⟩, (Nat.le_of_ble_eq_true rfl)⟩ dL_areBoxes_61 (fun v61 M61 q61 => ?_)
              obtain ⟨rfl, e61⟩ := q61
              replace e61 := e61.symm
              subst e61
              refine v_istore F dL_areBoxes_64 (Nat.le_of_ble_eq_true rfl) (ok2_d rfl) ?_
              refine v_aload_n F dL_areBoxes_66 rfl rfl ?_
              refine v_iload F dL_areBoxes_67 rfl ?_
              refine v_bipush (v := nI 6) F dL_areBoxes_69 (by decide) ?_
              refine v_callSN F hN 3 [_, _, _] rfl rfl rfl (a_about_6 hC hG hi2) gL_areBoxes_L_about rfl hd_L_about ⟨⟨rfl, rfl⟩, ⟨(Nat.le_of_ble_eq_true rfl), (Nat.le_of_ble_eq_true rfl)⟩, ⟨(by show _ ≤ 350; omega), (by show _ ≤ 2100; omega)⟩, (Nat.le_of_ble_eq_true rfl)⟩ dL_areBoxes_71 (fun v71 M71 q71 => ?_)
              obtain ⟨rfl, e71⟩ := q71
              replace e71 := e71.symm
              subst e71
              by_cases hg8 : B i 8 = 0
              · refine v_istore F dL_areBoxes_74 (Nat.le_of_ble_eq_true rfl) (ok2_d rfl) ?_
                refine v_aload_n F dL_areBoxes_76 rfl rfl ?_
                refine v_iload F dL_areBoxes_77 rfl ?_
                refine v_bipush (v := nI 8) F dL_areBoxes_79 (by decide) ?_
                refine v_callSN F hN 3 [_, _, _] rfl rfl rfl (a_about_8 hC hG hi2) gL_areBoxes_L_about rfl hd_L_about ⟨⟨rfl, rfl⟩, ⟨(Nat.le_of_ble_eq_true rfl), (Nat.le_of_ble_eq_true rfl)⟩, ⟨(by show _ ≤ 350; omega), (by show _ ≤ 2100; omega)⟩, (Nat.le_of_ble_eq_true rfl)⟩ dL_areBoxes_81 (fun v81 M81 q81 => ?_)
                obtain ⟨rfl, e81⟩ := q81
                replace e81 := e81.symm
                subst e81
                refine v_iconst (v := nI 1) F dL_areBoxes_84 (by decide) ?_
                refine v_icmp_ne_n F 92 dL_areBoxes_85 (by decide) (by first | omega | exact Nat.lt_trans (hW _ _) (by decide)) (by first | omega | exact Nat.lt_trans (hW _ _) (by decide)) (fun c85 => ?_) (fun c85 => ?_)
                · refine v_iconst (v := nI 0) F dL_areBoxes_92 (by decide) ?_
                  refine v_aload_n F dL_areBoxes_93 rfl rfl ?_
                  refine v_iload F dL_areBoxes_94 rfl ?_
                  refine v_iald_n F dL_areBoxes_96 hpp (by first | omega | exact Nat.lt_trans (hW _ _) (by decide)) (by decide) ?_
                  refine V.toI (hfp i hi2) ?_
                  refine v_bipush (v := nI 9) F dL_areBoxes_97 (by decide) ?_
                  refine v_icmp_ne_n F 106 dL_areBoxes_99 (by decide) (by first | omega | exact Nat.lt_trans (hW _ _) (by decide)) (by first | omega | exact Nat.lt_trans (hW _ _) (by decide)) (fun c99 => ?_) (fun c99 => ?_)
                  · refine v_iconst (v := nI 0) F dL_areBoxes_106 (by decide) ?_
                    refine v_icmp_ne_n F 265 dL_areBoxes_107 (by decide) (by first | omega | exact Nat.lt_trans (hW _ _) (by decide)) (by first | omega | exact Nat.lt_trans (hW _ _) (by decide)) (fun c107 => ?_) (fun c107 => ?_)
                    · exact absurd rfl c107
                    · refine v_aload_n F dL_areBoxes_110 rfl rfl ?_
                      refine v_iload F dL_areBoxes_111 rfl ?_
                      refine v_iald_n F dL_areBoxes_113 hpp (by first | omega | exact Nat.lt_trans (hW _ _) (by decide)) (by decide) ?_
                      refine V.toI (hfp i hi2) ?_
                      refine v_bipush (v := nI 9) F dL_areBoxes_114 (by decide) ?_
                      refine v_icmp_eq_n F 133 dL_areBoxes_116 (by decide) (by first | omega | exact Nat.lt_trans (hW _ _) (by decide)) (by first | omega | exact Nat.lt_trans (hW _ _) (by decide)) (fun c116 => ?_) (fun c116 => ?_)
                      · exact absurd c116 (by have := pgB_n9 hG hi2 hg8; omega)
                      · refine v_aload_n F dL_areBoxes_119 rfl rfl ?_
                        refine v_iload F dL_areBoxes_120 rfl ?_
                        refine v_iconst (v := nI 0) F dL_areBoxes_122 (by decide) ?_
                        refine v_callSN F hN 3 [_, _, _] rfl rfl rfl (a_about_0 hC hi2) gL_areBoxes_L_about rfl hd_L_about ⟨⟨rfl, rfl⟩, ⟨(Nat.le_of_ble_eq_true rfl), (Nat.le_of_ble_eq_true rfl)⟩, ⟨(by show _ ≤ 350; omega), (by show _ ≤ 2100; omega)⟩, (Nat.le_of_ble_eq_true rfl)⟩ dL_areBoxes_123 (fun v123 M123 q123 => ?_)
                        obtain ⟨rfl, e123⟩ := q123
                        replace e123 := e123.symm
                        subst e123
                        refine v_aload_n F dL_areBoxes_126 rfl rfl ?_
                        refine v_iload F dL_areBoxes_127 rfl ?_
                        refine v_iald_n F dL_areBoxes_129 hpp (by first | omega | exact Nat.lt_trans (hW _ _) (by decide)) (by decide) ?_
                        refine V.toI (hfp i hi2) ?_
                        refine v_icmp_ne_n F 265 dL_areBoxes_130 (by decide) (by first | omega | exact Nat.lt_trans (hW _ _) (by decide)) (by first | omega | exact Nat.lt_trans (hW _ _) (by decide)) (fun c130 => ?_) (fun c130 => ?_)
                        · exact absurd (pgB_0 hg8).symm c130
                        · refine v_widen F (5 + 14 * i + 4) (30 + 84 * i + 24) (by omega) (by omega) ?_
                          exact j133
                  · exact absurd c99 (by have := pgB_n9 hG hi2 hg8; omega)
                · exact absurd hg8 (by omega)
              · refine v_istore F dL_areBoxes_74 (Nat.le_of_ble_eq_true rfl) (ok2_d rfl) ?_
                refine v_aload_n F dL_areBoxes_76 rfl rfl ?_
                refine v_iload F dL_areBoxes_77 rfl ?_
                refine v_bipush (v := nI 8) F dL_areBoxes_79 (by decide) ?_
                refine v_callSN F hN 3 [_, _, _] rfl rfl rfl (a_about_8 hC hG hi2) gL_areBoxes_L_about rfl hd_L_about ⟨⟨rfl, rfl⟩, ⟨(Nat.le_of_ble_eq_true rfl), (Nat.le_of_ble_eq_true rfl)⟩, ⟨(by show _ ≤ 350; omega), (by show _ ≤ 2100; omega)⟩, (Nat.le_of_ble_eq_true rfl)⟩ dL_areBoxes_81 (fun v81 M81 q81 => ?_)
                obtain ⟨rfl, e81⟩ := q81
                replace e81 := e81.symm
                subst e81
                refine v_iconst (v := nI 1) F dL_areBoxes_84 (by decide) ?_
                refine v_icmp_ne_n F 92 dL_areBoxes_85 (by decide) (by first | omega | exact Nat.lt_trans (hW _ _) (by decide)) (by first | omega | exact Nat.lt_trans (hW _ _) (by decide)) (fun c85 => ?_) (fun c85 => ?_)
                · exact absurd (by omega) c85
                · refine v_iconst (v := nI 1) F dL_areBoxes_88 (by decide) ?_
                  refine v_goto F 93 dL_areBoxes_89 (by decide) ?_
                  refine v_aload_n F dL_areBoxes_93 rfl rfl ?_
                  refine v_iload F dL_areBoxes_94 rfl ?_
                  refine v_iald_n F dL_areBoxes_96 hpp (by first | omega | exact Nat.lt_trans (hW _ _) (by decide)) (by decide) ?_
                  refine V.toI (hfp i hi2) ?_
                  refine v_bipush (v := nI 9) F dL_areBoxes_97 (by decide) ?_
                  refine v_icmp_ne_n F 106 dL_areBoxes_99 (by decide) (by first | omega | exact Nat.lt_trans (hW _ _) (by decide)) (by first | omega | exact Nat.lt_trans (hW _ _) (by decide)) (fun c99 => ?_) (fun c99 => ?_)
                  · exact absurd (pgB_9 hg8) c99
                  · refine v_iconst (v := nI 1) F dL_areBoxes_102 (by decide) ?_
                    refine v_goto F 107 dL_areBoxes_103 (by decide) ?_
                    refine v_icmp_ne_n F 265 dL_areBoxes_107 (by decide) (by first | omega | exact Nat.lt_trans (hW _ _) (by decide)) (by first | omega | exact Nat.lt_trans (hW _ _) (by decide)) (fun c107 => ?_) (fun c107 => ?_)
                    · exact absurd rfl c107
                    · refine v_aload_n F dL_areBoxes_110 rfl rfl ?_
                      refine v_iload F dL_areBoxes_111 rfl ?_
                      refine v_iald_n F dL_areBoxes_113 hpp (by first | omega | exact Nat.lt_trans (hW _ _) (by decide)) (by decide) ?_
                      refine V.toI (hfp i hi2) ?_
                      refine v_bipush (v := nI 9) F dL_areBoxes_114 (by decide) ?_
                      refine v_icmp_eq_n F 133 dL_areBoxes_116 (by decide) (by first | omega | exact Nat.lt_trans (hW _ _) (by decide)) (by first | omega | exact Nat.lt_trans (hW _ _) (by decide)) (fun c116 => ?_) (fun c116 => ?_)
                      · refine v_widen F (5 + 14 * i + 4) (30 + 84 * i + 24) (by omega) (by omega) ?_
                        exact j133
                      · exact absurd (pgB_9 hg8) c116
        refine v_widen F (5 + 14 * 0) (30 + 84 * 0) (by omega) (by omega) ?_
        exact lp 0 (Nat.zero_le _) none none
