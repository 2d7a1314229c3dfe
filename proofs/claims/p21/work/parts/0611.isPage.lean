/-! the law: a page -/
def rmL_isPage : Room := { frames := 9, cells := 500, slots := 3000, locals := 160 }
theorem hd_L_isPage : yL_isPage.cls ≠ "java/lang/invoke/MethodHandle" ∧ yL_isPage.cls ≠ "java/lang/invoke/VarHandle" ∧ (parseMethodDescriptor yL_isPage.desc).map (fun d => d.parameters.length) = some 4 := by decide +kernel
set_option maxHeartbeats 4000000 in
set_option maxRecDepth 100000 in
theorem c_isPage {l : Launch} {ω : Om} {M : MM} (hl9 : l.stackTraces = false) {A B P : FF} {n k : Nat} {R : Nat → (Nat → Int32) × Nat} {Z : Nat → Prop} (hC : CI ω A B P n k R Z M) (hG : GB B n) {G Pp p : Nat} {fg fp : Nat → Int32} (hg : M G = some (.inl (ω.2.2 0, 3, .inl fg))) (hpp : M Pp = some (.inl (ω.2.2 0, 25, .inl fp))) (hZP : ¬ Z Pp) (h0g : fg 0 = nI n) (hfp : RB fp B n) (hp5 : p < 5) : CtN l ω yL_isPage wsL_isPage rmL_isPage [.ref (A 0 0), .ref G, .ref Pp, .int (nI p)] M (fun v M9 => v = some (.int (nI 1)) ∧ ∃ R9, CI ω A B P n k R9 Z M9 ∧ Fr Z M M9) 500 3000 := by
  refine CtN.ofC (cc := cL_isPage) (maxL := 12) (ret := (some .boolean)) [some (.ref (A 0 0)), some (.ref G), some (.ref Pp), some (.int (nI p)), none, none, none, none, none, none, none, none] (by decide) rfl (Nat.le_of_ble_eq_true rfl) rfl (Lc.av (av := [.ref (A 0 0), .ref G, .ref Pp, .int (nI p)]) (k := 8) rfl) ?_
  intro σ F hl hr hN
  have F : Fx ω σ cL_isPage 12 wsL_isPage RL rmL_isPage := F
  subst hl
  have hn24 : n ≤ 24 := hG.1.1
  have hW : ∀ i j, B i j < 128 := hG.1.2.1
  have h24 : (ordF B n p).length ≤ 24 := hG.len
  refine v_iconst (v := nI 0) F dL_isPage_0 (by decide) ?_
  refine v_istore F dL_isPage_1 (Nat.le_of_ble_eq_true rfl) (ok2_d rfl) ?_
  refine v_iconst (v := nI 0) F dL_isPage_3 (by decide) ?_
  refine v_istore F dL_isPage_4 (Nat.le_of_ble_eq_true rfl) (ok2_d rfl) ?_
  have lp : ∀ i, i ≤ n → ∀ c, c = ctF (pgB B) p i → V ω σ M [some (.ref (A 0 0)), some (.ref G), some (.ref Pp), some (.int (nI p)), some (.int (nI c)), some (.int (nI i)), none, none, none, none, none, none] 0 0 (BQ ω σ (fun v M9 => v = some (.int (nI 1)) ∧ ∃ R9, CI ω A B P n k R9 Z M9 ∧ Fr Z M M9) 500 3000) 6 [] := by
    refine loop_up n _ (fun i hi ih => ?_)
    intro c hc
    refine v_iload F dL_isPage_6 rfl ?_
    refine v_aload_n F dL_isPage_8 rfl rfl ?_
    refine v_iconst (v := nI 0) F dL_isPage_9 (by decide) ?_
    refine v_iald_n F dL_isPage_10 hg (show 0 < 3 by decide) (by decide) ?_
    refine V.toI (h0g) ?_
    refine v_icmp_ge_n F 38 dL_isPage_11 (by decide) (by first | omega | exact Nat.lt_trans (hW _ _) (by decide)) (by first | omega | exact Nat.lt_trans (hW _ _) (by decide)) (fun c11 => ?_) (fun c11 => ?_)
    · have hcL : c = (ordF B n p).length := by rw [hc, show i = n by omega]; exact hG.many hp5
      subst hcL
      refine v_aload_n F dL_isPage_38 rfl rfl ?_
      refine v_iload_n F dL_isPage_39 rfl ?_
      refine v_callSN F hN 2 [_, _] rfl rfl rfl (a_boxes hl9 hC hp5) gL_isPage_L_boxes rfl hd_L_boxes ⟨⟨rfl, rfl⟩, ⟨(Nat.le_of_ble_eq_true rfl), (Nat.le_of_ble_eq_true rfl)⟩, ⟨(by show _ ≤ 500; omega), (by show _ ≤ 3000; omega)⟩, (Nat.le_of_ble_eq_true rfl)⟩ dL_isPage_40 (fun v40 M40 q40 => ?_)
      obtain ⟨rfl, e40⟩ := q40
      replace e40 := e40.symm
      subst e40
      refine v_iload F dL_isPage_43 rfl ?_
      refine v_icmp_ne_n F 74 dL_isPage_45 (by decide) (by first | omega | exact Nat.lt_trans (hW _ _) (by decide)) (by first | omega | exact Nat.lt_trans (hW _ _) (by decide)) (fun c45 => ?_) (fun c45 => ?_)
      · exact absurd rfl c45
      · refine v_aload_n F dL_isPage_48 rfl rfl ?_
        refine v_iload_n F dL_isPage_49 rfl ?_
        refine v_iload F dL_isPage_50 rfl ?_
        refine v_callSN F hN 3 [_, _, _] rfl rfl rfl (a_order_end hl9 hC hp5) gL_isPage_L_order rfl hd_L_order ⟨⟨rfl, rfl⟩, ⟨(Nat.le_of_ble_eq_true rfl), (Nat.le_of_ble_eq_true rfl)⟩, ⟨(by show _ ≤ 500; omega), (by show _ ≤ 3000; omega)⟩, (Nat.le_of_ble_eq_true rfl)⟩ dL_isPage_52 (fun v52 M52 q52 => ?_)
        obtain ⟨rfl, e52⟩ := q52
        replace e52 := e52.symm
        subst e52
        refine v_iconst (v := (-1)) F dL_isPage_55 (by decide) ?_
        refine v_icmp_ne F 74 dL_isPage_56 (by decide) (fun c56 => ?_) (fun c56 => ?_)
        · exact absurd rfl c56
        · refine v_aload_n F dL_isPage_59 rfl rfl ?_
          refine v_iload_n F dL_isPage_60 rfl ?_
          refine v_iload F dL_isPage_61 rfl ?_
          refine v_callSN F hN 3 [_, _, _] rfl rfl rfl (a_anew_end hl9 hC hp5) gL_isPage_L_orderAnew rfl hd_L_orderAnew ⟨⟨rfl, rfl⟩, ⟨(Nat.le_of_ble_eq_true rfl), (Nat.le_of_ble_eq_true rfl)⟩, ⟨(by show _ ≤ 500; omega), (by show _ ≤ 3000; omega)⟩, (Nat.le_of_ble_eq_true rfl)⟩ dL_isPage_63 (fun v63 M63 q63 => ?_)
          obtain ⟨⟨R63, hC63⟩, hF63, rfl⟩ := q63
          refine v_iconst (v := (-1)) F dL_isPage_66 (by decide) ?_
          refine v_icmp_ne F 74 dL_isPage_67 (by decide) (fun c67 => ?_) (fun c67 => ?_)
          · exact absurd rfl c67
          · refine v_iconst (v := nI 1) F dL_isPage_70 (by decide) ?_
            refine v_goto F 75 dL_isPage_71 (by decide) ?_
            refine v_istore F dL_isPage_75 (Nat.le_of_ble_eq_true rfl) (ok2_d rfl) ?_
            refine v_iconst (v := nI 0) F dL_isPage_77 (by decide) ?_
            refine v_istore F dL_isPage_78 (Nat.le_of_ble_eq_true rfl) (ok2_d rfl) ?_
            refine v_iconst (v := nI 0) F dL_isPage_80 (by decide) ?_
            refine v_istore F dL_isPage_81 (Nat.le_of_ble_eq_true rfl) (ok2_d rfl) ?_
            refine v_iconst (v := (-1)) F dL_isPage_83 (by decide) ?_
            refine v_istore F dL_isPage_84 (Nat.le_of_ble_eq_true rfl) (ok2_d rfl) ?_
            refine v_iconst (v := nI 0) F dL_isPage_86 (by decide) ?_
            refine v_istore F dL_isPage_87 (Nat.le_of_ble_eq_true rfl) (ok2_d rfl) ?_
            clear ih
            have lp2 : ∀ j, j ≤ (ordF B n p).length → ∀ (M2 : MM) (R2 : Nat → (Nat → Int32) × Nat) (ah : Int32) (w10 w11 : Option Value), CI ω A B P n k R2 Z M2 → Fr Z M M2 → (0 < j → ah = nI ((ordF B n p).getD (j - 1) 0)) → V ω σ M2 [some (.ref (A 0 0)), some (.ref G), some (.ref Pp), some (.int (nI p)), some (.int (nI (ordF B n p).length)), some (.int (nI 1)), some (.int (nI (stF (ordF B n p) j))), some (.int (nI (fyF B (ordF B n p) j))), some (.int ah), some (.int (nI j)), w10, w11] (5 + 20 * j) (30 + 120 * j) (BQ ω σ (fun v M9 => v = some (.int (nI 1)) ∧ ∃ R9, CI ω A B P n k R9 Z M9 ∧ Fr Z M M9) 500 3000) 89 [] := by
              refine loop_up _ _ (fun j hj ih => ?_)
              intro M2 R2 ah w10 w11 hC2 hF2 hah
              refine v_iload F dL_isPage_89 rfl ?_
              refine v_iload F dL_isPage_91 rfl ?_
              refine v_icmp_ge_n F 369 dL_isPage_93 (by decide) (by first | omega | exact Nat.lt_trans (hW _ _) (by decide)) (by first | omega | exact Nat.lt_trans (hW _ _) (by decide)) (fun c93 => ?_) (fun c93 => ?_)
              · obtain rfl : j = (ordF B n p).length := by omega
                refine v_iload F dL_isPage_369 rfl ?_
                refine v_if_eq_n F 413 dL_isPage_371 (by decide) (by first | omega | exact Nat.lt_trans (hW _ _) (by decide)) (fun c371 => ?_) (fun c371 => ?_)
                · exact absurd c371 (by decide)
                · refine v_aload_n F dL_isPage_374 rfl rfl ?_
                  refine v_iload_n F dL_isPage_375 rfl ?_
                  refine v_callSN F hN 2 [_, _] rfl rfl rfl (a_faulty hl9 hC2 hp5) gL_isPage_L_faulty rfl hd_L_faulty ⟨⟨rfl, rfl⟩, ⟨(Nat.le_of_ble_eq_true rfl), (Nat.le_of_ble_eq_true rfl)⟩, ⟨(by show _ ≤ 500; omega), (by show _ ≤ 3000; omega)⟩, (Nat.le_of_ble_eq_true rfl)⟩ dL_isPage_376 (fun v376 M376 q376 => ?_)
                  obtain ⟨rfl, e376⟩ := q376
                  replace e376 := e376.symm
                  subst e376
                  refine v_iload F dL_isPage_379 rfl ?_
                  refine v_icmp_ne_n F 413 dL_isPage_381 (by decide) (Nat.lt_of_le_of_lt (fyF_le _ _ _) (by omega)) (Nat.lt_of_le_of_lt (fyF_le _ _ _) (by omega)) (fun c381 => ?_) (fun c381 => ?_)
                  · exact absurd rfl c381
                  · refine v_iload F dL_isPage_384 rfl ?_
                    refine v_iconst (v := nI 2) F dL_isPage_386 (by decide) ?_
                    refine v_icmp_ge_n F 401 dL_isPage_387 (by decide) (by first | omega | exact Nat.lt_trans (hW _ _) (by decide)) (by first | omega | exact Nat.lt_trans (hW _ _) (by decide)) (fun c387 => ?_) (fun c387 => ?_)
                    · refine v_aload_n F dL_isPage_401 rfl rfl ?_
                      refine v_iload_n F dL_isPage_402 rfl ?_
                      refine v_callSN F hN 2 [_, _] rfl rfl rfl (a_way hl9 hC2 hp5) gL_isPage_L_way rfl hd_L_way ⟨⟨rfl, rfl⟩, ⟨(Nat.le_of_ble_eq_true rfl), (Nat.le_of_ble_eq_true rfl)⟩, ⟨(by show _ ≤ 500; omega), (by show _ ≤ 3000; omega)⟩, (Nat.le_of_ble_eq_true rfl)⟩ dL_isPage_403 (fun v403 M403 q403 => ?_)
                      obtain ⟨rfl, e403⟩ := q403
                      replace e403 := e403.symm
                      subst e403
                      refine v_if_lt_n F 413 dL_isPage_406 (by decide) (Nat.lt_of_le_of_lt (wyF_lt hW _ _) (by omega)) ?_
                      refine v_iconst (v := nI 1) F dL_isPage_409 (by decide) ?_
                      refine v_goto F 414 dL_isPage_410 (by decide) ?_
                      exact v_zret F hr dL_isPage_414 rfl (by omega) (by omega) ⟨rfl, R2, hC2, hF2⟩
                    · refine v_aload_n F dL_isPage_390 rfl rfl ?_
                      refine v_iload_n F dL_isPage_391 rfl ?_
                      refine v_callSN F hN 2 [_, _] rfl rfl rfl (a_way hl9 hC2 hp5) gL_isPage_L_way rfl hd_L_way ⟨⟨rfl, rfl⟩, ⟨(Nat.le_of_ble_eq_true rfl), (Nat.le_of_ble_eq_true rfl)⟩, ⟨(by show _ ≤ 500; omega), (by show _ ≤ 3000; omega)⟩, (Nat.le_of_ble_eq_true rfl)⟩ dL_isPage_392 (fun v392 M392 q392 => ?_)
                      obtain ⟨rfl, e392⟩ := q392
                      replace e392 := e392.symm
                      subst e392
                      refine v_if_ne_n F 413 dL_isPage_395 (by decide) (Nat.lt_of_le_of_lt (wyF_lt hW _ _) (by omega)) (fun c395 => ?_) (fun c395 => ?_)
                      · exact absurd (by rw [show (ordF B n p).length - 1 = 0 by omega]; rfl) c395
                      · refine v_goto F 409 dL_isPage_398 (by decide) ?_
                        refine v_iconst (v := nI 1) F dL_isPage_409 (by decide) ?_
                        refine v_goto F 414 dL_isPage_410 (by decide) ?_
                        exact v_zret F hr dL_isPage_414 rfl (by omega) (by omega) ⟨rfl, R2, hC2, hF2⟩
              · have hjl : j < (ordF B n p).length := by omega
                obtain ⟨hx1, hx2, hx3⟩ := hG.pg (gDm hjl)
                have hft := (ftA_5 B (ordF B n p) j).1
                refine v_iload F dL_isPage_96 rfl ?_
                refine v_if_eq_n F 369 dL_isPage_98 (by decide) (by first | omega | exact Nat.lt_trans (hW _ _) (by decide)) (fun c98 => ?_) (fun c98 => ?_)
                · exact absurd c98 (by decide)
                · have j334 : ∀ (M3 : MM) (R3 : Nat → (Nat → Int32) × Nat), CI ω A B P n k R3 Z M3 → Fr Z M M3 → V ω σ M3 [some (.ref (A 0 0)), some (.ref G), some (.ref Pp), some (.int (nI p)), some (.int (nI (ordF B n p).length)), some (.int (nI 1)), some (.int (nI (stF (ordF B n p) j))), some (.int (nI (fyF B (ordF B n p) (j + 1)))), some (.int ah), some (.int (nI j)), some (.int (nI ((ordF B n p).getD j 0))), some (.int (nI (ftA B (ordF B n p) j)))] (5 + 20 * j + 15) (30 + 120 * j + 90) (BQ ω σ (fun v M9 => v = some (.int (nI 1)) ∧ ∃ R9, CI ω A B P n k R9 Z M9 ∧ Fr Z M M9) 500 3000) 334 [] := by
                    intro M3 R3 hC3 hF3
                    have hpp3 : M3 Pp = some (.inl (ω.2.2 0, 25, .inl fp)) := (hF3 Pp hZP).trans hpp
                    refine v_iconst (v := nI 1) F dL_isPage_334 (by decide) ?_
                    refine v_goto F 339 dL_isPage_335 (by decide) ?_
                    refine v_istore F dL_isPage_339 (Nat.le_of_ble_eq_true rfl) (ok2_d rfl) ?_
                    refine v_iload F dL_isPage_341 rfl ?_
                    refine v_iload F dL_isPage_343 rfl ?_
                    refine v_if_eq_n F 355 dL_isPage_345 (by decide) (by first | omega | exact Nat.lt_trans (hW _ _) (by decide)) (fun c345 => ?_) (fun c345 => ?_)
                    · exact absurd c345 (by decide)
                    · refine v_iconst (v := nI 1) F dL_isPage_348 (by decide) ?_
                      refine v_iload F dL_isPage_349 rfl ?_
                      refine v_ishl_n F dL_isPage_351 (by first | omega | exact Nat.lt_trans (hW _ _) (by decide)) ?_
                      refine v_goto F 356 dL_isPage_352 (by decide) ?_
                      refine v_ior_n F dL_isPage_356 ?_
                      refine v_istore F dL_isPage_357 (Nat.le_of_ble_eq_true rfl) (ok2_d rfl) ?_
                      refine v_iload F dL_isPage_359 rfl ?_
                      refine v_istore F dL_isPage_361 (Nat.le_of_ble_eq_true rfl) (ok2_d rfl) ?_
                      refine v_iinc1 F dL_isPage_363 rfl (ok2_d rfl) ?_
                      refine v_goto F 89 dL_isPage_366 (by decide) ?_
                      refine v_widen F (5 + 20 * (j + 1)) (30 + 120 * (j + 1)) (by omega) (by omega) ?_
                      exact ih (by omega) _ _ _ _ _ hC3 hF3 (fun _ => by rw [Nat.add_sub_cancel])
                  have j305 : ∀ (M3 : MM) (R3 : Nat → (Nat → Int32) × Nat), CI ω A B P n k R3 Z M3 → Fr Z M M3 → V ω σ M3 [some (.ref (A 0 0)), some (.ref G), some (.ref Pp), some (.int (nI p)), some (.int (nI (ordF B n p).length)), some (.int (nI 1)), some (.int (nI (stF (ordF B n p) j))), some (.int (nI (fyF B (ordF B n p) (j + 1)))), some (.int ah), some (.int (nI j)), some (.int (nI ((ordF B n p).getD j 0))), some (.int (nI (ftA B (ordF B n p) j)))] (5 + 20 * j + 13) (30 + 120 * j + 78) (BQ ω σ (fun v M9 => v = some (.int (nI 1)) ∧ ∃ R9, CI ω A B P n k R9 Z M9 ∧ Fr Z M M9) 500 3000) 305 [] := by
                    intro M3 R3 hC3 hF3
                    have hpp3 : M3 Pp = some (.inl (ω.2.2 0, 25, .inl fp)) := (hF3 Pp hZP).trans hpp
                    refine v_iload F dL_isPage_305 rfl ?_
                    refine v_if_eq_n F 334 dL_isPage_307 (by decide) (by first | omega | exact Nat.lt_trans (hW _ _) (by decide)) (fun c307 => ?_) (fun c307 => ?_)
                    · refine v_widen F (5 + 20 * j + 15) (30 + 120 * j + 90) (by omega) (by omega) ?_
                      first | exact j334 _ _ hC4 hF4 | exact j334 _ _ hC3 hF3 | exact j334 _ _ hC2 hF2
                    · obtain rfl : ah = nI ((ordF B n p).getD (j - 1) 0) := hah (by omega)
                      have hy1 : (ordF B n p).getD (j - 1) 0 < n := (hG.pg (gDm (show j - 1 < (ordF B n p).length by omega))).1
                      refine v_aload_n F dL_isPage_310 rfl rfl ?_
                      refine v_iload F dL_isPage_311 rfl ?_
                      refine v_bipush (v := nI 7) F dL_isPage_313 (by decide) ?_
                      refine v_callSN F hN 3 [_, _, _] rfl rfl rfl (a_about_7 hC3 hG hy1) gL_isPage_L_about rfl hd_L_about ⟨⟨rfl, rfl⟩, ⟨(Nat.le_of_ble_eq_true rfl), (Nat.le_of_ble_eq_true rfl)⟩, ⟨(by show _ ≤ 500; omega), (by show _ ≤ 3000; omega)⟩, (Nat.le_of_ble_eq_true rfl)⟩ dL_isPage_315 (fun v315 M315 q315 => ?_)
                      obtain ⟨rfl, e315⟩ := q315
                      replace e315 := e315.symm
                      subst e315
                      refine v_if_lt F 334 dL_isPage_318 (by decide) (fun c318 => ?_) (fun c318 => ?_)
                      · refine v_widen F (5 + 20 * j + 15) (30 + 120 * j + 90) (by omega) (by omega) ?_
                        first | exact j334 _ _ hC4 hF4 | exact j334 _ _ hC3 hF3 | exact j334 _ _ hC2 hF2
                      · refine v_aload_n F dL_isPage_321 rfl rfl ?_
                        refine v_iload F dL_isPage_322 rfl ?_
                        refine v_bipush (v := nI 7) F dL_isPage_324 (by decide) ?_
                        refine v_callSN F hN 3 [_, _, _] rfl rfl rfl (a_about_7 hC3 hG hy1) gL_isPage_L_about rfl hd_L_about ⟨⟨rfl, rfl⟩, ⟨(Nat.le_of_ble_eq_true rfl), (Nat.le_of_ble_eq_true rfl)⟩, ⟨(by show _ ≤ 500; omega), (by show _ ≤ 3000; omega)⟩, (Nat.le_of_ble_eq_true rfl)⟩ dL_isPage_326 (fun v326 M326 q326 => ?_)
                        obtain ⟨rfl, e326⟩ := q326
                        replace e326 := e326.symm
                        subst e326
                        refine v_iload F dL_isPage_329 rfl ?_
                        refine v_icmp_ne F 338 dL_isPage_331 (by decide) (fun c331 => ?_) (fun c331 => ?_)
                        · exact absurd (fl_eq hG hjl (by omega) c318) c331
                        · refine v_widen F (5 + 20 * j + 15) (30 + 120 * j + 90) (by omega) (by omega) ?_
                          first | exact j334 _ _ hC4 hF4 | exact j334 _ _ hC3 hF3 | exact j334 _ _ hC2 hF2
                  have j281 : ∀ (M3 : MM) (R3 : Nat → (Nat → Int32) × Nat), CI ω A B P n k R3 Z M3 → Fr Z M M3 → V ω σ M3 [some (.ref (A 0 0)), some (.ref G), some (.ref Pp), some (.int (nI p)), some (.int (nI (ordF B n p).length)), some (.int (nI 1)), some (.int (nI (stF (ordF B n p) j))), some (.int (nI (fyF B (ordF B n p) (j + 1)))), some (.int ah), some (.int (nI j)), some (.int (nI ((ordF B n p).getD j 0))), some (.int (nI (ftA B (ordF B n p) j)))] (5 + 20 * j + 11) (30 + 120 * j + 66) (BQ ω σ (fun v M9 => v = some (.int (nI 1)) ∧ ∃ R9, CI ω A B P n k R9 Z M9 ∧ Fr Z M M9) 500 3000) 281 [] := by
                    intro M3 R3 hC3 hF3
                    have hpp3 : M3 Pp = some (.inl (ω.2.2 0, 25, .inl fp)) := (hF3 Pp hZP).trans hpp
                    refine v_aload_n F dL_isPage_281 rfl rfl ?_
                    refine v_iload F dL_isPage_282 rfl ?_
                    refine v_bipush (v := nI 6) F dL_isPage_284 (by decide) ?_
                    refine v_callSN F hN 3 [_, _, _] rfl rfl rfl (a_about_6 hC3 hG hx1) gL_isPage_L_about rfl hd_L_about ⟨⟨rfl, rfl⟩, ⟨(Nat.le_of_ble_eq_true rfl), (Nat.le_of_ble_eq_true rfl)⟩, ⟨(by show _ ≤ 500; omega), (by show _ ≤ 3000; omega)⟩, (Nat.le_of_ble_eq_true rfl)⟩ dL_isPage_286 (fun v286 M286 q286 => ?_)
                    obtain ⟨rfl, e286⟩ := q286
                    replace e286 := e286.symm
                    subst e286
                    refine v_if_lt F 305 dL_isPage_289 (by decide) (fun c289 => ?_) (fun c289 => ?_)
                    · refine v_widen F (5 + 20 * j + 13) (30 + 120 * j + 78) (by omega) (by omega) ?_
                      first | exact j305 _ _ hC4 hF4 | exact j305 _ _ hC3 hF3 | exact j305 _ _ hC2 hF2
                    · refine v_aload_n F dL_isPage_292 rfl rfl ?_
                      refine v_iload F dL_isPage_293 rfl ?_
                      refine v_bipush (v := nI 6) F dL_isPage_295 (by decide) ?_
                      refine v_callSN F hN 3 [_, _, _] rfl rfl rfl (a_about_6 hC3 hG hx1) gL_isPage_L_about rfl hd_L_about ⟨⟨rfl, rfl⟩, ⟨(Nat.le_of_ble_eq_true rfl), (Nat.le_of_ble_eq_true rfl)⟩, ⟨(by show _ ≤ 500; omega), (by show _ ≤ 3000; omega)⟩, (Nat.le_of_ble_eq_true rfl)⟩ dL_isPage_297 (fun v297 M297 q297 => ?_)
                      obtain ⟨rfl, e297⟩ := q297
                      replace e297 := e297.symm
                      subst e297
                      refine v_iload F dL_isPage_300 rfl ?_
                      refine v_icmp_ne F 338 dL_isPage_302 (by decide) (fun c302 => ?_) (fun c302 => ?_)
                      · exact absurd (ld_eq hG hjl hah c289) c302
                      · refine v_widen F (5 + 20 * j + 13) (30 + 120 * j + 78) (by omega) (by omega) ?_
                        first | exact j305 _ _ hC4 hF4 | exact j305 _ _ hC3 hF3 | exact j305 _ _ hC2 hF2
                  have j268 : ∀ (M3 : MM) (R3 : Nat → (Nat → Int32) × Nat), CI ω A B P n k R3 Z M3 → Fr Z M M3 → V ω σ M3 [some (.ref (A 0 0)), some (.ref G), some (.ref Pp), some (.int (nI p)), some (.int (nI (ordF B n p).length)), some (.int (nI 1)), some (.int (nI (stF (ordF B n p) j))), some (.int (nI (fyF B (ordF B n p) (j + 1)))), some (.int ah), some (.int (nI j)), some (.int (nI ((ordF B n p).getD j 0))), some (.int (nI (ftA B (ordF B n p) j)))] (5 + 20 * j + 11) (30 + 120 * j + 66) (BQ ω σ (fun v M9 => v = some (.int (nI 1)) ∧ ∃ R9, CI ω A B P n k R9 Z M9 ∧ Fr Z M M9) 500 3000) 268 [] := by
                    intro M3 R3 hC3 hF3
                    have hpp3 : M3 Pp = some (.inl (ω.2.2 0, 25, .inl fp)) := (hF3 Pp hZP).trans hpp
                    refine v_iload F dL_isPage_268 rfl ?_
                    refine v_if_gt_n F 281 dL_isPage_270 (by decide) (by first | omega | exact Nat.lt_trans (hW _ _) (by decide)) (fun c270 => ?_) (fun c270 => ?_)
                    · refine v_widen F (5 + 20 * j + 11) (30 + 120 * j + 66) (by omega) (by omega) ?_
                      first | exact j281 _ _ hC4 hF4 | exact j281 _ _ hC3 hF3 | exact j281 _ _ hC2 hF2
                    · refine v_iload F dL_isPage_273 rfl ?_
                      refine v_bipush (v := nI 16) F dL_isPage_275 (by decide) ?_
                      refine v_iand_n F dL_isPage_277 ?_
                      refine v_if_ne_n F 338 dL_isPage_278 (by decide) (and1_lt (by decide)) (fun c278 => ?_) (fun c278 => ?_)
                      · exact absurd (ft_16 (by omega)) c278
                      · refine v_widen F (5 + 20 * j + 11) (30 + 120 * j + 66) (by omega) (by omega) ?_
                        first | exact j281 _ _ hC4 hF4 | exact j281 _ _ hC3 hF3 | exact j281 _ _ hC2 hF2
                  have j250 : ∀ (M3 : MM) (R3 : Nat → (Nat → Int32) × Nat), CI ω A B P n k R3 Z M3 → Fr Z M M3 → V ω σ M3 [some (.ref (A 0 0)), some (.ref G), some (.ref Pp), some (.int (nI p)), some (.int (nI (ordF B n p).length)), some (.int (nI 1)), some (.int (nI (stF (ordF B n p) j))), some (.int (nI (fyF B (ordF B n p) (j + 1)))), some (.int ah), some (.int (nI j)), some (.int (nI ((ordF B n p).getD j 0))), some (.int (nI (ftA B (ordF B n p) j)))] (5 + 20 * j + 10) (30 + 120 * j + 60) (BQ ω σ (fun v M9 => v = some (.int (nI 1)) ∧ ∃ R9, CI ω A B P n k R9 Z M9 ∧ Fr Z M M9) 500 3000) 250 [] := by
                    intro M3 R3 hC3 hF3
                    have hpp3 : M3 Pp = some (.inl (ω.2.2 0, 25, .inl fp)) := (hF3 Pp hZP).trans hpp
                    refine v_aload_n F dL_isPage_250 rfl rfl ?_
                    refine v_iload F dL_isPage_251 rfl ?_
                    refine v_iconst (v := nI 5) F dL_isPage_253 (by decide) ?_
                    refine v_callSN F hN 3 [_, _, _] rfl rfl rfl (a_about_5 hC3 hx1) gL_isPage_L_about rfl hd_L_about ⟨⟨rfl, rfl⟩, ⟨(Nat.le_of_ble_eq_true rfl), (Nat.le_of_ble_eq_true rfl)⟩, ⟨(by show _ ≤ 500; omega), (by show _ ≤ 3000; omega)⟩, (Nat.le_of_ble_eq_true rfl)⟩ dL_isPage_254 (fun v254 M254 q254 => ?_)
                    obtain ⟨rfl, e254⟩ := q254
                    replace e254 := e254.symm
                    subst e254
                    refine v_iconst (v := nI 3) F dL_isPage_257 (by decide) ?_
                    refine v_icmp_eq_n F 268 dL_isPage_258 (by decide) (by first | omega | exact Nat.lt_trans (hW _ _) (by decide)) (by first | omega | exact Nat.lt_trans (hW _ _) (by decide)) (fun c258 => ?_) (fun c258 => ?_)
                    · refine v_widen F (5 + 20 * j + 11) (30 + 120 * j + 66) (by omega) (by omega) ?_
                      first | exact j268 _ _ hC4 hF4 | exact j268 _ _ hC3 hF3 | exact j268 _ _ hC2 hF2
                    · refine v_iload F dL_isPage_261 rfl ?_
                      refine v_iconst (v := nI 4) F dL_isPage_263 (by decide) ?_
                      refine v_iand_n F dL_isPage_264 ?_
                      refine v_if_ne_n F 338 dL_isPage_265 (by decide) (and1_lt (by decide)) (fun c265 => ?_) (fun c265 => ?_)
                      · exact absurd (ft_4 c258) c265
                      · refine v_widen F (5 + 20 * j + 11) (30 + 120 * j + 66) (by omega) (by omega) ?_
                        first | exact j268 _ _ hC4 hF4 | exact j268 _ _ hC3 hF3 | exact j268 _ _ hC2 hF2
                  have j232 : ∀ (M3 : MM) (R3 : Nat → (Nat → Int32) × Nat), CI ω A B P n k R3 Z M3 → Fr Z M M3 → V ω σ M3 [some (.ref (A 0 0)), some (.ref G), some (.ref Pp), some (.int (nI p)), some (.int (nI (ordF B n p).length)), some (.int (nI 1)), some (.int (nI (stF (ordF B n p) j))), some (.int (nI (fyF B (ordF B n p) (j + 1)))), some (.int ah), some (.int (nI j)), some (.int (nI ((ordF B n p).getD j 0))), some (.int (nI (ftA B (ordF B n p) j)))] (5 + 20 * j + 9) (30 + 120 * j + 54) (BQ ω σ (fun v M9 => v = some (.int (nI 1)) ∧ ∃ R9, CI ω A B P n k R9 Z M9 ∧ Fr Z M M9) 500 3000) 232 [] := by
                    intro M3 R3 hC3 hF3
                    have hpp3 : M3 Pp = some (.inl (ω.2.2 0, 25, .inl fp)) := (hF3 Pp hZP).trans hpp
                    refine v_aload_n F dL_isPage_232 rfl rfl ?_
                    refine v_iload F dL_isPage_233 rfl ?_
                    refine v_iconst (v := nI 5) F dL_isPage_235 (by decide) ?_
                    refine v_callSN F hN 3 [_, _, _] rfl rfl rfl (a_about_5 hC3 hx1) gL_isPage_L_about rfl hd_L_about ⟨⟨rfl, rfl⟩, ⟨(Nat.le_of_ble_eq_true rfl), (Nat.le_of_ble_eq_true rfl)⟩, ⟨(by show _ ≤ 500; omega), (by show _ ≤ 3000; omega)⟩, (Nat.le_of_ble_eq_true rfl)⟩ dL_isPage_236 (fun v236 M236 q236 => ?_)
                    obtain ⟨rfl, e236⟩ := q236
                    replace e236 := e236.symm
                    subst e236
                    refine v_iconst (v := nI 1) F dL_isPage_239 (by decide) ?_
                    refine v_icmp_eq_n F 250 dL_isPage_240 (by decide) (by first | omega | exact Nat.lt_trans (hW _ _) (by decide)) (by first | omega | exact Nat.lt_trans (hW _ _) (by decide)) (fun c240 => ?_) (fun c240 => ?_)
                    · refine v_widen F (5 + 20 * j + 10) (30 + 120 * j + 60) (by omega) (by omega) ?_
                      first | exact j250 _ _ hC4 hF4 | exact j250 _ _ hC3 hF3 | exact j250 _ _ hC2 hF2
                    · refine v_iload F dL_isPage_243 rfl ?_
                      refine v_iconst (v := nI 2) F dL_isPage_245 (by decide) ?_
                      refine v_iand_n F dL_isPage_246 ?_
                      refine v_if_ne_n F 338 dL_isPage_247 (by decide) (and1_lt (by decide)) (fun c247 => ?_) (fun c247 => ?_)
                      · exact absurd (ft_2 c240) c247
                      · refine v_widen F (5 + 20 * j + 10) (30 + 120 * j + 60) (by omega) (by omega) ?_
                        first | exact j250 _ _ hC4 hF4 | exact j250 _ _ hC3 hF3 | exact j250 _ _ hC2 hF2
                  have j202 : ∀ (M3 : MM) (R3 : Nat → (Nat → Int32) × Nat), CI ω A B P n k R3 Z M3 → Fr Z M M3 → V ω σ M3 [some (.ref (A 0 0)), some (.ref G), some (.ref Pp), some (.int (nI p)), some (.int (nI (ordF B n p).length)), some (.int (nI 1)), some (.int (nI (stF (ordF B n p) j))), some (.int (nI (fyF B (ordF B n p) (j + 1)))), some (.int ah), some (.int (nI j)), some (.int (nI ((ordF B n p).getD j 0))), some (.int (nI (ftA B (ordF B n p) j)))] (5 + 20 * j + 8) (30 + 120 * j + 48) (BQ ω σ (fun v M9 => v = some (.int (nI 1)) ∧ ∃ R9, CI ω A B P n k R9 Z M9 ∧ Fr Z M M9) 500 3000) 202 [] := by
                    intro M3 R3 hC3 hF3
                    have hpp3 : M3 Pp = some (.inl (ω.2.2 0, 25, .inl fp)) := (hF3 Pp hZP).trans hpp
                    refine v_iload F dL_isPage_202 rfl ?_
                    refine v_if_lt_n F 338 dL_isPage_204 (by decide) (by first | omega | exact Nat.lt_trans (hW _ _) (by decide)) ?_
                    refine v_iload F dL_isPage_207 rfl ?_
                    refine v_bipush (v := nI 32) F dL_isPage_209 (by decide) ?_
                    refine v_icmp_ge_n F 338 dL_isPage_211 (by decide) (by first | omega | exact Nat.lt_trans (hW _ _) (by decide)) (by first | omega | exact Nat.lt_trans (hW _ _) (by decide)) (fun c211 => ?_) (fun c211 => ?_)
                    · exact absurd c211 (by omega)
                    · refine v_aload_n F dL_isPage_214 rfl rfl ?_
                      refine v_iload F dL_isPage_215 rfl ?_
                      refine v_iconst (v := nI 5) F dL_isPage_217 (by decide) ?_
                      refine v_callSN F hN 3 [_, _, _] rfl rfl rfl (a_about_5 hC3 hx1) gL_isPage_L_about rfl hd_L_about ⟨⟨rfl, rfl⟩, ⟨(Nat.le_of_ble_eq_true rfl), (Nat.le_of_ble_eq_true rfl)⟩, ⟨(by show _ ≤ 500; omega), (by show _ ≤ 3000; omega)⟩, (Nat.le_of_ble_eq_true rfl)⟩ dL_isPage_218 (fun v218 M218 q218 => ?_)
                      obtain ⟨rfl, e218⟩ := q218
                      replace e218 := e218.symm
                      subst e218
                      refine v_iconst (v := nI 3) F dL_isPage_221 (by decide) ?_
                      refine v_icmp_gt_n F 232 dL_isPage_222 (by decide) (by first | omega | exact Nat.lt_trans (hW _ _) (by decide)) (by first | omega | exact Nat.lt_trans (hW _ _) (by decide)) (fun c222 => ?_) (fun c222 => ?_)
                      · refine v_widen F (5 + 20 * j + 9) (30 + 120 * j + 54) (by omega) (by omega) ?_
                        first | exact j232 _ _ hC4 hF4 | exact j232 _ _ hC3 hF3 | exact j232 _ _ hC2 hF2
                      · refine v_iload F dL_isPage_225 rfl ?_
                        refine v_iconst (v := nI 1) F dL_isPage_227 (by decide) ?_
                        refine v_iand_n F dL_isPage_228 ?_
                        refine v_if_ne_n F 338 dL_isPage_229 (by decide) (and1_lt (by decide)) (fun c229 => ?_) (fun c229 => ?_)
                        · exact absurd (ft_1 c222) c229
                        · refine v_widen F (5 + 20 * j + 9) (30 + 120 * j + 54) (by omega) (by omega) ?_
                          first | exact j232 _ _ hC4 hF4 | exact j232 _ _ hC3 hF3 | exact j232 _ _ hC2 hF2
                  have j184 : ∀ (M3 : MM) (R3 : Nat → (Nat → Int32) × Nat), CI ω A B P n k R3 Z M3 → Fr Z M M3 → V ω σ M3 [some (.ref (A 0 0)), some (.ref G), some (.ref Pp), some (.int (nI p)), some (.int (nI (ordF B n p).length)), some (.int (nI 1)), some (.int (nI (stF (ordF B n p) j))), some (.int (nI (fyF B (ordF B n p) (j + 1)))), some (.int ah), some (.int (nI j)), some (.int (nI ((ordF B n p).getD j 0))), some (.int (nI (ftA B (ordF B n p) j)))] (5 + 20 * j + 6) (30 + 120 * j + 36) (BQ ω σ (fun v M9 => v = some (.int (nI 1)) ∧ ∃ R9, CI ω A B P n k R9 Z M9 ∧ Fr Z M M9) 500 3000) 184 [] := by
                    intro M3 R3 hC3 hF3
                    have hpp3 : M3 Pp = some (.inl (ω.2.2 0, 25, .inl fp)) := (hF3 Pp hZP).trans hpp
                    refine v_iload F dL_isPage_184 rfl ?_
                    refine v_iconst (v := nI 4) F dL_isPage_186 (by decide) ?_
                    refine v_irem_n F dL_isPage_187 (by first | omega | exact Nat.lt_trans (hW _ _) (by decide)) (by decide) (by decide) ?_
                    refine v_if_gt_n F 202 dL_isPage_188 (by decide) (by first | omega | exact Nat.lt_trans (hW _ _) (by decide)) (fun c188 => ?_) (fun c188 => ?_)
                    · refine v_widen F (5 + 20 * j + 8) (30 + 120 * j + 48) (by omega) (by omega) ?_
                      first | exact j202 _ _ hC4 hF4 | exact j202 _ _ hC3 hF3 | exact j202 _ _ hC2 hF2
                    · refine v_aload_n F dL_isPage_191 rfl rfl ?_
                      refine v_iload F dL_isPage_192 rfl ?_
                      refine v_callSN F hN 2 [_, _] rfl rfl rfl (a_place hC3 hl9 hG hp5 hjl) gL_isPage_L_placeOf rfl hd_L_placeOf ⟨⟨rfl, rfl⟩, ⟨(Nat.le_of_ble_eq_true rfl), (Nat.le_of_ble_eq_true rfl)⟩, ⟨(by show _ ≤ 500; omega), (by show _ ≤ 3000; omega)⟩, (Nat.le_of_ble_eq_true rfl)⟩ dL_isPage_194 (fun v194 M194 q194 => ?_)
                      obtain ⟨rfl, e194⟩ := q194
                      replace e194 := e194.symm
                      subst e194
                      refine v_iload F dL_isPage_197 rfl ?_
                      refine v_icmp_ne_n F 338 dL_isPage_199 (by decide) (by first | omega | exact Nat.lt_trans (hW _ _) (by decide)) (by first | omega | exact Nat.lt_trans (hW _ _) (by decide)) (fun c199 => ?_) (fun c199 => ?_)
                      · exact absurd rfl c199
                      · refine v_widen F (5 + 20 * j + 8) (30 + 120 * j + 48) (by omega) (by omega) ?_
                        first | exact j202 _ _ hC4 hF4 | exact j202 _ _ hC3 hF3 | exact j202 _ _ hC2 hF2
                  have j142 : ∀ (M3 : MM) (R3 : Nat → (Nat → Int32) × Nat), CI ω A B P n k R3 Z M3 → Fr Z M M3 → V ω σ M3 [some (.ref (A 0 0)), some (.ref G), some (.ref Pp), some (.int (nI p)), some (.int (nI (ordF B n p).length)), some (.int (nI 1)), some (.int (nI (stF (ordF B n p) j))), some (.int (nI (fyF B (ordF B n p) (j + 1)))), some (.int ah), some (.int (nI j)), some (.int (nI ((ordF B n p).getD j 0))), some (.int (nI (ftA B (ordF B n p) j)))] (5 + 20 * j + 4) (30 + 120 * j + 24) (BQ ω σ (fun v M9 => v = some (.int (nI 1)) ∧ ∃ R9, CI ω A B P n k R9 Z M9 ∧ Fr Z M M9) 500 3000) 142 [] := by
                    intro M3 R3 hC3 hF3
                    have hpp3 : M3 Pp = some (.inl (ω.2.2 0, 25, .inl fp)) := (hF3 Pp hZP).trans hpp
                    refine v_iload F dL_isPage_142 rfl ?_
                    refine v_if_lt_n F 338 dL_isPage_144 (by decide) (by first | omega | exact Nat.lt_trans (hW _ _) (by decide)) ?_
                    refine v_aload_n F dL_isPage_147 rfl rfl ?_
                    refine v_iload F dL_isPage_148 rfl ?_
                    refine v_iald_n F dL_isPage_150 hpp3 (by first | omega | exact Nat.lt_trans (hW _ _) (by decide)) (by decide) ?_
                    refine V.toI (hfp _ hx1) ?_
                    refine v_iload_n F dL_isPage_151 rfl ?_
                    refine v_icmp_ne_n F 338 dL_isPage_152 (by decide) (by first | omega | (have := pgB_lt hG hx1; omega)) (by first | omega | (have := pgB_lt hG hx1; omega)) (fun c152 => ?_) (fun c152 => ?_)
                    · exact absurd (by rw [pgB_0 hx2]; exact hx3) c152
                    · refine v_iload F dL_isPage_155 rfl ?_
                      refine v_iload F dL_isPage_157 rfl ?_
                      refine v_ishr_n F dL_isPage_159 (by first | omega | (have := stF_lt (u := (ordF B n p)) (fun q hq => by have := (hG.pg (gDm hq)).1; omega) j (by omega); omega)) (by first | omega | (have := stF_lt (u := (ordF B n p)) (fun q hq => by have := (hG.pg (gDm hq)).1; omega) j (by omega); omega)) ?_
                      refine v_iconst (v := nI 1) F dL_isPage_160 (by decide) ?_
                      refine v_iand_n F dL_isPage_161 ?_
                      refine v_if_ne_n F 338 dL_isPage_162 (by decide) (and1_lt (by decide)) (fun c162 => ?_) (fun c162 => ?_)
                      · exact absurd (stF_new hG.nd hjl) c162
                      · refine v_iload F dL_isPage_165 rfl ?_
                        refine v_iconst (v := nI 3) F dL_isPage_167 (by decide) ?_
                        refine v_irem_n F dL_isPage_168 (by first | omega | exact Nat.lt_trans (hW _ _) (by decide)) (by decide) (by decide) ?_
                        refine v_if_gt_n F 184 dL_isPage_169 (by decide) (by first | omega | exact Nat.lt_trans (hW _ _) (by decide)) (fun c169 => ?_) (fun c169 => ?_)
                        · refine v_widen F (5 + 20 * j + 6) (30 + 120 * j + 36) (by omega) (by omega) ?_
                          first | exact j184 _ _ hC4 hF4 | exact j184 _ _ hC3 hF3 | exact j184 _ _ hC2 hF2
                        · refine v_aload_n F dL_isPage_172 rfl rfl ?_
                          refine v_iload_n F dL_isPage_173 rfl ?_
                          refine v_iload F dL_isPage_174 rfl ?_
                          refine v_callSN F hN 3 [_, _, _] rfl rfl rfl (a_anew_at hl9 hC3 hp5 hjl) gL_isPage_L_orderAnew rfl hd_L_orderAnew ⟨⟨rfl, rfl⟩, ⟨(Nat.le_of_ble_eq_true rfl), (Nat.le_of_ble_eq_true rfl)⟩, ⟨(by show _ ≤ 500; omega), (by show _ ≤ 3000; omega)⟩, (Nat.le_of_ble_eq_true rfl)⟩ dL_isPage_176 (fun v176 M176 q176 => ?_)
                          obtain ⟨⟨R4, hC4⟩, hF34, rfl⟩ := q176
                          have hF4 : Fr Z M M176 := fun z hz => (hF34 z hz).trans (hF3 z hz)
                          refine v_iload F dL_isPage_179 rfl ?_
                          refine v_icmp_ne_n F 338 dL_isPage_181 (by decide) (by first | omega | exact Nat.lt_trans (hW _ _) (by decide)) (by first | omega | exact Nat.lt_trans (hW _ _) (by decide)) (fun c181 => ?_) (fun c181 => ?_)
                          · exact absurd rfl c181
                          · refine v_widen F (5 + 20 * j + 6) (30 + 120 * j + 36) (by omega) (by omega) ?_
                            first | exact j184 _ _ hC4 hF4 | exact j184 _ _ hC3 hF3 | exact j184 _ _ hC2 hF2
                  refine v_aload_n F dL_isPage_101 rfl rfl ?_
                  refine v_iload_n F dL_isPage_102 rfl ?_
                  refine v_iload F dL_isPage_103 rfl ?_
                  refine v_callSN F hN 3 [_, _, _] rfl rfl rfl (a_order_at hl9 hC2 hp5 hjl) gL_isPage_L_order rfl hd_L_order ⟨⟨rfl, rfl⟩, ⟨(Nat.le_of_ble_eq_true rfl), (Nat.le_of_ble_eq_true rfl)⟩, ⟨(by show _ ≤ 500; omega), (by show _ ≤ 3000; omega)⟩, (Nat.le_of_ble_eq_true rfl)⟩ dL_isPage_105 (fun v105 M105 q105 => ?_)
                  obtain ⟨rfl, e105⟩ := q105
                  replace e105 := e105.symm
                  subst e105
                  refine v_istore F dL_isPage_108 (Nat.le_of_ble_eq_true rfl) (ok2_d rfl) ?_
                  refine v_iload F dL_isPage_110 rfl ?_
                  refine v_if_ge_n F 119 dL_isPage_112 (by decide) (by first | omega | exact Nat.lt_trans (hW _ _) (by decide)) ?_
                  refine v_aload_n F dL_isPage_119 rfl rfl ?_
                  refine v_iload F dL_isPage_120 rfl ?_
                  refine v_callSN F hN 2 [_, _] rfl rfl rfl (a_faults hC2 hl9 hG hp5 hjl) gL_isPage_L_faults rfl hd_L_faults ⟨⟨rfl, rfl⟩, ⟨(Nat.le_of_ble_eq_true rfl), (Nat.le_of_ble_eq_true rfl)⟩, ⟨(by show _ ≤ 500; omega), (by show _ ≤ 3000; omega)⟩, (Nat.le_of_ble_eq_true rfl)⟩ dL_isPage_122 (fun v122 M122 q122 => ?_)
                  obtain ⟨rfl, e122⟩ := q122
                  replace e122 := e122.symm
                  subst e122
                  refine v_istore F dL_isPage_125 (Nat.le_of_ble_eq_true rfl) (ok2_d rfl) ?_
                  refine v_iload F dL_isPage_127 rfl ?_
                  refine v_iload F dL_isPage_129 rfl ?_
                  refine v_if_le_n F 138 dL_isPage_131 (by decide) (by omega) (fun c131 => ?_) (fun c131 => ?_)
                  · refine v_iconst (v := nI 0) F dL_isPage_138 (by decide) ?_
                    refine v_iadd_n F dL_isPage_139 ?_
                    refine V.toI ((by first | exact fy_1 c131 | exact fy_0 c131)) ?_
                    refine v_istore F dL_isPage_140 (Nat.le_of_ble_eq_true rfl) (ok2_d rfl) ?_
                    refine v_widen F (5 + 20 * j + 4) (30 + 120 * j + 24) (by omega) (by omega) ?_
                    first | exact j142 _ _ hC4 hF4 | exact j142 _ _ hC3 hF3 | exact j142 _ _ hC2 hF2
                  · refine v_iconst (v := nI 1) F dL_isPage_134 (by decide) ?_
                    refine v_goto F 139 dL_isPage_135 (by decide) ?_
                    refine v_iadd_n F dL_isPage_139 ?_
                    refine V.toI ((by first | exact fy_1 c131 | exact fy_0 c131)) ?_
                    refine v_istore F dL_isPage_140 (Nat.le_of_ble_eq_true rfl) (ok2_d rfl) ?_
                    refine v_widen F (5 + 20 * j + 4) (30 + 120 * j + 24) (by omega) (by omega) ?_
                    first | exact j142 _ _ hC4 hF4 | exact j142 _ _ hC3 hF3 | exact j142 _ _ hC2 hF2
            refine v_widen F (5 + 20 * 0) (30 + 120 * 0) (Nat.le_of_ble_eq_true rfl) (Nat.le_of_ble_eq_true rfl) ?_
            exact lp2 0 (Nat.zero_le _) _ R63 _ none none hC63 hF63 (fun h => absurd h (Nat.lt_irrefl _))
    · refine v_iload F dL_isPage_14 rfl ?_
      refine v_aload_n F dL_isPage_16 rfl rfl ?_
      refine v_iload F dL_isPage_17 rfl ?_
      refine v_iald_n F dL_isPage_19 hpp (by first | omega | exact Nat.lt_trans (hW _ _) (by decide)) (by decide) ?_
      refine V.toI (hfp i (by omega)) ?_
      refine v_iload_n F dL_isPage_20 rfl ?_
      refine v_icmp_ne_n F 28 dL_isPage_21 (by decide) (by first | omega | (have := pgB_lt hG (show i < n by omega); omega)) (by first | omega | (have := pgB_lt hG (show i < n by omega); omega)) (fun c21 => ?_) (fun c21 => ?_)
      · refine v_iconst (v := nI 0) F dL_isPage_28 (by decide) ?_
        refine v_iadd_n F dL_isPage_29 ?_
        refine v_istore F dL_isPage_30 (Nat.le_of_ble_eq_true rfl) (ok2_d rfl) ?_
        refine v_iinc1 F dL_isPage_32 rfl (ok2_d rfl) ?_
        refine v_goto F 6 dL_isPage_35 (by decide) ?_
        exact ih (by omega) _ (by first | exact ct_1 hc c21 | exact ct_0 hc c21)
      · refine v_iconst (v := nI 1) F dL_isPage_24 (by decide) ?_
        refine v_goto F 29 dL_isPage_25 (by decide) ?_
        refine v_iadd_n F dL_isPage_29 ?_
        refine v_istore F dL_isPage_30 (Nat.le_of_ble_eq_true rfl) (ok2_d rfl) ?_
        refine v_iinc1 F dL_isPage_32 rfl (ok2_d rfl) ?_
        refine v_goto F 6 dL_isPage_35 (by decide) ?_
        exact ih (by omega) _ (by first | exact ct_1 hc c21 | exact ct_0 hc c21)
  exact lp 0 (Nat.zero_le _) 0 rfl
