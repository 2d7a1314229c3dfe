/-! the law: a box is altered -/
def rmL_alters : Room := { frames := 75, cells := 40, slots := 200, locals := 1716 }
theorem hd_L_alters : yL_alters.cls ≠ "java/lang/invoke/MethodHandle" ∧ yL_alters.cls ≠ "java/lang/invoke/VarHandle" ∧ (parseMethodDescriptor yL_alters.desc).map (fun d => d.parameters.length) = some 7 := by decide +kernel
set_option maxHeartbeats 4000000 in
set_option maxRecDepth 100000 in
theorem c_alters {l : Launch} {ω : Om} {M : MM} (hl9 : l.stackTraces = false) {A B P : FF} {n k : Nat} {R : Nat → (Nat → Int32) × Nat} {Z : Nat → Prop} {G Pp Aa Ww : Nat} {fg fp fa fw : Nat → Int32} (hS : LSt ω G Pp Aa Ww A B P n k R Z fg fp fa fw M) (hd : D4 G Pp Aa Ww) (hn0 : 0 < n) {kd : Nat} (hkd : kd < 4) {x y : Int32} : CtN l ω yL_alters wsL_alters rmL_alters [.ref (A 0 0), .ref G, .ref Pp, .ref Aa, .int (nI kd), .int x, .int y] M (fun v M9 => v = some (.int (nI 1)) ∧ LW ω (A 0 0) G Pp Aa Ww M9) 40 200 := by
  refine CtN.ofC (cc := cL_alters) (maxL := 12) (ret := (some .boolean)) [some (.ref (A 0 0)), some (.ref G), some (.ref Pp), some (.ref Aa), some (.int (nI kd)), some (.int x), some (.int y), none, none, none, none, none] (by decide) rfl (Nat.le_of_ble_eq_true rfl) rfl (Lc.av (av := [.ref (A 0 0), .ref G, .ref Pp, .ref Aa, .int (nI kd), .int x, .int y]) (k := 5) rfl) ?_
  intro σ F hl hr hN
  have F : Fx ω σ cL_alters 12 wsL_alters RL rmL_alters := F
  subst hl
  obtain ⟨hC, hG, hP, hQ, ⟨z1, z2, z3, z4⟩, ⟨hg, hpp, ha, hw⟩, ⟨h0g, h1g⟩, hfp, hfa, hfw⟩ := id hS
  obtain ⟨d1, d2, d3, d4, d5, d6⟩ := hd
  have hn24 : n ≤ 24 := hG.1.1
  have hW : ∀ i j, B i j < 128 := hG.1.2.1
  have hk20 : k ≤ 20 := hP.2.2.1
  refine v_iload F dL_alters_0 rfl ?_
  refine v_aload_n F dL_alters_2 rfl rfl ?_
  refine v_iconst (v := nI 0) F dL_alters_3 (by decide) ?_
  refine v_iald_n F dL_alters_4 hg (show 0 < 3 by decide) (by decide) ?_
  refine V.toI (h0g) ?_
  refine v_callS F 2 [_, _] rfl rfl rfl (h_low hn0 (by omega)) gL_alters_L_low rfl hd_L_low ⟨⟨rfl, rfl⟩, ⟨(Nat.le_of_ble_eq_true rfl), (Nat.le_of_ble_eq_true rfl)⟩, ⟨(by show _ ≤ 40; omega), (by show _ ≤ 200; omega)⟩, (Nat.le_of_ble_eq_true rfl)⟩ dL_alters_5 (fun v5 M5 q5 => ?_)
  obtain ⟨j, hj, rfl, e5⟩ := q5
  replace e5 := e5.symm
  subst e5
  have hp5 := (hG.2.2.2.2.1 j hj).1
  have hpl := pgB_lt hG hj
  have hb1 := hW j 1
  have hb2 := hW j 2
  refine v_istore F dL_alters_8 (Nat.le_of_ble_eq_true rfl) (ok2_d rfl) ?_
  refine v_iload F dL_alters_10 rfl ?_
  refine v_if_ne_n F 134 dL_alters_12 (by decide) (by first | omega | exact Nat.lt_trans (hW _ _) (by decide)) (fun c12 => ?_) (fun c12 => ?_)
  · refine v_iload F dL_alters_134 rfl ?_
    refine v_iconst (v := nI 1) F dL_alters_136 (by decide) ?_
    refine v_icmp_ne_n F 300 dL_alters_137 (by decide) (by first | omega | exact Nat.lt_trans (hW _ _) (by decide)) (by first | omega | exact Nat.lt_trans (hW _ _) (by decide)) (fun c137 => ?_) (fun c137 => ?_)
    · refine v_iload F dL_alters_300 rfl ?_
      refine v_iconst (v := nI 2) F dL_alters_302 (by decide) ?_
      refine v_icmp_ne_n F 416 dL_alters_303 (by decide) (by first | omega | exact Nat.lt_trans (hW _ _) (by decide)) (by first | omega | exact Nat.lt_trans (hW _ _) (by decide)) (fun c303 => ?_) (fun c303 => ?_)
      · refine v_iload F dL_alters_416 rfl ?_
        refine v_aload_n F dL_alters_418 rfl rfl ?_
        refine v_iconst (v := nI 0) F dL_alters_419 (by decide) ?_
        refine v_iald_n F dL_alters_420 hg (show 0 < 3 by decide) (by decide) ?_
        refine V.toI (h0g) ?_
        refine v_callS F 2 [_, _] rfl rfl rfl (h_low hn0 (by omega)) gL_alters_L_low rfl hd_L_low ⟨⟨rfl, rfl⟩, ⟨(Nat.le_of_ble_eq_true rfl), (Nat.le_of_ble_eq_true rfl)⟩, ⟨(by show _ ≤ 40; omega), (by show _ ≤ 200; omega)⟩, (Nat.le_of_ble_eq_true rfl)⟩ dL_alters_421 (fun v421 M421 q421 => ?_)
        obtain ⟨t, ht, rfl, e421⟩ := q421
        replace e421 := e421.symm
        subst e421
        have hpt := pgB_lt hG ht
        refine v_istore F dL_alters_424 (Nat.le_of_ble_eq_true rfl) (ok2_d rfl) ?_
        rcases ti_4 B j t with hgg | ⟨hg8, hgt, hbad⟩ | ⟨hg8, hgt, hbad, hpp0, hno⟩ | ⟨hg8, hgt, hbad, hpp0, hno⟩
        · refine v_aload_n F dL_alters_426 rfl rfl ?_
          refine v_iload F dL_alters_427 rfl ?_
          refine v_iload F dL_alters_429 rfl ?_
          refine v_callSN F hN 3 [_, _, _] rfl rfl rfl (b_tie_gone hl9 hC hj ht hgg) gL_alters_L_tie rfl hd_L_tie ⟨⟨rfl, rfl⟩, ⟨(Nat.le_of_ble_eq_true rfl), (Nat.le_of_ble_eq_true rfl)⟩, ⟨(by show _ ≤ 40; omega), (by show _ ≤ 200; omega)⟩, (Nat.le_of_ble_eq_true rfl)⟩ dL_alters_431 (fun v431 M431 q431 => ?_)
          obtain ⟨rfl, e431⟩ := q431
          replace e431 := e431.symm
          subst e431
          refine v_istore F dL_alters_434 (Nat.le_of_ble_eq_true rfl) (ok2_d rfl) ?_
          refine v_aload_n F dL_alters_436 rfl rfl ?_
          refine v_iload F dL_alters_437 rfl ?_
          refine v_iald_n F dL_alters_439 hpp (by first | omega | exact Nat.lt_trans (hW _ _) (by decide)) (by decide) ?_
          refine V.toI (hfp j hj) ?_
          refine v_bipush (v := nI 9) F dL_alters_440 (by decide) ?_
          refine v_icmp_eq_n F 454 dL_alters_442 (by decide) (by first | omega | exact Nat.lt_trans (hW _ _) (by decide)) (by first | omega | exact Nat.lt_trans (hW _ _) (by decide)) (fun c442 => ?_) (fun c442 => ?_)
          · refine v_iload F dL_alters_454 rfl ?_
            refine v_ldc (v := (-1000001)) F (by decide +kernel) dL_alters_456 ?_
            refine v_icmp_ne F 465 dL_alters_458 (by decide) (fun c458 => ?_) (fun c458 => ?_)
            · exact absurd rfl c458
            · refine v_iconst (v := nI 1) F dL_alters_461 (by decide) ?_
              refine v_goto F 466 dL_alters_462 (by decide) ?_
              exact v_zret F hr dL_alters_466 rfl (by omega) (by omega) ⟨rfl, ⟨A, B, P, n, k, R, Z, fg, fp, fa, fw, rfl, hS⟩⟩
          · refine v_aload_n F dL_alters_445 rfl rfl ?_
            refine v_iload F dL_alters_446 rfl ?_
            refine v_iald_n F dL_alters_448 hpp (by first | omega | exact Nat.lt_trans (hW _ _) (by decide)) (by decide) ?_
            refine V.toI (hfp t ht) ?_
            refine v_bipush (v := nI 9) F dL_alters_449 (by decide) ?_
            refine v_icmp_ne_n F 467 dL_alters_451 (by decide) (by first | omega | exact Nat.lt_trans (hW _ _) (by decide)) (by first | omega | exact Nat.lt_trans (hW _ _) (by decide)) (fun c451 => ?_) (fun c451 => ?_)
            · exact absurd ⟨Classical.byContradiction fun h => c442 (pgB_9 h), Classical.byContradiction fun h => c451 (pgB_9 h)⟩ hgg
            · refine v_iload F dL_alters_454 rfl ?_
              refine v_ldc (v := (-1000001)) F (by decide +kernel) dL_alters_456 ?_
              refine v_icmp_ne F 465 dL_alters_458 (by decide) (fun c458 => ?_) (fun c458 => ?_)
              · exact absurd rfl c458
              · refine v_iconst (v := nI 1) F dL_alters_461 (by decide) ?_
                refine v_goto F 466 dL_alters_462 (by decide) ?_
                exact v_zret F hr dL_alters_466 rfl (by omega) (by omega) ⟨rfl, ⟨A, B, P, n, k, R, Z, fg, fp, fa, fw, rfl, hS⟩⟩
        · refine v_aload_n F dL_alters_426 rfl rfl ?_
          refine v_iload F dL_alters_427 rfl ?_
          refine v_iload F dL_alters_429 rfl ?_
          refine v_callSN F hN 3 [_, _, _] rfl rfl rfl (b_tie_bad hl9 hC hj ht hg8 hgt hbad) gL_alters_L_tie rfl hd_L_tie ⟨⟨rfl, rfl⟩, ⟨(Nat.le_of_ble_eq_true rfl), (Nat.le_of_ble_eq_true rfl)⟩, ⟨(by show _ ≤ 40; omega), (by show _ ≤ 200; omega)⟩, (Nat.le_of_ble_eq_true rfl)⟩ dL_alters_431 (fun v431 M431 q431 => ?_)
          obtain ⟨rfl, e431⟩ := q431
          replace e431 := e431.symm
          subst e431
          refine v_istore F dL_alters_434 (Nat.le_of_ble_eq_true rfl) (ok2_d rfl) ?_
          refine v_aload_n F dL_alters_436 rfl rfl ?_
          refine v_iload F dL_alters_437 rfl ?_
          refine v_iald_n F dL_alters_439 hpp (by first | omega | exact Nat.lt_trans (hW _ _) (by decide)) (by decide) ?_
          refine V.toI (hfp j hj) ?_
          refine v_bipush (v := nI 9) F dL_alters_440 (by decide) ?_
          refine v_icmp_eq_n F 454 dL_alters_442 (by decide) (by first | omega | exact Nat.lt_trans (hW _ _) (by decide)) (by first | omega | exact Nat.lt_trans (hW _ _) (by decide)) (fun c442 => ?_) (fun c442 => ?_)
          · exact absurd c442 (by have := pgB_n9 hG hj hg8; omega)
          · refine v_aload_n F dL_alters_445 rfl rfl ?_
            refine v_iload F dL_alters_446 rfl ?_
            refine v_iald_n F dL_alters_448 hpp (by first | omega | exact Nat.lt_trans (hW _ _) (by decide)) (by decide) ?_
            refine V.toI (hfp t ht) ?_
            refine v_bipush (v := nI 9) F dL_alters_449 (by decide) ?_
            refine v_icmp_ne_n F 467 dL_alters_451 (by decide) (by first | omega | exact Nat.lt_trans (hW _ _) (by decide)) (by first | omega | exact Nat.lt_trans (hW _ _) (by decide)) (fun c451 => ?_) (fun c451 => ?_)
            · refine v_aload_n F dL_alters_467 rfl rfl ?_
              refine v_iload F dL_alters_468 rfl ?_
              refine v_iald_n F dL_alters_470 hpp (by first | omega | exact Nat.lt_trans (hW _ _) (by decide)) (by decide) ?_
              refine V.toI (hfp j hj) ?_
              refine v_aload_n F dL_alters_471 rfl rfl ?_
              refine v_iload F dL_alters_472 rfl ?_
              refine v_iald_n F dL_alters_474 hpp (by first | omega | exact Nat.lt_trans (hW _ _) (by decide)) (by decide) ?_
              refine V.toI (hfp t ht) ?_
              refine v_icmp_ne_n F 485 dL_alters_475 (by decide) (by first | omega | exact Nat.lt_trans (hW _ _) (by decide) | (have := pgB_lt hG hj; have := pgB_lt hG ht; omega)) (by first | omega | exact Nat.lt_trans (hW _ _) (by decide) | (have := pgB_lt hG hj; have := pgB_lt hG ht; omega)) (fun c475 => ?_) (fun c475 => ?_)
              · refine v_iload F dL_alters_485 rfl ?_
                refine v_ldc (v := (-1000002)) F (by decide +kernel) dL_alters_487 ?_
                refine v_icmp_ne F 496 dL_alters_489 (by decide) (fun c489 => ?_) (fun c489 => ?_)
                · exact absurd rfl c489
                · refine v_iconst (v := nI 1) F dL_alters_492 (by decide) ?_
                  refine v_goto F 497 dL_alters_493 (by decide) ?_
                  exact v_zret F hr dL_alters_497 rfl (by omega) (by omega) ⟨rfl, ⟨A, B, P, n, k, R, Z, fg, fp, fa, fw, rfl, hS⟩⟩
              · refine v_iload F dL_alters_478 rfl ?_
                refine v_iload F dL_alters_480 rfl ?_
                refine v_icmp_ne_n F 498 dL_alters_482 (by decide) (by first | omega | exact Nat.lt_trans (hW _ _) (by decide)) (by first | omega | exact Nat.lt_trans (hW _ _) (by decide)) (fun c482 => ?_) (fun c482 => ?_)
                · exact hbad.elim (fun h => absurd h c482) (fun h => absurd (by rw [← pgB_0 hg8, ← pgB_0 hgt]; exact c475) h)
                · refine v_iload F dL_alters_485 rfl ?_
                  refine v_ldc (v := (-1000002)) F (by decide +kernel) dL_alters_487 ?_
                  refine v_icmp_ne F 496 dL_alters_489 (by decide) (fun c489 => ?_) (fun c489 => ?_)
                  · exact absurd rfl c489
                  · refine v_iconst (v := nI 1) F dL_alters_492 (by decide) ?_
                    refine v_goto F 497 dL_alters_493 (by decide) ?_
                    exact v_zret F hr dL_alters_497 rfl (by omega) (by omega) ⟨rfl, ⟨A, B, P, n, k, R, Z, fg, fp, fa, fw, rfl, hS⟩⟩
            · exact absurd c451 (by have := pgB_n9 hG ht hgt; omega)
        · refine v_aload_n F dL_alters_426 rfl rfl ?_
          refine v_iload F dL_alters_427 rfl ?_
          refine v_iload F dL_alters_429 rfl ?_
          refine v_callSN F hN 3 [_, _, _] rfl rfl rfl (b_tie_no hl9 hC hG hj ht hg8 hgt (fun h => hbad (Or.inl h)) hpp0 hno) gL_alters_L_tie rfl hd_L_tie ⟨⟨rfl, rfl⟩, ⟨(Nat.le_of_ble_eq_true rfl), (Nat.le_of_ble_eq_true rfl)⟩, ⟨(by show _ ≤ 40; omega), (by show _ ≤ 200; omega)⟩, (Nat.le_of_ble_eq_true rfl)⟩ dL_alters_431 (fun v431 M431 q431 => ?_)
          obtain ⟨rfl, e431⟩ := q431
          replace e431 := e431.symm
          subst e431
          refine v_istore F dL_alters_434 (Nat.le_of_ble_eq_true rfl) (ok2_d rfl) ?_
          refine v_aload_n F dL_alters_436 rfl rfl ?_
          refine v_iload F dL_alters_437 rfl ?_
          refine v_iald_n F dL_alters_439 hpp (by first | omega | exact Nat.lt_trans (hW _ _) (by decide)) (by decide) ?_
          refine V.toI (hfp j hj) ?_
          refine v_bipush (v := nI 9) F dL_alters_440 (by decide) ?_
          refine v_icmp_eq_n F 454 dL_alters_442 (by decide) (by first | omega | exact Nat.lt_trans (hW _ _) (by decide)) (by first | omega | exact Nat.lt_trans (hW _ _) (by decide)) (fun c442 => ?_) (fun c442 => ?_)
          · exact absurd c442 (by have := pgB_n9 hG hj hg8; omega)
          · refine v_aload_n F dL_alters_445 rfl rfl ?_
            refine v_iload F dL_alters_446 rfl ?_
            refine v_iald_n F dL_alters_448 hpp (by first | omega | exact Nat.lt_trans (hW _ _) (by decide)) (by decide) ?_
            refine V.toI (hfp t ht) ?_
            refine v_bipush (v := nI 9) F dL_alters_449 (by decide) ?_
            refine v_icmp_ne_n F 467 dL_alters_451 (by decide) (by first | omega | exact Nat.lt_trans (hW _ _) (by decide)) (by first | omega | exact Nat.lt_trans (hW _ _) (by decide)) (fun c451 => ?_) (fun c451 => ?_)
            · refine v_aload_n F dL_alters_467 rfl rfl ?_
              refine v_iload F dL_alters_468 rfl ?_
              refine v_iald_n F dL_alters_470 hpp (by first | omega | exact Nat.lt_trans (hW _ _) (by decide)) (by decide) ?_
              refine V.toI (hfp j hj) ?_
              refine v_aload_n F dL_alters_471 rfl rfl ?_
              refine v_iload F dL_alters_472 rfl ?_
              refine v_iald_n F dL_alters_474 hpp (by first | omega | exact Nat.lt_trans (hW _ _) (by decide)) (by decide) ?_
              refine V.toI (hfp t ht) ?_
              refine v_icmp_ne_n F 485 dL_alters_475 (by decide) (by first | omega | exact Nat.lt_trans (hW _ _) (by decide) | (have := pgB_lt hG hj; have := pgB_lt hG ht; omega)) (by first | omega | exact Nat.lt_trans (hW _ _) (by decide) | (have := pgB_lt hG hj; have := pgB_lt hG ht; omega)) (fun c475 => ?_) (fun c475 => ?_)
              · exact absurd (by rw [pgB_0 hg8, pgB_0 hgt]; exact hpp0) c475
              · refine v_iload F dL_alters_478 rfl ?_
                refine v_iload F dL_alters_480 rfl ?_
                refine v_icmp_ne_n F 498 dL_alters_482 (by decide) (by first | omega | exact Nat.lt_trans (hW _ _) (by decide)) (by first | omega | exact Nat.lt_trans (hW _ _) (by decide)) (fun c482 => ?_) (fun c482 => ?_)
                · refine v_iload F dL_alters_498 rfl ?_
                  refine v_ldc (v := (-1000003)) F (by decide +kernel) dL_alters_500 ?_
                  refine v_icmp_eq F 572 dL_alters_502 (by decide) (fun c502 => ?_) (fun c502 => ?_)
                  · refine v_iconst (v := nI 1) F dL_alters_572 (by decide) ?_
                    refine v_goto F 577 dL_alters_573 (by decide) ?_
                    exact v_zret F hr dL_alters_577 rfl (by omega) (by omega) ⟨rfl, ⟨A, B, P, n, k, R, Z, fg, fp, fa, fw, rfl, hS⟩⟩
                  · exact absurd rfl c502
                · exact absurd (Or.inl c482) hbad
            · exact absurd c451 (by have := pgB_n9 hG ht hgt; omega)
        · refine v_aload_n F dL_alters_426 rfl rfl ?_
          refine v_iload F dL_alters_427 rfl ?_
          refine v_iload F dL_alters_429 rfl ?_
          refine v_callSN F hN 3 [_, _, _] rfl rfl rfl (b_tie hl9 hC hG hj ht hg8 hgt (fun h => hbad (Or.inl h)) hpp0 hno.1 hno.2.1 hno.2.2) gL_alters_L_tie rfl hd_L_tie ⟨⟨rfl, rfl⟩, ⟨(Nat.le_of_ble_eq_true rfl), (Nat.le_of_ble_eq_true rfl)⟩, ⟨(by show _ ≤ 40; omega), (by show _ ≤ 200; omega)⟩, (Nat.le_of_ble_eq_true rfl)⟩ dL_alters_431 (fun v431 M431 q431 => ?_)
          obtain ⟨Rm, P9, cm, rfl, hCm, hFm, hFl⟩ := q431
          have hc20 := hFl.le20 hp5 hk20
          have hgm := (hFm _ z1).trans hg
          have hppm := (hFm _ z2).trans hpp
          have ham := (hFm _ z3).trans ha
          have hwm := (hFm _ z4).trans hw
          have hG2 := hG.ti hj ht hg8 hgt hpp0 hno.1 hno.2.1 hno.2.2
          have hP9 := hP.fall (q := 0) hFl
          have hQ9 := hFl.gq hQ
          refine v_istore F dL_alters_434 (Nat.le_of_ble_eq_true rfl) (ok2_d rfl) ?_
          refine v_aload_n F dL_alters_436 rfl rfl ?_
          refine v_iload F dL_alters_437 rfl ?_
          refine v_iald_n F dL_alters_439 hppm (by first | omega | exact Nat.lt_trans (hW _ _) (by decide)) (by decide) ?_
          refine V.toI (hfp j hj) ?_
          refine v_bipush (v := nI 9) F dL_alters_440 (by decide) ?_
          refine v_icmp_eq_n F 454 dL_alters_442 (by decide) (by first | omega | exact Nat.lt_trans (hW _ _) (by decide)) (by first | omega | exact Nat.lt_trans (hW _ _) (by decide)) (fun c442 => ?_) (fun c442 => ?_)
          · exact absurd c442 (by have := pgB_n9 hG hj hg8; omega)
          · refine v_aload_n F dL_alters_445 rfl rfl ?_
            refine v_iload F dL_alters_446 rfl ?_
            refine v_iald_n F dL_alters_448 hppm (by first | omega | exact Nat.lt_trans (hW _ _) (by decide)) (by decide) ?_
            refine V.toI (hfp t ht) ?_
            refine v_bipush (v := nI 9) F dL_alters_449 (by decide) ?_
            refine v_icmp_ne_n F 467 dL_alters_451 (by decide) (by first | omega | exact Nat.lt_trans (hW _ _) (by decide)) (by first | omega | exact Nat.lt_trans (hW _ _) (by decide)) (fun c451 => ?_) (fun c451 => ?_)
            · refine v_aload_n F dL_alters_467 rfl rfl ?_
              refine v_iload F dL_alters_468 rfl ?_
              refine v_iald_n F dL_alters_470 hppm (by first | omega | exact Nat.lt_trans (hW _ _) (by decide)) (by decide) ?_
              refine V.toI (hfp j hj) ?_
              refine v_aload_n F dL_alters_471 rfl rfl ?_
              refine v_iload F dL_alters_472 rfl ?_
              refine v_iald_n F dL_alters_474 hppm (by first | omega | exact Nat.lt_trans (hW _ _) (by decide)) (by decide) ?_
              refine V.toI (hfp t ht) ?_
              refine v_icmp_ne_n F 485 dL_alters_475 (by decide) (by first | omega | exact Nat.lt_trans (hW _ _) (by decide) | (have := pgB_lt hG hj; have := pgB_lt hG ht; omega)) (by first | omega | exact Nat.lt_trans (hW _ _) (by decide) | (have := pgB_lt hG hj; have := pgB_lt hG ht; omega)) (fun c475 => ?_) (fun c475 => ?_)
              · exact absurd (by rw [pgB_0 hg8, pgB_0 hgt]; exact hpp0) c475
              · refine v_iload F dL_alters_478 rfl ?_
                refine v_iload F dL_alters_480 rfl ?_
                refine v_icmp_ne_n F 498 dL_alters_482 (by decide) (by first | omega | exact Nat.lt_trans (hW _ _) (by decide)) (by first | omega | exact Nat.lt_trans (hW _ _) (by decide)) (fun c482 => ?_) (fun c482 => ?_)
                · refine v_iload F dL_alters_498 rfl ?_
                  refine v_ldc (v := (-1000003)) F (by decide +kernel) dL_alters_500 ?_
                  refine v_icmp_eq F 572 dL_alters_502 (by decide) (fun c502 => ?_) (fun c502 => ?_)
                  · exact absurd c502 (nI_nn hc20)
                  · refine v_aload_n F dL_alters_505 rfl rfl ?_
                    refine v_aload_n F dL_alters_506 rfl rfl ?_
                    refine v_aload_n F dL_alters_507 rfl rfl ?_
                    refine v_aload_n F dL_alters_508 rfl rfl ?_
                    refine v_iload F dL_alters_509 rfl ?_
                    refine v_iald_n F dL_alters_511 hppm (by first | omega | exact Nat.lt_trans (hW _ _) (by decide)) (by decide) ?_
                    refine V.toI ((hfp j hj).trans (by rw [pgB_0 hg8])) ?_
                    refine v_iload F dL_alters_512 rfl ?_
                    refine v_callS F 5 [_, _, _, _, _] rfl rfl rfl (c_fall hgm ham d2 h1g hk20 hp5 hfa hQ hFl) gL_alters_L_fall rfl hd_L_fall ⟨⟨rfl, rfl⟩, ⟨(Nat.le_of_ble_eq_true rfl), (Nat.le_of_ble_eq_true rfl)⟩, ⟨(by show _ ≤ 40; omega), (by show _ ≤ 200; omega)⟩, (Nat.le_of_ble_eq_true rfl)⟩ dL_alters_514 (fun v514 M514 q514 => ?_)
                    obtain ⟨rfl, fa9, hfa9, ha6, hfr6⟩ := q514
                    have hC6 := hCm.fr (fun z hz => hfr6 z (fun h => z3 (h ▸ hz)))
                    have hg6 := (hfr6 G d2).trans hgm
                    have hpp6 := (hfr6 Pp d4).trans hppm
                    have hw6 := (hfr6 Ww d6.symm).trans hwm
                    refine v_if_eq_n F 576 dL_alters_517 (by decide) (by first | omega | exact Nat.lt_trans (hW _ _) (by decide)) (fun c517 => ?_) (fun c517 => ?_)
                    · exact absurd c517 (by decide)
                    · refine v_aload_n F dL_alters_520 rfl rfl ?_
                      refine v_iload F dL_alters_521 rfl ?_
                      refine v_bipush (v := nI 7) F dL_alters_523 (by decide) ?_
                      refine v_callSN F hN 3 [_, _, _] rfl rfl rfl (a_about_7 hC6 hG2 hj) gL_alters_L_about rfl hd_L_about ⟨⟨rfl, rfl⟩, ⟨(Nat.le_of_ble_eq_true rfl), (Nat.le_of_ble_eq_true rfl)⟩, ⟨(by show _ ≤ 40; omega), (by show _ ≤ 200; omega)⟩, (Nat.le_of_ble_eq_true rfl)⟩ dL_alters_525 (fun v525 M525 q525 => ?_)
                      obtain ⟨rfl, e525⟩ := q525
                      replace e525 := e525.symm
                      subst e525
                      refine v_iload F dL_alters_528 rfl ?_
                      refine v_icmp_ne F 576 dL_alters_530 (by decide) (fun c530 => ?_) (fun c530 => ?_)
                      · exact absurd (by rw [tie_7]; rfl) c530
                      · refine v_aload_n F dL_alters_533 rfl rfl ?_
                        refine v_iload F dL_alters_534 rfl ?_
                        refine v_bipush (v := nI 6) F dL_alters_536 (by decide) ?_
                        refine v_callSN F hN 3 [_, _, _] rfl rfl rfl (a_about_6 hC6 hG2 ht) gL_alters_L_about rfl hd_L_about ⟨⟨rfl, rfl⟩, ⟨(Nat.le_of_ble_eq_true rfl), (Nat.le_of_ble_eq_true rfl)⟩, ⟨(by show _ ≤ 40; omega), (by show _ ≤ 200; omega)⟩, (Nat.le_of_ble_eq_true rfl)⟩ dL_alters_538 (fun v538 M538 q538 => ?_)
                        obtain ⟨rfl, e538⟩ := q538
                        replace e538 := e538.symm
                        subst e538
                        refine v_iload F dL_alters_541 rfl ?_
                        refine v_icmp_ne F 576 dL_alters_543 (by decide) (fun c543 => ?_) (fun c543 => ?_)
                        · exact absurd (by rw [tie_6]; rfl) c543
                        · refine v_aload_n F dL_alters_546 rfl rfl ?_
                          refine v_iload F dL_alters_547 rfl ?_
                          refine v_iload F dL_alters_549 rfl ?_
                          refine v_callSN F hN 3 [_, _, _] rfl rfl rfl (b_tie_no hl9 hC6 hG2 hj ht (by rw [tie_c (by decide) (by decide)]; exact hg8) (by rw [tie_c (by decide) (by decide)]; exact hgt) (fun h => hbad (Or.inl h)) (by rw [tie_c (by decide) (by decide), tie_c (by decide) (by decide)]; exact hpp0) (fun h => by rw [tie_7] at h; exact absurd h.1 (Nat.succ_ne_zero _))) gL_alters_L_tie rfl hd_L_tie ⟨⟨rfl, rfl⟩, ⟨(Nat.le_of_ble_eq_true rfl), (Nat.le_of_ble_eq_true rfl)⟩, ⟨(by show _ ≤ 40; omega), (by show _ ≤ 200; omega)⟩, (Nat.le_of_ble_eq_true rfl)⟩ dL_alters_551 (fun v551 M551 q551 => ?_)
                          obtain ⟨rfl, e551⟩ := q551
                          replace e551 := e551.symm
                          subst e551
                          refine v_ldc (v := (-1000003)) F (by decide +kernel) dL_alters_554 ?_
                          refine v_icmp_ne F 576 dL_alters_556 (by decide) (fun c556 => ?_) (fun c556 => ?_)
                          · exact absurd rfl c556
                          · refine v_aload_n F dL_alters_559 rfl rfl ?_
                            refine v_iload F dL_alters_560 rfl ?_
                            refine v_iload F dL_alters_562 rfl ?_
                            refine v_callSN F hN 3 [_, _, _] rfl rfl rfl (b_tie_no hl9 hC6 hG2 ht hj (by rw [tie_c (by decide) (by decide)]; exact hgt) (by rw [tie_c (by decide) (by decide)]; exact hg8) (fun h => hbad (Or.inl h.symm)) (by rw [tie_c (by decide) (by decide), tie_c (by decide) (by decide)]; exact hpp0.symm) (fun h => h.2.2 1 tie_6)) gL_alters_L_tie rfl hd_L_tie ⟨⟨rfl, rfl⟩, ⟨(Nat.le_of_ble_eq_true rfl), (Nat.le_of_ble_eq_true rfl)⟩, ⟨(by show _ ≤ 40; omega), (by show _ ≤ 200; omega)⟩, (Nat.le_of_ble_eq_true rfl)⟩ dL_alters_564 (fun v564 M564 q564 => ?_)
                            obtain ⟨rfl, e564⟩ := q564
                            replace e564 := e564.symm
                            subst e564
                            refine v_ldc (v := (-1000003)) F (by decide +kernel) dL_alters_567 ?_
                            refine v_icmp_ne F 576 dL_alters_569 (by decide) (fun c569 => ?_) (fun c569 => ?_)
                            · exact absurd rfl c569
                            · refine v_iconst (v := nI 1) F dL_alters_572 (by decide) ?_
                              refine v_goto F 577 dL_alters_573 (by decide) ?_
                              exact v_zret F hr dL_alters_577 rfl (by omega) (by omega) ⟨rfl, A, tieB B j t, P9, n, k, Rm, Z, fg, fp, fa9, fw, rfl, hC6, hG2, hP9, hQ9, ⟨z1, z2, z3, z4⟩, ⟨hg6, hpp6, ha6, hw6⟩, ⟨h0g, h1g⟩, hfp.geo (fun i => ⟨tie_c (by decide) (by decide), tie_c (by decide) (by decide)⟩), hfa9, hfw.fall hFl⟩
                · exact absurd (Or.inl c482) hbad
            · exact absurd c451 (by have := pgB_n9 hG ht hgt; omega)
      · rcases un_3 B j with hg8 | ⟨hg8, h6⟩ | ⟨y0, hg8, h6⟩
        · refine v_aload_n F dL_alters_306 rfl rfl ?_
          refine v_iload F dL_alters_307 rfl ?_
          refine v_iald_n F dL_alters_309 hpp (by first | omega | exact Nat.lt_trans (hW _ _) (by decide)) (by decide) ?_
          refine V.toI (hfp j hj) ?_
          refine v_bipush (v := nI 9) F dL_alters_310 (by decide) ?_
          refine v_icmp_ne_n F 319 dL_alters_312 (by decide) (by first | omega | exact Nat.lt_trans (hW _ _) (by decide)) (by first | omega | exact Nat.lt_trans (hW _ _) (by decide)) (fun c312 => ?_) (fun c312 => ?_)
          · exact absurd (pgB_9 hg8) c312
          · refine v_iconst (v := (-1)) F dL_alters_315 (by decide) ?_
            refine v_goto F 327 dL_alters_316 (by decide) ?_
            refine v_istore F dL_alters_327 (Nat.le_of_ble_eq_true rfl) (ok2_d rfl) ?_
            refine v_aload_n F dL_alters_329 rfl rfl ?_
            refine v_iload F dL_alters_330 rfl ?_
            refine v_callSN F hN 2 [_, _] rfl rfl rfl (b_untie_gone hl9 hC hj hg8) gL_alters_L_untie rfl hd_L_untie ⟨⟨rfl, rfl⟩, ⟨(Nat.le_of_ble_eq_true rfl), (Nat.le_of_ble_eq_true rfl)⟩, ⟨(by show _ ≤ 40; omega), (by show _ ≤ 200; omega)⟩, (Nat.le_of_ble_eq_true rfl)⟩ dL_alters_332 (fun v332 M332 q332 => ?_)
            obtain ⟨rfl, e332⟩ := q332
            replace e332 := e332.symm
            subst e332
            refine v_istore F dL_alters_335 (Nat.le_of_ble_eq_true rfl) (ok2_d rfl) ?_
            refine v_iload F dL_alters_337 rfl ?_
            refine v_if_ge F 371 dL_alters_339 (by decide) (fun c339 => ?_) (fun c339 => ?_)
            · exact absurd c339 (by decide)
            · refine v_iload F dL_alters_342 rfl ?_
              refine v_aload_n F dL_alters_344 rfl rfl ?_
              refine v_iload F dL_alters_345 rfl ?_
              refine v_iald_n F dL_alters_347 hpp (by first | omega | exact Nat.lt_trans (hW _ _) (by decide)) (by decide) ?_
              refine V.toI (hfp j hj) ?_
              refine v_bipush (v := nI 9) F dL_alters_348 (by decide) ?_
              refine v_icmp_ne_n F 358 dL_alters_350 (by decide) (by first | omega | exact Nat.lt_trans (hW _ _) (by decide)) (by first | omega | exact Nat.lt_trans (hW _ _) (by decide)) (fun c350 => ?_) (fun c350 => ?_)
              · exact absurd (pgB_9 hg8) c350
              · refine v_ldc (v := (-1000001)) F (by decide +kernel) dL_alters_353 ?_
                refine v_goto F 360 dL_alters_355 (by decide) ?_
                refine v_icmp_ne F 367 dL_alters_360 (by decide) (fun c360 => ?_) (fun c360 => ?_)
                · exact absurd rfl c360
                · refine v_iconst (v := nI 1) F dL_alters_363 (by decide) ?_
                  refine v_goto F 415 dL_alters_364 (by decide) ?_
                  exact v_zret F hr dL_alters_415 rfl (by omega) (by omega) ⟨rfl, ⟨A, B, P, n, k, R, Z, fg, fp, fa, fw, rfl, hS⟩⟩
        · refine v_aload_n F dL_alters_306 rfl rfl ?_
          refine v_iload F dL_alters_307 rfl ?_
          refine v_iald_n F dL_alters_309 hpp (by first | omega | exact Nat.lt_trans (hW _ _) (by decide)) (by decide) ?_
          refine V.toI (hfp j hj) ?_
          refine v_bipush (v := nI 9) F dL_alters_310 (by decide) ?_
          refine v_icmp_ne_n F 319 dL_alters_312 (by decide) (by first | omega | exact Nat.lt_trans (hW _ _) (by decide)) (by first | omega | exact Nat.lt_trans (hW _ _) (by decide)) (fun c312 => ?_) (fun c312 => ?_)
          · refine v_aload_n F dL_alters_319 rfl rfl ?_
            refine v_iload F dL_alters_320 rfl ?_
            refine v_bipush (v := nI 6) F dL_alters_322 (by decide) ?_
            refine v_callSN F hN 3 [_, _, _] rfl rfl rfl (a_about_6 hC hG hj) gL_alters_L_about rfl hd_L_about ⟨⟨rfl, rfl⟩, ⟨(Nat.le_of_ble_eq_true rfl), (Nat.le_of_ble_eq_true rfl)⟩, ⟨(by show _ ≤ 40; omega), (by show _ ≤ 200; omega)⟩, (Nat.le_of_ble_eq_true rfl)⟩ dL_alters_324 (fun v324 M324 q324 => ?_)
            obtain ⟨rfl, e324⟩ := q324
            replace e324 := e324.symm
            subst e324
            refine V.toI ((show lkI (B j 6) = -1 by rw [h6]; rfl)) ?_
            refine v_istore F dL_alters_327 (Nat.le_of_ble_eq_true rfl) (ok2_d rfl) ?_
            refine v_aload_n F dL_alters_329 rfl rfl ?_
            refine v_iload F dL_alters_330 rfl ?_
            refine v_callSN F hN 2 [_, _] rfl rfl rfl (b_untie_no hl9 hC hj hg8 h6) gL_alters_L_untie rfl hd_L_untie ⟨⟨rfl, rfl⟩, ⟨(Nat.le_of_ble_eq_true rfl), (Nat.le_of_ble_eq_true rfl)⟩, ⟨(by show _ ≤ 40; omega), (by show _ ≤ 200; omega)⟩, (Nat.le_of_ble_eq_true rfl)⟩ dL_alters_332 (fun v332 M332 q332 => ?_)
            obtain ⟨rfl, e332⟩ := q332
            replace e332 := e332.symm
            subst e332
            refine v_istore F dL_alters_335 (Nat.le_of_ble_eq_true rfl) (ok2_d rfl) ?_
            refine v_iload F dL_alters_337 rfl ?_
            refine v_if_ge F 371 dL_alters_339 (by decide) (fun c339 => ?_) (fun c339 => ?_)
            · exact absurd c339 (by decide)
            · refine v_iload F dL_alters_342 rfl ?_
              refine v_aload_n F dL_alters_344 rfl rfl ?_
              refine v_iload F dL_alters_345 rfl ?_
              refine v_iald_n F dL_alters_347 hpp (by first | omega | exact Nat.lt_trans (hW _ _) (by decide)) (by decide) ?_
              refine V.toI (hfp j hj) ?_
              refine v_bipush (v := nI 9) F dL_alters_348 (by decide) ?_
              refine v_icmp_ne_n F 358 dL_alters_350 (by decide) (by first | omega | exact Nat.lt_trans (hW _ _) (by decide)) (by first | omega | exact Nat.lt_trans (hW _ _) (by decide)) (fun c350 => ?_) (fun c350 => ?_)
              · refine v_ldc (v := (-1000003)) F (by decide +kernel) dL_alters_358 ?_
                refine v_icmp_ne F 367 dL_alters_360 (by decide) (fun c360 => ?_) (fun c360 => ?_)
                · exact absurd rfl c360
                · refine v_iconst (v := nI 1) F dL_alters_363 (by decide) ?_
                  refine v_goto F 415 dL_alters_364 (by decide) ?_
                  exact v_zret F hr dL_alters_415 rfl (by omega) (by omega) ⟨rfl, ⟨A, B, P, n, k, R, Z, fg, fp, fa, fw, rfl, hS⟩⟩
              · exact absurd c350 (by have := pgB_n9 hG hj hg8; omega)
          · exact absurd c312 (by have := pgB_n9 hG hj hg8; omega)
        · have hy0 := (hG.n6 hj h6).1
          refine v_aload_n F dL_alters_306 rfl rfl ?_
          refine v_iload F dL_alters_307 rfl ?_
          refine v_iald_n F dL_alters_309 hpp (by first | omega | exact Nat.lt_trans (hW _ _) (by decide)) (by decide) ?_
          refine V.toI (hfp j hj) ?_
          refine v_bipush (v := nI 9) F dL_alters_310 (by decide) ?_
          refine v_icmp_ne_n F 319 dL_alters_312 (by decide) (by first | omega | exact Nat.lt_trans (hW _ _) (by decide)) (by first | omega | exact Nat.lt_trans (hW _ _) (by decide)) (fun c312 => ?_) (fun c312 => ?_)
          · refine v_aload_n F dL_alters_319 rfl rfl ?_
            refine v_iload F dL_alters_320 rfl ?_
            refine v_bipush (v := nI 6) F dL_alters_322 (by decide) ?_
            refine v_callSN F hN 3 [_, _, _] rfl rfl rfl (a_about_6 hC hG hj) gL_alters_L_about rfl hd_L_about ⟨⟨rfl, rfl⟩, ⟨(Nat.le_of_ble_eq_true rfl), (Nat.le_of_ble_eq_true rfl)⟩, ⟨(by show _ ≤ 40; omega), (by show _ ≤ 200; omega)⟩, (Nat.le_of_ble_eq_true rfl)⟩ dL_alters_324 (fun v324 M324 q324 => ?_)
            obtain ⟨rfl, e324⟩ := q324
            replace e324 := e324.symm
            subst e324
            refine V.toI ((show lkI (B j 6) = nI y0 by rw [h6]; rfl)) ?_
            refine v_istore F dL_alters_327 (Nat.le_of_ble_eq_true rfl) (ok2_d rfl) ?_
            refine v_aload_n F dL_alters_329 rfl rfl ?_
            refine v_iload F dL_alters_330 rfl ?_
            refine v_callSN F hN 2 [_, _] rfl rfl rfl (b_untie hl9 hC hG hj hg8 h6) gL_alters_L_untie rfl hd_L_untie ⟨⟨rfl, rfl⟩, ⟨(Nat.le_of_ble_eq_true rfl), (Nat.le_of_ble_eq_true rfl)⟩, ⟨(by show _ ≤ 40; omega), (by show _ ≤ 200; omega)⟩, (Nat.le_of_ble_eq_true rfl)⟩ dL_alters_332 (fun v332 M332 q332 => ?_)
            obtain ⟨Rm, P9, cm, rfl, hCm, hFm, hFl⟩ := q332
            have hc20 := hFl.le20 hp5 hk20
            have hgm := (hFm _ z1).trans hg
            have hppm := (hFm _ z2).trans hpp
            have ham := (hFm _ z3).trans ha
            have hwm := (hFm _ z4).trans hw
            have hG2 := hG.ul (j := j) hj
            have hP9 := hP.fall (q := 0) hFl
            have hQ9 := hFl.gq hQ
            refine v_istore F dL_alters_335 (Nat.le_of_ble_eq_true rfl) (ok2_d rfl) ?_
            refine v_iload F dL_alters_337 rfl ?_
            refine v_if_ge_n F 371 dL_alters_339 (by decide) (by first | omega | exact Nat.lt_trans (hW _ _) (by decide)) ?_
            refine v_aload_n F dL_alters_371 rfl rfl ?_
            refine v_aload_n F dL_alters_372 rfl rfl ?_
            refine v_aload_n F dL_alters_373 rfl rfl ?_
            refine v_aload_n F dL_alters_374 rfl rfl ?_
            refine v_iload F dL_alters_375 rfl ?_
            refine v_iald_n F dL_alters_377 hppm (by first | omega | exact Nat.lt_trans (hW _ _) (by decide)) (by decide) ?_
            refine V.toI ((hfp j hj).trans (by rw [pgB_0 hg8])) ?_
            refine v_iload F dL_alters_378 rfl ?_
            refine v_callS F 5 [_, _, _, _, _] rfl rfl rfl (c_fall hgm ham d2 h1g hk20 hp5 hfa hQ hFl) gL_alters_L_fall rfl hd_L_fall ⟨⟨rfl, rfl⟩, ⟨(Nat.le_of_ble_eq_true rfl), (Nat.le_of_ble_eq_true rfl)⟩, ⟨(by show _ ≤ 40; omega), (by show _ ≤ 200; omega)⟩, (Nat.le_of_ble_eq_true rfl)⟩ dL_alters_380 (fun v380 M380 q380 => ?_)
            obtain ⟨rfl, fa9, hfa9, ha6, hfr6⟩ := q380
            have hC6 := hCm.fr (fun z hz => hfr6 z (fun h => z3 (h ▸ hz)))
            have hg6 := (hfr6 G d2).trans hgm
            have hpp6 := (hfr6 Pp d4).trans hppm
            have hw6 := (hfr6 Ww d6.symm).trans hwm
            refine v_if_eq_n F 414 dL_alters_383 (by decide) (by first | omega | exact Nat.lt_trans (hW _ _) (by decide)) (fun c383 => ?_) (fun c383 => ?_)
            · exact absurd c383 (by decide)
            · refine v_aload_n F dL_alters_386 rfl rfl ?_
              refine v_iload F dL_alters_387 rfl ?_
              refine v_bipush (v := nI 6) F dL_alters_389 (by decide) ?_
              refine v_callSN F hN 3 [_, _, _] rfl rfl rfl (a_about_6 hC6 hG2 hj) gL_alters_L_about rfl hd_L_about ⟨⟨rfl, rfl⟩, ⟨(Nat.le_of_ble_eq_true rfl), (Nat.le_of_ble_eq_true rfl)⟩, ⟨(by show _ ≤ 40; omega), (by show _ ≤ 200; omega)⟩, (Nat.le_of_ble_eq_true rfl)⟩ dL_alters_391 (fun v391 M391 q391 => ?_)
              obtain ⟨rfl, e391⟩ := q391
              replace e391 := e391.symm
              subst e391
              refine v_iconst (v := (-1)) F dL_alters_394 (by decide) ?_
              refine v_icmp_ne F 414 dL_alters_395 (by decide) (fun c395 => ?_) (fun c395 => ?_)
              · exact absurd (by rw [ul_6]; rfl) c395
              · refine v_aload_n F dL_alters_398 rfl rfl ?_
                refine v_iload F dL_alters_399 rfl ?_
                refine v_bipush (v := nI 7) F dL_alters_401 (by decide) ?_
                refine v_callSN F hN 3 [_, _, _] rfl rfl rfl (a_about_7 hC6 hG2 hy0) gL_alters_L_about rfl hd_L_about ⟨⟨rfl, rfl⟩, ⟨(Nat.le_of_ble_eq_true rfl), (Nat.le_of_ble_eq_true rfl)⟩, ⟨(by show _ ≤ 40; omega), (by show _ ≤ 200; omega)⟩, (Nat.le_of_ble_eq_true rfl)⟩ dL_alters_403 (fun v403 M403 q403 => ?_)
                obtain ⟨rfl, e403⟩ := q403
                replace e403 := e403.symm
                subst e403
                refine v_iconst (v := (-1)) F dL_alters_406 (by decide) ?_
                refine v_icmp_ne F 414 dL_alters_407 (by decide) (fun c407 => ?_) (fun c407 => ?_)
                · exact absurd (by rw [unl_7 h6]; rfl) c407
                · refine v_iconst (v := nI 1) F dL_alters_410 (by decide) ?_
                  refine v_goto F 415 dL_alters_411 (by decide) ?_
                  exact v_zret F hr dL_alters_415 rfl (by omega) (by omega) ⟨rfl, A, unl B j, P9, n, k, Rm, Z, fg, fp, fa9, fw, rfl, hC6, hG2, hP9, hQ9, ⟨z1, z2, z3, z4⟩, ⟨hg6, hpp6, ha6, hw6⟩, ⟨h0g, h1g⟩, hfp.geo (fun i => ⟨ul_c (by decide) (by decide), ul_c (by decide) (by decide)⟩), hfa9, hfw.fall hFl⟩
          · exact absurd c312 (by have := pgB_n9 hG hj hg8; omega)
    · refine v_iconst (v := nI 1) F dL_alters_140 (by decide) ?_
      refine v_iload F dL_alters_141 rfl ?_
      refine v_bipush (v := nI 30) F dL_alters_143 (by decide) ?_
      refine v_callS F 2 [_, _] rfl rfl rfl (h_low (by decide) (by decide)) gL_alters_L_low rfl hd_L_low ⟨⟨rfl, rfl⟩, ⟨(Nat.le_of_ble_eq_true rfl), (Nat.le_of_ble_eq_true rfl)⟩, ⟨(by show _ ≤ 40; omega), (by show _ ≤ 200; omega)⟩, (Nat.le_of_ble_eq_true rfl)⟩ dL_alters_145 (fun v145 M145 q145 => ?_)
      obtain ⟨r145, hr145, rfl, e145⟩ := q145
      replace e145 := e145.symm
      subst e145
      refine v_iadd_n F dL_alters_148 ?_
      refine v_istore F dL_alters_149 (Nat.le_of_ble_eq_true rfl) (ok2_d rfl) ?_
      refine v_iconst (v := nI 1) F dL_alters_151 (by decide) ?_
      refine v_iload F dL_alters_152 rfl ?_
      refine v_iconst (v := nI 5) F dL_alters_154 (by decide) ?_
      refine v_ishr F dL_alters_155 ?_
      refine v_bipush (v := nI 30) F dL_alters_156 (by decide) ?_
      refine v_callS F 2 [_, _] rfl rfl rfl (h_low (by decide) (by decide)) gL_alters_L_low rfl hd_L_low ⟨⟨rfl, rfl⟩, ⟨(Nat.le_of_ble_eq_true rfl), (Nat.le_of_ble_eq_true rfl)⟩, ⟨(by show _ ≤ 40; omega), (by show _ ≤ 200; omega)⟩, (Nat.le_of_ble_eq_true rfl)⟩ dL_alters_158 (fun v158 M158 q158 => ?_)
      obtain ⟨r158, hr158, rfl, e158⟩ := q158
      replace e158 := e158.symm
      subst e158
      refine v_iadd_n F dL_alters_161 ?_
      refine v_istore F dL_alters_162 (Nat.le_of_ble_eq_true rfl) (ok2_d rfl) ?_
      rcases (show (¬ B j 8 = 0) ∨ (B j 8 = 0 ∧ (B j 1 + (1 + r145) ≤ 60 ∧ B j 2 + (1 + r158) ≤ 80)) ∨ (B j 8 = 0 ∧ ¬ (B j 1 + (1 + r145) ≤ 60 ∧ B j 2 + (1 + r158) ≤ 80)) by omega) with hg8 | ⟨hg8, hfit⟩ | ⟨hg8, hfit⟩
      · refine v_aload_n F dL_alters_164 rfl rfl ?_
        refine v_iload F dL_alters_165 rfl ?_
        refine v_iload F dL_alters_167 rfl ?_
        refine v_iload F dL_alters_169 rfl ?_
        refine v_callSN F hN 4 [_, _, _, _] rfl rfl rfl (b_resize_gone hl9 hC hj hg8) gL_alters_L_resize rfl hd_L_resize ⟨⟨rfl, rfl⟩, ⟨(Nat.le_of_ble_eq_true rfl), (Nat.le_of_ble_eq_true rfl)⟩, ⟨(by show _ ≤ 40; omega), (by show _ ≤ 200; omega)⟩, (Nat.le_of_ble_eq_true rfl)⟩ dL_alters_171 (fun v171 M171 q171 => ?_)
        obtain ⟨rfl, e171⟩ := q171
        replace e171 := e171.symm
        subst e171
        refine v_istore F dL_alters_174 (Nat.le_of_ble_eq_true rfl) (ok2_d rfl) ?_
        refine v_aload_n F dL_alters_176 rfl rfl ?_
        refine v_iload F dL_alters_177 rfl ?_
        refine v_iald_n F dL_alters_179 hpp (by first | omega | exact Nat.lt_trans (hW _ _) (by decide)) (by decide) ?_
        refine V.toI (hfp j hj) ?_
        refine v_bipush (v := nI 9) F dL_alters_180 (by decide) ?_
        refine v_icmp_ne_n F 198 dL_alters_182 (by decide) (by first | omega | exact Nat.lt_trans (hW _ _) (by decide)) (by first | omega | exact Nat.lt_trans (hW _ _) (by decide)) (fun c182 => ?_) (fun c182 => ?_)
        · exact absurd (pgB_9 hg8) c182
        · refine v_iload F dL_alters_185 rfl ?_
          refine v_ldc (v := (-1000001)) F (by decide +kernel) dL_alters_187 ?_
          refine v_icmp_ne F 196 dL_alters_189 (by decide) (fun c189 => ?_) (fun c189 => ?_)
          · exact absurd rfl c189
          · refine v_iconst (v := nI 1) F dL_alters_192 (by decide) ?_
            refine v_goto F 197 dL_alters_193 (by decide) ?_
            exact v_zret F hr dL_alters_197 rfl (by omega) (by omega) ⟨rfl, ⟨A, B, P, n, k, R, Z, fg, fp, fa, fw, rfl, hS⟩⟩
      · refine v_aload_n F dL_alters_164 rfl rfl ?_
        refine v_iload F dL_alters_165 rfl ?_
        refine v_iload F dL_alters_167 rfl ?_
        refine v_iload F dL_alters_169 rfl ?_
        refine v_callSN F hN 4 [_, _, _, _] rfl rfl rfl (b_resize hl9 hC hG hj hg8 (by omega) (by omega) hfit.1 hfit.2) gL_alters_L_resize rfl hd_L_resize ⟨⟨rfl, rfl⟩, ⟨(Nat.le_of_ble_eq_true rfl), (Nat.le_of_ble_eq_true rfl)⟩, ⟨(by show _ ≤ 40; omega), (by show _ ≤ 200; omega)⟩, (Nat.le_of_ble_eq_true rfl)⟩ dL_alters_171 (fun v171 M171 q171 => ?_)
        obtain ⟨Rm, P9, cm, rfl, hCm, hFm, hFl⟩ := q171
        have hc20 := hFl.le20 hp5 hk20
        have hgm := (hFm _ z1).trans hg
        have hppm := (hFm _ z2).trans hpp
        have ham := (hFm _ z3).trans ha
        have hwm := (hFm _ z4).trans hw
        have hG2 := hG.sz (x := 1 + r145) (y := 1 + r158) hj (by omega) (by omega) hfit.1 hfit.2
        have hP9 := hP.fall (q := 0) hFl
        have hQ9 := hFl.gq hQ
        refine v_istore F dL_alters_174 (Nat.le_of_ble_eq_true rfl) (ok2_d rfl) ?_
        refine v_aload_n F dL_alters_176 rfl rfl ?_
        refine v_iload F dL_alters_177 rfl ?_
        refine v_iald_n F dL_alters_179 hppm (by first | omega | exact Nat.lt_trans (hW _ _) (by decide)) (by decide) ?_
        refine V.toI (hfp j hj) ?_
        refine v_bipush (v := nI 9) F dL_alters_180 (by decide) ?_
        refine v_icmp_ne_n F 198 dL_alters_182 (by decide) (by first | omega | exact Nat.lt_trans (hW _ _) (by decide)) (by first | omega | exact Nat.lt_trans (hW _ _) (by decide)) (fun c182 => ?_) (fun c182 => ?_)
        · refine v_aload_n F dL_alters_198 rfl rfl ?_
          refine v_iload F dL_alters_199 rfl ?_
          refine v_iconst (v := nI 1) F dL_alters_201 (by decide) ?_
          refine v_callSN F hN 3 [_, _, _] rfl rfl rfl (a_about_1 hCm hj) gL_alters_L_about rfl hd_L_about ⟨⟨rfl, rfl⟩, ⟨(Nat.le_of_ble_eq_true rfl), (Nat.le_of_ble_eq_true rfl)⟩, ⟨(by show _ ≤ 40; omega), (by show _ ≤ 200; omega)⟩, (Nat.le_of_ble_eq_true rfl)⟩ dL_alters_202 (fun v202 M202 q202 => ?_)
          obtain ⟨rfl, e202⟩ := q202
          replace e202 := e202.symm
          subst e202
          refine V.toI ((show nI (szB B j (1 + r145) (1 + r158) j 1) = nI (B j 1) by simp [szB, u2])) ?_
          refine v_iload F dL_alters_205 rfl ?_
          refine v_iadd_n F dL_alters_207 ?_
          refine v_bipush (v := nI 60) F dL_alters_208 (by decide) ?_
          refine v_icmp_gt_n F 232 dL_alters_210 (by decide) (by first | omega | exact Nat.lt_trans (hW _ _) (by decide)) (by first | omega | exact Nat.lt_trans (hW _ _) (by decide)) (fun c210 => ?_) (fun c210 => ?_)
          · exact absurd c210 (by omega)
          · refine v_aload_n F dL_alters_213 rfl rfl ?_
            refine v_iload F dL_alters_214 rfl ?_
            refine v_iconst (v := nI 2) F dL_alters_216 (by decide) ?_
            refine v_callSN F hN 3 [_, _, _] rfl rfl rfl (a_about_2 hCm hj) gL_alters_L_about rfl hd_L_about ⟨⟨rfl, rfl⟩, ⟨(Nat.le_of_ble_eq_true rfl), (Nat.le_of_ble_eq_true rfl)⟩, ⟨(by show _ ≤ 40; omega), (by show _ ≤ 200; omega)⟩, (Nat.le_of_ble_eq_true rfl)⟩ dL_alters_217 (fun v217 M217 q217 => ?_)
            obtain ⟨rfl, e217⟩ := q217
            replace e217 := e217.symm
            subst e217
            refine V.toI ((show nI (szB B j (1 + r145) (1 + r158) j 2) = nI (B j 2) by simp [szB, u2])) ?_
            refine v_iload F dL_alters_220 rfl ?_
            refine v_iadd_n F dL_alters_222 ?_
            refine v_bipush (v := nI 80) F dL_alters_223 (by decide) ?_
            refine v_icmp_gt_n F 232 dL_alters_225 (by decide) (by first | omega | exact Nat.lt_trans (hW _ _) (by decide)) (by first | omega | exact Nat.lt_trans (hW _ _) (by decide)) (fun c225 => ?_) (fun c225 => ?_)
            · exact absurd c225 (by omega)
            · refine v_iconst (v := nI 1) F dL_alters_228 (by decide) ?_
              refine v_goto F 233 dL_alters_229 (by decide) ?_
              refine v_istore F dL_alters_233 (Nat.le_of_ble_eq_true rfl) (ok2_d rfl) ?_
              refine v_iload F dL_alters_235 rfl ?_
              refine v_if_eq_n F 287 dL_alters_237 (by decide) (by first | omega | exact Nat.lt_trans (hW _ _) (by decide)) (fun c237 => ?_) (fun c237 => ?_)
              · exact absurd c237 (by decide)
              · refine v_aload_n F dL_alters_240 rfl rfl ?_
                refine v_aload_n F dL_alters_241 rfl rfl ?_
                refine v_aload_n F dL_alters_242 rfl rfl ?_
                refine v_aload_n F dL_alters_243 rfl rfl ?_
                refine v_iload F dL_alters_244 rfl ?_
                refine v_iald_n F dL_alters_246 hppm (by first | omega | exact Nat.lt_trans (hW _ _) (by decide)) (by decide) ?_
                refine V.toI ((hfp j hj).trans (by rw [pgB_0 hg8])) ?_
                refine v_iload F dL_alters_247 rfl ?_
                refine v_callS F 5 [_, _, _, _, _] rfl rfl rfl (c_fall hgm ham d2 h1g hk20 hp5 hfa hQ hFl) gL_alters_L_fall rfl hd_L_fall ⟨⟨rfl, rfl⟩, ⟨(Nat.le_of_ble_eq_true rfl), (Nat.le_of_ble_eq_true rfl)⟩, ⟨(by show _ ≤ 40; omega), (by show _ ≤ 200; omega)⟩, (Nat.le_of_ble_eq_true rfl)⟩ dL_alters_249 (fun v249 M249 q249 => ?_)
                obtain ⟨rfl, fa9, hfa9, ha6, hfr6⟩ := q249
                have hC6 := hCm.fr (fun z hz => hfr6 z (fun h => z3 (h ▸ hz)))
                have hg6 := (hfr6 G d2).trans hgm
                have hpp6 := (hfr6 Pp d4).trans hppm
                have hw6 := (hfr6 Ww d6.symm).trans hwm
                refine v_if_eq_n F 283 dL_alters_252 (by decide) (by first | omega | exact Nat.lt_trans (hW _ _) (by decide)) (fun c252 => ?_) (fun c252 => ?_)
                · exact absurd c252 (by decide)
                · refine v_aload_n F dL_alters_255 rfl rfl ?_
                  refine v_iload F dL_alters_256 rfl ?_
                  refine v_iconst (v := nI 3) F dL_alters_258 (by decide) ?_
                  refine v_callSN F hN 3 [_, _, _] rfl rfl rfl (a_about_3 hC6 hj) gL_alters_L_about rfl hd_L_about ⟨⟨rfl, rfl⟩, ⟨(Nat.le_of_ble_eq_true rfl), (Nat.le_of_ble_eq_true rfl)⟩, ⟨(by show _ ≤ 40; omega), (by show _ ≤ 200; omega)⟩, (Nat.le_of_ble_eq_true rfl)⟩ dL_alters_259 (fun v259 M259 q259 => ?_)
                  obtain ⟨rfl, e259⟩ := q259
                  replace e259 := e259.symm
                  subst e259
                  refine V.toI ((show nI (szB B j (1 + r145) (1 + r158) j 3) = nI (1 + r145) by simp [szB, u2])) ?_
                  refine v_iload F dL_alters_262 rfl ?_
                  refine v_icmp_ne_n F 283 dL_alters_264 (by decide) (by first | omega | exact Nat.lt_trans (hW _ _) (by decide)) (by first | omega | exact Nat.lt_trans (hW _ _) (by decide)) (fun c264 => ?_) (fun c264 => ?_)
                  · exact absurd rfl c264
                  · refine v_aload_n F dL_alters_267 rfl rfl ?_
                    refine v_iload F dL_alters_268 rfl ?_
                    refine v_iconst (v := nI 4) F dL_alters_270 (by decide) ?_
                    refine v_callSN F hN 3 [_, _, _] rfl rfl rfl (a_about_4 hC6 hj) gL_alters_L_about rfl hd_L_about ⟨⟨rfl, rfl⟩, ⟨(Nat.le_of_ble_eq_true rfl), (Nat.le_of_ble_eq_true rfl)⟩, ⟨(by show _ ≤ 40; omega), (by show _ ≤ 200; omega)⟩, (Nat.le_of_ble_eq_true rfl)⟩ dL_alters_271 (fun v271 M271 q271 => ?_)
                    obtain ⟨rfl, e271⟩ := q271
                    replace e271 := e271.symm
                    subst e271
                    refine V.toI ((show nI (szB B j (1 + r145) (1 + r158) j 4) = nI (1 + r158) by simp [szB, u2])) ?_
                    refine v_iload F dL_alters_274 rfl ?_
                    refine v_icmp_ne_n F 283 dL_alters_276 (by decide) (by first | omega | exact Nat.lt_trans (hW _ _) (by decide)) (by first | omega | exact Nat.lt_trans (hW _ _) (by decide)) (fun c276 => ?_) (fun c276 => ?_)
                    · exact absurd rfl c276
                    · refine v_iconst (v := nI 1) F dL_alters_279 (by decide) ?_
                      refine v_goto F 299 dL_alters_280 (by decide) ?_
                      exact v_zret F hr dL_alters_299 rfl (by omega) (by omega) ⟨rfl, A, szB B j (1 + r145) (1 + r158), P9, n, k, Rm, Z, fg, fp, fa9, fw, rfl, hC6, hG2, hP9, hQ9, ⟨z1, z2, z3, z4⟩, ⟨hg6, hpp6, ha6, hw6⟩, ⟨h0g, h1g⟩, hfp.geo (fun i => ⟨by simp [szB, u2], by simp [szB, u2]⟩), hfa9, hfw.fall hFl⟩
        · exact absurd c182 (by have := pgB_n9 hG hj hg8; omega)
      · refine v_aload_n F dL_alters_164 rfl rfl ?_
        refine v_iload F dL_alters_165 rfl ?_
        refine v_iload F dL_alters_167 rfl ?_
        refine v_iload F dL_alters_169 rfl ?_
        refine v_callSN F hN 4 [_, _, _, _] rfl rfl rfl (b_resize_bad hl9 hC hj hg8 (inPg_no (Nat.lt_trans (hW _ _) (by decide)) (Nat.lt_trans (hW _ _) (by decide)) (by omega) (by omega) hfit)) gL_alters_L_resize rfl hd_L_resize ⟨⟨rfl, rfl⟩, ⟨(Nat.le_of_ble_eq_true rfl), (Nat.le_of_ble_eq_true rfl)⟩, ⟨(by show _ ≤ 40; omega), (by show _ ≤ 200; omega)⟩, (Nat.le_of_ble_eq_true rfl)⟩ dL_alters_171 (fun v171 M171 q171 => ?_)
        obtain ⟨rfl, e171⟩ := q171
        replace e171 := e171.symm
        subst e171
        refine v_istore F dL_alters_174 (Nat.le_of_ble_eq_true rfl) (ok2_d rfl) ?_
        refine v_aload_n F dL_alters_176 rfl rfl ?_
        refine v_iload F dL_alters_177 rfl ?_
        refine v_iald_n F dL_alters_179 hpp (by first | omega | exact Nat.lt_trans (hW _ _) (by decide)) (by decide) ?_
        refine V.toI (hfp j hj) ?_
        refine v_bipush (v := nI 9) F dL_alters_180 (by decide) ?_
        refine v_icmp_ne_n F 198 dL_alters_182 (by decide) (by first | omega | exact Nat.lt_trans (hW _ _) (by decide)) (by first | omega | exact Nat.lt_trans (hW _ _) (by decide)) (fun c182 => ?_) (fun c182 => ?_)
        · refine v_aload_n F dL_alters_198 rfl rfl ?_
          refine v_iload F dL_alters_199 rfl ?_
          refine v_iconst (v := nI 1) F dL_alters_201 (by decide) ?_
          refine v_callSN F hN 3 [_, _, _] rfl rfl rfl (a_about_1 hC hj) gL_alters_L_about rfl hd_L_about ⟨⟨rfl, rfl⟩, ⟨(Nat.le_of_ble_eq_true rfl), (Nat.le_of_ble_eq_true rfl)⟩, ⟨(by show _ ≤ 40; omega), (by show _ ≤ 200; omega)⟩, (Nat.le_of_ble_eq_true rfl)⟩ dL_alters_202 (fun v202 M202 q202 => ?_)
          obtain ⟨rfl, e202⟩ := q202
          replace e202 := e202.symm
          subst e202
          refine v_iload F dL_alters_205 rfl ?_
          refine v_iadd_n F dL_alters_207 ?_
          refine v_bipush (v := nI 60) F dL_alters_208 (by decide) ?_
          refine v_icmp_gt_n F 232 dL_alters_210 (by decide) (by first | omega | exact Nat.lt_trans (hW _ _) (by decide)) (by first | omega | exact Nat.lt_trans (hW _ _) (by decide)) (fun c210 => ?_) (fun c210 => ?_)
          · refine v_iconst (v := nI 0) F dL_alters_232 (by decide) ?_
            refine v_istore F dL_alters_233 (Nat.le_of_ble_eq_true rfl) (ok2_d rfl) ?_
            refine v_iload F dL_alters_235 rfl ?_
            refine v_if_eq_n F 287 dL_alters_237 (by decide) (by first | omega | exact Nat.lt_trans (hW _ _) (by decide)) (fun c237 => ?_) (fun c237 => ?_)
            · refine v_iload F dL_alters_287 rfl ?_
              refine v_ldc (v := (-1000002)) F (by decide +kernel) dL_alters_289 ?_
              refine v_icmp_ne F 298 dL_alters_291 (by decide) (fun c291 => ?_) (fun c291 => ?_)
              · exact absurd rfl c291
              · refine v_iconst (v := nI 1) F dL_alters_294 (by decide) ?_
                refine v_goto F 299 dL_alters_295 (by decide) ?_
                exact v_zret F hr dL_alters_299 rfl (by omega) (by omega) ⟨rfl, ⟨A, B, P, n, k, R, Z, fg, fp, fa, fw, rfl, hS⟩⟩
            · exact absurd rfl c237
          · refine v_aload_n F dL_alters_213 rfl rfl ?_
            refine v_iload F dL_alters_214 rfl ?_
            refine v_iconst (v := nI 2) F dL_alters_216 (by decide) ?_
            refine v_callSN F hN 3 [_, _, _] rfl rfl rfl (a_about_2 hC hj) gL_alters_L_about rfl hd_L_about ⟨⟨rfl, rfl⟩, ⟨(Nat.le_of_ble_eq_true rfl), (Nat.le_of_ble_eq_true rfl)⟩, ⟨(by show _ ≤ 40; omega), (by show _ ≤ 200; omega)⟩, (Nat.le_of_ble_eq_true rfl)⟩ dL_alters_217 (fun v217 M217 q217 => ?_)
            obtain ⟨rfl, e217⟩ := q217
            replace e217 := e217.symm
            subst e217
            refine v_iload F dL_alters_220 rfl ?_
            refine v_iadd_n F dL_alters_222 ?_
            refine v_bipush (v := nI 80) F dL_alters_223 (by decide) ?_
            refine v_icmp_gt_n F 232 dL_alters_225 (by decide) (by first | omega | exact Nat.lt_trans (hW _ _) (by decide)) (by first | omega | exact Nat.lt_trans (hW _ _) (by decide)) (fun c225 => ?_) (fun c225 => ?_)
            · refine v_iconst (v := nI 0) F dL_alters_232 (by decide) ?_
              refine v_istore F dL_alters_233 (Nat.le_of_ble_eq_true rfl) (ok2_d rfl) ?_
              refine v_iload F dL_alters_235 rfl ?_
              refine v_if_eq_n F 287 dL_alters_237 (by decide) (by first | omega | exact Nat.lt_trans (hW _ _) (by decide)) (fun c237 => ?_) (fun c237 => ?_)
              · refine v_iload F dL_alters_287 rfl ?_
                refine v_ldc (v := (-1000002)) F (by decide +kernel) dL_alters_289 ?_
                refine v_icmp_ne F 298 dL_alters_291 (by decide) (fun c291 => ?_) (fun c291 => ?_)
                · exact absurd rfl c291
                · refine v_iconst (v := nI 1) F dL_alters_294 (by decide) ?_
                  refine v_goto F 299 dL_alters_295 (by decide) ?_
                  exact v_zret F hr dL_alters_299 rfl (by omega) (by omega) ⟨rfl, ⟨A, B, P, n, k, R, Z, fg, fp, fa, fw, rfl, hS⟩⟩
              · exact absurd rfl c237
            · exact absurd ⟨by omega, by omega⟩ hfit
        · exact absurd c182 (by have := pgB_n9 hG hj hg8; omega)
  · by_cases hg8 : B j 8 = 0
    · refine v_aload_n F dL_alters_15 rfl rfl ?_
      refine v_iload F dL_alters_16 rfl ?_
      refine v_callSN F hN 2 [_, _] rfl rfl rfl (b_remove hl9 hC hG hj hg8) gL_alters_L_remove rfl hd_L_remove ⟨⟨rfl, rfl⟩, ⟨(Nat.le_of_ble_eq_true rfl), (Nat.le_of_ble_eq_true rfl)⟩, ⟨(by show _ ≤ 40; omega), (by show _ ≤ 200; omega)⟩, (Nat.le_of_ble_eq_true rfl)⟩ dL_alters_18 (fun v18 M18 q18 => ?_)
      obtain ⟨Rm, P9, cm, rfl, hCm, hFm, hFl⟩ := q18
      have hne := ord_gone hG hj hg8
      have hc20 := hFl.le20 hp5 hk20
      have hgm := (hFm _ z1).trans hg
      have hppm := (hFm _ z2).trans hpp
      have ham := (hFm _ z3).trans ha
      have hwm := (hFm _ z4).trans hw
      have hG2 := hG.rm hj
      have hP9 := hP.fall (q := 0) hFl
      have hQ9 := hFl.gq hQ
      refine v_istore F dL_alters_21 (Nat.le_of_ble_eq_true rfl) (ok2_d rfl) ?_
      refine v_aload_n F dL_alters_23 rfl rfl ?_
      refine v_iload F dL_alters_24 rfl ?_
      refine v_iald_n F dL_alters_26 hppm (by first | omega | exact Nat.lt_trans (hW _ _) (by decide)) (by decide) ?_
      refine V.toI (hfp j hj) ?_
      refine v_bipush (v := nI 9) F dL_alters_27 (by decide) ?_
      refine v_icmp_ne_n F 45 dL_alters_29 (by decide) (by first | omega | exact Nat.lt_trans (hW _ _) (by decide)) (by first | omega | exact Nat.lt_trans (hW _ _) (by decide)) (fun c29 => ?_) (fun c29 => ?_)
      · refine v_aload_n F dL_alters_45 rfl rfl ?_
        refine v_iload F dL_alters_46 rfl ?_
        refine v_iald_n F dL_alters_48 hppm (by first | omega | exact Nat.lt_trans (hW _ _) (by decide)) (by decide) ?_
        refine V.toI ((hfp j hj).trans (by rw [pgB_0 hg8])) ?_
        refine v_istore F dL_alters_49 (Nat.le_of_ble_eq_true rfl) (ok2_d rfl) ?_
        refine v_aload_n F dL_alters_51 rfl rfl ?_
        refine v_iload F dL_alters_52 rfl ?_
        refine v_bipush (v := nI 9) F dL_alters_54 (by decide) ?_
        refine v_iast_n F dL_alters_56 hppm (by first | omega | exact Nat.lt_trans (hW _ _) (by decide)) (by decide) ?_
        generalize e9 : mup M18 Pp (.inl (ω.2.2 0, 25, .inl (upd fp j (nI 9)))) = M5
        have hg5 : M5 G = some (.inl (ω.2.2 0, 3, .inl fg)) := by rw [← e9, mup_n d1]; exact hgm
        have hpp5 : M5 Pp = some (.inl (ω.2.2 0, 25, .inl (upd fp j (nI 9)))) := by rw [← e9]; exact mup_s
        have ha5 : M5 Aa = some (.inl (ω.2.2 0, 21, .inl fa)) := by rw [← e9, mup_n d4.symm]; exact ham
        have hw5 : M5 Ww = some (.inl (ω.2.2 0, 21, .inl fw)) := by rw [← e9, mup_n d5.symm]; exact hwm
        have n2 : ∀ z, Z z → z ≠ Pp := fun z hz h => z2 (by rw [← h]; exact hz)
        have hC5 := hCm.fr (M' := M5) (fun z hz => by rw [← e9, mup_n (n2 z hz)])
        refine v_iconst (v := nI 0) F dL_alters_57 (by decide) ?_
        refine v_istore F dL_alters_58 (Nat.le_of_ble_eq_true rfl) (ok2_d rfl) ?_
        refine v_iconst (v := nI 0) F dL_alters_60 (by decide) ?_
        refine v_istore F dL_alters_61 (Nat.le_of_ble_eq_true rfl) (ok2_d rfl) ?_
        have lp : ∀ i, i ≤ k → ∀ c, c = ctF (pgP P) (B j 0) i → V ω σ M5 [some (.ref (A 0 0)), some (.ref G), some (.ref Pp), some (.ref Aa), some (.int (nI kd)), some (.int x), some (.int y), some (.int (nI j)), some (.int (nI cm)), some (.int (nI (B j 0))), some (.int (nI c)), some (.int (nI i))] 2 12 (BQ ω σ (fun v M9 => v = some (.int (nI 1)) ∧ LW ω (A 0 0) G Pp Aa Ww M9) 40 200) 63 [] := by
          refine loop_up k _ (fun i hi ih => ?_)
          intro c hc
          refine v_iload F dL_alters_63 rfl ?_
          refine v_aload_n F dL_alters_65 rfl rfl ?_
          refine v_iconst (v := nI 1) F dL_alters_66 (by decide) ?_
          refine v_iald_n F dL_alters_67 hg5 (show 1 < 3 by decide) (by decide) ?_
          refine V.toI (h1g) ?_
          refine v_icmp_ge_n F 96 dL_alters_68 (by decide) (by first | omega | exact Nat.lt_trans (hW _ _) (by decide)) (by first | omega | exact Nat.lt_trans (hW _ _) (by decide)) (fun c68 => ?_) (fun c68 => ?_)
          · obtain rfl : cm = c := (hFl.no hne hp5 hk20).trans (by rw [hc, show i = k by omega])
            refine v_iload F dL_alters_96 rfl ?_
            refine v_iload F dL_alters_98 rfl ?_
            refine v_icmp_ne_n F 132 dL_alters_100 (by decide) (by first | omega | exact Nat.lt_trans (hW _ _) (by decide)) (by first | omega | exact Nat.lt_trans (hW _ _) (by decide)) (fun c100 => ?_) (fun c100 => ?_)
            · exact absurd rfl c100
            · refine v_aload_n F dL_alters_103 rfl rfl ?_
              refine v_aload_n F dL_alters_104 rfl rfl ?_
              refine v_aload_n F dL_alters_105 rfl rfl ?_
              refine v_iload F dL_alters_106 rfl ?_
              refine v_iload F dL_alters_108 rfl ?_
              refine v_callS F 5 [_, _, _, _, _] rfl rfl rfl (c_fall hg5 ha5 d2 h1g hk20 hp5 hfa hQ hFl) gL_alters_L_fall rfl hd_L_fall ⟨⟨rfl, rfl⟩, ⟨(Nat.le_of_ble_eq_true rfl), (Nat.le_of_ble_eq_true rfl)⟩, ⟨(by show _ ≤ 40; omega), (by show _ ≤ 200; omega)⟩, (Nat.le_of_ble_eq_true rfl)⟩ dL_alters_110 (fun v110 M110 q110 => ?_)
              obtain ⟨rfl, fa9, hfa9, ha6, hfr6⟩ := q110
              have hC6 := hC5.fr (fun z hz => hfr6 z (fun h => z3 (h ▸ hz)))
              have hg6 := (hfr6 G d2).trans hg5
              have hpp6 := (hfr6 Pp d4).trans hpp5
              have hw6 := (hfr6 Ww d6.symm).trans hw5
              refine v_if_eq_n F 132 dL_alters_113 (by decide) (by first | omega | exact Nat.lt_trans (hW _ _) (by decide)) (fun c113 => ?_) (fun c113 => ?_)
              · exact absurd c113 (by decide)
              · refine v_aload_n F dL_alters_116 rfl rfl ?_
                refine v_iload F dL_alters_117 rfl ?_
                refine v_bipush (v := nI 8) F dL_alters_119 (by decide) ?_
                refine v_callSN F hN 3 [_, _, _] rfl rfl rfl (a_about_8 hC6 hG2 hj) gL_alters_L_about rfl hd_L_about ⟨⟨rfl, rfl⟩, ⟨(Nat.le_of_ble_eq_true rfl), (Nat.le_of_ble_eq_true rfl)⟩, ⟨(by show _ ≤ 40; omega), (by show _ ≤ 200; omega)⟩, (Nat.le_of_ble_eq_true rfl)⟩ dL_alters_121 (fun v121 M121 q121 => ?_)
                obtain ⟨rfl, e121⟩ := q121
                replace e121 := e121.symm
                subst e121
                refine V.toI ((show nI (rmB B j j 8) = nI 1 by simp [rmB, u2])) ?_
                refine v_iconst (v := nI 1) F dL_alters_124 (by decide) ?_
                refine v_icmp_ne_n F 132 dL_alters_125 (by decide) (by first | omega | exact Nat.lt_trans (hW _ _) (by decide)) (by first | omega | exact Nat.lt_trans (hW _ _) (by decide)) (fun c125 => ?_) (fun c125 => ?_)
                · exact absurd rfl c125
                · refine v_iconst (v := nI 1) F dL_alters_128 (by decide) ?_
                  refine v_goto F 133 dL_alters_129 (by decide) ?_
                  exact v_zret F hr dL_alters_133 rfl (by omega) (by omega) ⟨rfl, A, rmB B j, P9, n, k, Rm, Z, fg, upd fp j (nI 9), fa9, fw, rfl, hC6, hG2, hP9, hQ9, ⟨z1, z2, z3, z4⟩, ⟨hg6, hpp6, ha6, hw6⟩, ⟨h0g, h1g⟩, hfp.rm, hfa9, hfw.fall hFl⟩
          · refine v_iload F dL_alters_71 rfl ?_
            refine v_aload_n F dL_alters_73 rfl rfl ?_
            refine v_iload F dL_alters_74 rfl ?_
            refine v_iald_n F dL_alters_76 ha5 (by first | omega | exact Nat.lt_trans (hW _ _) (by decide)) (by decide) ?_
            refine V.toI (hfa i (by omega)) ?_
            refine v_iload F dL_alters_77 rfl ?_
            refine v_icmp_ne_n F 86 dL_alters_79 (by decide) (by first | omega | (have := pgP_lt hQ (show i < k by omega); omega)) (by first | omega | (have := pgP_lt hQ (show i < k by omega); omega)) (fun c79 => ?_) (fun c79 => ?_)
            · refine v_iconst (v := nI 0) F dL_alters_86 (by decide) ?_
              refine v_iadd_n F dL_alters_87 ?_
              refine v_istore F dL_alters_88 (Nat.le_of_ble_eq_true rfl) (ok2_d rfl) ?_
              refine v_iinc1 F dL_alters_90 rfl (ok2_d rfl) ?_
              refine v_goto F 63 dL_alters_93 (by decide) ?_
              exact ih (by omega) _ (by first | exact ct_1 hc c79 | exact ct_0 hc c79)
            · refine v_iconst (v := nI 1) F dL_alters_82 (by decide) ?_
              refine v_goto F 87 dL_alters_83 (by decide) ?_
              refine v_iadd_n F dL_alters_87 ?_
              refine v_istore F dL_alters_88 (Nat.le_of_ble_eq_true rfl) (ok2_d rfl) ?_
              refine v_iinc1 F dL_alters_90 rfl (ok2_d rfl) ?_
              refine v_goto F 63 dL_alters_93 (by decide) ?_
              exact ih (by omega) _ (by first | exact ct_1 hc c79 | exact ct_0 hc c79)
        exact lp 0 (Nat.zero_le _) 0 rfl
      · exact absurd c29 (by have := pgB_n9 hG hj hg8; omega)
    · refine v_aload_n F dL_alters_15 rfl rfl ?_
      refine v_iload F dL_alters_16 rfl ?_
      refine v_callSN F hN 2 [_, _] rfl rfl rfl (b_remove_gone hl9 hC hj hg8) gL_alters_L_remove rfl hd_L_remove ⟨⟨rfl, rfl⟩, ⟨(Nat.le_of_ble_eq_true rfl), (Nat.le_of_ble_eq_true rfl)⟩, ⟨(by show _ ≤ 40; omega), (by show _ ≤ 200; omega)⟩, (Nat.le_of_ble_eq_true rfl)⟩ dL_alters_18 (fun v18 M18 q18 => ?_)
      obtain ⟨rfl, e18⟩ := q18
      replace e18 := e18.symm
      subst e18
      refine v_istore F dL_alters_21 (Nat.le_of_ble_eq_true rfl) (ok2_d rfl) ?_
      refine v_aload_n F dL_alters_23 rfl rfl ?_
      refine v_iload F dL_alters_24 rfl ?_
      refine v_iald_n F dL_alters_26 hpp (by first | omega | exact Nat.lt_trans (hW _ _) (by decide)) (by decide) ?_
      refine V.toI (hfp j hj) ?_
      refine v_bipush (v := nI 9) F dL_alters_27 (by decide) ?_
      refine v_icmp_ne_n F 45 dL_alters_29 (by decide) (by first | omega | exact Nat.lt_trans (hW _ _) (by decide)) (by first | omega | exact Nat.lt_trans (hW _ _) (by decide)) (fun c29 => ?_) (fun c29 => ?_)
      · exact absurd (pgB_9 hg8) c29
      · refine v_iload F dL_alters_32 rfl ?_
        refine v_ldc (v := (-1000001)) F (by decide +kernel) dL_alters_34 ?_
        refine v_icmp_ne F 43 dL_alters_36 (by decide) (fun c36 => ?_) (fun c36 => ?_)
        · exact absurd rfl c36
        · refine v_iconst (v := nI 1) F dL_alters_39 (by decide) ?_
          refine v_goto F 44 dL_alters_40 (by decide) ?_
          exact v_zret F hr dL_alters_44 rfl (by omega) (by omega) ⟨rfl, ⟨A, B, P, n, k, R, Z, fg, fp, fa, fw, rfl, hS⟩⟩
