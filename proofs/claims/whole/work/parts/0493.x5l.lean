/-! the reference: what would break -/
theorem mv_back {B : FF} {j x y : Nat} : u2 (u2 (mvB B j x y) j 1 (B j 1)) j 2 (B j 2) = B := by
  funext a b
  by_cases ha : a = j
  · subst ha
    by_cases h1 : b = 1
    · subst h1; simp [mvB, u2]
    · by_cases h2 : b = 2
      · subst h2; simp [mvB, u2]
      · simp [mvB, u2, h1, h2]
  · simp [mvB, u2, ha]
def rmX5_breaks : Room := { frames := 5, cells := 0, slots := 0, locals := 120 }
theorem hd_X5_breaks : yX5_breaks.cls = (RX5, TX5, 21).1 ∧ yX5_breaks.cls ≠ "java/lang/invoke/MethodHandle" ∧ yX5_breaks.cls ≠ "java/lang/invoke/VarHandle" ∧ (parseMethodDescriptor yX5_breaks.desc).map (fun d => d.parameters.length) = some 3 := by decide +kernel
theorem fo_X5_breaks_7 : FO wsX5_breaks RX5 7 5 1 := ⟨_, _, _, rfl, by decide, by decide +kernel, by decide +kernel⟩
theorem fo_X5_breaks_13 : FO wsX5_breaks RX5 13 5 2 := ⟨_, _, _, rfl, by decide, by decide +kernel, by decide +kernel⟩
theorem fo_X5_breaks_16 : FO wsX5_breaks RX5 16 5 3 := ⟨_, _, _, rfl, by decide, by decide +kernel, by decide +kernel⟩
theorem fo_X5_breaks_19 : FO wsX5_breaks RX5 19 5 4 := ⟨_, _, _, rfl, by decide, by decide +kernel, by decide +kernel⟩
theorem fo_X5_breaks_22 : FO wsX5_breaks RX5 22 5 5 := ⟨_, _, _, rfl, by decide, by decide +kernel, by decide +kernel⟩
set_option maxHeartbeats 4000000 in
set_option maxRecDepth 100000 in
theorem c_Mbreaks {l : Launch} {ω : Om} {M : MM} {Y : Nat → Nat} {B P : FF} {n k t : Nat} (hS : MS ω Y B P n k t M) {W : Nat → Prop} (hWf : ∀ f, W (Y f)) {j : Nat} (hj : j < n) (hg : B j 8 = 0) (hp : B j 0 < 5) {x y : Nat} (h1 : 1 ≤ B j 3) (h2 : 1 ≤ B j 4) (h3 : x + B j 3 ≤ 60) (h4 : y + B j 4 ≤ 80) (hB2 : WB (mvB B j x y) n) (hK : Ok B n (B j 0)) (hK2 : Ok (mvB B j x y) n (B j 0)) : Ct l ω yX5_breaks wsX5_breaks rmX5_breaks [.ref (Y 0), .int (nI j), .int (nI x), .int (nI y)] M (fun v M9 => v = some (.int (nI (if ordF (mvB B j x y) n (B j 0) = ordF B n (B j 0) then 0 else cnt P (B j 0) k 20))) ∧ MS ω Y B P n k 0 M9 ∧ Fr W M M9) 0 0 := by
  refine Ct.ofV (cc := cX5_breaks) (maxL := 8) (ret := (some .int)) [some (.ref (Y 0)), some (.int (nI j)), some (.int (nI x)), some (.int (nI y)), none, none, none, none] (by decide) rfl (Nat.le_of_ble_eq_true rfl) rfl (Lc.av (av := [.ref (Y 0), .int (nI j), .int (nI x), .int (nI y)]) (k := 4) rfl) ?_
  intro σ F hl hr hname
  have F : Fx ω σ cX5_breaks 8 wsX5_breaks RX5 rmX5_breaks := F
  obtain ⟨C, T, hI, hT0, hT10, hT20, hCB, hCP, h9, h13, hB, hk, hWP⟩ := hS
  have hn : n ≤ 24 := hB.1
  have hW : ∀ i j, B i j < 128 := hB.2.1
  obtain ⟨hFn, hox, ρ, hρ0, hρ⟩ := id hK
  have hoB : ∀ x, x ∈ ordF B n (B j 0) → x < 128 := fun x hx => by have := hox x hx; omega
  obtain ⟨hFn2, hox2, ρ2, hρ20, hρ2⟩ := id hK2
  have hoB2 : ∀ x9, x9 ∈ ordF (mvB B j x y) n (B j 0) → x9 < 128 := fun x9 hx => by have := hox2 x9 hx; omega
  refine v_aload_n F dX5_breaks_0 rfl rfl ?_
  refine v_iload_n F dX5_breaks_1 rfl ?_
  refine v_callV F 1 [_] rfl rfl rfl (c_isBox_in hI hT0 hCB hB hj) gX5_breaks_X5_isBox rfl hd_X5_isBox ⟨⟨rfl, rfl⟩, ⟨(Nat.le_of_ble_eq_true rfl), (Nat.le_of_ble_eq_true rfl)⟩, ⟨(Nat.le_of_ble_eq_true rfl), (Nat.le_of_ble_eq_true rfl)⟩, (Nat.le_of_ble_eq_true rfl)⟩ hI.x rfl dX5_breaks_2 (fun v2 M2 q2 => ?_)
  obtain ⟨rfl, e2⟩ := q2
  replace e2 := e2.symm
  subst e2
  refine v_istore F dX5_breaks_5 (Nat.le_of_ble_eq_true rfl) (ok2_d rfl) ?_
  refine v_aload_n F dX5_breaks_7 rfl rfl ?_
  refine v_iload F dX5_breaks_8 rfl ?_
  refine v_iload F dX5_breaks_10 rfl ?_
  refine v_if_eq_b F 39 dX5_breaks_12 (by decide) (fun c12 => ?_) (fun c12 => ?_)
  · exact absurd c12 (by simp [hg])
  · refine v_iload_n F dX5_breaks_15 rfl ?_
    refine v_iload_n F dX5_breaks_16 rfl ?_
    refine v_aload_n F dX5_breaks_17 rfl rfl ?_
    refine v_get F 5 4 fo_X5_breaks_19 dX5_breaks_18 hI.x rfl ?_
    refine v_iload_n F dX5_breaks_21 rfl ?_
    refine v_iald_n F dX5_breaks_22 (hI.r (f := 4) (sz := 24) (bl := 0) (by simp [isRow]) (by decide) (by decide)) (by first | omega | exact Nat.lt_trans (hW _ _) (by decide)) (by decide) ?_
    refine V.toI ((hCB j hj).2.2.2.1) ?_
    refine v_aload_n F dX5_breaks_23 rfl rfl ?_
    refine v_get F 5 5 fo_X5_breaks_22 dX5_breaks_24 hI.x rfl ?_
    refine v_iload_n F dX5_breaks_27 rfl ?_
    refine v_iald_n F dX5_breaks_28 (hI.r (f := 5) (sz := 24) (bl := 0) (by simp [isRow]) (by decide) (by decide)) (by first | omega | exact Nat.lt_trans (hW _ _) (by decide)) (by decide) ?_
    refine V.toI ((hCB j hj).2.2.2.2.1) ?_
    refine v_callS F 4 [_, _, _, _] rfl rfl rfl (c_isWithin_t (inPm_nat h1 h2 h3 h4)) gX5_breaks_X5_isWithin rfl hd_X5_isWithin ⟨⟨rfl, rfl⟩, ⟨(Nat.le_of_ble_eq_true rfl), (Nat.le_of_ble_eq_true rfl)⟩, ⟨(Nat.le_of_ble_eq_true rfl), (Nat.le_of_ble_eq_true rfl)⟩, (Nat.le_of_ble_eq_true rfl)⟩ dX5_breaks_29 (fun v29 M29 q29 => ?_)
    obtain ⟨rfl, e29⟩ := q29
    replace e29 := e29.symm
    subst e29
    refine v_if_eq_b F 39 dX5_breaks_32 (by decide) (fun c32 => ?_) (fun c32 => ?_)
    · exact absurd c32 (by decide)
    · refine v_iconst (v := nI 1) F dX5_breaks_35 (by decide) ?_
      refine v_goto F 40 dX5_breaks_36 (by decide) ?_
      first | refine V.toI (show nI 1 = bI true from rfl) ?_ | refine V.toI (show nI 0 = bI false from rfl) ?_
      refine v_iconst (v := nI 1) F dX5_breaks_40 (by decide) ?_
      refine V.toI (show nI 1 = bI true from rfl) ?_
      refine v_callV F 3 [_, _, _] rfl rfl rfl (c_X5_goes hI hWf) gX5_breaks_X5_goes rfl hd_X5_goes ⟨⟨rfl, rfl⟩, ⟨(Nat.le_of_ble_eq_true rfl), (Nat.le_of_ble_eq_true rfl)⟩, ⟨(Nat.le_of_ble_eq_true rfl), (Nat.le_of_ble_eq_true rfl)⟩, (Nat.le_of_ble_eq_true rfl)⟩ hI.x rfl dX5_breaks_41 (fun v41 M41 q41 => ?_)
      obtain ⟨rfl, hI1, hF1⟩ := q41
      rw [show thr (decide (B j 8 = 0)) true true = 0 by simp [thr, hg]] at hI1
      refine v_if_ne_b F 49 dX5_breaks_44 (by decide) (fun c44 => ?_) (fun c44 => ?_)
      · refine v_aload_n F dX5_breaks_49 rfl rfl ?_
        refine v_get F 5 2 fo_X5_breaks_13 dX5_breaks_50 hI1.x rfl ?_
        refine v_iload_n F dX5_breaks_53 rfl ?_
        refine v_iald_n F dX5_breaks_54 (hI1.r (f := 2) (sz := 24) (bl := 0) (by simp [isRow]) (by decide) (by decide)) (by first | omega | exact Nat.lt_trans (hW _ _) (by decide)) (by decide) ?_
        refine V.toI ((hCB j hj).2.1) ?_
        refine v_istore F dX5_breaks_55 (Nat.le_of_ble_eq_true rfl) (ok2_d rfl) ?_
        refine v_aload_n F dX5_breaks_57 rfl rfl ?_
        refine v_get F 5 3 fo_X5_breaks_16 dX5_breaks_58 hI1.x rfl ?_
        refine v_iload_n F dX5_breaks_61 rfl ?_
        refine v_iald_n F dX5_breaks_62 (hI1.r (f := 3) (sz := 24) (bl := 0) (by simp [isRow]) (by decide) (by decide)) (by first | omega | exact Nat.lt_trans (hW _ _) (by decide)) (by decide) ?_
        refine V.toI ((hCB j hj).2.2.1) ?_
        refine v_istore F dX5_breaks_63 (Nat.le_of_ble_eq_true rfl) (ok2_d rfl) ?_
        refine v_aload_n F dX5_breaks_65 rfl rfl ?_
        refine v_aload_n F dX5_breaks_66 rfl rfl ?_
        refine v_get F 5 1 fo_X5_breaks_7 dX5_breaks_67 hI1.x rfl ?_
        refine v_iload_n F dX5_breaks_70 rfl ?_
        refine v_iald_n F dX5_breaks_71 (hI1.r (f := 1) (sz := 24) (bl := 0) (by simp [isRow]) (by decide) (by decide)) (by first | omega | exact Nat.lt_trans (hW _ _) (by decide)) (by decide) ?_
        refine V.toI ((hCB j hj).1) ?_
        refine v_callV F 1 [_] rfl rfl rfl (c_keeps hI1 ((uT_n (by decide)).trans hT0) hCB hB hWf ρ hρ0 hρ hp hFn) gX5_breaks_X5_keeps rfl hd_X5_keeps ⟨⟨rfl, rfl⟩, ⟨(Nat.le_of_ble_eq_true rfl), (Nat.le_of_ble_eq_true rfl)⟩, ⟨(Nat.le_of_ble_eq_true rfl), (Nat.le_of_ble_eq_true rfl)⟩, (Nat.le_of_ble_eq_true rfl)⟩ hI1.x rfl dX5_breaks_72 (fun v72 M72 q72 => ?_)
        obtain ⟨rfl, C1, T1, hI2, hF2, hs2, h16, h17⟩ := q72
        have hCB1 : CB C1 B n := hCB.sm hs2.1
        refine v_aload_n F dX5_breaks_75 rfl rfl ?_
        refine v_get F 5 2 fo_X5_breaks_13 dX5_breaks_76 hI2.x rfl ?_
        refine v_iload_n F dX5_breaks_79 rfl ?_
        refine v_iload_n F dX5_breaks_80 rfl ?_
        refine v_iast_n F dX5_breaks_81 (hI2.r (f := 2) (sz := 24) (bl := 0) (by simp [isRow]) (by decide) (by decide)) (by first | omega | exact Nat.lt_trans (hW _ _) (by decide)) (by decide) ?_
        have hI3 := hI2.setC (f := 2) (sz := 24) (bl := 0) (by simp [isRow]) (by decide) (by decide) (upd (C1 2) j (nI x))
        refine v_aload_n F dX5_breaks_82 rfl rfl ?_
        refine v_get F 5 3 fo_X5_breaks_16 dX5_breaks_83 hI3.x rfl ?_
        refine v_iload_n F dX5_breaks_86 rfl ?_
        refine v_iload_n F dX5_breaks_87 rfl ?_
        refine v_iast_n F dX5_breaks_88 (hI3.r (f := 3) (sz := 24) (bl := 0) (by simp [isRow]) (by decide) (by decide)) (by first | omega | exact Nat.lt_trans (hW _ _) (by decide)) (by decide) ?_
        have hI4 := hI3.setC (f := 3) (sz := 24) (bl := 0) (by simp [isRow]) (by decide) (by decide) (upd (uC C1 2 (upd (C1 2) j (nI x)) 3) j (nI y))
        have hCB4 : CB _ (mvB B j x y) n := (hCB1.up (j := j) (v := x) 2 1 (by decide)).up (j := j) (v := y) 3 2 (by decide)
        refine v_aload_n F dX5_breaks_89 rfl rfl ?_
        refine v_aload_n F dX5_breaks_90 rfl rfl ?_
        refine v_get F 5 1 fo_X5_breaks_7 dX5_breaks_91 hI4.x rfl ?_
        refine v_iload_n F dX5_breaks_94 rfl ?_
        refine v_iald_n F dX5_breaks_95 (hI4.r (f := 1) (sz := 24) (bl := 0) (by simp [isRow]) (by decide) (by decide)) (by first | omega | exact Nat.lt_trans (hW _ _) (by decide)) (by decide) ?_
        refine V.toI ((hCB4 j hj).1.trans (show nI ((mvB B j x y) j 0) = nI (B j 0) by simp [mvB, u2])) ?_
        refine v_callV F 1 [_] rfl rfl rfl (c_isOther hI4 ((hs2.2 0 (by decide) (by decide) (by decide)).trans ((uT_n (by decide)).trans hT0)) hCB4 hB2 hWf ρ2 hρ20 hρ2 hp hFn2 (u := ordF B n (B j 0)) h16 (by rw [uC_n (by decide), uC_n (by decide)]; exact h17) hFn.2.2.2.2 hoB hoB2) gX5_breaks_X5_isOther rfl hd_X5_isOther ⟨⟨rfl, rfl⟩, ⟨(Nat.le_of_ble_eq_true rfl), (Nat.le_of_ble_eq_true rfl)⟩, ⟨(Nat.le_of_ble_eq_true rfl), (Nat.le_of_ble_eq_true rfl)⟩, (Nat.le_of_ble_eq_true rfl)⟩ hI4.x rfl dX5_breaks_96 (fun v96 M96 q96 => ?_)
        obtain ⟨b9, rfl, hb9, C5, T5, hI5, hF5, hs5, hl5, hp5⟩ := q96
        have hCB5 := hCB4.sm hs5.b
        have hCP5 : CPP C5 P k := hCP.sm (by rw [hs5.1 11 (by decide) (by decide), uC_n (by decide), uC_n (by decide), hs2.1 11 (by decide) (by decide) (by decide)]) (by rw [hs5.1 12 (by decide) (by decide), uC_n (by decide), uC_n (by decide), hs2.1 12 (by decide) (by decide) (by decide)]) (by rw [hs5.1 13 (by decide) (by decide), uC_n (by decide), uC_n (by decide), hs2.1 13 (by decide) (by decide) (by decide)])
        refine v_if_eq_b F 115 dX5_breaks_99 (by decide) (fun c99 => ?_) (fun c99 => ?_)
        · refine v_iconst (v := nI 0) F dX5_breaks_115 (by decide) ?_
          refine v_istore F dX5_breaks_116 (Nat.le_of_ble_eq_true rfl) (ok2_d rfl) ?_
          refine v_aload_n F dX5_breaks_118 rfl rfl ?_
          refine v_get F 5 2 fo_X5_breaks_13 dX5_breaks_119 hI5.x rfl ?_
          refine v_iload_n F dX5_breaks_122 rfl ?_
          refine v_iload F dX5_breaks_123 rfl ?_
          refine v_iast_n F dX5_breaks_125 (hI5.r (f := 2) (sz := 24) (bl := 0) (by simp [isRow]) (by decide) (by decide)) (by first | omega | exact Nat.lt_trans (hW _ _) (by decide)) (by decide) ?_
          have hI6 := hI5.setC (f := 2) (sz := 24) (bl := 0) (by simp [isRow]) (by decide) (by decide) (upd (C5 2) j (nI (B j 1)))
          refine v_aload_n F dX5_breaks_126 rfl rfl ?_
          refine v_get F 5 3 fo_X5_breaks_16 dX5_breaks_127 hI6.x rfl ?_
          refine v_iload_n F dX5_breaks_130 rfl ?_
          refine v_iload F dX5_breaks_131 rfl ?_
          refine v_iast_n F dX5_breaks_133 (hI6.r (f := 3) (sz := 24) (bl := 0) (by simp [isRow]) (by decide) (by decide)) (by first | omega | exact Nat.lt_trans (hW _ _) (by decide)) (by decide) ?_
          have hI7 := hI6.setC (f := 3) (sz := 24) (bl := 0) (by simp [isRow]) (by decide) (by decide) (upd (uC C5 2 (upd (C5 2) j (nI (B j 1))) 3) j (nI (B j 2)))
          have hCB7 := (hCB5.up (j := j) (v := B j 1) 2 1 (by decide)).up (j := j) (v := B j 2) 3 2 (by decide)
          rw [mv_back] at hCB7
          refine v_iload F dX5_breaks_134 rfl ?_
          exact v_iret F hr dX5_breaks_136 (Nat.le_of_ble_eq_true rfl) (Nat.le_of_ble_eq_true rfl) ⟨by first | rw [if_neg (hb9.mp c99)] | rw [if_pos (Decidable.byContradiction (fun h => by have := hb9.mpr h; rw [c99] at this; cases this))], ⟨_, T5, hI7, (hs5.2 0 (by decide) (by decide)).trans ((hs2.2 0 (by decide) (by decide) (by decide)).trans ((uT_n (by decide)).trans hT0)), (hs5.2 10 (by decide) (by decide)).trans ((hs2.2 10 (by decide) (by decide) (by decide)).trans ((uT_n (by decide)).trans hT10)), (hs5.2 20 (by decide) (by decide)).trans ((hs2.2 20 (by decide) (by decide) (by decide)).trans uT_s), hCB7, hCP.sm (by rw [uC_n (by decide), uC_n (by decide), hs5.1 11 (by decide) (by decide), uC_n (by decide), uC_n (by decide), hs2.1 11 (by decide) (by decide) (by decide)]) (by rw [uC_n (by decide), uC_n (by decide), hs5.1 12 (by decide) (by decide), uC_n (by decide), uC_n (by decide), hs2.1 12 (by decide) (by decide) (by decide)]) (by rw [uC_n (by decide), uC_n (by decide), hs5.1 13 (by decide) (by decide), uC_n (by decide), uC_n (by decide), hs2.1 13 (by decide) (by decide) (by decide)]), fun q hq => by rw [uC_n (by decide), uC_n (by decide), hs5.1 9 (by decide) (by decide), uC_n (by decide), uC_n (by decide), hs2.1 9 (by decide) (by decide) (by decide)]; exact h9 q hq, fun q hq => by rw [uC_n (by decide), uC_n (by decide), hs5.1 13 (by decide) (by decide), uC_n (by decide), uC_n (by decide), hs2.1 13 (by decide) (by decide) (by decide)]; exact h13 q hq, hB, hk, hWP⟩, ((((((hF1.tr hF2).up (hWf 2)).up (hWf 3)).tr hF5).up (hWf 2)).up (hWf 3))⟩
        · refine v_aload_n F dX5_breaks_102 rfl rfl ?_
          refine v_aload_n F dX5_breaks_103 rfl rfl ?_
          refine v_get F 5 1 fo_X5_breaks_7 dX5_breaks_104 hI5.x rfl ?_
          refine v_iload_n F dX5_breaks_107 rfl ?_
          refine v_iald_n F dX5_breaks_108 (hI5.r (f := 1) (sz := 24) (bl := 0) (by simp [isRow]) (by decide) (by decide)) (by first | omega | exact Nat.lt_trans (hW _ _) (by decide)) (by decide) ?_
          refine V.toI ((hCB5 j hj).1.trans (show nI ((mvB B j x y) j 0) = nI (B j 0) by simp [mvB, u2])) ?_
          refine v_callV F 1 [_] rfl rfl rfl (c_standing hI5 ((hs5.2 10 (by decide) (by decide)).trans ((hs2.2 10 (by decide) (by decide) (by decide)).trans ((uT_n (by decide)).trans hT10))) hCP5 hk hWP hp) gX5_breaks_X5_standing rfl hd_X5_standing ⟨⟨rfl, rfl⟩, ⟨(Nat.le_of_ble_eq_true rfl), (Nat.le_of_ble_eq_true rfl)⟩, ⟨(Nat.le_of_ble_eq_true rfl), (Nat.le_of_ble_eq_true rfl)⟩, (Nat.le_of_ble_eq_true rfl)⟩ hI5.x rfl dX5_breaks_109 (fun v109 M109 q109 => ?_)
          obtain ⟨rfl, e109⟩ := q109
          replace e109 := e109.symm
          subst e109
          refine v_goto F 116 dX5_breaks_112 (by decide) ?_
          refine v_istore F dX5_breaks_116 (Nat.le_of_ble_eq_true rfl) (ok2_d rfl) ?_
          refine v_aload_n F dX5_breaks_118 rfl rfl ?_
          refine v_get F 5 2 fo_X5_breaks_13 dX5_breaks_119 hI5.x rfl ?_
          refine v_iload_n F dX5_breaks_122 rfl ?_
          refine v_iload F dX5_breaks_123 rfl ?_
          refine v_iast_n F dX5_breaks_125 (hI5.r (f := 2) (sz := 24) (bl := 0) (by simp [isRow]) (by decide) (by decide)) (by first | omega | exact Nat.lt_trans (hW _ _) (by decide)) (by decide) ?_
          have hI6 := hI5.setC (f := 2) (sz := 24) (bl := 0) (by simp [isRow]) (by decide) (by decide) (upd (C5 2) j (nI (B j 1)))
          refine v_aload_n F dX5_breaks_126 rfl rfl ?_
          refine v_get F 5 3 fo_X5_breaks_16 dX5_breaks_127 hI6.x rfl ?_
          refine v_iload_n F dX5_breaks_130 rfl ?_
          refine v_iload F dX5_breaks_131 rfl ?_
          refine v_iast_n F dX5_breaks_133 (hI6.r (f := 3) (sz := 24) (bl := 0) (by simp [isRow]) (by decide) (by decide)) (by first | omega | exact Nat.lt_trans (hW _ _) (by decide)) (by decide) ?_
          have hI7 := hI6.setC (f := 3) (sz := 24) (bl := 0) (by simp [isRow]) (by decide) (by decide) (upd (uC C5 2 (upd (C5 2) j (nI (B j 1))) 3) j (nI (B j 2)))
          have hCB7 := (hCB5.up (j := j) (v := B j 1) 2 1 (by decide)).up (j := j) (v := B j 2) 3 2 (by decide)
          rw [mv_back] at hCB7
          refine v_iload F dX5_breaks_134 rfl ?_
          exact v_iret F hr dX5_breaks_136 (Nat.le_of_ble_eq_true rfl) (Nat.le_of_ble_eq_true rfl) ⟨by first | rw [if_neg (hb9.mp c99)] | rw [if_pos (Decidable.byContradiction (fun h => by have := hb9.mpr h; rw [c99] at this; cases this))], ⟨_, T5, hI7, (hs5.2 0 (by decide) (by decide)).trans ((hs2.2 0 (by decide) (by decide) (by decide)).trans ((uT_n (by decide)).trans hT0)), (hs5.2 10 (by decide) (by decide)).trans ((hs2.2 10 (by decide) (by decide) (by decide)).trans ((uT_n (by decide)).trans hT10)), (hs5.2 20 (by decide) (by decide)).trans ((hs2.2 20 (by decide) (by decide) (by decide)).trans uT_s), hCB7, hCP.sm (by rw [uC_n (by decide), uC_n (by decide), hs5.1 11 (by decide) (by decide), uC_n (by decide), uC_n (by decide), hs2.1 11 (by decide) (by decide) (by decide)]) (by rw [uC_n (by decide), uC_n (by decide), hs5.1 12 (by decide) (by decide), uC_n (by decide), uC_n (by decide), hs2.1 12 (by decide) (by decide) (by decide)]) (by rw [uC_n (by decide), uC_n (by decide), hs5.1 13 (by decide) (by decide), uC_n (by decide), uC_n (by decide), hs2.1 13 (by decide) (by decide) (by decide)]), fun q hq => by rw [uC_n (by decide), uC_n (by decide), hs5.1 9 (by decide) (by decide), uC_n (by decide), uC_n (by decide), hs2.1 9 (by decide) (by decide) (by decide)]; exact h9 q hq, fun q hq => by rw [uC_n (by decide), uC_n (by decide), hs5.1 13 (by decide) (by decide), uC_n (by decide), uC_n (by decide), hs2.1 13 (by decide) (by decide) (by decide)]; exact h13 q hq, hB, hk, hWP⟩, ((((((hF1.tr hF2).up (hWf 2)).up (hWf 3)).tr hF5).up (hWf 2)).up (hWf 3))⟩
      · exact absurd c44 (by simp [hg])
set_option maxHeartbeats 4000000 in
set_option maxRecDepth 100000 in
theorem c_Mbreaks_gone {l : Launch} {ω : Om} {M : MM} {Y : Nat → Nat} {B P : FF} {n k t : Nat} (hS : MS ω Y B P n k t M) {W : Nat → Prop} (hWf : ∀ f, W (Y f)) {j : Nat} {x y : Int32} (hj : j < n) (hg : B j 8 ≠ 0) : Ct l ω yX5_breaks wsX5_breaks rmX5_breaks [.ref (Y 0), .int (nI j), .int x, .int y] M (fun v M9 => v = some (.int (nI 0)) ∧ MS ω Y B P n k 1 M9 ∧ Fr W M M9) 0 0 := by
  refine Ct.ofV (cc := cX5_breaks) (maxL := 8) (ret := (some .int)) [some (.ref (Y 0)), some (.int (nI j)), some (.int x), some (.int y), none, none, none, none] (by decide) rfl (Nat.le_of_ble_eq_true rfl) rfl (Lc.av (av := [.ref (Y 0), .int (nI j), .int x, .int y]) (k := 4) rfl) ?_
  intro σ F hl hr hname
  have F : Fx ω σ cX5_breaks 8 wsX5_breaks RX5 rmX5_breaks := F
  obtain ⟨C, T, hI, hT0, hT10, hT20, hCB, hCP, h9, h13, hB, hk, hWP⟩ := hS
  have hn : n ≤ 24 := hB.1
  have hW : ∀ i j, B i j < 128 := hB.2.1
  refine v_aload_n F dX5_breaks_0 rfl rfl ?_
  refine v_iload_n F dX5_breaks_1 rfl ?_
  refine v_callV F 1 [_] rfl rfl rfl (c_isBox_in hI hT0 hCB hB hj) gX5_breaks_X5_isBox rfl hd_X5_isBox ⟨⟨rfl, rfl⟩, ⟨(Nat.le_of_ble_eq_true rfl), (Nat.le_of_ble_eq_true rfl)⟩, ⟨(Nat.le_of_ble_eq_true rfl), (Nat.le_of_ble_eq_true rfl)⟩, (Nat.le_of_ble_eq_true rfl)⟩ hI.x rfl dX5_breaks_2 (fun v2 M2 q2 => ?_)
  obtain ⟨rfl, e2⟩ := q2
  replace e2 := e2.symm
  subst e2
  refine v_istore F dX5_breaks_5 (Nat.le_of_ble_eq_true rfl) (ok2_d rfl) ?_
  refine v_aload_n F dX5_breaks_7 rfl rfl ?_
  refine v_iload F dX5_breaks_8 rfl ?_
  refine v_iload F dX5_breaks_10 rfl ?_
  refine v_if_eq_b F 39 dX5_breaks_12 (by decide) (fun c12 => ?_) (fun c12 => ?_)
  · refine v_iconst (v := nI 0) F dX5_breaks_39 (by decide) ?_
    first | refine V.toI (show nI 1 = bI true from rfl) ?_ | refine V.toI (show nI 0 = bI false from rfl) ?_
    refine v_iconst (v := nI 1) F dX5_breaks_40 (by decide) ?_
    refine V.toI (show nI 1 = bI true from rfl) ?_
    refine v_callV F 3 [_, _, _] rfl rfl rfl (c_X5_goes hI hWf) gX5_breaks_X5_goes rfl hd_X5_goes ⟨⟨rfl, rfl⟩, ⟨(Nat.le_of_ble_eq_true rfl), (Nat.le_of_ble_eq_true rfl)⟩, ⟨(Nat.le_of_ble_eq_true rfl), (Nat.le_of_ble_eq_true rfl)⟩, (Nat.le_of_ble_eq_true rfl)⟩ hI.x rfl dX5_breaks_41 (fun v41 M41 q41 => ?_)
    obtain ⟨rfl, hI1, hF1⟩ := q41
    refine v_if_ne_b F 49 dX5_breaks_44 (by decide) (fun c44 => ?_) (fun c44 => ?_)
    · exact absurd c44 (by simp)
    · refine v_iconst (v := nI 0) F dX5_breaks_47 (by decide) ?_
      exact v_iret F hr dX5_breaks_48 (Nat.le_of_ble_eq_true rfl) (Nat.le_of_ble_eq_true rfl) ⟨rfl, (by rw [show thr (decide (B j 8 = 0)) false true = 1 by simp [thr, hg]] at hI1; exact MS.q (t0 := 0) hI1 Sm2.rf hT0 hT10 hCB hCP h9 h13 hB hk hWP), hF1⟩
  · exact absurd c12 (by simp [hg])
set_option maxHeartbeats 4000000 in
set_option maxRecDepth 100000 in
theorem c_Mbreaks_out {l : Launch} {ω : Om} {M : MM} {Y : Nat → Nat} {B P : FF} {n k t : Nat} (hS : MS ω Y B P n k t M) {W : Nat → Prop} (hWf : ∀ f, W (Y f)) {j x y : Int32} (hj : j < 0 ∨ nI n ≤ j) : Ct l ω yX5_breaks wsX5_breaks rmX5_breaks [.ref (Y 0), .int j, .int x, .int y] M (fun v M9 => v = some (.int (nI 0)) ∧ MS ω Y B P n k 1 M9 ∧ Fr W M M9) 0 0 := by
  refine Ct.ofV (cc := cX5_breaks) (maxL := 8) (ret := (some .int)) [some (.ref (Y 0)), some (.int j), some (.int x), some (.int y), none, none, none, none] (by decide) rfl (Nat.le_of_ble_eq_true rfl) rfl (Lc.av (av := [.ref (Y 0), .int j, .int x, .int y]) (k := 4) rfl) ?_
  intro σ F hl hr hname
  have F : Fx ω σ cX5_breaks 8 wsX5_breaks RX5 rmX5_breaks := F
  obtain ⟨C, T, hI, hT0, hT10, hT20, hCB, hCP, h9, h13, hB, hk, hWP⟩ := hS
  have hn : n ≤ 24 := hB.1
  have hW : ∀ i j, B i j < 128 := hB.2.1
  refine v_aload_n F dX5_breaks_0 rfl rfl ?_
  refine v_iload_n F dX5_breaks_1 rfl ?_
  refine v_callV F 1 [_] rfl rfl rfl (c_isBox_out hI hT0 hCB hB hj) gX5_breaks_X5_isBox rfl hd_X5_isBox ⟨⟨rfl, rfl⟩, ⟨(Nat.le_of_ble_eq_true rfl), (Nat.le_of_ble_eq_true rfl)⟩, ⟨(Nat.le_of_ble_eq_true rfl), (Nat.le_of_ble_eq_true rfl)⟩, (Nat.le_of_ble_eq_true rfl)⟩ hI.x rfl dX5_breaks_2 (fun v2 M2 q2 => ?_)
  obtain ⟨rfl, e2⟩ := q2
  replace e2 := e2.symm
  subst e2
  refine v_istore F dX5_breaks_5 (Nat.le_of_ble_eq_true rfl) (ok2_d rfl) ?_
  refine v_aload_n F dX5_breaks_7 rfl rfl ?_
  refine v_iload F dX5_breaks_8 rfl ?_
  refine v_iload F dX5_breaks_10 rfl ?_
  refine v_if_eq_b F 39 dX5_breaks_12 (by decide) (fun c12 => ?_) (fun c12 => ?_)
  · refine v_iconst (v := nI 0) F dX5_breaks_39 (by decide) ?_
    first | refine V.toI (show nI 1 = bI true from rfl) ?_ | refine V.toI (show nI 0 = bI false from rfl) ?_
    refine v_iconst (v := nI 1) F dX5_breaks_40 (by decide) ?_
    refine V.toI (show nI 1 = bI true from rfl) ?_
    refine v_callV F 3 [_, _, _] rfl rfl rfl (c_X5_goes hI hWf) gX5_breaks_X5_goes rfl hd_X5_goes ⟨⟨rfl, rfl⟩, ⟨(Nat.le_of_ble_eq_true rfl), (Nat.le_of_ble_eq_true rfl)⟩, ⟨(Nat.le_of_ble_eq_true rfl), (Nat.le_of_ble_eq_true rfl)⟩, (Nat.le_of_ble_eq_true rfl)⟩ hI.x rfl dX5_breaks_41 (fun v41 M41 q41 => ?_)
    obtain ⟨rfl, hI1, hF1⟩ := q41
    refine v_if_ne_b F 49 dX5_breaks_44 (by decide) (fun c44 => ?_) (fun c44 => ?_)
    · exact absurd c44 (by simp)
    · refine v_iconst (v := nI 0) F dX5_breaks_47 (by decide) ?_
      exact v_iret F hr dX5_breaks_48 (Nat.le_of_ble_eq_true rfl) (Nat.le_of_ble_eq_true rfl) ⟨rfl, MS.q (t0 := 0) hI1 Sm2.rf hT0 hT10 hCB hCP h9 h13 hB hk hWP, hF1⟩
  · exact absurd c12 (by decide)
set_option maxHeartbeats 4000000 in
set_option maxRecDepth 100000 in
theorem c_Mbreaks_bad {l : Launch} {ω : Om} {M : MM} {Y : Nat → Nat} {B P : FF} {n k t : Nat} (hS : MS ω Y B P n k t M) {W : Nat → Prop} (hWf : ∀ f, W (Y f)) {j : Nat} {x y : Int32} (hj : j < n) (hg : B j 8 = 0) (hb : ¬ inPm x y (nI (B j 3)) (nI (B j 4))) : Ct l ω yX5_breaks wsX5_breaks rmX5_breaks [.ref (Y 0), .int (nI j), .int x, .int y] M (fun v M9 => v = some (.int (nI 0)) ∧ MS ω Y B P n k 2 M9 ∧ Fr W M M9) 0 0 := by
  refine Ct.ofV (cc := cX5_breaks) (maxL := 8) (ret := (some .int)) [some (.ref (Y 0)), some (.int (nI j)), some (.int x), some (.int y), none, none, none, none] (by decide) rfl (Nat.le_of_ble_eq_true rfl) rfl (Lc.av (av := [.ref (Y 0), .int (nI j), .int x, .int y]) (k := 4) rfl) ?_
  intro σ F hl hr hname
  have F : Fx ω σ cX5_breaks 8 wsX5_breaks RX5 rmX5_breaks := F
  obtain ⟨C, T, hI, hT0, hT10, hT20, hCB, hCP, h9, h13, hB, hk, hWP⟩ := hS
  have hn : n ≤ 24 := hB.1
  have hW : ∀ i j, B i j < 128 := hB.2.1
  refine v_aload_n F dX5_breaks_0 rfl rfl ?_
  refine v_iload_n F dX5_breaks_1 rfl ?_
  refine v_callV F 1 [_] rfl rfl rfl (c_isBox_in hI hT0 hCB hB hj) gX5_breaks_X5_isBox rfl hd_X5_isBox ⟨⟨rfl, rfl⟩, ⟨(Nat.le_of_ble_eq_true rfl), (Nat.le_of_ble_eq_true rfl)⟩, ⟨(Nat.le_of_ble_eq_true rfl), (Nat.le_of_ble_eq_true rfl)⟩, (Nat.le_of_ble_eq_true rfl)⟩ hI.x rfl dX5_breaks_2 (fun v2 M2 q2 => ?_)
  obtain ⟨rfl, e2⟩ := q2
  replace e2 := e2.symm
  subst e2
  refine v_istore F dX5_breaks_5 (Nat.le_of_ble_eq_true rfl) (ok2_d rfl) ?_
  refine v_aload_n F dX5_breaks_7 rfl rfl ?_
  refine v_iload F dX5_breaks_8 rfl ?_
  refine v_iload F dX5_breaks_10 rfl ?_
  refine v_if_eq_b F 39 dX5_breaks_12 (by decide) (fun c12 => ?_) (fun c12 => ?_)
  · exact absurd c12 (by simp [hg])
  · refine v_iload_n F dX5_breaks_15 rfl ?_
    refine v_iload_n F dX5_breaks_16 rfl ?_
    refine v_aload_n F dX5_breaks_17 rfl rfl ?_
    refine v_get F 5 4 fo_X5_breaks_19 dX5_breaks_18 hI.x rfl ?_
    refine v_iload_n F dX5_breaks_21 rfl ?_
    refine v_iald_n F dX5_breaks_22 (hI.r (f := 4) (sz := 24) (bl := 0) (by simp [isRow]) (by decide) (by decide)) (by first | omega | exact Nat.lt_trans (hW _ _) (by decide)) (by decide) ?_
    refine V.toI ((hCB j hj).2.2.2.1) ?_
    refine v_aload_n F dX5_breaks_23 rfl rfl ?_
    refine v_get F 5 5 fo_X5_breaks_22 dX5_breaks_24 hI.x rfl ?_
    refine v_iload_n F dX5_breaks_27 rfl ?_
    refine v_iald_n F dX5_breaks_28 (hI.r (f := 5) (sz := 24) (bl := 0) (by simp [isRow]) (by decide) (by decide)) (by first | omega | exact Nat.lt_trans (hW _ _) (by decide)) (by decide) ?_
    refine V.toI ((hCB j hj).2.2.2.2.1) ?_
    refine v_callS F 4 [_, _, _, _] rfl rfl rfl (c_isWithin_f hb) gX5_breaks_X5_isWithin rfl hd_X5_isWithin ⟨⟨rfl, rfl⟩, ⟨(Nat.le_of_ble_eq_true rfl), (Nat.le_of_ble_eq_true rfl)⟩, ⟨(Nat.le_of_ble_eq_true rfl), (Nat.le_of_ble_eq_true rfl)⟩, (Nat.le_of_ble_eq_true rfl)⟩ dX5_breaks_29 (fun v29 M29 q29 => ?_)
    obtain ⟨rfl, e29⟩ := q29
    replace e29 := e29.symm
    subst e29
    refine v_if_eq_b F 39 dX5_breaks_32 (by decide) (fun c32 => ?_) (fun c32 => ?_)
    · refine v_iconst (v := nI 0) F dX5_breaks_39 (by decide) ?_
      first | refine V.toI (show nI 1 = bI true from rfl) ?_ | refine V.toI (show nI 0 = bI false from rfl) ?_
      refine v_iconst (v := nI 1) F dX5_breaks_40 (by decide) ?_
      refine V.toI (show nI 1 = bI true from rfl) ?_
      refine v_callV F 3 [_, _, _] rfl rfl rfl (c_X5_goes hI hWf) gX5_breaks_X5_goes rfl hd_X5_goes ⟨⟨rfl, rfl⟩, ⟨(Nat.le_of_ble_eq_true rfl), (Nat.le_of_ble_eq_true rfl)⟩, ⟨(Nat.le_of_ble_eq_true rfl), (Nat.le_of_ble_eq_true rfl)⟩, (Nat.le_of_ble_eq_true rfl)⟩ hI.x rfl dX5_breaks_41 (fun v41 M41 q41 => ?_)
      obtain ⟨rfl, hI1, hF1⟩ := q41
      refine v_if_ne_b F 49 dX5_breaks_44 (by decide) (fun c44 => ?_) (fun c44 => ?_)
      · exact absurd c44 (by simp)
      · refine v_iconst (v := nI 0) F dX5_breaks_47 (by decide) ?_
        exact v_iret F hr dX5_breaks_48 (Nat.le_of_ble_eq_true rfl) (Nat.le_of_ble_eq_true rfl) ⟨rfl, (by rw [show thr (decide (B j 8 = 0)) false true = 2 by simp [thr, hg]] at hI1; exact MS.q (t0 := 0) hI1 Sm2.rf hT0 hT10 hCB hCP h9 h13 hB hk hWP), hF1⟩
    · exact absurd c32 (by decide)
