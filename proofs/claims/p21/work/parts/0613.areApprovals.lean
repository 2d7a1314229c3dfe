/-! the law: the approvals -/
def rmL_areApprovals : Room := { frames := 9, cells := 30, slots := 200, locals := 158 }
theorem hd_L_areApprovals : yL_areApprovals.cls ≠ "java/lang/invoke/MethodHandle" ∧ yL_areApprovals.cls ≠ "java/lang/invoke/VarHandle" ∧ (parseMethodDescriptor yL_areApprovals.desc).map (fun d => d.parameters.length) = some 4 := by decide +kernel
set_option maxHeartbeats 4000000 in
set_option maxRecDepth 100000 in
theorem c_areApprovals {l : Launch} {ω : Om} {M : MM} (hl9 : l.stackTraces = false) {A B P : FF} {n k : Nat} {R : Nat → (Nat → Int32) × Nat} {Z : Nat → Prop} (hC : CI ω A B P n k R Z M) (hP : GP P k) (hQ : GQ P k) {G Aa Ww : Nat} {fg fa fw : Nat → Int32} (hg : M G = some (.inl (ω.2.2 0, 3, .inl fg))) (ha : M Aa = some (.inl (ω.2.2 0, 21, .inl fa))) (hw : M Ww = some (.inl (ω.2.2 0, 21, .inl fw))) (h1g : fg 1 = nI k) (hfa : RP fa P k) (hfw : RW fw P k) : CtN l ω yL_areApprovals wsL_areApprovals rmL_areApprovals [.ref (A 0 0), .ref G, .ref Aa, .ref Ww] M (fun v M9 => v = some (.int (nI 1)) ∧ M9 = M) 30 200 := by
  refine CtN.ofC (cc := cL_areApprovals) (maxL := 8) (ret := (some .boolean)) [some (.ref (A 0 0)), some (.ref G), some (.ref Aa), some (.ref Ww), none, none, none, none] (by decide) rfl (Nat.le_of_ble_eq_true rfl) rfl (Lc.av (av := [.ref (A 0 0), .ref G, .ref Aa, .ref Ww]) (k := 4) rfl) ?_
  intro σ F hl hr hN
  have F : Fx ω σ cL_areApprovals 8 wsL_areApprovals RL rmL_areApprovals := F
  subst hl
  have hk20 : k ≤ 20 := hP.2.2.1
  refine v_aload_n F dL_areApprovals_0 rfl rfl ?_
  refine v_aload_n F dL_areApprovals_1 rfl rfl ?_
  refine v_iconst (v := nI 1) F dL_areApprovals_2 (by decide) ?_
  refine v_iald_n F dL_areApprovals_3 hg (show 1 < 3 by decide) (by decide) ?_
  refine V.toI (h1g) ?_
  refine v_callSN F hN 2 [_, _] rfl rfl rfl (a_stands_out hl9 hC) gL_areApprovals_L_stands rfl hd_L_stands ⟨⟨rfl, rfl⟩, ⟨(Nat.le_of_ble_eq_true rfl), (Nat.le_of_ble_eq_true rfl)⟩, ⟨(by show _ ≤ 30; omega), (by show _ ≤ 200; omega)⟩, (Nat.le_of_ble_eq_true rfl)⟩ dL_areApprovals_4 (fun v4 M4 q4 => ?_)
  obtain ⟨rfl, e4⟩ := q4
  replace e4 := e4.symm
  subst e4
  refine v_ldc (v := (-1000001)) F (by decide +kernel) dL_areApprovals_7 ?_
  refine v_icmp_ne F 16 dL_areApprovals_9 (by decide) (fun c9 => ?_) (fun c9 => ?_)
  · exact absurd rfl c9
  · refine v_iconst (v := nI 1) F dL_areApprovals_12 (by decide) ?_
    refine v_goto F 17 dL_areApprovals_13 (by decide) ?_
    refine v_istore F dL_areApprovals_17 (Nat.le_of_ble_eq_true rfl) (ok2_d rfl) ?_
    refine v_iconst (v := nI 0) F dL_areApprovals_19 (by decide) ?_
    refine v_istore F dL_areApprovals_20 (Nat.le_of_ble_eq_true rfl) (ok2_d rfl) ?_
    have lp : ∀ q, q ≤ 5 → ∀ (w6 w7 : Option Value), V ω σ M [some (.ref (A 0 0)), some (.ref G), some (.ref Aa), some (.ref Ww), some (.int (nI 1)), some (.int (nI q)), w6, w7] (1 + q) (6 + 6 * q) (BQ ω σ (fun v M9 => v = some (.int (nI 1)) ∧ M9 = M) 30 200) 22 [] := by
      refine loop_up 5 _ (fun q hq ih => ?_)
      intro w6 w7
      refine v_iload F dL_areApprovals_22 rfl ?_
      refine v_iconst (v := nI 5) F dL_areApprovals_24 (by decide) ?_
      refine v_icmp_ge_n F 101 dL_areApprovals_25 (by decide) (by first | omega) (by first | omega) (fun c25 => ?_) (fun c25 => ?_)
      · refine v_iconst (v := nI 0) F dL_areApprovals_101 (by decide) ?_
        refine v_istore F dL_areApprovals_102 (Nat.le_of_ble_eq_true rfl) (ok2_d rfl) ?_
        have lp3 : ∀ i, i ≤ k → V ω σ M [some (.ref (A 0 0)), some (.ref G), some (.ref Aa), some (.ref Ww), some (.int (nI 1)), some (.int (nI i)), w6, w7] (6 + i) (36 + 6 * i) (BQ ω σ (fun v M9 => v = some (.int (nI 1)) ∧ M9 = M) 30 200) 104 [] := by
          refine loop_up k _ (fun i hi ih3 => ?_)
          refine v_iload F dL_areApprovals_104 rfl ?_
          refine v_aload_n F dL_areApprovals_106 rfl rfl ?_
          refine v_iconst (v := nI 1) F dL_areApprovals_107 (by decide) ?_
          refine v_iald_n F dL_areApprovals_108 hg (show 1 < 3 by decide) (by decide) ?_
          refine V.toI (h1g) ?_
          refine v_icmp_ge_n F 153 dL_areApprovals_109 (by decide) (by first | omega) (by first | omega) (fun c109 => ?_) (fun c109 => ?_)
          · refine v_iload F dL_areApprovals_153 rfl ?_
            exact v_zret F hr dL_areApprovals_155 rfl (by omega) (by omega) ⟨rfl, rfl⟩
          · refine v_iload F dL_areApprovals_112 rfl ?_
            refine v_if_eq_n F 153 dL_areApprovals_114 (by decide) (by first | omega) (fun c114 => ?_) (fun c114 => ?_)
            · exact absurd c114 (by decide)
            · refine v_aload_n F dL_areApprovals_117 rfl rfl ?_
              refine v_iload F dL_areApprovals_118 rfl ?_
              refine v_callSN F hN 2 [_, _] rfl rfl rfl (a_stands hC hP (show i < k by omega)) gL_areApprovals_L_stands rfl hd_L_stands ⟨⟨rfl, rfl⟩, ⟨(Nat.le_of_ble_eq_true rfl), (Nat.le_of_ble_eq_true rfl)⟩, ⟨(by show _ ≤ 30; omega), (by show _ ≤ 200; omega)⟩, (Nat.le_of_ble_eq_true rfl)⟩ dL_areApprovals_120 (fun v120 M120 q120 => ?_)
              obtain ⟨rfl, e120⟩ := q120
              replace e120 := e120.symm
              subst e120
              refine v_aload_n F dL_areApprovals_123 rfl rfl ?_
              refine v_iload F dL_areApprovals_124 rfl ?_
              refine v_iald_n F dL_areApprovals_126 ha (by first | omega) (by decide) ?_
              refine V.toI (hfa i (by omega)) ?_
              refine v_bipush (v := nI 9) F dL_areApprovals_127 (by decide) ?_
              refine v_icmp_ge_n F 136 dL_areApprovals_129 (by decide) (by first | omega | (have := pgP_lt hQ (show i < k by omega); omega)) (by first | omega | (have := pgP_lt hQ (show i < k by omega); omega)) (fun c129 => ?_) (fun c129 => ?_)
              · refine v_iconst (v := nI 0) F dL_areApprovals_136 (by decide) ?_
                refine v_icmp_ne_n F 144 dL_areApprovals_137 (by decide) (by first | omega | (have := hP.2.1 i; omega)) (by first | omega | (have := hP.2.1 i; omega)) (fun c137 => ?_) (fun c137 => ?_)
                · exact absurd (by first | exact st_0 hQ (by omega) c129 | exact st_1 hP c129) c137
                · refine v_iconst (v := nI 1) F dL_areApprovals_140 (by decide) ?_
                  refine v_goto F 145 dL_areApprovals_141 (by decide) ?_
                  refine v_istore F dL_areApprovals_145 (Nat.le_of_ble_eq_true rfl) (ok2_d rfl) ?_
                  refine v_iinc1 F dL_areApprovals_147 rfl (ok2_d rfl) ?_
                  refine v_goto F 104 dL_areApprovals_150 (by decide) ?_
                  refine v_widen F (6 + (i + 1)) (36 + 6 * (i + 1)) (by omega) (by omega) ?_
                  exact ih3 (by omega)
              · refine v_iconst (v := nI 1) F dL_areApprovals_132 (by decide) ?_
                refine v_goto F 137 dL_areApprovals_133 (by decide) ?_
                refine v_icmp_ne_n F 144 dL_areApprovals_137 (by decide) (by first | omega | (have := hP.2.1 i; omega)) (by first | omega | (have := hP.2.1 i; omega)) (fun c137 => ?_) (fun c137 => ?_)
                · exact absurd (by first | exact st_0 hQ (by omega) c129 | exact st_1 hP c129) c137
                · refine v_iconst (v := nI 1) F dL_areApprovals_140 (by decide) ?_
                  refine v_goto F 145 dL_areApprovals_141 (by decide) ?_
                  refine v_istore F dL_areApprovals_145 (Nat.le_of_ble_eq_true rfl) (ok2_d rfl) ?_
                  refine v_iinc1 F dL_areApprovals_147 rfl (ok2_d rfl) ?_
                  refine v_goto F 104 dL_areApprovals_150 (by decide) ?_
                  refine v_widen F (6 + (i + 1)) (36 + 6 * (i + 1)) (by omega) (by omega) ?_
                  exact ih3 (by omega)
        refine v_widen F (6 + 0) (36 + 6 * 0) (by omega) (by omega) ?_
        exact lp3 0 (Nat.zero_le _)
      · refine v_iload F dL_areApprovals_28 rfl ?_
        refine v_if_eq_n F 101 dL_areApprovals_30 (by decide) (by first | omega) (fun c30 => ?_) (fun c30 => ?_)
        · exact absurd c30 (by decide)
        · refine v_iconst (v := nI 0) F dL_areApprovals_33 (by decide) ?_
          refine v_istore F dL_areApprovals_34 (Nat.le_of_ble_eq_true rfl) (ok2_d rfl) ?_
          refine v_iconst (v := nI 0) F dL_areApprovals_36 (by decide) ?_
          refine v_istore F dL_areApprovals_37 (Nat.le_of_ble_eq_true rfl) (ok2_d rfl) ?_
          have lp2 : ∀ i, i ≤ k → ∀ c, c = mkF (pgP P) (fun i => P i 0) q i → V ω σ M [some (.ref (A 0 0)), some (.ref G), some (.ref Aa), some (.ref Ww), some (.int (nI 1)), some (.int (nI q)), some (.int (nI c)), some (.int (nI i))] (1 + q) (6 + 6 * q) (BQ ω σ (fun v M9 => v = some (.int (nI 1)) ∧ M9 = M) 30 200) 39 [] := by
            refine loop_up k _ (fun i hi ih2 => ?_)
            intro c hc
            refine v_iload F dL_areApprovals_39 rfl ?_
            refine v_aload_n F dL_areApprovals_41 rfl rfl ?_
            refine v_iconst (v := nI 1) F dL_areApprovals_42 (by decide) ?_
            refine v_iald_n F dL_areApprovals_43 hg (show 1 < 3 by decide) (by decide) ?_
            refine V.toI (h1g) ?_
            refine v_icmp_ge_n F 77 dL_areApprovals_44 (by decide) (by first | omega) (by first | omega) (fun c44 => ?_) (fun c44 => ?_)
            · refine v_aload_n F dL_areApprovals_77 rfl rfl ?_
              refine v_iload F dL_areApprovals_78 rfl ?_
              refine v_callSN F hN 2 [_, _] rfl rfl rfl (a_who hl9 hC hP (show q < 5 by omega)) gL_areApprovals_L_approvers rfl hd_L_approvers ⟨⟨rfl, rfl⟩, ⟨(Nat.le_of_ble_eq_true rfl), (Nat.le_of_ble_eq_true rfl)⟩, ⟨(by show _ ≤ 30; omega), (by show _ ≤ 200; omega)⟩, (Nat.le_of_ble_eq_true rfl)⟩ dL_areApprovals_80 (fun v80 M80 q80 => ?_)
              obtain ⟨rfl, e80⟩ := q80
              replace e80 := e80.symm
              subst e80
              refine v_iload F dL_areApprovals_83 rfl ?_
              refine v_icmp_ne_n F 92 dL_areApprovals_85 (by decide) (by first | exact Nat.lt_trans (mkF_lt hP.1 _) (by decide) | (rw [hc]; exact Nat.lt_trans (mkF_lt hP.1 _) (by decide))) (by first | exact Nat.lt_trans (mkF_lt hP.1 _) (by decide) | (rw [hc]; exact Nat.lt_trans (mkF_lt hP.1 _) (by decide))) (fun c85 => ?_) (fun c85 => ?_)
              · exact absurd (by rw [hc, show i = k by omega]) c85
              · refine v_iconst (v := nI 1) F dL_areApprovals_88 (by decide) ?_
                refine v_goto F 93 dL_areApprovals_89 (by decide) ?_
                refine v_istore F dL_areApprovals_93 (Nat.le_of_ble_eq_true rfl) (ok2_d rfl) ?_
                refine v_iinc1 F dL_areApprovals_95 rfl (ok2_d rfl) ?_
                refine v_goto F 22 dL_areApprovals_98 (by decide) ?_
                refine v_widen F (1 + (q + 1)) (6 + 6 * (q + 1)) (by omega) (by omega) ?_
                exact ih (by omega) _ _
            · refine v_iload F dL_areApprovals_47 rfl ?_
              refine v_aload_n F dL_areApprovals_49 rfl rfl ?_
              refine v_iload F dL_areApprovals_50 rfl ?_
              refine v_iald_n F dL_areApprovals_52 ha (by first | omega) (by decide) ?_
              refine V.toI (hfa i (by omega)) ?_
              refine v_iload F dL_areApprovals_53 rfl ?_
              refine v_icmp_ne_n F 67 dL_areApprovals_55 (by decide) (by first | omega | (have := pgP_lt hQ (show i < k by omega); omega)) (by first | omega | (have := pgP_lt hQ (show i < k by omega); omega)) (fun c55 => ?_) (fun c55 => ?_)
              · refine v_iconst (v := nI 0) F dL_areApprovals_67 (by decide) ?_
                refine v_ior_n F dL_areApprovals_68 ?_
                refine v_istore F dL_areApprovals_69 (Nat.le_of_ble_eq_true rfl) (ok2_d rfl) ?_
                refine v_iinc1 F dL_areApprovals_71 rfl (ok2_d rfl) ?_
                refine v_goto F 39 dL_areApprovals_74 (by decide) ?_
                exact ih2 (by omega) _ (by first | exact mk_1 hc c55 | exact mk_0 hc c55)
              · refine v_iconst (v := nI 1) F dL_areApprovals_58 (by decide) ?_
                refine v_aload_n F dL_areApprovals_59 rfl rfl ?_
                refine v_iload F dL_areApprovals_60 rfl ?_
                refine v_iald_n F dL_areApprovals_62 hw (by first | omega) (by decide) ?_
                refine V.toI (hfw i (by omega)) ?_
                refine v_ishl_n F dL_areApprovals_63 (by have := hP.1 i; omega) ?_
                refine v_goto F 68 dL_areApprovals_64 (by decide) ?_
                refine v_ior_n F dL_areApprovals_68 ?_
                refine v_istore F dL_areApprovals_69 (Nat.le_of_ble_eq_true rfl) (ok2_d rfl) ?_
                refine v_iinc1 F dL_areApprovals_71 rfl (ok2_d rfl) ?_
                refine v_goto F 39 dL_areApprovals_74 (by decide) ?_
                exact ih2 (by omega) _ (by first | exact mk_1 hc c55 | exact mk_0 hc c55)
          exact lp2 0 (Nat.zero_le _) 0 rfl
    refine v_widen F (1 + 0) (6 + 6 * 0) (by omega) (by omega) ?_
    exact lp 0 (Nat.zero_le _) none none
