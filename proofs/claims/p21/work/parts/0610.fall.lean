/-! the law: approvals that fall -/
def rmL_fall : Room := { frames := 0, cells := 0, slots := 0, locals := 0 }
theorem hd_L_fall : yL_fall.cls ≠ "java/lang/invoke/MethodHandle" ∧ yL_fall.cls ≠ "java/lang/invoke/VarHandle" ∧ (parseMethodDescriptor yL_fall.desc).map (fun d => d.parameters.length) = some 5 := by decide +kernel
set_option maxHeartbeats 4000000 in
set_option maxRecDepth 100000 in
theorem c_fall {l : Launch} {ω : Om} {M : MM} {a G Aa p c k : Nat} {P P9 : FF} {s : Prop} {fg fa : Nat → Int32} (hg : M G = some (.inl (ω.2.2 0, 3, .inl fg))) (ha : M Aa = some (.inl (ω.2.2 0, 21, .inl fa))) (hGA : G ≠ Aa) (h1g : fg 1 = nI k) (hk : k ≤ 20) (hp5 : p < 5) (hfa : RP fa P k) (hQ : GQ P k) (hF9 : Fall P p k s c P9) : Ct l ω yL_fall wsL_fall rmL_fall [.ref a, .ref G, .ref Aa, .int (nI p), .int (nI c)] M (fun v M9 => v = some (.int (nI 1)) ∧ ∃ fa9 : Nat → Int32, RP fa9 P9 k ∧ M9 Aa = some (.inl (ω.2.2 0, 21, .inl fa9)) ∧ ∀ z, z ≠ Aa → M9 z = M z) 0 0 := by
  refine Ct.ofV (cc := cL_fall) (maxL := 7) (ret := (some .boolean)) [some (.ref a), some (.ref G), some (.ref Aa), some (.int (nI p)), some (.int (nI c)), none, none] (by decide) rfl (Nat.le_of_ble_eq_true rfl) rfl (Lc.av (av := [.ref a, .ref G, .ref Aa, .int (nI p), .int (nI c)]) (k := 2) rfl) ?_
  intro σ F hl hr hname
  have F : Fx ω σ cL_fall 7 wsL_fall RL rmL_fall := F
  have hc20 : c ≤ 20 := hF9.le20 hp5 hk
  refine v_iconst (v := nI 0) F dL_fall_0 (by decide) ?_
  refine v_istore F dL_fall_1 (Nat.le_of_ble_eq_true rfl) (ok2_d rfl) ?_
  refine v_iconst (v := nI 0) F dL_fall_3 (by decide) ?_
  refine v_istore F dL_fall_4 (Nat.le_of_ble_eq_true rfl) (ok2_d rfl) ?_
  have lp : ∀ i, i ≤ k → ∀ c5, c5 = ctF (pgP P) p i → V ω σ M [some (.ref a), some (.ref G), some (.ref Aa), some (.int (nI p)), some (.int (nI c)), some (.int (nI c5)), some (.int (nI i))] 0 0 (BQ ω σ (fun v M9 => v = some (.int (nI 1)) ∧ ∃ fa9 : Nat → Int32, RP fa9 P9 k ∧ M9 Aa = some (.inl (ω.2.2 0, 21, .inl fa9)) ∧ ∀ z, z ≠ Aa → M9 z = M z) 0 0) 6 [] := by
    refine loop_up k _ (fun i hi ih => ?_)
    intro c5 hc5
    refine v_iload F dL_fall_6 rfl ?_
    refine v_aload_n F dL_fall_8 rfl rfl ?_
    refine v_iconst (v := nI 1) F dL_fall_9 (by decide) ?_
    refine v_iald_n F dL_fall_10 hg (show 1 < 3 by decide) (by decide) ?_
    refine V.toI (h1g) ?_
    refine v_icmp_ge_n F 38 dL_fall_11 (by decide) (by first | omega | exact Nat.lt_trans (hW _ _) (by decide)) (by first | omega | exact Nat.lt_trans (hW _ _) (by decide)) (fun c11 => ?_) (fun c11 => ?_)
    · refine v_iconst (v := nI 0) F dL_fall_38 (by decide) ?_
      refine v_istore F dL_fall_39 (Nat.le_of_ble_eq_true rfl) (ok2_d rfl) ?_
      have hc5 : c5 = ctF (pgP P) p k := by rw [hc5, show i = k by omega]
      clear ih
      have lp2 : ∀ q, q ≤ k → ∀ (M2 : MM) (f2 : Nat → Int32), M2 Aa = some (.inl (ω.2.2 0, 21, .inl f2)) → (∀ z, z ≠ Aa → M2 z = M z) → (∀ x, x < k → f2 x = if x < q ∧ pgP P x = p then nI 9 else nI (pgP P x)) → (0 < q → 0 < c) → V ω σ M2 [some (.ref a), some (.ref G), some (.ref Aa), some (.int (nI p)), some (.int (nI c)), some (.int (nI c5)), some (.int (nI q))] 0 0 (BQ ω σ (fun v M9 => v = some (.int (nI 1)) ∧ ∃ fa9 : Nat → Int32, RP fa9 P9 k ∧ M9 Aa = some (.inl (ω.2.2 0, 21, .inl fa9)) ∧ ∀ z, z ≠ Aa → M9 z = M z) 0 0) 41 [] := by
        refine loop_up k _ (fun q hq ih => ?_)
        intro M2 f2 ha2 hF2 hf2 hq0
        have hg2 : M2 G = some (.inl (ω.2.2 0, 3, .inl fg)) := (hF2 G hGA).trans hg
        refine v_iload F dL_fall_41 rfl ?_
        refine v_aload_n F dL_fall_43 rfl rfl ?_
        refine v_iconst (v := nI 1) F dL_fall_44 (by decide) ?_
        refine v_iald_n F dL_fall_45 hg2 (show 1 < 3 by decide) (by decide) ?_
        refine V.toI (h1g) ?_
        refine v_icmp_ge_n F 81 dL_fall_46 (by decide) (by first | omega | exact Nat.lt_trans (hW _ _) (by decide)) (by first | omega | exact Nat.lt_trans (hW _ _) (by decide)) (fun c46 => ?_) (fun c46 => ?_)
        · refine v_iload F dL_fall_81 rfl ?_
          refine v_if_eq_n F 93 dL_fall_83 (by decide) (by first | omega | exact Nat.lt_trans (hW _ _) (by decide)) (fun c83 => ?_) (fun c83 => ?_)
          · refine v_iconst (v := nI 1) F dL_fall_93 (by decide) ?_
            refine v_goto F 98 dL_fall_94 (by decide) ?_
            exact v_zret F hr dL_fall_98 rfl (Nat.le_of_ble_eq_true rfl) (Nat.le_of_ble_eq_true rfl) ⟨rfl, f2, fall_e hF9 hp5 hk hf2 hq0 (by omega), ha2, hF2⟩
          · refine v_iload F dL_fall_86 rfl ?_
            refine v_iload F dL_fall_88 rfl ?_
            refine v_icmp_ne_n F 97 dL_fall_90 (by decide) (by first | omega | (have := ctF_le (pgP P) p k; omega)) (by first | omega | (have := ctF_le (pgP P) p k; omega)) (fun c90 => ?_) (fun c90 => ?_)
            · exact absurd (fall_c hF9 hp5 hk c83 hc5) c90
            · refine v_iconst (v := nI 1) F dL_fall_93 (by decide) ?_
              refine v_goto F 98 dL_fall_94 (by decide) ?_
              exact v_zret F hr dL_fall_98 rfl (Nat.le_of_ble_eq_true rfl) (Nat.le_of_ble_eq_true rfl) ⟨rfl, f2, fall_e hF9 hp5 hk hf2 hq0 (by omega), ha2, hF2⟩
        · refine v_iload F dL_fall_49 rfl ?_
          refine v_if_le_n F 81 dL_fall_51 (by decide) (by first | omega | exact Nat.lt_trans (hW _ _) (by decide)) (fun c51 => ?_) (fun c51 => ?_)
          · refine v_iload F dL_fall_81 rfl ?_
            refine v_if_eq_n F 93 dL_fall_83 (by decide) (by first | omega | exact Nat.lt_trans (hW _ _) (by decide)) (fun c83 => ?_) (fun c83 => ?_)
            · refine v_iconst (v := nI 1) F dL_fall_93 (by decide) ?_
              refine v_goto F 98 dL_fall_94 (by decide) ?_
              exact v_zret F hr dL_fall_98 rfl (Nat.le_of_ble_eq_true rfl) (Nat.le_of_ble_eq_true rfl) ⟨rfl, f2, fall_e hF9 hp5 hk hf2 hq0 (by omega), ha2, hF2⟩
            · refine v_iload F dL_fall_86 rfl ?_
              refine v_iload F dL_fall_88 rfl ?_
              refine v_icmp_ne_n F 97 dL_fall_90 (by decide) (by first | omega | (have := ctF_le (pgP P) p k; omega)) (by first | omega | (have := ctF_le (pgP P) p k; omega)) (fun c90 => ?_) (fun c90 => ?_)
              · exact absurd (fall_c hF9 hp5 hk c83 hc5) c90
              · refine v_iconst (v := nI 1) F dL_fall_93 (by decide) ?_
                refine v_goto F 98 dL_fall_94 (by decide) ?_
                exact v_zret F hr dL_fall_98 rfl (Nat.le_of_ble_eq_true rfl) (Nat.le_of_ble_eq_true rfl) ⟨rfl, f2, fall_e hF9 hp5 hk hf2 hq0 (by omega), ha2, hF2⟩
          · have hf62 : f2 q = nI (pgP P q) := by rw [hf2 q (by omega), if_neg (fun h => absurd h.1 (Nat.lt_irrefl _))]
            refine v_aload_n F dL_fall_54 rfl rfl ?_
            refine v_iload F dL_fall_55 rfl ?_
            refine v_aload_n F dL_fall_57 rfl rfl ?_
            refine v_iload F dL_fall_58 rfl ?_
            refine v_iald_n F dL_fall_60 ha2 (by first | omega | exact Nat.lt_trans (hW _ _) (by decide)) (by decide) ?_
            refine V.toI (hf62) ?_
            refine v_iload_n F dL_fall_61 rfl ?_
            refine v_icmp_ne_n F 70 dL_fall_62 (by decide) (by first | omega | (have := pgP_lt hQ (show q < k by omega); omega)) (by first | omega | (have := pgP_lt hQ (show q < k by omega); omega)) (fun c62 => ?_) (fun c62 => ?_)
            · refine v_aload_n F dL_fall_70 rfl rfl ?_
              refine v_iload F dL_fall_71 rfl ?_
              refine v_iald_n F dL_fall_73 ha2 (by first | omega | exact Nat.lt_trans (hW _ _) (by decide)) (by decide) ?_
              refine V.toI (hf62) ?_
              refine v_iast_n F dL_fall_74 ha2 (by first | omega | exact Nat.lt_trans (hW _ _) (by decide)) (by decide) ?_
              refine v_iinc1 F dL_fall_75 rfl (ok2_d rfl) ?_
              refine v_goto F 41 dL_fall_78 (by decide) ?_
              exact ih (by omega) _ _ mup_s (fun z hz => (mup_n hz).trans (hF2 z hz)) (fun x hx => by first | exact fall_1 hf2 c62 x hx | exact fall_0 hf2 c62 x hx) (fun _ => by omega)
            · refine v_bipush (v := nI 9) F dL_fall_65 (by decide) ?_
              refine v_goto F 74 dL_fall_67 (by decide) ?_
              refine v_iast_n F dL_fall_74 ha2 (by first | omega | exact Nat.lt_trans (hW _ _) (by decide)) (by decide) ?_
              refine v_iinc1 F dL_fall_75 rfl (ok2_d rfl) ?_
              refine v_goto F 41 dL_fall_78 (by decide) ?_
              exact ih (by omega) _ _ mup_s (fun z hz => (mup_n hz).trans (hF2 z hz)) (fun x hx => by first | exact fall_1 hf2 c62 x hx | exact fall_0 hf2 c62 x hx) (fun _ => by omega)
      exact lp2 0 (Nat.zero_le _) M fa ha (fun _ _ => rfl) (fun x hx => by rw [if_neg (fun h => absurd h.1 (Nat.not_lt_zero _))]; exact hfa x hx) (fun h => absurd h (Nat.lt_irrefl _))
    · refine v_iload F dL_fall_14 rfl ?_
      refine v_aload_n F dL_fall_16 rfl rfl ?_
      refine v_iload F dL_fall_17 rfl ?_
      refine v_iald_n F dL_fall_19 ha (by first | omega | exact Nat.lt_trans (hW _ _) (by decide)) (by decide) ?_
      refine V.toI (hfa i (by omega)) ?_
      refine v_iload_n F dL_fall_20 rfl ?_
      refine v_icmp_ne_n F 28 dL_fall_21 (by decide) (by first | omega | (have := pgP_lt hQ (show i < k by omega); omega)) (by first | omega | (have := pgP_lt hQ (show i < k by omega); omega)) (fun c21 => ?_) (fun c21 => ?_)
      · refine v_iconst (v := nI 0) F dL_fall_28 (by decide) ?_
        refine v_iadd_n F dL_fall_29 ?_
        refine v_istore F dL_fall_30 (Nat.le_of_ble_eq_true rfl) (ok2_d rfl) ?_
        refine v_iinc1 F dL_fall_32 rfl (ok2_d rfl) ?_
        refine v_goto F 6 dL_fall_35 (by decide) ?_
        exact ih (by omega) _ (by first | exact ct_1 hc5 c21 | exact ct_0 hc5 c21)
      · refine v_iconst (v := nI 1) F dL_fall_24 (by decide) ?_
        refine v_goto F 29 dL_fall_25 (by decide) ?_
        refine v_iadd_n F dL_fall_29 ?_
        refine v_istore F dL_fall_30 (Nat.le_of_ble_eq_true rfl) (ok2_d rfl) ?_
        refine v_iinc1 F dL_fall_32 rfl (ok2_d rfl) ?_
        refine v_goto F 6 dL_fall_35 (by decide) ?_
        exact ih (by omega) _ (by first | exact ct_1 hc5 c21 | exact ct_0 hc5 c21)
  exact lp 0 (Nat.zero_le _) 0 rfl
