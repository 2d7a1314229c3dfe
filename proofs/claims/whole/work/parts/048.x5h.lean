/-! the reference: ties -/
def rmX5_comesBehind : Room := { frames := 0, cells := 0, slots := 0, locals := 0 }
theorem hd_X5_comesBehind : yX5_comesBehind.cls = (RX5, TX5, 21).1 ∧ yX5_comesBehind.cls ≠ "java/lang/invoke/MethodHandle" ∧ yX5_comesBehind.cls ≠ "java/lang/invoke/VarHandle" ∧ (parseMethodDescriptor yX5_comesBehind.desc).map (fun d => d.parameters.length) = some 2 := by decide +kernel
theorem fo_X5_comesBehind_28 : FO wsX5_comesBehind RX5 28 5 7 := ⟨_, _, _, rfl, by decide, by decide +kernel, by decide +kernel⟩
set_option maxHeartbeats 4000000 in
set_option maxRecDepth 100000 in
theorem c_cb_f {l : Launch} {ω : Om} {M : MM} {Y : Nat → Nat} {C : Nat → Nat → Int32} {T : Nat → Nat} (hI : MI ω Y C T M) {B : FF} {n : Nat} (hT0 : T 0 = n) (hCB : CB C B n) (hB : WB B n) {j t : Nat} (hj : j < n) (ht : t < n) (hup : ∀ q, up B q j ≠ t + 1) (ρ6 : Nat → Nat) (hρ6 : ∀ j y, j < n → B j 6 = y + 1 → ρ6 y < ρ6 j) : Ct l ω yX5_comesBehind wsX5_comesBehind rmX5_comesBehind [.ref (Y 0), .int (nI j), .int (nI t)] M (fun v M9 => v = some (.int (bI false)) ∧ M9 = M) 0 0 := by
  refine Ct.ofV (cc := cX5_comesBehind) (maxL := 4) (ret := (some .boolean)) [some (.ref (Y 0)), some (.int (nI j)), some (.int (nI t)), none] (by decide) rfl (Nat.le_of_ble_eq_true rfl) rfl (Lc.av (av := [.ref (Y 0), .int (nI j), .int (nI t)]) (k := 1) rfl) ?_
  intro σ F hl hr hname
  have F : Fx ω σ cX5_comesBehind 4 wsX5_comesBehind RX5 rmX5_comesBehind := F
  have hn : n ≤ 24 := hB.1
  have hW : ∀ i j, B i j < 128 := hB.2.1
  refine v_iload_n F dX5_comesBehind_0 rfl ?_
  refine v_istore_n F dX5_comesBehind_1 (Nat.le_of_ble_eq_true rfl) (ok2_d rfl) ?_
  have lp : ∀ f m c, c = up B m j → (∀ z, c = z + 1 → z < n ∧ ρ6 z < f) → V ω σ M [some (.ref (Y 0)), some (.int (nI j)), some (.int (nI t)), some (.int (oI c))] 0 0 (BQ ω σ (fun v M9 => v = some (.int (bI false)) ∧ M9 = M) 0 0) 2 [] := by
    refine loop_pr _ (fun f ih2 => ?_)
    intro m c hc hrk
    rcases c with _ | z
    · have hz0 := hc.symm
      refine v_iload_n F dX5_comesBehind_2 rfl ?_
      refine v_iconst (v := (-1)) F dX5_comesBehind_3 (by decide) ?_
      refine v_icmp_eq F 22 dX5_comesBehind_4 (by decide) (fun c4 => ?_) (fun c4 => ?_)
      · refine v_iload_n F dX5_comesBehind_22 rfl ?_
        refine v_iload_n F dX5_comesBehind_23 rfl ?_
        refine v_icmp_ne F 31 dX5_comesBehind_24 (by decide) (fun c24 => ?_) (fun c24 => ?_)
        · refine v_iconst (v := nI 0) F dX5_comesBehind_31 (by decide) ?_
          exact v_zret F hr dX5_comesBehind_32 rfl (Nat.le_of_ble_eq_true rfl) (Nat.le_of_ble_eq_true rfl) ⟨rfl, rfl⟩
        · exact absurd ((oI_m1 (x := t + 1) (by omega)).mp c24.symm) (by omega)
      · exact absurd rfl c4
    · obtain ⟨hz, hzf⟩ := hrk z rfl
      obtain ⟨f, rfl⟩ : ∃ q, f = q + 1 := ⟨f - 1, by omega⟩
      show V ω σ M [some (.ref (Y 0)), some (.int (nI j)), some (.int (nI t)), some (.int (nI z))] _ _ _ _ _
      refine v_iload_n F dX5_comesBehind_2 rfl ?_
      refine v_iconst (v := (-1)) F dX5_comesBehind_3 (by decide) ?_
      refine v_icmp_eq F 22 dX5_comesBehind_4 (by decide) (fun c4 => ?_) (fun c4 => ?_)
      · exact absurd ((oI_m1 (x := z + 1) (by omega)).mp c4) (by omega)
      · refine v_iload_n F dX5_comesBehind_7 rfl ?_
        refine v_iload_n F dX5_comesBehind_8 rfl ?_
        refine v_icmp_eq_n F 22 dX5_comesBehind_9 (by decide) (by first | omega | exact Nat.lt_trans (hW _ _) (by decide)) (by first | omega | exact Nat.lt_trans (hW _ _) (by decide)) (fun c9 => ?_) (fun c9 => ?_)
        · exact absurd (by rw [← hc, c9]) (hup m)
        · refine v_aload_n F dX5_comesBehind_12 rfl rfl ?_
          refine v_get F 5 7 fo_X5_comesBehind_28 dX5_comesBehind_13 hI.x rfl ?_
          refine v_iload_n F dX5_comesBehind_16 rfl ?_
          refine v_iald_n F dX5_comesBehind_17 (hI.r (f := 7) (sz := 24) (bl := 0) (by simp [isRow]) (by decide) (by decide)) (by first | omega | exact Nat.lt_trans (hW _ _) (by decide)) (by decide) ?_
          refine V.toI ((hCB z hz).2.2.2.2.2.2.1) ?_
          refine v_istore_n F dX5_comesBehind_18 (Nat.le_of_ble_eq_true rfl) (ok2_d rfl) ?_
          refine v_goto F 2 dX5_comesBehind_19 (by decide) ?_
          exact ih2 f rfl (m + 1) (B z 6) (up_s hc.symm).symm (fun z2 hz2 => ⟨(hB.2.2.1 z z2 hz hz2).1, by have := hρ6 z z2 hz hz2; omega⟩)
  exact lp (ρ6 j + 1) 0 (j + 1) rfl (fun z hz => by rw [show z = j by omega]; exact ⟨hj, Nat.lt_succ_self _⟩)
set_option maxHeartbeats 4000000 in
set_option maxRecDepth 100000 in
theorem c_cb_t {l : Launch} {ω : Om} {M : MM} {Y : Nat → Nat} {C : Nat → Nat → Int32} {T : Nat → Nat} (hI : MI ω Y C T M) {B : FF} {n : Nat} (hT0 : T 0 = n) (hCB : CB C B n) (hB : WB B n) {j t : Nat} (hj : j < n) (ht : t < n) {q0 : Nat} (hup : up B q0 j = t + 1) (ρ6 : Nat → Nat) (hρ6 : ∀ j y, j < n → B j 6 = y + 1 → ρ6 y < ρ6 j) : Ct l ω yX5_comesBehind wsX5_comesBehind rmX5_comesBehind [.ref (Y 0), .int (nI j), .int (nI t)] M (fun v M9 => v = some (.int (bI true)) ∧ M9 = M) 0 0 := by
  refine Ct.ofV (cc := cX5_comesBehind) (maxL := 4) (ret := (some .boolean)) [some (.ref (Y 0)), some (.int (nI j)), some (.int (nI t)), none] (by decide) rfl (Nat.le_of_ble_eq_true rfl) rfl (Lc.av (av := [.ref (Y 0), .int (nI j), .int (nI t)]) (k := 1) rfl) ?_
  intro σ F hl hr hname
  have F : Fx ω σ cX5_comesBehind 4 wsX5_comesBehind RX5 rmX5_comesBehind := F
  have hn : n ≤ 24 := hB.1
  have hW : ∀ i j, B i j < 128 := hB.2.1
  refine v_iload_n F dX5_comesBehind_0 rfl ?_
  refine v_istore_n F dX5_comesBehind_1 (Nat.le_of_ble_eq_true rfl) (ok2_d rfl) ?_
  have lp : ∀ f m c, (∀ q, q < m → up B q j ≠ t + 1) → c = up B m j → (∀ z, c = z + 1 → z < n ∧ ρ6 z < f) → V ω σ M [some (.ref (Y 0)), some (.int (nI j)), some (.int (nI t)), some (.int (oI c))] 0 0 (BQ ω σ (fun v M9 => v = some (.int (bI true)) ∧ M9 = M) 0 0) 2 [] := by
    refine loop_pr _ (fun f ih2 => ?_)
    intro m c hno hc hrk
    rcases c with _ | z
    · have hz0 := hc.symm
      refine v_iload_n F dX5_comesBehind_2 rfl ?_
      refine v_iconst (v := (-1)) F dX5_comesBehind_3 (by decide) ?_
      refine v_icmp_eq F 22 dX5_comesBehind_4 (by decide) (fun c4 => ?_) (fun c4 => ?_)
      · exact absurd (by rcases Nat.lt_or_ge q0 m with h | h; exact absurd hup (hno q0 h); rw [up_z hz0 q0 h] at hup; exact hup) (by omega : ¬ 0 = t + 1)
      · exact absurd rfl c4
    · obtain ⟨hz, hzf⟩ := hrk z rfl
      obtain ⟨f, rfl⟩ : ∃ q, f = q + 1 := ⟨f - 1, by omega⟩
      show V ω σ M [some (.ref (Y 0)), some (.int (nI j)), some (.int (nI t)), some (.int (nI z))] _ _ _ _ _
      refine v_iload_n F dX5_comesBehind_2 rfl ?_
      refine v_iconst (v := (-1)) F dX5_comesBehind_3 (by decide) ?_
      refine v_icmp_eq F 22 dX5_comesBehind_4 (by decide) (fun c4 => ?_) (fun c4 => ?_)
      · exact absurd ((oI_m1 (x := z + 1) (by omega)).mp c4) (by omega)
      · refine v_iload_n F dX5_comesBehind_7 rfl ?_
        refine v_iload_n F dX5_comesBehind_8 rfl ?_
        refine v_icmp_eq_n F 22 dX5_comesBehind_9 (by decide) (by first | omega | exact Nat.lt_trans (hW _ _) (by decide)) (by first | omega | exact Nat.lt_trans (hW _ _) (by decide)) (fun c9 => ?_) (fun c9 => ?_)
        · refine v_iload_n F dX5_comesBehind_22 rfl ?_
          refine v_iload_n F dX5_comesBehind_23 rfl ?_
          refine v_icmp_ne_n F 31 dX5_comesBehind_24 (by decide) (by first | omega | exact Nat.lt_trans (hW _ _) (by decide)) (by first | omega | exact Nat.lt_trans (hW _ _) (by decide)) (fun c24 => ?_) (fun c24 => ?_)
          · exact absurd c9 c24
          · refine v_iconst (v := nI 1) F dX5_comesBehind_27 (by decide) ?_
            refine v_goto F 32 dX5_comesBehind_28 (by decide) ?_
            exact v_zret F hr dX5_comesBehind_32 rfl (Nat.le_of_ble_eq_true rfl) (Nat.le_of_ble_eq_true rfl) ⟨rfl, rfl⟩
        · refine v_aload_n F dX5_comesBehind_12 rfl rfl ?_
          refine v_get F 5 7 fo_X5_comesBehind_28 dX5_comesBehind_13 hI.x rfl ?_
          refine v_iload_n F dX5_comesBehind_16 rfl ?_
          refine v_iald_n F dX5_comesBehind_17 (hI.r (f := 7) (sz := 24) (bl := 0) (by simp [isRow]) (by decide) (by decide)) (by first | omega | exact Nat.lt_trans (hW _ _) (by decide)) (by decide) ?_
          refine V.toI ((hCB z hz).2.2.2.2.2.2.1) ?_
          refine v_istore_n F dX5_comesBehind_18 (Nat.le_of_ble_eq_true rfl) (ok2_d rfl) ?_
          refine v_goto F 2 dX5_comesBehind_19 (by decide) ?_
          exact ih2 f rfl (m + 1) (B z 6) (fun q hq h => by rcases Nat.lt_or_ge q m with h2 | h2; exact hno q h2 h; rw [show q = m by omega, ← hc] at h; exact c9 (by omega)) (up_s hc.symm).symm (fun z2 hz2 => ⟨(hB.2.2.1 z z2 hz hz2).1, by have := hρ6 z z2 hz hz2; omega⟩)
  exact lp (ρ6 j + 1) 0 (j + 1) (fun q h => absurd h (Nat.not_lt_zero _)) rfl (fun z hz => by rw [show z = j by omega]; exact ⟨hj, Nat.lt_succ_self _⟩)
def rmX5_tie : Room := { frames := 6, cells := 0, slots := 0, locals := 143 }
theorem hd_X5_tie : yX5_tie.cls = (RX5, TX5, 21).1 ∧ yX5_tie.cls ≠ "java/lang/invoke/MethodHandle" ∧ yX5_tie.cls ≠ "java/lang/invoke/VarHandle" ∧ (parseMethodDescriptor yX5_tie.desc).map (fun d => d.parameters.length) = some 2 := by decide +kernel
theorem fo_X5_tie_7 : FO wsX5_tie RX5 7 5 1 := ⟨_, _, _, rfl, by decide, by decide +kernel, by decide +kernel⟩
theorem fo_X5_tie_28 : FO wsX5_tie RX5 28 5 7 := ⟨_, _, _, rfl, by decide, by decide +kernel, by decide +kernel⟩
theorem fo_X5_tie_31 : FO wsX5_tie RX5 31 5 8 := ⟨_, _, _, rfl, by decide, by decide +kernel, by decide +kernel⟩
set_option maxHeartbeats 4000000 in
set_option maxRecDepth 100000 in
theorem c_Mtie {l : Launch} {ω : Om} {M : MM} {Y : Nat → Nat} {B P : FF} {n k t : Nat} (hS : MS ω Y B P n k t M) {W : Nat → Prop} (hWf : ∀ f, W (Y f)) {j t0 : Nat} (hj : j < n) (hg : B j 8 = 0) (ht : t0 < n) (hgt : B t0 8 = 0) (hjt : j ≠ t0) (hpp : B j 0 = B t0 0) (h7 : B j 7 = 0) (h6 : B t0 6 = 0) (hup : ∀ q, up B q j ≠ t0 + 1) (ρ6 : Nat → Nat) (hρ6 : ∀ j y, j < n → B j 6 = y + 1 → ρ6 y < ρ6 j) (hp : B j 0 < 5) (hB2 : WB (u2 (u2 B j 7 (t0 + 1)) t0 6 (j + 1)) n) (hK : Ok B n (B j 0)) (hK2 : Ok (u2 (u2 B j 7 (t0 + 1)) t0 6 (j + 1)) n (B j 0)) : Ct l ω yX5_tie wsX5_tie rmX5_tie [.ref (Y 0), .int (nI j), .int (nI t0)] M (fun v M9 => ∃ P9 c9, v = some (.int (nI c9)) ∧ MS ω Y (u2 (u2 B j 7 (t0 + 1)) t0 6 (j + 1)) P9 n k 0 M9 ∧ Fr W M M9 ∧ Fall P (B j 0) k (ordF (u2 (u2 B j 7 (t0 + 1)) t0 6 (j + 1)) n (B j 0) = ordF B n (B j 0)) c9 P9) 0 0 := by
  refine Ct.ofV (cc := cX5_tie) (maxL := 5) (ret := (some .int)) [some (.ref (Y 0)), some (.int (nI j)), some (.int (nI t0)), none, none] (by decide) rfl (Nat.le_of_ble_eq_true rfl) rfl (Lc.av (av := [.ref (Y 0), .int (nI j), .int (nI t0)]) (k := 2) rfl) ?_
  intro σ F hl hr hname
  have F : Fx ω σ cX5_tie 5 wsX5_tie RX5 rmX5_tie := F
  obtain ⟨C, T, hI, hT0, hT10, hT20, hCB, hCP, h9, h13, hB, hk, hWP⟩ := hS
  have hn : n ≤ 24 := hB.1
  have hW : ∀ i j, B i j < 128 := hB.2.1
  obtain ⟨hFn, hox, ρ, hρ0, hρ⟩ := id hK
  have hoB : ∀ x, x ∈ ordF B n (B j 0) → x < 128 := fun x hx => by have := hox x hx; omega
  obtain ⟨hFn2, hox2, ρ2, hρ20, hρ2⟩ := id hK2
  have hoB2 : ∀ x9, x9 ∈ ordF (u2 (u2 B j 7 (t0 + 1)) t0 6 (j + 1)) n (B j 0) → x9 < 128 := fun x9 hx => by have := hox2 x9 hx; omega
  refine v_aload_n F dX5_tie_0 rfl rfl ?_
  refine v_iload_n F dX5_tie_1 rfl ?_
  refine v_callV F 1 [_] rfl rfl rfl (c_isBox_in hI hT0 hCB hB hj) gX5_tie_X5_isBox rfl hd_X5_isBox ⟨⟨rfl, rfl⟩, ⟨(Nat.le_of_ble_eq_true rfl), (Nat.le_of_ble_eq_true rfl)⟩, ⟨(Nat.le_of_ble_eq_true rfl), (Nat.le_of_ble_eq_true rfl)⟩, (Nat.le_of_ble_eq_true rfl)⟩ hI.x rfl dX5_tie_2 (fun v2 M2 q2 => ?_)
  obtain ⟨rfl, e2⟩ := q2
  replace e2 := e2.symm
  subst e2
  refine v_if_eq_b F 20 dX5_tie_5 (by decide) (fun c5 => ?_) (fun c5 => ?_)
  · exact absurd c5 (by simp [hg])
  · refine v_aload_n F dX5_tie_8 rfl rfl ?_
    refine v_iload_n F dX5_tie_9 rfl ?_
    refine v_callV F 1 [_] rfl rfl rfl (c_isBox_in hI hT0 hCB hB ht) gX5_tie_X5_isBox rfl hd_X5_isBox ⟨⟨rfl, rfl⟩, ⟨(Nat.le_of_ble_eq_true rfl), (Nat.le_of_ble_eq_true rfl)⟩, ⟨(Nat.le_of_ble_eq_true rfl), (Nat.le_of_ble_eq_true rfl)⟩, (Nat.le_of_ble_eq_true rfl)⟩ hI.x rfl dX5_tie_10 (fun v10 M10 q10 => ?_)
    obtain ⟨rfl, e10⟩ := q10
    replace e10 := e10.symm
    subst e10
    refine v_if_eq_b F 20 dX5_tie_13 (by decide) (fun c13 => ?_) (fun c13 => ?_)
    · exact absurd c13 (by simp [hgt])
    · refine v_iconst (v := nI 1) F dX5_tie_16 (by decide) ?_
      refine v_goto F 21 dX5_tie_17 (by decide) ?_
      first | refine V.toI (show nI 1 = bI true from rfl) ?_ | refine V.toI (show nI 0 = bI false from rfl) ?_
      refine v_istore_n F dX5_tie_21 (Nat.le_of_ble_eq_true rfl) (ok2_d rfl) ?_
      refine v_iload_n F dX5_tie_22 rfl ?_
      refine v_if_eq_b F 50 dX5_tie_23 (by decide) (fun c23 => ?_) (fun c23 => ?_)
      · exact absurd c23 (by simp)
      · refine v_aload_n F dX5_tie_26 rfl rfl ?_
        refine v_get F 5 1 fo_X5_tie_7 dX5_tie_27 hI.x rfl ?_
        refine v_iload_n F dX5_tie_30 rfl ?_
        refine v_iald_n F dX5_tie_31 (hI.r (f := 1) (sz := 24) (bl := 0) (by simp [isRow]) (by decide) (by decide)) (by first | omega | exact Nat.lt_trans (hW _ _) (by decide)) (by decide) ?_
        refine V.toI ((hCB j hj).1) ?_
        refine v_aload_n F dX5_tie_32 rfl rfl ?_
        refine v_get F 5 1 fo_X5_tie_7 dX5_tie_33 hI.x rfl ?_
        refine v_iload_n F dX5_tie_36 rfl ?_
        refine v_iald_n F dX5_tie_37 (hI.r (f := 1) (sz := 24) (bl := 0) (by simp [isRow]) (by decide) (by decide)) (by first | omega | exact Nat.lt_trans (hW _ _) (by decide)) (by decide) ?_
        refine V.toI ((hCB t0 ht).1) ?_
        refine v_icmp_ne_n F 50 dX5_tie_38 (by decide) (by first | omega | exact Nat.lt_trans (hW _ _) (by decide)) (by first | omega | exact Nat.lt_trans (hW _ _) (by decide)) (fun c38 => ?_) (fun c38 => ?_)
        · exact absurd hpp c38
        · refine v_iload_n F dX5_tie_41 rfl ?_
          refine v_iload_n F dX5_tie_42 rfl ?_
          refine v_icmp_eq_n F 50 dX5_tie_43 (by decide) (by first | omega | exact Nat.lt_trans (hW _ _) (by decide)) (by first | omega | exact Nat.lt_trans (hW _ _) (by decide)) (fun c43 => ?_) (fun c43 => ?_)
          · exact absurd c43 hjt
          · refine v_iconst (v := nI 1) F dX5_tie_46 (by decide) ?_
            refine v_goto F 51 dX5_tie_47 (by decide) ?_
            first | refine V.toI (show nI 1 = bI true from rfl) ?_ | refine V.toI (show nI 0 = bI false from rfl) ?_
            refine v_istore F dX5_tie_51 (Nat.le_of_ble_eq_true rfl) (ok2_d rfl) ?_
            refine v_aload_n F dX5_tie_53 rfl rfl ?_
            refine v_iload_n F dX5_tie_54 rfl ?_
            refine v_iload F dX5_tie_55 rfl ?_
            refine v_iload F dX5_tie_57 rfl ?_
            refine v_if_eq_b F 95 dX5_tie_59 (by decide) (fun c59 => ?_) (fun c59 => ?_)
            · exact absurd c59 (by simp)
            · refine v_aload_n F dX5_tie_62 rfl rfl ?_
              refine v_get F 5 8 fo_X5_tie_31 dX5_tie_63 hI.x rfl ?_
              refine v_iload_n F dX5_tie_66 rfl ?_
              refine v_iald_n F dX5_tie_67 (hI.r (f := 8) (sz := 24) (bl := 0) (by simp [isRow]) (by decide) (by decide)) (by first | omega | exact Nat.lt_trans (hW _ _) (by decide)) (by decide) ?_
              refine V.toI ((hCB j hj).2.2.2.2.2.2.2.1) ?_
              refine v_iconst (v := (-1)) F dX5_tie_68 (by decide) ?_
              refine v_icmp_ne F 95 dX5_tie_69 (by decide) (fun c69 => ?_) (fun c69 => ?_)
              · exact absurd ((oI_m1 (hW _ _)).mpr h7) c69
              · refine v_aload_n F dX5_tie_72 rfl rfl ?_
                refine v_get F 5 7 fo_X5_tie_28 dX5_tie_73 hI.x rfl ?_
                refine v_iload_n F dX5_tie_76 rfl ?_
                refine v_iald_n F dX5_tie_77 (hI.r (f := 7) (sz := 24) (bl := 0) (by simp [isRow]) (by decide) (by decide)) (by first | omega | exact Nat.lt_trans (hW _ _) (by decide)) (by decide) ?_
                refine V.toI ((hCB t0 ht).2.2.2.2.2.2.1) ?_
                refine v_iconst (v := (-1)) F dX5_tie_78 (by decide) ?_
                refine v_icmp_ne F 95 dX5_tie_79 (by decide) (fun c79 => ?_) (fun c79 => ?_)
                · exact absurd ((oI_m1 (hW _ _)).mpr h6) c79
                · refine v_aload_n F dX5_tie_82 rfl rfl ?_
                  refine v_iload_n F dX5_tie_83 rfl ?_
                  refine v_iload_n F dX5_tie_84 rfl ?_
                  refine v_callV F 2 [_, _] rfl rfl rfl (c_cb_f hI hT0 hCB hB hj ht hup ρ6 hρ6) gX5_tie_X5_comesBehind rfl hd_X5_comesBehind ⟨⟨rfl, rfl⟩, ⟨(Nat.le_of_ble_eq_true rfl), (Nat.le_of_ble_eq_true rfl)⟩, ⟨(Nat.le_of_ble_eq_true rfl), (Nat.le_of_ble_eq_true rfl)⟩, (Nat.le_of_ble_eq_true rfl)⟩ hI.x rfl dX5_tie_85 (fun v85 M85 q85 => ?_)
                  obtain ⟨rfl, e85⟩ := q85
                  replace e85 := e85.symm
                  subst e85
                  refine v_if_ne_b F 95 dX5_tie_88 (by decide) (fun c88 => ?_) (fun c88 => ?_)
                  · exact absurd c88 (by decide)
                  · refine v_iconst (v := nI 1) F dX5_tie_91 (by decide) ?_
                    refine v_goto F 96 dX5_tie_92 (by decide) ?_
                    first | refine V.toI (show nI 1 = bI true from rfl) ?_ | refine V.toI (show nI 0 = bI false from rfl) ?_
                    refine v_callV F 3 [_, _, _] rfl rfl rfl (c_X5_goes hI hWf) gX5_tie_X5_goes rfl hd_X5_goes ⟨⟨rfl, rfl⟩, ⟨(Nat.le_of_ble_eq_true rfl), (Nat.le_of_ble_eq_true rfl)⟩, ⟨(Nat.le_of_ble_eq_true rfl), (Nat.le_of_ble_eq_true rfl)⟩, (Nat.le_of_ble_eq_true rfl)⟩ hI.x rfl dX5_tie_96 (fun v96 M96 q96 => ?_)
                    obtain ⟨rfl, hI1, hF1⟩ := q96
                    refine v_if_ne_b F 104 dX5_tie_99 (by decide) (fun c99 => ?_) (fun c99 => ?_)
                    · refine v_aload_n F dX5_tie_104 rfl rfl ?_
                      refine v_aload_n F dX5_tie_105 rfl rfl ?_
                      refine v_get F 5 1 fo_X5_tie_7 dX5_tie_106 hI1.x rfl ?_
                      refine v_iload_n F dX5_tie_109 rfl ?_
                      refine v_iald_n F dX5_tie_110 (hI1.r (f := 1) (sz := 24) (bl := 0) (by simp [isRow]) (by decide) (by decide)) (by first | omega | exact Nat.lt_trans (hW _ _) (by decide)) (by decide) ?_
                      refine V.toI ((hCB j hj).1) ?_
                      refine v_callV F 1 [_] rfl rfl rfl (c_keeps hI1 ((uT_n (by decide)).trans hT0) hCB hB hWf ρ hρ0 hρ hp hFn) gX5_tie_X5_keeps rfl hd_X5_keeps ⟨⟨rfl, rfl⟩, ⟨(Nat.le_of_ble_eq_true rfl), (Nat.le_of_ble_eq_true rfl)⟩, ⟨(Nat.le_of_ble_eq_true rfl), (Nat.le_of_ble_eq_true rfl)⟩, (Nat.le_of_ble_eq_true rfl)⟩ hI1.x rfl dX5_tie_111 (fun v111 M111 q111 => ?_)
                      obtain ⟨rfl, C1, T1, hI2, hF2, hs2, h16, h17⟩ := q111
                      have hCB1 : CB C1 B n := hCB.sm hs2.1
                      refine v_aload_n F dX5_tie_114 rfl rfl ?_
                      refine v_get F 5 8 fo_X5_tie_31 dX5_tie_115 hI2.x rfl ?_
                      refine v_iload_n F dX5_tie_118 rfl ?_
                      refine v_iload_n F dX5_tie_119 rfl ?_
                      refine v_iast_n F dX5_tie_120 (hI2.r (f := 8) (sz := 24) (bl := 0) (by simp [isRow]) (by decide) (by decide)) (by first | omega | exact Nat.lt_trans (hW _ _) (by decide)) (by decide) ?_
                      have hI3 := hI2.setC (f := 8) (sz := 24) (bl := 0) (by simp [isRow]) (by decide) (by decide) (upd (C1 8) j (nI t0))
                      refine v_aload_n F dX5_tie_121 rfl rfl ?_
                      refine v_get F 5 7 fo_X5_tie_28 dX5_tie_122 hI3.x rfl ?_
                      refine v_iload_n F dX5_tie_125 rfl ?_
                      refine v_iload_n F dX5_tie_126 rfl ?_
                      refine v_iast_n F dX5_tie_127 (hI3.r (f := 7) (sz := 24) (bl := 0) (by simp [isRow]) (by decide) (by decide)) (by first | omega | exact Nat.lt_trans (hW _ _) (by decide)) (by decide) ?_
                      have hI4 := hI3.setC (f := 7) (sz := 24) (bl := 0) (by simp [isRow]) (by decide) (by decide) (upd (uC C1 8 (upd (C1 8) j (nI t0)) 7) t0 (nI j))
                      have hCB4 := (hCB1.up7 (j := j) (v := t0 + 1) (w := nI t0) 8 7 (by decide) rfl).up7 (j := t0) (v := j + 1) (w := nI j) 7 6 (by decide) rfl
                      refine v_aload_n F dX5_tie_128 rfl rfl ?_
                      refine v_aload_n F dX5_tie_129 rfl rfl ?_
                      refine v_get F 5 1 fo_X5_tie_7 dX5_tie_130 hI4.x rfl ?_
                      refine v_iload_n F dX5_tie_133 rfl ?_
                      refine v_iald_n F dX5_tie_134 (hI4.r (f := 1) (sz := 24) (bl := 0) (by simp [isRow]) (by decide) (by decide)) (by first | omega | exact Nat.lt_trans (hW _ _) (by decide)) (by decide) ?_
                      refine V.toI ((hCB4 j hj).1.trans (show nI ((u2 (u2 B j 7 (t0 + 1)) t0 6 (j + 1)) j 0) = nI (B j 0) by simp [u2])) ?_
                      refine v_callV F 1 [_] rfl rfl rfl (c_falls hI4 ((hs2.2 0 (by decide) (by decide) (by decide)).trans ((uT_n (by decide)).trans hT0)) hCB4 hB2 hWf ρ2 hρ20 hρ2 ((hs2.2 10 (by decide) (by decide) (by decide)).trans ((uT_n (by decide)).trans hT10)) (hCP.sm (by rw [uC_n (by decide), uC_n (by decide), hs2.1 11 (by decide) (by decide) (by decide)]) (by rw [uC_n (by decide), uC_n (by decide), hs2.1 12 (by decide) (by decide) (by decide)]) (by rw [uC_n (by decide), uC_n (by decide), hs2.1 13 (by decide) (by decide) (by decide)])) hk hWP hp hFn2 (u := ordF B n (B j 0)) h16 (by rw [uC_n (by decide), uC_n (by decide)]; exact h17) hFn.2.2.2.2 hoB hoB2) gX5_tie_X5_falls rfl hd_X5_falls ⟨⟨rfl, rfl⟩, ⟨(Nat.le_of_ble_eq_true rfl), (Nat.le_of_ble_eq_true rfl)⟩, ⟨(Nat.le_of_ble_eq_true rfl), (Nat.le_of_ble_eq_true rfl)⟩, (Nat.le_of_ble_eq_true rfl)⟩ hI4.x rfl dX5_tie_135 (fun v135 M135 q135 => ?_)
                      obtain ⟨C5, T5, P9, c9, rfl, hI5, hF5, g1, g2, g3, g4, g5⟩ := q135
                      exact v_iret F hr dX5_tie_138 (Nat.le_of_ble_eq_true rfl) (Nat.le_of_ble_eq_true rfl) ⟨P9, c9, rfl, ⟨C5, T5, hI5, (g2 0 (by decide) (by decide)).trans ((hs2.2 0 (by decide) (by decide) (by decide)).trans ((uT_n (by decide)).trans hT0)), (g2 10 (by decide) (by decide)).trans ((hs2.2 10 (by decide) (by decide) (by decide)).trans ((uT_n (by decide)).trans hT10)), (g2 20 (by decide) (by decide)).trans ((hs2.2 20 (by decide) (by decide) (by decide)).trans (uT_s.trans (by simp [thr, hg]))), hCB4.sm9 (fun f h => g1 f (by omega) (by omega) (by omega)), g3, fun q hq => by rw [g1 9 (by decide) (by decide) (by decide), uC_n (by decide), uC_n (by decide), hs2.1 9 (by decide) (by decide) (by decide)]; exact h9 q hq, fun q hq => by rw [g5 q hq, uC_n (by decide), uC_n (by decide), hs2.1 13 (by decide) (by decide) (by decide)]; exact h13 q hq, hB2, hk, by rcases g4 with ⟨-, -, rfl⟩ | ⟨-, -, rfl⟩; exact hWP; exact lfP_lt hWP _ 20⟩, ((((hF1.tr hF2).up (hWf 8)).up (hWf 7)).tr hF5), g4⟩
                    · exact absurd c99 (by simp)
set_option maxHeartbeats 4000000 in
set_option maxRecDepth 100000 in
theorem c_Mtie_x1 {l : Launch} {ω : Om} {M : MM} {Y : Nat → Nat} {B P : FF} {n k t : Nat} (hS : MS ω Y B P n k t M) {W : Nat → Prop} (hWf : ∀ f, W (Y f)) {j t0 : Int32} (hj : j < 0 ∨ nI n ≤ j) : Ct l ω yX5_tie wsX5_tie rmX5_tie [.ref (Y 0), .int j, .int t0] M (fun v M9 => v = some (.int (nI 0)) ∧ MS ω Y B P n k 1 M9 ∧ Fr W M M9) 0 0 := by
  refine Ct.ofV (cc := cX5_tie) (maxL := 5) (ret := (some .int)) [some (.ref (Y 0)), some (.int j), some (.int t0), none, none] (by decide) rfl (Nat.le_of_ble_eq_true rfl) rfl (Lc.av (av := [.ref (Y 0), .int j, .int t0]) (k := 2) rfl) ?_
  intro σ F hl hr hname
  have F : Fx ω σ cX5_tie 5 wsX5_tie RX5 rmX5_tie := F
  obtain ⟨C, T, hI, hT0, hT10, hT20, hCB, hCP, h9, h13, hB, hk, hWP⟩ := hS
  have hn : n ≤ 24 := hB.1
  have hW : ∀ i j, B i j < 128 := hB.2.1
  refine v_aload_n F dX5_tie_0 rfl rfl ?_
  refine v_iload_n F dX5_tie_1 rfl ?_
  refine v_callV F 1 [_] rfl rfl rfl (c_isBox_out hI hT0 hCB hB hj) gX5_tie_X5_isBox rfl hd_X5_isBox ⟨⟨rfl, rfl⟩, ⟨(Nat.le_of_ble_eq_true rfl), (Nat.le_of_ble_eq_true rfl)⟩, ⟨(Nat.le_of_ble_eq_true rfl), (Nat.le_of_ble_eq_true rfl)⟩, (Nat.le_of_ble_eq_true rfl)⟩ hI.x rfl dX5_tie_2 (fun v2 M2 q2 => ?_)
  obtain ⟨rfl, e2⟩ := q2
  replace e2 := e2.symm
  subst e2
  refine v_if_eq_b F 20 dX5_tie_5 (by decide) (fun c5 => ?_) (fun c5 => ?_)
  · refine v_iconst (v := nI 0) F dX5_tie_20 (by decide) ?_
    first | refine V.toI (show nI 1 = bI true from rfl) ?_ | refine V.toI (show nI 0 = bI false from rfl) ?_
    refine v_istore_n F dX5_tie_21 (Nat.le_of_ble_eq_true rfl) (ok2_d rfl) ?_
    refine v_iload_n F dX5_tie_22 rfl ?_
    refine v_if_eq_b F 50 dX5_tie_23 (by decide) (fun c23 => ?_) (fun c23 => ?_)
    · refine v_iconst (v := nI 0) F dX5_tie_50 (by decide) ?_
      first | refine V.toI (show nI 1 = bI true from rfl) ?_ | refine V.toI (show nI 0 = bI false from rfl) ?_
      refine v_istore F dX5_tie_51 (Nat.le_of_ble_eq_true rfl) (ok2_d rfl) ?_
      refine v_aload_n F dX5_tie_53 rfl rfl ?_
      refine v_iload_n F dX5_tie_54 rfl ?_
      refine v_iload F dX5_tie_55 rfl ?_
      refine v_iload F dX5_tie_57 rfl ?_
      refine v_if_eq_b F 95 dX5_tie_59 (by decide) (fun c59 => ?_) (fun c59 => ?_)
      · refine v_iconst (v := nI 0) F dX5_tie_95 (by decide) ?_
        first | refine V.toI (show nI 1 = bI true from rfl) ?_ | refine V.toI (show nI 0 = bI false from rfl) ?_
        refine v_callV F 3 [_, _, _] rfl rfl rfl (c_X5_goes hI hWf) gX5_tie_X5_goes rfl hd_X5_goes ⟨⟨rfl, rfl⟩, ⟨(Nat.le_of_ble_eq_true rfl), (Nat.le_of_ble_eq_true rfl)⟩, ⟨(Nat.le_of_ble_eq_true rfl), (Nat.le_of_ble_eq_true rfl)⟩, (Nat.le_of_ble_eq_true rfl)⟩ hI.x rfl dX5_tie_96 (fun v96 M96 q96 => ?_)
        obtain ⟨rfl, hI1, hF1⟩ := q96
        refine v_if_ne_b F 104 dX5_tie_99 (by decide) (fun c99 => ?_) (fun c99 => ?_)
        · exact absurd c99 (by simp)
        · refine v_iconst (v := nI 0) F dX5_tie_102 (by decide) ?_
          exact v_iret F hr dX5_tie_103 (Nat.le_of_ble_eq_true rfl) (Nat.le_of_ble_eq_true rfl) ⟨rfl, MS.q (t0 := 0) hI1 Sm2.rf hT0 hT10 hCB hCP h9 h13 hB hk hWP, hF1⟩
      · exact absurd c59 (by simp)
    · exact absurd c23 (by simp)
  · exact absurd c5 (by decide)
set_option maxHeartbeats 4000000 in
set_option maxRecDepth 100000 in
theorem c_Mtie_g1 {l : Launch} {ω : Om} {M : MM} {Y : Nat → Nat} {B P : FF} {n k t : Nat} (hS : MS ω Y B P n k t M) {W : Nat → Prop} (hWf : ∀ f, W (Y f)) {j : Nat} {t0 : Int32} (hj : j < n) (hg : B j 8 ≠ 0) : Ct l ω yX5_tie wsX5_tie rmX5_tie [.ref (Y 0), .int (nI j), .int t0] M (fun v M9 => v = some (.int (nI 0)) ∧ MS ω Y B P n k 1 M9 ∧ Fr W M M9) 0 0 := by
  refine Ct.ofV (cc := cX5_tie) (maxL := 5) (ret := (some .int)) [some (.ref (Y 0)), some (.int (nI j)), some (.int t0), none, none] (by decide) rfl (Nat.le_of_ble_eq_true rfl) rfl (Lc.av (av := [.ref (Y 0), .int (nI j), .int t0]) (k := 2) rfl) ?_
  intro σ F hl hr hname
  have F : Fx ω σ cX5_tie 5 wsX5_tie RX5 rmX5_tie := F
  obtain ⟨C, T, hI, hT0, hT10, hT20, hCB, hCP, h9, h13, hB, hk, hWP⟩ := hS
  have hn : n ≤ 24 := hB.1
  have hW : ∀ i j, B i j < 128 := hB.2.1
  refine v_aload_n F dX5_tie_0 rfl rfl ?_
  refine v_iload_n F dX5_tie_1 rfl ?_
  refine v_callV F 1 [_] rfl rfl rfl (c_isBox_in hI hT0 hCB hB hj) gX5_tie_X5_isBox rfl hd_X5_isBox ⟨⟨rfl, rfl⟩, ⟨(Nat.le_of_ble_eq_true rfl), (Nat.le_of_ble_eq_true rfl)⟩, ⟨(Nat.le_of_ble_eq_true rfl), (Nat.le_of_ble_eq_true rfl)⟩, (Nat.le_of_ble_eq_true rfl)⟩ hI.x rfl dX5_tie_2 (fun v2 M2 q2 => ?_)
  obtain ⟨rfl, e2⟩ := q2
  replace e2 := e2.symm
  subst e2
  refine v_if_eq_b F 20 dX5_tie_5 (by decide) (fun c5 => ?_) (fun c5 => ?_)
  · refine v_iconst (v := nI 0) F dX5_tie_20 (by decide) ?_
    first | refine V.toI (show nI 1 = bI true from rfl) ?_ | refine V.toI (show nI 0 = bI false from rfl) ?_
    refine v_istore_n F dX5_tie_21 (Nat.le_of_ble_eq_true rfl) (ok2_d rfl) ?_
    refine v_iload_n F dX5_tie_22 rfl ?_
    refine v_if_eq_b F 50 dX5_tie_23 (by decide) (fun c23 => ?_) (fun c23 => ?_)
    · refine v_iconst (v := nI 0) F dX5_tie_50 (by decide) ?_
      first | refine V.toI (show nI 1 = bI true from rfl) ?_ | refine V.toI (show nI 0 = bI false from rfl) ?_
      refine v_istore F dX5_tie_51 (Nat.le_of_ble_eq_true rfl) (ok2_d rfl) ?_
      refine v_aload_n F dX5_tie_53 rfl rfl ?_
      refine v_iload_n F dX5_tie_54 rfl ?_
      refine v_iload F dX5_tie_55 rfl ?_
      refine v_iload F dX5_tie_57 rfl ?_
      refine v_if_eq_b F 95 dX5_tie_59 (by decide) (fun c59 => ?_) (fun c59 => ?_)
      · refine v_iconst (v := nI 0) F dX5_tie_95 (by decide) ?_
        first | refine V.toI (show nI 1 = bI true from rfl) ?_ | refine V.toI (show nI 0 = bI false from rfl) ?_
        refine v_callV F 3 [_, _, _] rfl rfl rfl (c_X5_goes hI hWf) gX5_tie_X5_goes rfl hd_X5_goes ⟨⟨rfl, rfl⟩, ⟨(Nat.le_of_ble_eq_true rfl), (Nat.le_of_ble_eq_true rfl)⟩, ⟨(Nat.le_of_ble_eq_true rfl), (Nat.le_of_ble_eq_true rfl)⟩, (Nat.le_of_ble_eq_true rfl)⟩ hI.x rfl dX5_tie_96 (fun v96 M96 q96 => ?_)
        obtain ⟨rfl, hI1, hF1⟩ := q96
        refine v_if_ne_b F 104 dX5_tie_99 (by decide) (fun c99 => ?_) (fun c99 => ?_)
        · exact absurd c99 (by simp)
        · refine v_iconst (v := nI 0) F dX5_tie_102 (by decide) ?_
          exact v_iret F hr dX5_tie_103 (Nat.le_of_ble_eq_true rfl) (Nat.le_of_ble_eq_true rfl) ⟨rfl, MS.q (t0 := 0) hI1 Sm2.rf hT0 hT10 hCB hCP h9 h13 hB hk hWP, hF1⟩
      · exact absurd c59 (by simp)
    · exact absurd c23 (by simp)
  · exact absurd c5 (by simp [hg])
set_option maxHeartbeats 4000000 in
set_option maxRecDepth 100000 in
theorem c_Mtie_x2 {l : Launch} {ω : Om} {M : MM} {Y : Nat → Nat} {B P : FF} {n k t : Nat} (hS : MS ω Y B P n k t M) {W : Nat → Prop} (hWf : ∀ f, W (Y f)) {j : Nat} {t0 : Int32} (hj : j < n) (hg : B j 8 = 0) (ht : t0 < 0 ∨ nI n ≤ t0) : Ct l ω yX5_tie wsX5_tie rmX5_tie [.ref (Y 0), .int (nI j), .int t0] M (fun v M9 => v = some (.int (nI 0)) ∧ MS ω Y B P n k 1 M9 ∧ Fr W M M9) 0 0 := by
  refine Ct.ofV (cc := cX5_tie) (maxL := 5) (ret := (some .int)) [some (.ref (Y 0)), some (.int (nI j)), some (.int t0), none, none] (by decide) rfl (Nat.le_of_ble_eq_true rfl) rfl (Lc.av (av := [.ref (Y 0), .int (nI j), .int t0]) (k := 2) rfl) ?_
  intro σ F hl hr hname
  have F : Fx ω σ cX5_tie 5 wsX5_tie RX5 rmX5_tie := F
  obtain ⟨C, T, hI, hT0, hT10, hT20, hCB, hCP, h9, h13, hB, hk, hWP⟩ := hS
  have hn : n ≤ 24 := hB.1
  have hW : ∀ i j, B i j < 128 := hB.2.1
  refine v_aload_n F dX5_tie_0 rfl rfl ?_
  refine v_iload_n F dX5_tie_1 rfl ?_
  refine v_callV F 1 [_] rfl rfl rfl (c_isBox_in hI hT0 hCB hB hj) gX5_tie_X5_isBox rfl hd_X5_isBox ⟨⟨rfl, rfl⟩, ⟨(Nat.le_of_ble_eq_true rfl), (Nat.le_of_ble_eq_true rfl)⟩, ⟨(Nat.le_of_ble_eq_true rfl), (Nat.le_of_ble_eq_true rfl)⟩, (Nat.le_of_ble_eq_true rfl)⟩ hI.x rfl dX5_tie_2 (fun v2 M2 q2 => ?_)
  obtain ⟨rfl, e2⟩ := q2
  replace e2 := e2.symm
  subst e2
  refine v_if_eq_b F 20 dX5_tie_5 (by decide) (fun c5 => ?_) (fun c5 => ?_)
  · exact absurd c5 (by simp [hg])
  · refine v_aload_n F dX5_tie_8 rfl rfl ?_
    refine v_iload_n F dX5_tie_9 rfl ?_
    refine v_callV F 1 [_] rfl rfl rfl (c_isBox_out hI hT0 hCB hB ht) gX5_tie_X5_isBox rfl hd_X5_isBox ⟨⟨rfl, rfl⟩, ⟨(Nat.le_of_ble_eq_true rfl), (Nat.le_of_ble_eq_true rfl)⟩, ⟨(Nat.le_of_ble_eq_true rfl), (Nat.le_of_ble_eq_true rfl)⟩, (Nat.le_of_ble_eq_true rfl)⟩ hI.x rfl dX5_tie_10 (fun v10 M10 q10 => ?_)
    obtain ⟨rfl, e10⟩ := q10
    replace e10 := e10.symm
    subst e10
    refine v_if_eq_b F 20 dX5_tie_13 (by decide) (fun c13 => ?_) (fun c13 => ?_)
    · refine v_iconst (v := nI 0) F dX5_tie_20 (by decide) ?_
      first | refine V.toI (show nI 1 = bI true from rfl) ?_ | refine V.toI (show nI 0 = bI false from rfl) ?_
      refine v_istore_n F dX5_tie_21 (Nat.le_of_ble_eq_true rfl) (ok2_d rfl) ?_
      refine v_iload_n F dX5_tie_22 rfl ?_
      refine v_if_eq_b F 50 dX5_tie_23 (by decide) (fun c23 => ?_) (fun c23 => ?_)
      · refine v_iconst (v := nI 0) F dX5_tie_50 (by decide) ?_
        first | refine V.toI (show nI 1 = bI true from rfl) ?_ | refine V.toI (show nI 0 = bI false from rfl) ?_
        refine v_istore F dX5_tie_51 (Nat.le_of_ble_eq_true rfl) (ok2_d rfl) ?_
        refine v_aload_n F dX5_tie_53 rfl rfl ?_
        refine v_iload_n F dX5_tie_54 rfl ?_
        refine v_iload F dX5_tie_55 rfl ?_
        refine v_iload F dX5_tie_57 rfl ?_
        refine v_if_eq_b F 95 dX5_tie_59 (by decide) (fun c59 => ?_) (fun c59 => ?_)
        · refine v_iconst (v := nI 0) F dX5_tie_95 (by decide) ?_
          first | refine V.toI (show nI 1 = bI true from rfl) ?_ | refine V.toI (show nI 0 = bI false from rfl) ?_
          refine v_callV F 3 [_, _, _] rfl rfl rfl (c_X5_goes hI hWf) gX5_tie_X5_goes rfl hd_X5_goes ⟨⟨rfl, rfl⟩, ⟨(Nat.le_of_ble_eq_true rfl), (Nat.le_of_ble_eq_true rfl)⟩, ⟨(Nat.le_of_ble_eq_true rfl), (Nat.le_of_ble_eq_true rfl)⟩, (Nat.le_of_ble_eq_true rfl)⟩ hI.x rfl dX5_tie_96 (fun v96 M96 q96 => ?_)
          obtain ⟨rfl, hI1, hF1⟩ := q96
          refine v_if_ne_b F 104 dX5_tie_99 (by decide) (fun c99 => ?_) (fun c99 => ?_)
          · exact absurd c99 (by simp)
          · refine v_iconst (v := nI 0) F dX5_tie_102 (by decide) ?_
            exact v_iret F hr dX5_tie_103 (Nat.le_of_ble_eq_true rfl) (Nat.le_of_ble_eq_true rfl) ⟨rfl, MS.q (t0 := 0) hI1 Sm2.rf hT0 hT10 hCB hCP h9 h13 hB hk hWP, hF1⟩
        · exact absurd c59 (by simp)
      · exact absurd c23 (by simp)
    · exact absurd c13 (by decide)
set_option maxHeartbeats 4000000 in
set_option maxRecDepth 100000 in
theorem c_Mtie_g2 {l : Launch} {ω : Om} {M : MM} {Y : Nat → Nat} {B P : FF} {n k t : Nat} (hS : MS ω Y B P n k t M) {W : Nat → Prop} (hWf : ∀ f, W (Y f)) {j t0 : Nat} (hj : j < n) (hg : B j 8 = 0) (ht : t0 < n) (hgt : B t0 8 ≠ 0) : Ct l ω yX5_tie wsX5_tie rmX5_tie [.ref (Y 0), .int (nI j), .int (nI t0)] M (fun v M9 => v = some (.int (nI 0)) ∧ MS ω Y B P n k 1 M9 ∧ Fr W M M9) 0 0 := by
  refine Ct.ofV (cc := cX5_tie) (maxL := 5) (ret := (some .int)) [some (.ref (Y 0)), some (.int (nI j)), some (.int (nI t0)), none, none] (by decide) rfl (Nat.le_of_ble_eq_true rfl) rfl (Lc.av (av := [.ref (Y 0), .int (nI j), .int (nI t0)]) (k := 2) rfl) ?_
  intro σ F hl hr hname
  have F : Fx ω σ cX5_tie 5 wsX5_tie RX5 rmX5_tie := F
  obtain ⟨C, T, hI, hT0, hT10, hT20, hCB, hCP, h9, h13, hB, hk, hWP⟩ := hS
  have hn : n ≤ 24 := hB.1
  have hW : ∀ i j, B i j < 128 := hB.2.1
  refine v_aload_n F dX5_tie_0 rfl rfl ?_
  refine v_iload_n F dX5_tie_1 rfl ?_
  refine v_callV F 1 [_] rfl rfl rfl (c_isBox_in hI hT0 hCB hB hj) gX5_tie_X5_isBox rfl hd_X5_isBox ⟨⟨rfl, rfl⟩, ⟨(Nat.le_of_ble_eq_true rfl), (Nat.le_of_ble_eq_true rfl)⟩, ⟨(Nat.le_of_ble_eq_true rfl), (Nat.le_of_ble_eq_true rfl)⟩, (Nat.le_of_ble_eq_true rfl)⟩ hI.x rfl dX5_tie_2 (fun v2 M2 q2 => ?_)
  obtain ⟨rfl, e2⟩ := q2
  replace e2 := e2.symm
  subst e2
  refine v_if_eq_b F 20 dX5_tie_5 (by decide) (fun c5 => ?_) (fun c5 => ?_)
  · exact absurd c5 (by simp [hg])
  · refine v_aload_n F dX5_tie_8 rfl rfl ?_
    refine v_iload_n F dX5_tie_9 rfl ?_
    refine v_callV F 1 [_] rfl rfl rfl (c_isBox_in hI hT0 hCB hB ht) gX5_tie_X5_isBox rfl hd_X5_isBox ⟨⟨rfl, rfl⟩, ⟨(Nat.le_of_ble_eq_true rfl), (Nat.le_of_ble_eq_true rfl)⟩, ⟨(Nat.le_of_ble_eq_true rfl), (Nat.le_of_ble_eq_true rfl)⟩, (Nat.le_of_ble_eq_true rfl)⟩ hI.x rfl dX5_tie_10 (fun v10 M10 q10 => ?_)
    obtain ⟨rfl, e10⟩ := q10
    replace e10 := e10.symm
    subst e10
    refine v_if_eq_b F 20 dX5_tie_13 (by decide) (fun c13 => ?_) (fun c13 => ?_)
    · refine v_iconst (v := nI 0) F dX5_tie_20 (by decide) ?_
      first | refine V.toI (show nI 1 = bI true from rfl) ?_ | refine V.toI (show nI 0 = bI false from rfl) ?_
      refine v_istore_n F dX5_tie_21 (Nat.le_of_ble_eq_true rfl) (ok2_d rfl) ?_
      refine v_iload_n F dX5_tie_22 rfl ?_
      refine v_if_eq_b F 50 dX5_tie_23 (by decide) (fun c23 => ?_) (fun c23 => ?_)
      · refine v_iconst (v := nI 0) F dX5_tie_50 (by decide) ?_
        first | refine V.toI (show nI 1 = bI true from rfl) ?_ | refine V.toI (show nI 0 = bI false from rfl) ?_
        refine v_istore F dX5_tie_51 (Nat.le_of_ble_eq_true rfl) (ok2_d rfl) ?_
        refine v_aload_n F dX5_tie_53 rfl rfl ?_
        refine v_iload_n F dX5_tie_54 rfl ?_
        refine v_iload F dX5_tie_55 rfl ?_
        refine v_iload F dX5_tie_57 rfl ?_
        refine v_if_eq_b F 95 dX5_tie_59 (by decide) (fun c59 => ?_) (fun c59 => ?_)
        · refine v_iconst (v := nI 0) F dX5_tie_95 (by decide) ?_
          first | refine V.toI (show nI 1 = bI true from rfl) ?_ | refine V.toI (show nI 0 = bI false from rfl) ?_
          refine v_callV F 3 [_, _, _] rfl rfl rfl (c_X5_goes hI hWf) gX5_tie_X5_goes rfl hd_X5_goes ⟨⟨rfl, rfl⟩, ⟨(Nat.le_of_ble_eq_true rfl), (Nat.le_of_ble_eq_true rfl)⟩, ⟨(Nat.le_of_ble_eq_true rfl), (Nat.le_of_ble_eq_true rfl)⟩, (Nat.le_of_ble_eq_true rfl)⟩ hI.x rfl dX5_tie_96 (fun v96 M96 q96 => ?_)
          obtain ⟨rfl, hI1, hF1⟩ := q96
          refine v_if_ne_b F 104 dX5_tie_99 (by decide) (fun c99 => ?_) (fun c99 => ?_)
          · exact absurd c99 (by simp)
          · refine v_iconst (v := nI 0) F dX5_tie_102 (by decide) ?_
            exact v_iret F hr dX5_tie_103 (Nat.le_of_ble_eq_true rfl) (Nat.le_of_ble_eq_true rfl) ⟨rfl, MS.q (t0 := 0) hI1 Sm2.rf hT0 hT10 hCB hCP h9 h13 hB hk hWP, hF1⟩
        · exact absurd c59 (by simp)
      · exact absurd c23 (by simp)
    · exact absurd c13 (by simp [hgt])
set_option maxHeartbeats 4000000 in
set_option maxRecDepth 100000 in
theorem c_Mtie_pg {l : Launch} {ω : Om} {M : MM} {Y : Nat → Nat} {B P : FF} {n k t : Nat} (hS : MS ω Y B P n k t M) {W : Nat → Prop} (hWf : ∀ f, W (Y f)) {j t0 : Nat} (hj : j < n) (hg : B j 8 = 0) (ht : t0 < n) (hgt : B t0 8 = 0) (hpp : B j 0 ≠ B t0 0) : Ct l ω yX5_tie wsX5_tie rmX5_tie [.ref (Y 0), .int (nI j), .int (nI t0)] M (fun v M9 => v = some (.int (nI 0)) ∧ MS ω Y B P n k 2 M9 ∧ Fr W M M9) 0 0 := by
  refine Ct.ofV (cc := cX5_tie) (maxL := 5) (ret := (some .int)) [some (.ref (Y 0)), some (.int (nI j)), some (.int (nI t0)), none, none] (by decide) rfl (Nat.le_of_ble_eq_true rfl) rfl (Lc.av (av := [.ref (Y 0), .int (nI j), .int (nI t0)]) (k := 2) rfl) ?_
  intro σ F hl hr hname
  have F : Fx ω σ cX5_tie 5 wsX5_tie RX5 rmX5_tie := F
  obtain ⟨C, T, hI, hT0, hT10, hT20, hCB, hCP, h9, h13, hB, hk, hWP⟩ := hS
  have hn : n ≤ 24 := hB.1
  have hW : ∀ i j, B i j < 128 := hB.2.1
  refine v_aload_n F dX5_tie_0 rfl rfl ?_
  refine v_iload_n F dX5_tie_1 rfl ?_
  refine v_callV F 1 [_] rfl rfl rfl (c_isBox_in hI hT0 hCB hB hj) gX5_tie_X5_isBox rfl hd_X5_isBox ⟨⟨rfl, rfl⟩, ⟨(Nat.le_of_ble_eq_true rfl), (Nat.le_of_ble_eq_true rfl)⟩, ⟨(Nat.le_of_ble_eq_true rfl), (Nat.le_of_ble_eq_true rfl)⟩, (Nat.le_of_ble_eq_true rfl)⟩ hI.x rfl dX5_tie_2 (fun v2 M2 q2 => ?_)
  obtain ⟨rfl, e2⟩ := q2
  replace e2 := e2.symm
  subst e2
  refine v_if_eq_b F 20 dX5_tie_5 (by decide) (fun c5 => ?_) (fun c5 => ?_)
  · exact absurd c5 (by simp [hg])
  · refine v_aload_n F dX5_tie_8 rfl rfl ?_
    refine v_iload_n F dX5_tie_9 rfl ?_
    refine v_callV F 1 [_] rfl rfl rfl (c_isBox_in hI hT0 hCB hB ht) gX5_tie_X5_isBox rfl hd_X5_isBox ⟨⟨rfl, rfl⟩, ⟨(Nat.le_of_ble_eq_true rfl), (Nat.le_of_ble_eq_true rfl)⟩, ⟨(Nat.le_of_ble_eq_true rfl), (Nat.le_of_ble_eq_true rfl)⟩, (Nat.le_of_ble_eq_true rfl)⟩ hI.x rfl dX5_tie_10 (fun v10 M10 q10 => ?_)
    obtain ⟨rfl, e10⟩ := q10
    replace e10 := e10.symm
    subst e10
    refine v_if_eq_b F 20 dX5_tie_13 (by decide) (fun c13 => ?_) (fun c13 => ?_)
    · exact absurd c13 (by simp [hgt])
    · refine v_iconst (v := nI 1) F dX5_tie_16 (by decide) ?_
      refine v_goto F 21 dX5_tie_17 (by decide) ?_
      first | refine V.toI (show nI 1 = bI true from rfl) ?_ | refine V.toI (show nI 0 = bI false from rfl) ?_
      refine v_istore_n F dX5_tie_21 (Nat.le_of_ble_eq_true rfl) (ok2_d rfl) ?_
      refine v_iload_n F dX5_tie_22 rfl ?_
      refine v_if_eq_b F 50 dX5_tie_23 (by decide) (fun c23 => ?_) (fun c23 => ?_)
      · exact absurd c23 (by simp)
      · refine v_aload_n F dX5_tie_26 rfl rfl ?_
        refine v_get F 5 1 fo_X5_tie_7 dX5_tie_27 hI.x rfl ?_
        refine v_iload_n F dX5_tie_30 rfl ?_
        refine v_iald_n F dX5_tie_31 (hI.r (f := 1) (sz := 24) (bl := 0) (by simp [isRow]) (by decide) (by decide)) (by first | omega | exact Nat.lt_trans (hW _ _) (by decide)) (by decide) ?_
        refine V.toI ((hCB j hj).1) ?_
        refine v_aload_n F dX5_tie_32 rfl rfl ?_
        refine v_get F 5 1 fo_X5_tie_7 dX5_tie_33 hI.x rfl ?_
        refine v_iload_n F dX5_tie_36 rfl ?_
        refine v_iald_n F dX5_tie_37 (hI.r (f := 1) (sz := 24) (bl := 0) (by simp [isRow]) (by decide) (by decide)) (by first | omega | exact Nat.lt_trans (hW _ _) (by decide)) (by decide) ?_
        refine V.toI ((hCB t0 ht).1) ?_
        refine v_icmp_ne_n F 50 dX5_tie_38 (by decide) (by first | omega | exact Nat.lt_trans (hW _ _) (by decide)) (by first | omega | exact Nat.lt_trans (hW _ _) (by decide)) (fun c38 => ?_) (fun c38 => ?_)
        · refine v_iconst (v := nI 0) F dX5_tie_50 (by decide) ?_
          first | refine V.toI (show nI 1 = bI true from rfl) ?_ | refine V.toI (show nI 0 = bI false from rfl) ?_
          refine v_istore F dX5_tie_51 (Nat.le_of_ble_eq_true rfl) (ok2_d rfl) ?_
          refine v_aload_n F dX5_tie_53 rfl rfl ?_
          refine v_iload_n F dX5_tie_54 rfl ?_
          refine v_iload F dX5_tie_55 rfl ?_
          refine v_iload F dX5_tie_57 rfl ?_
          refine v_if_eq_b F 95 dX5_tie_59 (by decide) (fun c59 => ?_) (fun c59 => ?_)
          · refine v_iconst (v := nI 0) F dX5_tie_95 (by decide) ?_
            first | refine V.toI (show nI 1 = bI true from rfl) ?_ | refine V.toI (show nI 0 = bI false from rfl) ?_
            refine v_callV F 3 [_, _, _] rfl rfl rfl (c_X5_goes hI hWf) gX5_tie_X5_goes rfl hd_X5_goes ⟨⟨rfl, rfl⟩, ⟨(Nat.le_of_ble_eq_true rfl), (Nat.le_of_ble_eq_true rfl)⟩, ⟨(Nat.le_of_ble_eq_true rfl), (Nat.le_of_ble_eq_true rfl)⟩, (Nat.le_of_ble_eq_true rfl)⟩ hI.x rfl dX5_tie_96 (fun v96 M96 q96 => ?_)
            obtain ⟨rfl, hI1, hF1⟩ := q96
            refine v_if_ne_b F 104 dX5_tie_99 (by decide) (fun c99 => ?_) (fun c99 => ?_)
            · exact absurd c99 (by simp)
            · refine v_iconst (v := nI 0) F dX5_tie_102 (by decide) ?_
              exact v_iret F hr dX5_tie_103 (Nat.le_of_ble_eq_true rfl) (Nat.le_of_ble_eq_true rfl) ⟨rfl, MS.q (t0 := 0) hI1 Sm2.rf hT0 hT10 hCB hCP h9 h13 hB hk hWP, hF1⟩
          · exact absurd c59 (by simp)
        · exact absurd c38 hpp
set_option maxHeartbeats 4000000 in
set_option maxRecDepth 100000 in
theorem c_Mtie_own {l : Launch} {ω : Om} {M : MM} {Y : Nat → Nat} {B P : FF} {n k t : Nat} (hS : MS ω Y B P n k t M) {W : Nat → Prop} (hWf : ∀ f, W (Y f)) {j : Nat} (hj : j < n) (hg : B j 8 = 0) : Ct l ω yX5_tie wsX5_tie rmX5_tie [.ref (Y 0), .int (nI j), .int (nI j)] M (fun v M9 => v = some (.int (nI 0)) ∧ MS ω Y B P n k 2 M9 ∧ Fr W M M9) 0 0 := by
  refine Ct.ofV (cc := cX5_tie) (maxL := 5) (ret := (some .int)) [some (.ref (Y 0)), some (.int (nI j)), some (.int (nI j)), none, none] (by decide) rfl (Nat.le_of_ble_eq_true rfl) rfl (Lc.av (av := [.ref (Y 0), .int (nI j), .int (nI j)]) (k := 2) rfl) ?_
  intro σ F hl hr hname
  have F : Fx ω σ cX5_tie 5 wsX5_tie RX5 rmX5_tie := F
  obtain ⟨C, T, hI, hT0, hT10, hT20, hCB, hCP, h9, h13, hB, hk, hWP⟩ := hS
  have hn : n ≤ 24 := hB.1
  have hW : ∀ i j, B i j < 128 := hB.2.1
  refine v_aload_n F dX5_tie_0 rfl rfl ?_
  refine v_iload_n F dX5_tie_1 rfl ?_
  refine v_callV F 1 [_] rfl rfl rfl (c_isBox_in hI hT0 hCB hB hj) gX5_tie_X5_isBox rfl hd_X5_isBox ⟨⟨rfl, rfl⟩, ⟨(Nat.le_of_ble_eq_true rfl), (Nat.le_of_ble_eq_true rfl)⟩, ⟨(Nat.le_of_ble_eq_true rfl), (Nat.le_of_ble_eq_true rfl)⟩, (Nat.le_of_ble_eq_true rfl)⟩ hI.x rfl dX5_tie_2 (fun v2 M2 q2 => ?_)
  obtain ⟨rfl, e2⟩ := q2
  replace e2 := e2.symm
  subst e2
  refine v_if_eq_b F 20 dX5_tie_5 (by decide) (fun c5 => ?_) (fun c5 => ?_)
  · exact absurd c5 (by simp [hg])
  · refine v_aload_n F dX5_tie_8 rfl rfl ?_
    refine v_iload_n F dX5_tie_9 rfl ?_
    refine v_callV F 1 [_] rfl rfl rfl (c_isBox_in hI hT0 hCB hB hj) gX5_tie_X5_isBox rfl hd_X5_isBox ⟨⟨rfl, rfl⟩, ⟨(Nat.le_of_ble_eq_true rfl), (Nat.le_of_ble_eq_true rfl)⟩, ⟨(Nat.le_of_ble_eq_true rfl), (Nat.le_of_ble_eq_true rfl)⟩, (Nat.le_of_ble_eq_true rfl)⟩ hI.x rfl dX5_tie_10 (fun v10 M10 q10 => ?_)
    obtain ⟨rfl, e10⟩ := q10
    replace e10 := e10.symm
    subst e10
    refine v_if_eq_b F 20 dX5_tie_13 (by decide) (fun c13 => ?_) (fun c13 => ?_)
    · exact absurd c13 (by simp [hg])
    · refine v_iconst (v := nI 1) F dX5_tie_16 (by decide) ?_
      refine v_goto F 21 dX5_tie_17 (by decide) ?_
      first | refine V.toI (show nI 1 = bI true from rfl) ?_ | refine V.toI (show nI 0 = bI false from rfl) ?_
      refine v_istore_n F dX5_tie_21 (Nat.le_of_ble_eq_true rfl) (ok2_d rfl) ?_
      refine v_iload_n F dX5_tie_22 rfl ?_
      refine v_if_eq_b F 50 dX5_tie_23 (by decide) (fun c23 => ?_) (fun c23 => ?_)
      · exact absurd c23 (by simp)
      · refine v_aload_n F dX5_tie_26 rfl rfl ?_
        refine v_get F 5 1 fo_X5_tie_7 dX5_tie_27 hI.x rfl ?_
        refine v_iload_n F dX5_tie_30 rfl ?_
        refine v_iald_n F dX5_tie_31 (hI.r (f := 1) (sz := 24) (bl := 0) (by simp [isRow]) (by decide) (by decide)) (by first | omega | exact Nat.lt_trans (hW _ _) (by decide)) (by decide) ?_
        refine V.toI ((hCB j hj).1) ?_
        refine v_aload_n F dX5_tie_32 rfl rfl ?_
        refine v_get F 5 1 fo_X5_tie_7 dX5_tie_33 hI.x rfl ?_
        refine v_iload_n F dX5_tie_36 rfl ?_
        refine v_iald_n F dX5_tie_37 (hI.r (f := 1) (sz := 24) (bl := 0) (by simp [isRow]) (by decide) (by decide)) (by first | omega | exact Nat.lt_trans (hW _ _) (by decide)) (by decide) ?_
        refine V.toI ((hCB j hj).1) ?_
        refine v_icmp_ne_n F 50 dX5_tie_38 (by decide) (by first | omega | exact Nat.lt_trans (hW _ _) (by decide)) (by first | omega | exact Nat.lt_trans (hW _ _) (by decide)) (fun c38 => ?_) (fun c38 => ?_)
        · exact absurd rfl c38
        · refine v_iload_n F dX5_tie_41 rfl ?_
          refine v_iload_n F dX5_tie_42 rfl ?_
          refine v_icmp_eq_n F 50 dX5_tie_43 (by decide) (by first | omega | exact Nat.lt_trans (hW _ _) (by decide)) (by first | omega | exact Nat.lt_trans (hW _ _) (by decide)) (fun c43 => ?_) (fun c43 => ?_)
          · refine v_iconst (v := nI 0) F dX5_tie_50 (by decide) ?_
            first | refine V.toI (show nI 1 = bI true from rfl) ?_ | refine V.toI (show nI 0 = bI false from rfl) ?_
            refine v_istore F dX5_tie_51 (Nat.le_of_ble_eq_true rfl) (ok2_d rfl) ?_
            refine v_aload_n F dX5_tie_53 rfl rfl ?_
            refine v_iload_n F dX5_tie_54 rfl ?_
            refine v_iload F dX5_tie_55 rfl ?_
            refine v_iload F dX5_tie_57 rfl ?_
            refine v_if_eq_b F 95 dX5_tie_59 (by decide) (fun c59 => ?_) (fun c59 => ?_)
            · refine v_iconst (v := nI 0) F dX5_tie_95 (by decide) ?_
              first | refine V.toI (show nI 1 = bI true from rfl) ?_ | refine V.toI (show nI 0 = bI false from rfl) ?_
              refine v_callV F 3 [_, _, _] rfl rfl rfl (c_X5_goes hI hWf) gX5_tie_X5_goes rfl hd_X5_goes ⟨⟨rfl, rfl⟩, ⟨(Nat.le_of_ble_eq_true rfl), (Nat.le_of_ble_eq_true rfl)⟩, ⟨(Nat.le_of_ble_eq_true rfl), (Nat.le_of_ble_eq_true rfl)⟩, (Nat.le_of_ble_eq_true rfl)⟩ hI.x rfl dX5_tie_96 (fun v96 M96 q96 => ?_)
              obtain ⟨rfl, hI1, hF1⟩ := q96
              refine v_if_ne_b F 104 dX5_tie_99 (by decide) (fun c99 => ?_) (fun c99 => ?_)
              · exact absurd c99 (by simp)
              · refine v_iconst (v := nI 0) F dX5_tie_102 (by decide) ?_
                exact v_iret F hr dX5_tie_103 (Nat.le_of_ble_eq_true rfl) (Nat.le_of_ble_eq_true rfl) ⟨rfl, MS.q (t0 := 0) hI1 Sm2.rf hT0 hT10 hCB hCP h9 h13 hB hk hWP, hF1⟩
            · exact absurd c59 (by simp)
          · exact absurd rfl c43
set_option maxHeartbeats 4000000 in
set_option maxRecDepth 100000 in
theorem c_Mtie_h7 {l : Launch} {ω : Om} {M : MM} {Y : Nat → Nat} {B P : FF} {n k t : Nat} (hS : MS ω Y B P n k t M) {W : Nat → Prop} (hWf : ∀ f, W (Y f)) {j t0 : Nat} (hj : j < n) (hg : B j 8 = 0) (ht : t0 < n) (hgt : B t0 8 = 0) (hjt : j ≠ t0) (hpp : B j 0 = B t0 0) (h7 : B j 7 ≠ 0) : Ct l ω yX5_tie wsX5_tie rmX5_tie [.ref (Y 0), .int (nI j), .int (nI t0)] M (fun v M9 => v = some (.int (nI 0)) ∧ MS ω Y B P n k 3 M9 ∧ Fr W M M9) 0 0 := by
  refine Ct.ofV (cc := cX5_tie) (maxL := 5) (ret := (some .int)) [some (.ref (Y 0)), some (.int (nI j)), some (.int (nI t0)), none, none] (by decide) rfl (Nat.le_of_ble_eq_true rfl) rfl (Lc.av (av := [.ref (Y 0), .int (nI j), .int (nI t0)]) (k := 2) rfl) ?_
  intro σ F hl hr hname
  have F : Fx ω σ cX5_tie 5 wsX5_tie RX5 rmX5_tie := F
  obtain ⟨C, T, hI, hT0, hT10, hT20, hCB, hCP, h9, h13, hB, hk, hWP⟩ := hS
  have hn : n ≤ 24 := hB.1
  have hW : ∀ i j, B i j < 128 := hB.2.1
  refine v_aload_n F dX5_tie_0 rfl rfl ?_
  refine v_iload_n F dX5_tie_1 rfl ?_
  refine v_callV F 1 [_] rfl rfl rfl (c_isBox_in hI hT0 hCB hB hj) gX5_tie_X5_isBox rfl hd_X5_isBox ⟨⟨rfl, rfl⟩, ⟨(Nat.le_of_ble_eq_true rfl), (Nat.le_of_ble_eq_true rfl)⟩, ⟨(Nat.le_of_ble_eq_true rfl), (Nat.le_of_ble_eq_true rfl)⟩, (Nat.le_of_ble_eq_true rfl)⟩ hI.x rfl dX5_tie_2 (fun v2 M2 q2 => ?_)
  obtain ⟨rfl, e2⟩ := q2
  replace e2 := e2.symm
  subst e2
  refine v_if_eq_b F 20 dX5_tie_5 (by decide) (fun c5 => ?_) (fun c5 => ?_)
  · exact absurd c5 (by simp [hg])
  · refine v_aload_n F dX5_tie_8 rfl rfl ?_
    refine v_iload_n F dX5_tie_9 rfl ?_
    refine v_callV F 1 [_] rfl rfl rfl (c_isBox_in hI hT0 hCB hB ht) gX5_tie_X5_isBox rfl hd_X5_isBox ⟨⟨rfl, rfl⟩, ⟨(Nat.le_of_ble_eq_true rfl), (Nat.le_of_ble_eq_true rfl)⟩, ⟨(Nat.le_of_ble_eq_true rfl), (Nat.le_of_ble_eq_true rfl)⟩, (Nat.le_of_ble_eq_true rfl)⟩ hI.x rfl dX5_tie_10 (fun v10 M10 q10 => ?_)
    obtain ⟨rfl, e10⟩ := q10
    replace e10 := e10.symm
    subst e10
    refine v_if_eq_b F 20 dX5_tie_13 (by decide) (fun c13 => ?_) (fun c13 => ?_)
    · exact absurd c13 (by simp [hgt])
    · refine v_iconst (v := nI 1) F dX5_tie_16 (by decide) ?_
      refine v_goto F 21 dX5_tie_17 (by decide) ?_
      first | refine V.toI (show nI 1 = bI true from rfl) ?_ | refine V.toI (show nI 0 = bI false from rfl) ?_
      refine v_istore_n F dX5_tie_21 (Nat.le_of_ble_eq_true rfl) (ok2_d rfl) ?_
      refine v_iload_n F dX5_tie_22 rfl ?_
      refine v_if_eq_b F 50 dX5_tie_23 (by decide) (fun c23 => ?_) (fun c23 => ?_)
      · exact absurd c23 (by simp)
      · refine v_aload_n F dX5_tie_26 rfl rfl ?_
        refine v_get F 5 1 fo_X5_tie_7 dX5_tie_27 hI.x rfl ?_
        refine v_iload_n F dX5_tie_30 rfl ?_
        refine v_iald_n F dX5_tie_31 (hI.r (f := 1) (sz := 24) (bl := 0) (by simp [isRow]) (by decide) (by decide)) (by first | omega | exact Nat.lt_trans (hW _ _) (by decide)) (by decide) ?_
        refine V.toI ((hCB j hj).1) ?_
        refine v_aload_n F dX5_tie_32 rfl rfl ?_
        refine v_get F 5 1 fo_X5_tie_7 dX5_tie_33 hI.x rfl ?_
        refine v_iload_n F dX5_tie_36 rfl ?_
        refine v_iald_n F dX5_tie_37 (hI.r (f := 1) (sz := 24) (bl := 0) (by simp [isRow]) (by decide) (by decide)) (by first | omega | exact Nat.lt_trans (hW _ _) (by decide)) (by decide) ?_
        refine V.toI ((hCB t0 ht).1) ?_
        refine v_icmp_ne_n F 50 dX5_tie_38 (by decide) (by first | omega | exact Nat.lt_trans (hW _ _) (by decide)) (by first | omega | exact Nat.lt_trans (hW _ _) (by decide)) (fun c38 => ?_) (fun c38 => ?_)
        · exact absurd hpp c38
        · refine v_iload_n F dX5_tie_41 rfl ?_
          refine v_iload_n F dX5_tie_42 rfl ?_
          refine v_icmp_eq_n F 50 dX5_tie_43 (by decide) (by first | omega | exact Nat.lt_trans (hW _ _) (by decide)) (by first | omega | exact Nat.lt_trans (hW _ _) (by decide)) (fun c43 => ?_) (fun c43 => ?_)
          · exact absurd c43 hjt
          · refine v_iconst (v := nI 1) F dX5_tie_46 (by decide) ?_
            refine v_goto F 51 dX5_tie_47 (by decide) ?_
            first | refine V.toI (show nI 1 = bI true from rfl) ?_ | refine V.toI (show nI 0 = bI false from rfl) ?_
            refine v_istore F dX5_tie_51 (Nat.le_of_ble_eq_true rfl) (ok2_d rfl) ?_
            refine v_aload_n F dX5_tie_53 rfl rfl ?_
            refine v_iload_n F dX5_tie_54 rfl ?_
            refine v_iload F dX5_tie_55 rfl ?_
            refine v_iload F dX5_tie_57 rfl ?_
            refine v_if_eq_b F 95 dX5_tie_59 (by decide) (fun c59 => ?_) (fun c59 => ?_)
            · exact absurd c59 (by simp)
            · refine v_aload_n F dX5_tie_62 rfl rfl ?_
              refine v_get F 5 8 fo_X5_tie_31 dX5_tie_63 hI.x rfl ?_
              refine v_iload_n F dX5_tie_66 rfl ?_
              refine v_iald_n F dX5_tie_67 (hI.r (f := 8) (sz := 24) (bl := 0) (by simp [isRow]) (by decide) (by decide)) (by first | omega | exact Nat.lt_trans (hW _ _) (by decide)) (by decide) ?_
              refine V.toI ((hCB j hj).2.2.2.2.2.2.2.1) ?_
              refine v_iconst (v := (-1)) F dX5_tie_68 (by decide) ?_
              refine v_icmp_ne F 95 dX5_tie_69 (by decide) (fun c69 => ?_) (fun c69 => ?_)
              · refine v_iconst (v := nI 0) F dX5_tie_95 (by decide) ?_
                first | refine V.toI (show nI 1 = bI true from rfl) ?_ | refine V.toI (show nI 0 = bI false from rfl) ?_
                refine v_callV F 3 [_, _, _] rfl rfl rfl (c_X5_goes hI hWf) gX5_tie_X5_goes rfl hd_X5_goes ⟨⟨rfl, rfl⟩, ⟨(Nat.le_of_ble_eq_true rfl), (Nat.le_of_ble_eq_true rfl)⟩, ⟨(Nat.le_of_ble_eq_true rfl), (Nat.le_of_ble_eq_true rfl)⟩, (Nat.le_of_ble_eq_true rfl)⟩ hI.x rfl dX5_tie_96 (fun v96 M96 q96 => ?_)
                obtain ⟨rfl, hI1, hF1⟩ := q96
                refine v_if_ne_b F 104 dX5_tie_99 (by decide) (fun c99 => ?_) (fun c99 => ?_)
                · exact absurd c99 (by simp)
                · refine v_iconst (v := nI 0) F dX5_tie_102 (by decide) ?_
                  exact v_iret F hr dX5_tie_103 (Nat.le_of_ble_eq_true rfl) (Nat.le_of_ble_eq_true rfl) ⟨rfl, MS.q (t0 := 0) hI1 Sm2.rf hT0 hT10 hCB hCP h9 h13 hB hk hWP, hF1⟩
              · exact absurd ((oI_m1 (hW _ _)).mp c69) h7
set_option maxHeartbeats 4000000 in
set_option maxRecDepth 100000 in
theorem c_Mtie_h6 {l : Launch} {ω : Om} {M : MM} {Y : Nat → Nat} {B P : FF} {n k t : Nat} (hS : MS ω Y B P n k t M) {W : Nat → Prop} (hWf : ∀ f, W (Y f)) {j t0 : Nat} (hj : j < n) (hg : B j 8 = 0) (ht : t0 < n) (hgt : B t0 8 = 0) (hjt : j ≠ t0) (hpp : B j 0 = B t0 0) (h7 : B j 7 = 0) (h6 : B t0 6 ≠ 0) : Ct l ω yX5_tie wsX5_tie rmX5_tie [.ref (Y 0), .int (nI j), .int (nI t0)] M (fun v M9 => v = some (.int (nI 0)) ∧ MS ω Y B P n k 3 M9 ∧ Fr W M M9) 0 0 := by
  refine Ct.ofV (cc := cX5_tie) (maxL := 5) (ret := (some .int)) [some (.ref (Y 0)), some (.int (nI j)), some (.int (nI t0)), none, none] (by decide) rfl (Nat.le_of_ble_eq_true rfl) rfl (Lc.av (av := [.ref (Y 0), .int (nI j), .int (nI t0)]) (k := 2) rfl) ?_
  intro σ F hl hr hname
  have F : Fx ω σ cX5_tie 5 wsX5_tie RX5 rmX5_tie := F
  obtain ⟨C, T, hI, hT0, hT10, hT20, hCB, hCP, h9, h13, hB, hk, hWP⟩ := hS
  have hn : n ≤ 24 := hB.1
  have hW : ∀ i j, B i j < 128 := hB.2.1
  refine v_aload_n F dX5_tie_0 rfl rfl ?_
  refine v_iload_n F dX5_tie_1 rfl ?_
  refine v_callV F 1 [_] rfl rfl rfl (c_isBox_in hI hT0 hCB hB hj) gX5_tie_X5_isBox rfl hd_X5_isBox ⟨⟨rfl, rfl⟩, ⟨(Nat.le_of_ble_eq_true rfl), (Nat.le_of_ble_eq_true rfl)⟩, ⟨(Nat.le_of_ble_eq_true rfl), (Nat.le_of_ble_eq_true rfl)⟩, (Nat.le_of_ble_eq_true rfl)⟩ hI.x rfl dX5_tie_2 (fun v2 M2 q2 => ?_)
  obtain ⟨rfl, e2⟩ := q2
  replace e2 := e2.symm
  subst e2
  refine v_if_eq_b F 20 dX5_tie_5 (by decide) (fun c5 => ?_) (fun c5 => ?_)
  · exact absurd c5 (by simp [hg])
  · refine v_aload_n F dX5_tie_8 rfl rfl ?_
    refine v_iload_n F dX5_tie_9 rfl ?_
    refine v_callV F 1 [_] rfl rfl rfl (c_isBox_in hI hT0 hCB hB ht) gX5_tie_X5_isBox rfl hd_X5_isBox ⟨⟨rfl, rfl⟩, ⟨(Nat.le_of_ble_eq_true rfl), (Nat.le_of_ble_eq_true rfl)⟩, ⟨(Nat.le_of_ble_eq_true rfl), (Nat.le_of_ble_eq_true rfl)⟩, (Nat.le_of_ble_eq_true rfl)⟩ hI.x rfl dX5_tie_10 (fun v10 M10 q10 => ?_)
    obtain ⟨rfl, e10⟩ := q10
    replace e10 := e10.symm
    subst e10
    refine v_if_eq_b F 20 dX5_tie_13 (by decide) (fun c13 => ?_) (fun c13 => ?_)
    · exact absurd c13 (by simp [hgt])
    · refine v_iconst (v := nI 1) F dX5_tie_16 (by decide) ?_
      refine v_goto F 21 dX5_tie_17 (by decide) ?_
      first | refine V.toI (show nI 1 = bI true from rfl) ?_ | refine V.toI (show nI 0 = bI false from rfl) ?_
      refine v_istore_n F dX5_tie_21 (Nat.le_of_ble_eq_true rfl) (ok2_d rfl) ?_
      refine v_iload_n F dX5_tie_22 rfl ?_
      refine v_if_eq_b F 50 dX5_tie_23 (by decide) (fun c23 => ?_) (fun c23 => ?_)
      · exact absurd c23 (by simp)
      · refine v_aload_n F dX5_tie_26 rfl rfl ?_
        refine v_get F 5 1 fo_X5_tie_7 dX5_tie_27 hI.x rfl ?_
        refine v_iload_n F dX5_tie_30 rfl ?_
        refine v_iald_n F dX5_tie_31 (hI.r (f := 1) (sz := 24) (bl := 0) (by simp [isRow]) (by decide) (by decide)) (by first | omega | exact Nat.lt_trans (hW _ _) (by decide)) (by decide) ?_
        refine V.toI ((hCB j hj).1) ?_
        refine v_aload_n F dX5_tie_32 rfl rfl ?_
        refine v_get F 5 1 fo_X5_tie_7 dX5_tie_33 hI.x rfl ?_
        refine v_iload_n F dX5_tie_36 rfl ?_
        refine v_iald_n F dX5_tie_37 (hI.r (f := 1) (sz := 24) (bl := 0) (by simp [isRow]) (by decide) (by decide)) (by first | omega | exact Nat.lt_trans (hW _ _) (by decide)) (by decide) ?_
        refine V.toI ((hCB t0 ht).1) ?_
        refine v_icmp_ne_n F 50 dX5_tie_38 (by decide) (by first | omega | exact Nat.lt_trans (hW _ _) (by decide)) (by first | omega | exact Nat.lt_trans (hW _ _) (by decide)) (fun c38 => ?_) (fun c38 => ?_)
        · exact absurd hpp c38
        · refine v_iload_n F dX5_tie_41 rfl ?_
          refine v_iload_n F dX5_tie_42 rfl ?_
          refine v_icmp_eq_n F 50 dX5_tie_43 (by decide) (by first | omega | exact Nat.lt_trans (hW _ _) (by decide)) (by first | omega | exact Nat.lt_trans (hW _ _) (by decide)) (fun c43 => ?_) (fun c43 => ?_)
          · exact absurd c43 hjt
          · refine v_iconst (v := nI 1) F dX5_tie_46 (by decide) ?_
            refine v_goto F 51 dX5_tie_47 (by decide) ?_
            first | refine V.toI (show nI 1 = bI true from rfl) ?_ | refine V.toI (show nI 0 = bI false from rfl) ?_
            refine v_istore F dX5_tie_51 (Nat.le_of_ble_eq_true rfl) (ok2_d rfl) ?_
            refine v_aload_n F dX5_tie_53 rfl rfl ?_
            refine v_iload_n F dX5_tie_54 rfl ?_
            refine v_iload F dX5_tie_55 rfl ?_
            refine v_iload F dX5_tie_57 rfl ?_
            refine v_if_eq_b F 95 dX5_tie_59 (by decide) (fun c59 => ?_) (fun c59 => ?_)
            · exact absurd c59 (by simp)
            · refine v_aload_n F dX5_tie_62 rfl rfl ?_
              refine v_get F 5 8 fo_X5_tie_31 dX5_tie_63 hI.x rfl ?_
              refine v_iload_n F dX5_tie_66 rfl ?_
              refine v_iald_n F dX5_tie_67 (hI.r (f := 8) (sz := 24) (bl := 0) (by simp [isRow]) (by decide) (by decide)) (by first | omega | exact Nat.lt_trans (hW _ _) (by decide)) (by decide) ?_
              refine V.toI ((hCB j hj).2.2.2.2.2.2.2.1) ?_
              refine v_iconst (v := (-1)) F dX5_tie_68 (by decide) ?_
              refine v_icmp_ne F 95 dX5_tie_69 (by decide) (fun c69 => ?_) (fun c69 => ?_)
              · exact absurd ((oI_m1 (hW _ _)).mpr h7) c69
              · refine v_aload_n F dX5_tie_72 rfl rfl ?_
                refine v_get F 5 7 fo_X5_tie_28 dX5_tie_73 hI.x rfl ?_
                refine v_iload_n F dX5_tie_76 rfl ?_
                refine v_iald_n F dX5_tie_77 (hI.r (f := 7) (sz := 24) (bl := 0) (by simp [isRow]) (by decide) (by decide)) (by first | omega | exact Nat.lt_trans (hW _ _) (by decide)) (by decide) ?_
                refine V.toI ((hCB t0 ht).2.2.2.2.2.2.1) ?_
                refine v_iconst (v := (-1)) F dX5_tie_78 (by decide) ?_
                refine v_icmp_ne F 95 dX5_tie_79 (by decide) (fun c79 => ?_) (fun c79 => ?_)
                · refine v_iconst (v := nI 0) F dX5_tie_95 (by decide) ?_
                  first | refine V.toI (show nI 1 = bI true from rfl) ?_ | refine V.toI (show nI 0 = bI false from rfl) ?_
                  refine v_callV F 3 [_, _, _] rfl rfl rfl (c_X5_goes hI hWf) gX5_tie_X5_goes rfl hd_X5_goes ⟨⟨rfl, rfl⟩, ⟨(Nat.le_of_ble_eq_true rfl), (Nat.le_of_ble_eq_true rfl)⟩, ⟨(Nat.le_of_ble_eq_true rfl), (Nat.le_of_ble_eq_true rfl)⟩, (Nat.le_of_ble_eq_true rfl)⟩ hI.x rfl dX5_tie_96 (fun v96 M96 q96 => ?_)
                  obtain ⟨rfl, hI1, hF1⟩ := q96
                  refine v_if_ne_b F 104 dX5_tie_99 (by decide) (fun c99 => ?_) (fun c99 => ?_)
                  · exact absurd c99 (by simp)
                  · refine v_iconst (v := nI 0) F dX5_tie_102 (by decide) ?_
                    exact v_iret F hr dX5_tie_103 (Nat.le_of_ble_eq_true rfl) (Nat.le_of_ble_eq_true rfl) ⟨rfl, MS.q (t0 := 0) hI1 Sm2.rf hT0 hT10 hCB hCP h9 h13 hB hk hWP, hF1⟩
                · exact absurd ((oI_m1 (hW _ _)).mp c79) h6
set_option maxHeartbeats 4000000 in
set_option maxRecDepth 100000 in
theorem c_Mtie_up {l : Launch} {ω : Om} {M : MM} {Y : Nat → Nat} {B P : FF} {n k t : Nat} (hS : MS ω Y B P n k t M) {W : Nat → Prop} (hWf : ∀ f, W (Y f)) {j t0 : Nat} (hj : j < n) (hg : B j 8 = 0) (ht : t0 < n) (hgt : B t0 8 = 0) (hjt : j ≠ t0) (hpp : B j 0 = B t0 0) (h7 : B j 7 = 0) (h6 : B t0 6 = 0) {q0 : Nat} (hup : up B q0 j = t0 + 1) (ρ6 : Nat → Nat) (hρ6 : ∀ j y, j < n → B j 6 = y + 1 → ρ6 y < ρ6 j) : Ct l ω yX5_tie wsX5_tie rmX5_tie [.ref (Y 0), .int (nI j), .int (nI t0)] M (fun v M9 => v = some (.int (nI 0)) ∧ MS ω Y B P n k 3 M9 ∧ Fr W M M9) 0 0 := by
  refine Ct.ofV (cc := cX5_tie) (maxL := 5) (ret := (some .int)) [some (.ref (Y 0)), some (.int (nI j)), some (.int (nI t0)), none, none] (by decide) rfl (Nat.le_of_ble_eq_true rfl) rfl (Lc.av (av := [.ref (Y 0), .int (nI j), .int (nI t0)]) (k := 2) rfl) ?_
  intro σ F hl hr hname
  have F : Fx ω σ cX5_tie 5 wsX5_tie RX5 rmX5_tie := F
  obtain ⟨C, T, hI, hT0, hT10, hT20, hCB, hCP, h9, h13, hB, hk, hWP⟩ := hS
  have hn : n ≤ 24 := hB.1
  have hW : ∀ i j, B i j < 128 := hB.2.1
  refine v_aload_n F dX5_tie_0 rfl rfl ?_
  refine v_iload_n F dX5_tie_1 rfl ?_
  refine v_callV F 1 [_] rfl rfl rfl (c_isBox_in hI hT0 hCB hB hj) gX5_tie_X5_isBox rfl hd_X5_isBox ⟨⟨rfl, rfl⟩, ⟨(Nat.le_of_ble_eq_true rfl), (Nat.le_of_ble_eq_true rfl)⟩, ⟨(Nat.le_of_ble_eq_true rfl), (Nat.le_of_ble_eq_true rfl)⟩, (Nat.le_of_ble_eq_true rfl)⟩ hI.x rfl dX5_tie_2 (fun v2 M2 q2 => ?_)
  obtain ⟨rfl, e2⟩ := q2
  replace e2 := e2.symm
  subst e2
  refine v_if_eq_b F 20 dX5_tie_5 (by decide) (fun c5 => ?_) (fun c5 => ?_)
  · exact absurd c5 (by simp [hg])
  · refine v_aload_n F dX5_tie_8 rfl rfl ?_
    refine v_iload_n F dX5_tie_9 rfl ?_
    refine v_callV F 1 [_] rfl rfl rfl (c_isBox_in hI hT0 hCB hB ht) gX5_tie_X5_isBox rfl hd_X5_isBox ⟨⟨rfl, rfl⟩, ⟨(Nat.le_of_ble_eq_true rfl), (Nat.le_of_ble_eq_true rfl)⟩, ⟨(Nat.le_of_ble_eq_true rfl), (Nat.le_of_ble_eq_true rfl)⟩, (Nat.le_of_ble_eq_true rfl)⟩ hI.x rfl dX5_tie_10 (fun v10 M10 q10 => ?_)
    obtain ⟨rfl, e10⟩ := q10
    replace e10 := e10.symm
    subst e10
    refine v_if_eq_b F 20 dX5_tie_13 (by decide) (fun c13 => ?_) (fun c13 => ?_)
    · exact absurd c13 (by simp [hgt])
    · refine v_iconst (v := nI 1) F dX5_tie_16 (by decide) ?_
      refine v_goto F 21 dX5_tie_17 (by decide) ?_
      first | refine V.toI (show nI 1 = bI true from rfl) ?_ | refine V.toI (show nI 0 = bI false from rfl) ?_
      refine v_istore_n F dX5_tie_21 (Nat.le_of_ble_eq_true rfl) (ok2_d rfl) ?_
      refine v_iload_n F dX5_tie_22 rfl ?_
      refine v_if_eq_b F 50 dX5_tie_23 (by decide) (fun c23 => ?_) (fun c23 => ?_)
      · exact absurd c23 (by simp)
      · refine v_aload_n F dX5_tie_26 rfl rfl ?_
        refine v_get F 5 1 fo_X5_tie_7 dX5_tie_27 hI.x rfl ?_
        refine v_iload_n F dX5_tie_30 rfl ?_
        refine v_iald_n F dX5_tie_31 (hI.r (f := 1) (sz := 24) (bl := 0) (by simp [isRow]) (by decide) (by decide)) (by first | omega | exact Nat.lt_trans (hW _ _) (by decide)) (by decide) ?_
        refine V.toI ((hCB j hj).1) ?_
        refine v_aload_n F dX5_tie_32 rfl rfl ?_
        refine v_get F 5 1 fo_X5_tie_7 dX5_tie_33 hI.x rfl ?_
        refine v_iload_n F dX5_tie_36 rfl ?_
        refine v_iald_n F dX5_tie_37 (hI.r (f := 1) (sz := 24) (bl := 0) (by simp [isRow]) (by decide) (by decide)) (by first | omega | exact Nat.lt_trans (hW _ _) (by decide)) (by decide) ?_
        refine V.toI ((hCB t0 ht).1) ?_
        refine v_icmp_ne_n F 50 dX5_tie_38 (by decide) (by first | omega | exact Nat.lt_trans (hW _ _) (by decide)) (by first | omega | exact Nat.lt_trans (hW _ _) (by decide)) (fun c38 => ?_) (fun c38 => ?_)
        · exact absurd hpp c38
        · refine v_iload_n F dX5_tie_41 rfl ?_
          refine v_iload_n F dX5_tie_42 rfl ?_
          refine v_icmp_eq_n F 50 dX5_tie_43 (by decide) (by first | omega | exact Nat.lt_trans (hW _ _) (by decide)) (by first | omega | exact Nat.lt_trans (hW _ _) (by decide)) (fun c43 => ?_) (fun c43 => ?_)
          · exact absurd c43 hjt
          · refine v_iconst (v := nI 1) F dX5_tie_46 (by decide) ?_
            refine v_goto F 51 dX5_tie_47 (by decide) ?_
            first | refine V.toI (show nI 1 = bI true from rfl) ?_ | refine V.toI (show nI 0 = bI false from rfl) ?_
            refine v_istore F dX5_tie_51 (Nat.le_of_ble_eq_true rfl) (ok2_d rfl) ?_
            refine v_aload_n F dX5_tie_53 rfl rfl ?_
            refine v_iload_n F dX5_tie_54 rfl ?_
            refine v_iload F dX5_tie_55 rfl ?_
            refine v_iload F dX5_tie_57 rfl ?_
            refine v_if_eq_b F 95 dX5_tie_59 (by decide) (fun c59 => ?_) (fun c59 => ?_)
            · exact absurd c59 (by simp)
            · refine v_aload_n F dX5_tie_62 rfl rfl ?_
              refine v_get F 5 8 fo_X5_tie_31 dX5_tie_63 hI.x rfl ?_
              refine v_iload_n F dX5_tie_66 rfl ?_
              refine v_iald_n F dX5_tie_67 (hI.r (f := 8) (sz := 24) (bl := 0) (by simp [isRow]) (by decide) (by decide)) (by first | omega | exact Nat.lt_trans (hW _ _) (by decide)) (by decide) ?_
              refine V.toI ((hCB j hj).2.2.2.2.2.2.2.1) ?_
              refine v_iconst (v := (-1)) F dX5_tie_68 (by decide) ?_
              refine v_icmp_ne F 95 dX5_tie_69 (by decide) (fun c69 => ?_) (fun c69 => ?_)
              · exact absurd ((oI_m1 (hW _ _)).mpr h7) c69
              · refine v_aload_n F dX5_tie_72 rfl rfl ?_
                refine v_get F 5 7 fo_X5_tie_28 dX5_tie_73 hI.x rfl ?_
                refine v_iload_n F dX5_tie_76 rfl ?_
                refine v_iald_n F dX5_tie_77 (hI.r (f := 7) (sz := 24) (bl := 0) (by simp [isRow]) (by decide) (by decide)) (by first | omega | exact Nat.lt_trans (hW _ _) (by decide)) (by decide) ?_
                refine V.toI ((hCB t0 ht).2.2.2.2.2.2.1) ?_
                refine v_iconst (v := (-1)) F dX5_tie_78 (by decide) ?_
                refine v_icmp_ne F 95 dX5_tie_79 (by decide) (fun c79 => ?_) (fun c79 => ?_)
                · exact absurd ((oI_m1 (hW _ _)).mpr h6) c79
                · refine v_aload_n F dX5_tie_82 rfl rfl ?_
                  refine v_iload_n F dX5_tie_83 rfl ?_
                  refine v_iload_n F dX5_tie_84 rfl ?_
                  refine v_callV F 2 [_, _] rfl rfl rfl (c_cb_t hI hT0 hCB hB hj ht hup ρ6 hρ6) gX5_tie_X5_comesBehind rfl hd_X5_comesBehind ⟨⟨rfl, rfl⟩, ⟨(Nat.le_of_ble_eq_true rfl), (Nat.le_of_ble_eq_true rfl)⟩, ⟨(Nat.le_of_ble_eq_true rfl), (Nat.le_of_ble_eq_true rfl)⟩, (Nat.le_of_ble_eq_true rfl)⟩ hI.x rfl dX5_tie_85 (fun v85 M85 q85 => ?_)
                  obtain ⟨rfl, e85⟩ := q85
                  replace e85 := e85.symm
                  subst e85
                  refine v_if_ne_b F 95 dX5_tie_88 (by decide) (fun c88 => ?_) (fun c88 => ?_)
                  · refine v_iconst (v := nI 0) F dX5_tie_95 (by decide) ?_
                    first | refine V.toI (show nI 1 = bI true from rfl) ?_ | refine V.toI (show nI 0 = bI false from rfl) ?_
                    refine v_callV F 3 [_, _, _] rfl rfl rfl (c_X5_goes hI hWf) gX5_tie_X5_goes rfl hd_X5_goes ⟨⟨rfl, rfl⟩, ⟨(Nat.le_of_ble_eq_true rfl), (Nat.le_of_ble_eq_true rfl)⟩, ⟨(Nat.le_of_ble_eq_true rfl), (Nat.le_of_ble_eq_true rfl)⟩, (Nat.le_of_ble_eq_true rfl)⟩ hI.x rfl dX5_tie_96 (fun v96 M96 q96 => ?_)
                    obtain ⟨rfl, hI1, hF1⟩ := q96
                    refine v_if_ne_b F 104 dX5_tie_99 (by decide) (fun c99 => ?_) (fun c99 => ?_)
                    · exact absurd c99 (by simp)
                    · refine v_iconst (v := nI 0) F dX5_tie_102 (by decide) ?_
                      exact v_iret F hr dX5_tie_103 (Nat.le_of_ble_eq_true rfl) (Nat.le_of_ble_eq_true rfl) ⟨rfl, MS.q (t0 := 0) hI1 Sm2.rf hT0 hT10 hCB hCP h9 h13 hB hk hWP, hF1⟩
                  · exact absurd c88 (by decide)
