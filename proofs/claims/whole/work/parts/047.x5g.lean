/-! the reference: untying, removing -/
/-- a box that goes is untied both ways -/
def unk (B : FF) (j : Nat) : FF := unl (match B j 7 with | 0 => B | z + 1 => unl B z) j
def rmX5_unties : Room := { frames := 0, cells := 0, slots := 0, locals := 0 }
theorem hd_X5_unties : yX5_unties.cls = (RX5, TX5, 21).1 ∧ yX5_unties.cls ≠ "java/lang/invoke/MethodHandle" ∧ yX5_unties.cls ≠ "java/lang/invoke/VarHandle" ∧ (parseMethodDescriptor yX5_unties.desc).map (fun d => d.parameters.length) = some 1 := by decide +kernel
theorem fo_X5_unties_28 : FO wsX5_unties RX5 28 5 7 := ⟨_, _, _, rfl, by decide, by decide +kernel, by decide +kernel⟩
theorem fo_X5_unties_31 : FO wsX5_unties RX5 31 5 8 := ⟨_, _, _, rfl, by decide, by decide +kernel, by decide +kernel⟩
set_option maxHeartbeats 4000000 in
set_option maxRecDepth 100000 in
theorem c_unties {l : Launch} {ω : Om} {M : MM} {Y : Nat → Nat} {C : Nat → Nat → Int32} {T : Nat → Nat} (hI : MI ω Y C T M) {W : Nat → Prop} (hWf : ∀ f, W (Y f)) {B : FF} {n j : Nat} (hCB : CB C B n) (hn : n ≤ 24) (hW : ∀ i j, B i j < 128) (hj : j < n) (hin : ∀ y, B j 6 = y + 1 → y < n) : Ct l ω yX5_unties wsX5_unties rmX5_unties [.ref (Y 0), .int (nI j)] M (fun v M9 => v = none ∧ ∃ C9, MI ω Y C9 T M9 ∧ Fr W M M9 ∧ CB C9 (unl B j) n ∧ (∀ f, f ≠ 7 → f ≠ 8 → C9 f = C f)) 0 0 := by
  refine Ct.ofV (cc := cX5_unties) (maxL := 2) (ret := none) [some (.ref (Y 0)), some (.int (nI j))] (by decide) rfl (Nat.le_of_ble_eq_true rfl) rfl (Lc.av (av := [.ref (Y 0), .int (nI j)]) (k := 0) rfl) ?_
  intro σ F hl hr hname
  have F : Fx ω σ cX5_unties 2 wsX5_unties RX5 rmX5_unties := F
  rcases (show B j 6 = 0 ∨ ∃ y, B j 6 = y + 1 by (cases B j 6 with | zero => exact Or.inl rfl | succ y => exact Or.inr ⟨y, rfl⟩)) with h6 | ⟨y, h6⟩
  · have e : unl B j = B := by simp [unl, h6]
    refine v_aload_n F dX5_unties_0 rfl rfl ?_
    refine v_get F 5 7 fo_X5_unties_28 dX5_unties_1 hI.x rfl ?_
    refine v_iload_n F dX5_unties_4 rfl ?_
    refine v_iald_n F dX5_unties_5 (hI.r (f := 7) (sz := 24) (bl := 0) (by simp [isRow]) (by decide) (by decide)) (by omega) (by decide) ?_
    refine V.toI ((hCB j hj).2.2.2.2.2.2.1) ?_
    refine v_iconst (v := (-1)) F dX5_unties_6 (by decide) ?_
    refine v_icmp_eq F 29 dX5_unties_7 (by decide) (fun c7 => ?_) (fun c7 => ?_)
    · exact v_vret F hr dX5_unties_29 (Nat.le_of_ble_eq_true rfl) (Nat.le_of_ble_eq_true rfl) ⟨rfl, C, hI, Fr.rf, by rw [e]; exact hCB, fun _ _ _ => rfl⟩
    · exact absurd (by rw [h6]; rfl) c7
  · have e : unl B j = u2 (u2 B y 7 0) j 6 0 := by simp [unl, h6]
    have hy := hin y h6
    refine v_aload_n F dX5_unties_0 rfl rfl ?_
    refine v_get F 5 7 fo_X5_unties_28 dX5_unties_1 hI.x rfl ?_
    refine v_iload_n F dX5_unties_4 rfl ?_
    refine v_iald_n F dX5_unties_5 (hI.r (f := 7) (sz := 24) (bl := 0) (by simp [isRow]) (by decide) (by decide)) (by omega) (by decide) ?_
    refine V.toI ((hCB j hj).2.2.2.2.2.2.1) ?_
    refine v_iconst (v := (-1)) F dX5_unties_6 (by decide) ?_
    refine v_icmp_eq F 29 dX5_unties_7 (by decide) (fun c7 => ?_) (fun c7 => ?_)
    · exact absurd ((oI_m1 (hW _ _)).mp c7) (by omega)
    · refine v_aload_n F dX5_unties_10 rfl rfl ?_
      refine v_get F 5 8 fo_X5_unties_31 dX5_unties_11 hI.x rfl ?_
      refine v_aload_n F dX5_unties_14 rfl rfl ?_
      refine v_get F 5 7 fo_X5_unties_28 dX5_unties_15 hI.x rfl ?_
      refine v_iload_n F dX5_unties_18 rfl ?_
      refine v_iald_n F dX5_unties_19 (hI.r (f := 7) (sz := 24) (bl := 0) (by simp [isRow]) (by decide) (by decide)) (by omega) (by decide) ?_
      refine V.toI ((hCB j hj).2.2.2.2.2.2.1.trans (show oI (B j 6) = nI y by rw [h6]; rfl)) ?_
      refine v_iconst (v := (-1)) F dX5_unties_20 (by decide) ?_
      refine v_iast_n F dX5_unties_21 (hI.r (f := 8) (sz := 24) (bl := 0) (by simp [isRow]) (by decide) (by decide)) (by omega) (by decide) ?_
      have hI2 := hI.setC (f := 8) (sz := 24) (bl := 0) (by simp [isRow]) (by decide) (by decide) (upd (C 8) y (-1))
      refine v_aload_n F dX5_unties_22 rfl rfl ?_
      refine v_get F 5 7 fo_X5_unties_28 dX5_unties_23 hI2.x rfl ?_
      refine v_iload_n F dX5_unties_26 rfl ?_
      refine v_iconst (v := (-1)) F dX5_unties_27 (by decide) ?_
      refine v_iast_n F dX5_unties_28 (hI2.r (f := 7) (sz := 24) (bl := 0) (by simp [isRow]) (by decide) (by decide)) (by omega) (by decide) ?_
      have hI3 := hI2.setC (f := 7) (sz := 24) (bl := 0) (by simp [isRow]) (by decide) (by decide) (upd (uC C 8 (upd (C 8) y (-1)) 7) j (-1))
      exact v_vret F hr dX5_unties_29 (Nat.le_of_ble_eq_true rfl) (Nat.le_of_ble_eq_true rfl) ⟨rfl, _, hI3, (Fr.rf.up (hWf 8)).up (hWf 7), by rw [e]; exact (hCB.up7 (j := y) (v := 0) 8 7 (by decide) rfl).up7 (j := j) (v := 0) 7 6 (by decide) rfl, fun f h1 h2 => by rw [uC_n h1, uC_n h2]⟩
def rmX5_untie : Room := { frames := 6, cells := 0, slots := 0, locals := 143 }
theorem hd_X5_untie : yX5_untie.cls = (RX5, TX5, 21).1 ∧ yX5_untie.cls ≠ "java/lang/invoke/MethodHandle" ∧ yX5_untie.cls ≠ "java/lang/invoke/VarHandle" ∧ (parseMethodDescriptor yX5_untie.desc).map (fun d => d.parameters.length) = some 1 := by decide +kernel
theorem fo_X5_untie_7 : FO wsX5_untie RX5 7 5 1 := ⟨_, _, _, rfl, by decide, by decide +kernel, by decide +kernel⟩
theorem fo_X5_untie_28 : FO wsX5_untie RX5 28 5 7 := ⟨_, _, _, rfl, by decide, by decide +kernel, by decide +kernel⟩
set_option maxHeartbeats 4000000 in
set_option maxRecDepth 100000 in
theorem c_Muntie {l : Launch} {ω : Om} {M : MM} {Y : Nat → Nat} {B P : FF} {n k t : Nat} (hS : MS ω Y B P n k t M) {W : Nat → Prop} (hWf : ∀ f, W (Y f)) {j y0 : Nat} (hj : j < n) (hg : B j 8 = 0) (h6 : B j 6 = y0 + 1) (hp : B j 0 < 5) (hpg : unl B j j 0 = B j 0) (hB2 : WB (unl B j) n) (hK : Ok B n (B j 0)) (hK2 : Ok (unl B j) n (B j 0)) : Ct l ω yX5_untie wsX5_untie rmX5_untie [.ref (Y 0), .int (nI j)] M (fun v M9 => ∃ P9 c9, v = some (.int (nI c9)) ∧ MS ω Y (unl B j) P9 n k 0 M9 ∧ Fr W M M9 ∧ Fall P (B j 0) k (ordF (unl B j) n (B j 0) = ordF B n (B j 0)) c9 P9) 0 0 := by
  refine Ct.ofV (cc := cX5_untie) (maxL := 2) (ret := (some .int)) [some (.ref (Y 0)), some (.int (nI j))] (by decide) rfl (Nat.le_of_ble_eq_true rfl) rfl (Lc.av (av := [.ref (Y 0), .int (nI j)]) (k := 0) rfl) ?_
  intro σ F hl hr hname
  have F : Fx ω σ cX5_untie 2 wsX5_untie RX5 rmX5_untie := F
  obtain ⟨C, T, hI, hT0, hT10, hT20, hCB, hCP, h9, h13, hB, hk, hWP⟩ := hS
  have hn : n ≤ 24 := hB.1
  have hW : ∀ i j, B i j < 128 := hB.2.1
  obtain ⟨hFn, hox, ρ, hρ0, hρ⟩ := id hK
  have hoB : ∀ x, x ∈ ordF B n (B j 0) → x < 128 := fun x hx => by have := hox x hx; omega
  obtain ⟨hFn2, hox2, ρ2, hρ20, hρ2⟩ := id hK2
  have hoB2 : ∀ x9, x9 ∈ ordF (unl B j) n (B j 0) → x9 < 128 := fun x9 hx => by have := hox2 x9 hx; omega
  refine v_aload_n F dX5_untie_0 rfl rfl ?_
  refine v_aload_n F dX5_untie_1 rfl rfl ?_
  refine v_iload_n F dX5_untie_2 rfl ?_
  refine v_callV F 1 [_] rfl rfl rfl (c_isBox_in hI hT0 hCB hB hj) gX5_untie_X5_isBox rfl hd_X5_isBox ⟨⟨rfl, rfl⟩, ⟨(Nat.le_of_ble_eq_true rfl), (Nat.le_of_ble_eq_true rfl)⟩, ⟨(Nat.le_of_ble_eq_true rfl), (Nat.le_of_ble_eq_true rfl)⟩, (Nat.le_of_ble_eq_true rfl)⟩ hI.x rfl dX5_untie_3 (fun v3 M3 q3 => ?_)
  obtain ⟨rfl, e3⟩ := q3
  replace e3 := e3.symm
  subst e3
  refine v_aload_n F dX5_untie_6 rfl rfl ?_
  refine v_iload_n F dX5_untie_7 rfl ?_
  refine v_callV F 1 [_] rfl rfl rfl (c_isBox_in hI hT0 hCB hB hj) gX5_untie_X5_isBox rfl hd_X5_isBox ⟨⟨rfl, rfl⟩, ⟨(Nat.le_of_ble_eq_true rfl), (Nat.le_of_ble_eq_true rfl)⟩, ⟨(Nat.le_of_ble_eq_true rfl), (Nat.le_of_ble_eq_true rfl)⟩, (Nat.le_of_ble_eq_true rfl)⟩ hI.x rfl dX5_untie_8 (fun v8 M8 q8 => ?_)
  obtain ⟨rfl, e8⟩ := q8
  replace e8 := e8.symm
  subst e8
  refine v_if_eq_b F 28 dX5_untie_11 (by decide) (fun c11 => ?_) (fun c11 => ?_)
  · exact absurd c11 (by simp [hg])
  · refine v_aload_n F dX5_untie_14 rfl rfl ?_
    refine v_get F 5 7 fo_X5_untie_28 dX5_untie_15 hI.x rfl ?_
    refine v_iload_n F dX5_untie_18 rfl ?_
    refine v_iald_n F dX5_untie_19 (hI.r (f := 7) (sz := 24) (bl := 0) (by simp [isRow]) (by decide) (by decide)) (by first | omega | exact Nat.lt_trans (hW _ _) (by decide)) (by decide) ?_
    refine V.toI ((hCB j hj).2.2.2.2.2.2.1) ?_
    refine v_iconst (v := (-1)) F dX5_untie_20 (by decide) ?_
    refine v_icmp_eq F 28 dX5_untie_21 (by decide) (fun c21 => ?_) (fun c21 => ?_)
    · exact absurd ((oI_m1 (hW _ _)).mp c21) (by omega)
    · refine v_iconst (v := nI 1) F dX5_untie_24 (by decide) ?_
      refine v_goto F 29 dX5_untie_25 (by decide) ?_
      first | refine V.toI (show nI 1 = bI true from rfl) ?_ | refine V.toI (show nI 0 = bI false from rfl) ?_
      refine v_iconst (v := nI 1) F dX5_untie_29 (by decide) ?_
      refine V.toI (show nI 1 = bI true from rfl) ?_
      refine v_callV F 3 [_, _, _] rfl rfl rfl (c_X5_goes hI hWf) gX5_untie_X5_goes rfl hd_X5_goes ⟨⟨rfl, rfl⟩, ⟨(Nat.le_of_ble_eq_true rfl), (Nat.le_of_ble_eq_true rfl)⟩, ⟨(Nat.le_of_ble_eq_true rfl), (Nat.le_of_ble_eq_true rfl)⟩, (Nat.le_of_ble_eq_true rfl)⟩ hI.x rfl dX5_untie_30 (fun v30 M30 q30 => ?_)
      obtain ⟨rfl, hI1, hF1⟩ := q30
      refine v_if_ne_b F 38 dX5_untie_33 (by decide) (fun c33 => ?_) (fun c33 => ?_)
      · refine v_aload_n F dX5_untie_38 rfl rfl ?_
        refine v_aload_n F dX5_untie_39 rfl rfl ?_
        refine v_get F 5 1 fo_X5_untie_7 dX5_untie_40 hI1.x rfl ?_
        refine v_iload_n F dX5_untie_43 rfl ?_
        refine v_iald_n F dX5_untie_44 (hI1.r (f := 1) (sz := 24) (bl := 0) (by simp [isRow]) (by decide) (by decide)) (by first | omega | exact Nat.lt_trans (hW _ _) (by decide)) (by decide) ?_
        refine V.toI ((hCB j hj).1) ?_
        refine v_callV F 1 [_] rfl rfl rfl (c_keeps hI1 ((uT_n (by decide)).trans hT0) hCB hB hWf ρ hρ0 hρ hp hFn) gX5_untie_X5_keeps rfl hd_X5_keeps ⟨⟨rfl, rfl⟩, ⟨(Nat.le_of_ble_eq_true rfl), (Nat.le_of_ble_eq_true rfl)⟩, ⟨(Nat.le_of_ble_eq_true rfl), (Nat.le_of_ble_eq_true rfl)⟩, (Nat.le_of_ble_eq_true rfl)⟩ hI1.x rfl dX5_untie_45 (fun v45 M45 q45 => ?_)
        obtain ⟨rfl, C1, T1, hI2, hF2, hs2, h16, h17⟩ := q45
        have hCB1 : CB C1 B n := hCB.sm hs2.1
        refine v_aload_n F dX5_untie_48 rfl rfl ?_
        refine v_iload_n F dX5_untie_49 rfl ?_
        refine v_callV F 1 [_] rfl rfl rfl (c_unties hI2 hWf hCB1 hn hW hj (fun y hy => (hB.2.2.1 j y hj hy).1)) gX5_untie_X5_unties rfl hd_X5_unties ⟨⟨rfl, rfl⟩, ⟨(Nat.le_of_ble_eq_true rfl), (Nat.le_of_ble_eq_true rfl)⟩, ⟨(Nat.le_of_ble_eq_true rfl), (Nat.le_of_ble_eq_true rfl)⟩, (Nat.le_of_ble_eq_true rfl)⟩ hI2.x rfl dX5_untie_50 (fun v50 M50 q50 => ?_)
        obtain ⟨rfl, C2, hI3, hF3, hCB3, hc3⟩ := q50
        refine v_aload_n F dX5_untie_53 rfl rfl ?_
        refine v_aload_n F dX5_untie_54 rfl rfl ?_
        refine v_get F 5 1 fo_X5_untie_7 dX5_untie_55 hI3.x rfl ?_
        refine v_iload_n F dX5_untie_58 rfl ?_
        refine v_iald_n F dX5_untie_59 (hI3.r (f := 1) (sz := 24) (bl := 0) (by simp [isRow]) (by decide) (by decide)) (by first | omega | exact Nat.lt_trans (hW _ _) (by decide)) (by decide) ?_
        refine V.toI ((hCB3 j hj).1.trans (by rw [hpg])) ?_
        refine v_callV F 1 [_] rfl rfl rfl (c_falls hI3 ((hs2.2 0 (by decide) (by decide) (by decide)).trans ((uT_n (by decide)).trans hT0)) hCB3 hB2 hWf ρ2 hρ20 hρ2 ((hs2.2 10 (by decide) (by decide) (by decide)).trans ((uT_n (by decide)).trans hT10)) (hCP.sm (by rw [hc3 11 (by decide) (by decide), hs2.1 11 (by decide) (by decide) (by decide)]) (by rw [hc3 12 (by decide) (by decide), hs2.1 12 (by decide) (by decide) (by decide)]) (by rw [hc3 13 (by decide) (by decide), hs2.1 13 (by decide) (by decide) (by decide)])) hk hWP hp hFn2 (u := ordF B n (B j 0)) h16 (by rw [hc3 17 (by decide) (by decide)]; exact h17) hFn.2.2.2.2 hoB hoB2) gX5_untie_X5_falls rfl hd_X5_falls ⟨⟨rfl, rfl⟩, ⟨(Nat.le_of_ble_eq_true rfl), (Nat.le_of_ble_eq_true rfl)⟩, ⟨(Nat.le_of_ble_eq_true rfl), (Nat.le_of_ble_eq_true rfl)⟩, (Nat.le_of_ble_eq_true rfl)⟩ hI3.x rfl dX5_untie_60 (fun v60 M60 q60 => ?_)
        obtain ⟨C5, T5, P9, c9, rfl, hI5, hF5, g1, g2, g3, g4, g5⟩ := q60
        exact v_iret F hr dX5_untie_63 (Nat.le_of_ble_eq_true rfl) (Nat.le_of_ble_eq_true rfl) ⟨P9, c9, rfl, ⟨C5, T5, hI5, (g2 0 (by decide) (by decide)).trans ((hs2.2 0 (by decide) (by decide) (by decide)).trans ((uT_n (by decide)).trans hT0)), (g2 10 (by decide) (by decide)).trans ((hs2.2 10 (by decide) (by decide) (by decide)).trans ((uT_n (by decide)).trans hT10)), (g2 20 (by decide) (by decide)).trans ((hs2.2 20 (by decide) (by decide) (by decide)).trans (uT_s.trans (by simp [thr, hg]))), hCB3.sm9 (fun f h => g1 f (by omega) (by omega) (by omega)), g3, fun q hq => by rw [g1 9 (by decide) (by decide) (by decide), hc3 9 (by decide) (by decide), hs2.1 9 (by decide) (by decide) (by decide)]; exact h9 q hq, fun q hq => by rw [g5 q hq, hc3 13 (by decide) (by decide), hs2.1 13 (by decide) (by decide) (by decide)]; exact h13 q hq, hB2, hk, by rcases g4 with ⟨-, -, rfl⟩ | ⟨-, -, rfl⟩; exact hWP; exact lfP_lt hWP _ 20⟩, ((hF1.tr hF2).tr hF3).tr hF5, g4⟩
      · exact absurd c33 (by simp [hg])
set_option maxHeartbeats 4000000 in
set_option maxRecDepth 100000 in
theorem c_Muntie_gone {l : Launch} {ω : Om} {M : MM} {Y : Nat → Nat} {B P : FF} {n k t : Nat} (hS : MS ω Y B P n k t M) {W : Nat → Prop} (hWf : ∀ f, W (Y f)) {j : Nat} (hj : j < n) (hg : B j 8 ≠ 0) : Ct l ω yX5_untie wsX5_untie rmX5_untie [.ref (Y 0), .int (nI j)] M (fun v M9 => v = some (.int (nI 0)) ∧ MS ω Y B P n k 1 M9 ∧ Fr W M M9) 0 0 := by
  refine Ct.ofV (cc := cX5_untie) (maxL := 2) (ret := (some .int)) [some (.ref (Y 0)), some (.int (nI j))] (by decide) rfl (Nat.le_of_ble_eq_true rfl) rfl (Lc.av (av := [.ref (Y 0), .int (nI j)]) (k := 0) rfl) ?_
  intro σ F hl hr hname
  have F : Fx ω σ cX5_untie 2 wsX5_untie RX5 rmX5_untie := F
  obtain ⟨C, T, hI, hT0, hT10, hT20, hCB, hCP, h9, h13, hB, hk, hWP⟩ := hS
  have hn : n ≤ 24 := hB.1
  have hW : ∀ i j, B i j < 128 := hB.2.1
  refine v_aload_n F dX5_untie_0 rfl rfl ?_
  refine v_aload_n F dX5_untie_1 rfl rfl ?_
  refine v_iload_n F dX5_untie_2 rfl ?_
  refine v_callV F 1 [_] rfl rfl rfl (c_isBox_in hI hT0 hCB hB hj) gX5_untie_X5_isBox rfl hd_X5_isBox ⟨⟨rfl, rfl⟩, ⟨(Nat.le_of_ble_eq_true rfl), (Nat.le_of_ble_eq_true rfl)⟩, ⟨(Nat.le_of_ble_eq_true rfl), (Nat.le_of_ble_eq_true rfl)⟩, (Nat.le_of_ble_eq_true rfl)⟩ hI.x rfl dX5_untie_3 (fun v3 M3 q3 => ?_)
  obtain ⟨rfl, e3⟩ := q3
  replace e3 := e3.symm
  subst e3
  refine v_aload_n F dX5_untie_6 rfl rfl ?_
  refine v_iload_n F dX5_untie_7 rfl ?_
  refine v_callV F 1 [_] rfl rfl rfl (c_isBox_in hI hT0 hCB hB hj) gX5_untie_X5_isBox rfl hd_X5_isBox ⟨⟨rfl, rfl⟩, ⟨(Nat.le_of_ble_eq_true rfl), (Nat.le_of_ble_eq_true rfl)⟩, ⟨(Nat.le_of_ble_eq_true rfl), (Nat.le_of_ble_eq_true rfl)⟩, (Nat.le_of_ble_eq_true rfl)⟩ hI.x rfl dX5_untie_8 (fun v8 M8 q8 => ?_)
  obtain ⟨rfl, e8⟩ := q8
  replace e8 := e8.symm
  subst e8
  refine v_if_eq_b F 28 dX5_untie_11 (by decide) (fun c11 => ?_) (fun c11 => ?_)
  · refine v_iconst (v := nI 0) F dX5_untie_28 (by decide) ?_
    first | refine V.toI (show nI 1 = bI true from rfl) ?_ | refine V.toI (show nI 0 = bI false from rfl) ?_
    refine v_iconst (v := nI 1) F dX5_untie_29 (by decide) ?_
    refine V.toI (show nI 1 = bI true from rfl) ?_
    refine v_callV F 3 [_, _, _] rfl rfl rfl (c_X5_goes hI hWf) gX5_untie_X5_goes rfl hd_X5_goes ⟨⟨rfl, rfl⟩, ⟨(Nat.le_of_ble_eq_true rfl), (Nat.le_of_ble_eq_true rfl)⟩, ⟨(Nat.le_of_ble_eq_true rfl), (Nat.le_of_ble_eq_true rfl)⟩, (Nat.le_of_ble_eq_true rfl)⟩ hI.x rfl dX5_untie_30 (fun v30 M30 q30 => ?_)
    obtain ⟨rfl, hI1, hF1⟩ := q30
    refine v_if_ne_b F 38 dX5_untie_33 (by decide) (fun c33 => ?_) (fun c33 => ?_)
    · exact absurd c33 (by simp)
    · refine v_iconst (v := nI 0) F dX5_untie_36 (by decide) ?_
      exact v_iret F hr dX5_untie_37 (Nat.le_of_ble_eq_true rfl) (Nat.le_of_ble_eq_true rfl) ⟨rfl, (by rw [show thr (decide (B j 8 = 0)) false true = 1 by simp [thr, hg]] at hI1; exact MS.q (t0 := 0) hI1 Sm2.rf hT0 hT10 hCB hCP h9 h13 hB hk hWP), hF1⟩
  · exact absurd c11 (by simp [hg])
set_option maxHeartbeats 4000000 in
set_option maxRecDepth 100000 in
theorem c_Muntie_out {l : Launch} {ω : Om} {M : MM} {Y : Nat → Nat} {B P : FF} {n k t : Nat} (hS : MS ω Y B P n k t M) {W : Nat → Prop} (hWf : ∀ f, W (Y f)) {j : Int32} (hj : j < 0 ∨ nI n ≤ j) : Ct l ω yX5_untie wsX5_untie rmX5_untie [.ref (Y 0), .int j] M (fun v M9 => v = some (.int (nI 0)) ∧ MS ω Y B P n k 1 M9 ∧ Fr W M M9) 0 0 := by
  refine Ct.ofV (cc := cX5_untie) (maxL := 2) (ret := (some .int)) [some (.ref (Y 0)), some (.int j)] (by decide) rfl (Nat.le_of_ble_eq_true rfl) rfl (Lc.av (av := [.ref (Y 0), .int j]) (k := 0) rfl) ?_
  intro σ F hl hr hname
  have F : Fx ω σ cX5_untie 2 wsX5_untie RX5 rmX5_untie := F
  obtain ⟨C, T, hI, hT0, hT10, hT20, hCB, hCP, h9, h13, hB, hk, hWP⟩ := hS
  have hn : n ≤ 24 := hB.1
  have hW : ∀ i j, B i j < 128 := hB.2.1
  refine v_aload_n F dX5_untie_0 rfl rfl ?_
  refine v_aload_n F dX5_untie_1 rfl rfl ?_
  refine v_iload_n F dX5_untie_2 rfl ?_
  refine v_callV F 1 [_] rfl rfl rfl (c_isBox_out hI hT0 hCB hB hj) gX5_untie_X5_isBox rfl hd_X5_isBox ⟨⟨rfl, rfl⟩, ⟨(Nat.le_of_ble_eq_true rfl), (Nat.le_of_ble_eq_true rfl)⟩, ⟨(Nat.le_of_ble_eq_true rfl), (Nat.le_of_ble_eq_true rfl)⟩, (Nat.le_of_ble_eq_true rfl)⟩ hI.x rfl dX5_untie_3 (fun v3 M3 q3 => ?_)
  obtain ⟨rfl, e3⟩ := q3
  replace e3 := e3.symm
  subst e3
  refine v_aload_n F dX5_untie_6 rfl rfl ?_
  refine v_iload_n F dX5_untie_7 rfl ?_
  refine v_callV F 1 [_] rfl rfl rfl (c_isBox_out hI hT0 hCB hB hj) gX5_untie_X5_isBox rfl hd_X5_isBox ⟨⟨rfl, rfl⟩, ⟨(Nat.le_of_ble_eq_true rfl), (Nat.le_of_ble_eq_true rfl)⟩, ⟨(Nat.le_of_ble_eq_true rfl), (Nat.le_of_ble_eq_true rfl)⟩, (Nat.le_of_ble_eq_true rfl)⟩ hI.x rfl dX5_untie_8 (fun v8 M8 q8 => ?_)
  obtain ⟨rfl, e8⟩ := q8
  replace e8 := e8.symm
  subst e8
  refine v_if_eq_b F 28 dX5_untie_11 (by decide) (fun c11 => ?_) (fun c11 => ?_)
  · refine v_iconst (v := nI 0) F dX5_untie_28 (by decide) ?_
    first | refine V.toI (show nI 1 = bI true from rfl) ?_ | refine V.toI (show nI 0 = bI false from rfl) ?_
    refine v_iconst (v := nI 1) F dX5_untie_29 (by decide) ?_
    refine V.toI (show nI 1 = bI true from rfl) ?_
    refine v_callV F 3 [_, _, _] rfl rfl rfl (c_X5_goes hI hWf) gX5_untie_X5_goes rfl hd_X5_goes ⟨⟨rfl, rfl⟩, ⟨(Nat.le_of_ble_eq_true rfl), (Nat.le_of_ble_eq_true rfl)⟩, ⟨(Nat.le_of_ble_eq_true rfl), (Nat.le_of_ble_eq_true rfl)⟩, (Nat.le_of_ble_eq_true rfl)⟩ hI.x rfl dX5_untie_30 (fun v30 M30 q30 => ?_)
    obtain ⟨rfl, hI1, hF1⟩ := q30
    refine v_if_ne_b F 38 dX5_untie_33 (by decide) (fun c33 => ?_) (fun c33 => ?_)
    · exact absurd c33 (by simp)
    · refine v_iconst (v := nI 0) F dX5_untie_36 (by decide) ?_
      exact v_iret F hr dX5_untie_37 (Nat.le_of_ble_eq_true rfl) (Nat.le_of_ble_eq_true rfl) ⟨rfl, MS.q (t0 := 0) hI1 Sm2.rf hT0 hT10 hCB hCP h9 h13 hB hk hWP, hF1⟩
  · exact absurd c11 (by decide)
set_option maxHeartbeats 4000000 in
set_option maxRecDepth 100000 in
theorem c_Muntie_none {l : Launch} {ω : Om} {M : MM} {Y : Nat → Nat} {B P : FF} {n k t : Nat} (hS : MS ω Y B P n k t M) {W : Nat → Prop} (hWf : ∀ f, W (Y f)) {j : Nat} (hj : j < n) (hg : B j 8 = 0) (h6 : B j 6 = 0) : Ct l ω yX5_untie wsX5_untie rmX5_untie [.ref (Y 0), .int (nI j)] M (fun v M9 => v = some (.int (nI 0)) ∧ MS ω Y B P n k 2 M9 ∧ Fr W M M9) 0 0 := by
  refine Ct.ofV (cc := cX5_untie) (maxL := 2) (ret := (some .int)) [some (.ref (Y 0)), some (.int (nI j))] (by decide) rfl (Nat.le_of_ble_eq_true rfl) rfl (Lc.av (av := [.ref (Y 0), .int (nI j)]) (k := 0) rfl) ?_
  intro σ F hl hr hname
  have F : Fx ω σ cX5_untie 2 wsX5_untie RX5 rmX5_untie := F
  obtain ⟨C, T, hI, hT0, hT10, hT20, hCB, hCP, h9, h13, hB, hk, hWP⟩ := hS
  have hn : n ≤ 24 := hB.1
  have hW : ∀ i j, B i j < 128 := hB.2.1
  refine v_aload_n F dX5_untie_0 rfl rfl ?_
  refine v_aload_n F dX5_untie_1 rfl rfl ?_
  refine v_iload_n F dX5_untie_2 rfl ?_
  refine v_callV F 1 [_] rfl rfl rfl (c_isBox_in hI hT0 hCB hB hj) gX5_untie_X5_isBox rfl hd_X5_isBox ⟨⟨rfl, rfl⟩, ⟨(Nat.le_of_ble_eq_true rfl), (Nat.le_of_ble_eq_true rfl)⟩, ⟨(Nat.le_of_ble_eq_true rfl), (Nat.le_of_ble_eq_true rfl)⟩, (Nat.le_of_ble_eq_true rfl)⟩ hI.x rfl dX5_untie_3 (fun v3 M3 q3 => ?_)
  obtain ⟨rfl, e3⟩ := q3
  replace e3 := e3.symm
  subst e3
  refine v_aload_n F dX5_untie_6 rfl rfl ?_
  refine v_iload_n F dX5_untie_7 rfl ?_
  refine v_callV F 1 [_] rfl rfl rfl (c_isBox_in hI hT0 hCB hB hj) gX5_untie_X5_isBox rfl hd_X5_isBox ⟨⟨rfl, rfl⟩, ⟨(Nat.le_of_ble_eq_true rfl), (Nat.le_of_ble_eq_true rfl)⟩, ⟨(Nat.le_of_ble_eq_true rfl), (Nat.le_of_ble_eq_true rfl)⟩, (Nat.le_of_ble_eq_true rfl)⟩ hI.x rfl dX5_untie_8 (fun v8 M8 q8 => ?_)
  obtain ⟨rfl, e8⟩ := q8
  replace e8 := e8.symm
  subst e8
  refine v_if_eq_b F 28 dX5_untie_11 (by decide) (fun c11 => ?_) (fun c11 => ?_)
  · exact absurd c11 (by simp [hg])
  · refine v_aload_n F dX5_untie_14 rfl rfl ?_
    refine v_get F 5 7 fo_X5_untie_28 dX5_untie_15 hI.x rfl ?_
    refine v_iload_n F dX5_untie_18 rfl ?_
    refine v_iald_n F dX5_untie_19 (hI.r (f := 7) (sz := 24) (bl := 0) (by simp [isRow]) (by decide) (by decide)) (by first | omega | exact Nat.lt_trans (hW _ _) (by decide)) (by decide) ?_
    refine V.toI ((hCB j hj).2.2.2.2.2.2.1) ?_
    refine v_iconst (v := (-1)) F dX5_untie_20 (by decide) ?_
    refine v_icmp_eq F 28 dX5_untie_21 (by decide) (fun c21 => ?_) (fun c21 => ?_)
    · refine v_iconst (v := nI 0) F dX5_untie_28 (by decide) ?_
      first | refine V.toI (show nI 1 = bI true from rfl) ?_ | refine V.toI (show nI 0 = bI false from rfl) ?_
      refine v_iconst (v := nI 1) F dX5_untie_29 (by decide) ?_
      refine V.toI (show nI 1 = bI true from rfl) ?_
      refine v_callV F 3 [_, _, _] rfl rfl rfl (c_X5_goes hI hWf) gX5_untie_X5_goes rfl hd_X5_goes ⟨⟨rfl, rfl⟩, ⟨(Nat.le_of_ble_eq_true rfl), (Nat.le_of_ble_eq_true rfl)⟩, ⟨(Nat.le_of_ble_eq_true rfl), (Nat.le_of_ble_eq_true rfl)⟩, (Nat.le_of_ble_eq_true rfl)⟩ hI.x rfl dX5_untie_30 (fun v30 M30 q30 => ?_)
      obtain ⟨rfl, hI1, hF1⟩ := q30
      refine v_if_ne_b F 38 dX5_untie_33 (by decide) (fun c33 => ?_) (fun c33 => ?_)
      · exact absurd c33 (by simp)
      · refine v_iconst (v := nI 0) F dX5_untie_36 (by decide) ?_
        exact v_iret F hr dX5_untie_37 (Nat.le_of_ble_eq_true rfl) (Nat.le_of_ble_eq_true rfl) ⟨rfl, (by rw [show thr (decide (B j 8 = 0)) false true = 2 by simp [thr, hg]] at hI1; exact MS.q (t0 := 0) hI1 Sm2.rf hT0 hT10 hCB hCP h9 h13 hB hk hWP), hF1⟩
    · exact absurd ((oI_m1 (hW _ _)).mpr h6) c21
theorem unl_lt {B : FF} (hW : ∀ i j, B i j < 128) (z : Nat) : ∀ i j, unl B z i j < 128 := by
  have hu : ∀ {D : FF} {a b : Nat}, (∀ i j, D i j < 128) → ∀ i j, u2 D a b 0 i j < 128 := by
    intro D a b hD i j
    unfold u2
    split
    · decide
    · exact hD i j
  cases h6 : B z 6 with
  | zero => rw [show unl B z = B by simp [unl, h6]]; exact hW
  | succ y => rw [show unl B z = u2 (u2 B y 7 0) z 6 0 by simp [unl, h6]]; exact hu (hu hW)
theorem unl_6 {B : FF} {z j y : Nat} (h : unl B z j 6 = y + 1) : B j 6 = y + 1 := by
  cases h6 : B z 6 with
  | zero => rw [show unl B z = B by simp [unl, h6]] at h; exact h
  | succ q =>
    rw [show unl B z = u2 (u2 B q 7 0) z 6 0 by simp [unl, h6]] at h
    by_cases hjz : j = z
    · simp [u2, hjz] at h
    · simp [u2, hjz] at h
      exact h
def rmX5_remove : Room := { frames := 6, cells := 0, slots := 0, locals := 143 }
theorem hd_X5_remove : yX5_remove.cls = (RX5, TX5, 21).1 ∧ yX5_remove.cls ≠ "java/lang/invoke/MethodHandle" ∧ yX5_remove.cls ≠ "java/lang/invoke/VarHandle" ∧ (parseMethodDescriptor yX5_remove.desc).map (fun d => d.parameters.length) = some 1 := by decide +kernel
theorem fo_X5_remove_7 : FO wsX5_remove RX5 7 5 1 := ⟨_, _, _, rfl, by decide, by decide +kernel, by decide +kernel⟩
theorem fo_X5_remove_31 : FO wsX5_remove RX5 31 5 8 := ⟨_, _, _, rfl, by decide, by decide +kernel, by decide +kernel⟩
theorem fo_X5_remove_34 : FO wsX5_remove RX5 34 5 9 := ⟨_, _, _, rfl, by decide, by decide +kernel, by decide +kernel⟩
set_option maxHeartbeats 4000000 in
set_option maxRecDepth 100000 in
theorem c_Mremove {l : Launch} {ω : Om} {M : MM} {Y : Nat → Nat} {B P : FF} {n k t : Nat} (hS : MS ω Y B P n k t M) {W : Nat → Prop} (hWf : ∀ f, W (Y f)) {j : Nat} (hj : j < n) (hg : B j 8 = 0) (hp : B j 0 < 5) (hpg : (u2 (unk B j) j 8 1) j 0 = B j 0) (hB2 : WB (u2 (unk B j) j 8 1) n) (hK : Ok B n (B j 0)) (hK2 : Ok (u2 (unk B j) j 8 1) n (B j 0)) : Ct l ω yX5_remove wsX5_remove rmX5_remove [.ref (Y 0), .int (nI j)] M (fun v M9 => ∃ P9 c9, v = some (.int (nI c9)) ∧ MS ω Y (u2 (unk B j) j 8 1) P9 n k 0 M9 ∧ Fr W M M9 ∧ Fall P (B j 0) k (ordF (u2 (unk B j) j 8 1) n (B j 0) = ordF B n (B j 0)) c9 P9) 0 0 := by
  refine Ct.ofV (cc := cX5_remove) (maxL := 2) (ret := (some .int)) [some (.ref (Y 0)), some (.int (nI j))] (by decide) rfl (Nat.le_of_ble_eq_true rfl) rfl (Lc.av (av := [.ref (Y 0), .int (nI j)]) (k := 0) rfl) ?_
  intro σ F hl hr hname
  have F : Fx ω σ cX5_remove 2 wsX5_remove RX5 rmX5_remove := F
  obtain ⟨C, T, hI, hT0, hT10, hT20, hCB, hCP, h9, h13, hB, hk, hWP⟩ := hS
  have hn : n ≤ 24 := hB.1
  have hW : ∀ i j, B i j < 128 := hB.2.1
  obtain ⟨hFn, hox, ρ, hρ0, hρ⟩ := id hK
  have hoB : ∀ x, x ∈ ordF B n (B j 0) → x < 128 := fun x hx => by have := hox x hx; omega
  obtain ⟨hFn2, hox2, ρ2, hρ20, hρ2⟩ := id hK2
  have hoB2 : ∀ x9, x9 ∈ ordF (u2 (unk B j) j 8 1) n (B j 0) → x9 < 128 := fun x9 hx => by have := hox2 x9 hx; omega
  refine v_aload_n F dX5_remove_0 rfl rfl ?_
  refine v_aload_n F dX5_remove_1 rfl rfl ?_
  refine v_iload_n F dX5_remove_2 rfl ?_
  refine v_callV F 1 [_] rfl rfl rfl (c_isBox_in hI hT0 hCB hB hj) gX5_remove_X5_isBox rfl hd_X5_isBox ⟨⟨rfl, rfl⟩, ⟨(Nat.le_of_ble_eq_true rfl), (Nat.le_of_ble_eq_true rfl)⟩, ⟨(Nat.le_of_ble_eq_true rfl), (Nat.le_of_ble_eq_true rfl)⟩, (Nat.le_of_ble_eq_true rfl)⟩ hI.x rfl dX5_remove_3 (fun v3 M3 q3 => ?_)
  obtain ⟨rfl, e3⟩ := q3
  replace e3 := e3.symm
  subst e3
  refine v_iconst (v := nI 1) F dX5_remove_6 (by decide) ?_
  refine V.toI (show nI 1 = bI true from rfl) ?_
  refine v_iconst (v := nI 1) F dX5_remove_7 (by decide) ?_
  refine V.toI (show nI 1 = bI true from rfl) ?_
  refine v_callV F 3 [_, _, _] rfl rfl rfl (c_X5_goes hI hWf) gX5_remove_X5_goes rfl hd_X5_goes ⟨⟨rfl, rfl⟩, ⟨(Nat.le_of_ble_eq_true rfl), (Nat.le_of_ble_eq_true rfl)⟩, ⟨(Nat.le_of_ble_eq_true rfl), (Nat.le_of_ble_eq_true rfl)⟩, (Nat.le_of_ble_eq_true rfl)⟩ hI.x rfl dX5_remove_8 (fun v8 M8 q8 => ?_)
  obtain ⟨rfl, hI1, hF1⟩ := q8
  refine v_if_ne_b F 16 dX5_remove_11 (by decide) (fun c11 => ?_) (fun c11 => ?_)
  · refine v_aload_n F dX5_remove_16 rfl rfl ?_
    refine v_aload_n F dX5_remove_17 rfl rfl ?_
    refine v_get F 5 1 fo_X5_remove_7 dX5_remove_18 hI1.x rfl ?_
    refine v_iload_n F dX5_remove_21 rfl ?_
    refine v_iald_n F dX5_remove_22 (hI1.r (f := 1) (sz := 24) (bl := 0) (by simp [isRow]) (by decide) (by decide)) (by first | omega | exact Nat.lt_trans (hW _ _) (by decide)) (by decide) ?_
    refine V.toI ((hCB j hj).1) ?_
    refine v_callV F 1 [_] rfl rfl rfl (c_keeps hI1 ((uT_n (by decide)).trans hT0) hCB hB hWf ρ hρ0 hρ hp hFn) gX5_remove_X5_keeps rfl hd_X5_keeps ⟨⟨rfl, rfl⟩, ⟨(Nat.le_of_ble_eq_true rfl), (Nat.le_of_ble_eq_true rfl)⟩, ⟨(Nat.le_of_ble_eq_true rfl), (Nat.le_of_ble_eq_true rfl)⟩, (Nat.le_of_ble_eq_true rfl)⟩ hI1.x rfl dX5_remove_23 (fun v23 M23 q23 => ?_)
    obtain ⟨rfl, C1, T1, hI2, hF2, hs2, h16, h17⟩ := q23
    have hCB1 : CB C1 B n := hCB.sm hs2.1
    rcases (show B j 7 = 0 ∨ ∃ y, B j 7 = y + 1 by (cases B j 7 with | zero => exact Or.inl rfl | succ y => exact Or.inr ⟨y, rfl⟩)) with h7 | ⟨z, h7⟩
    · have hun : unk B j = unl B j := by simp [unk, h7]
      refine v_aload_n F dX5_remove_26 rfl rfl ?_
      refine v_get F 5 8 fo_X5_remove_31 dX5_remove_27 hI2.x rfl ?_
      refine v_iload_n F dX5_remove_30 rfl ?_
      refine v_iald_n F dX5_remove_31 (hI2.r (f := 8) (sz := 24) (bl := 0) (by simp [isRow]) (by decide) (by decide)) (by first | omega | exact Nat.lt_trans (hW _ _) (by decide)) (by decide) ?_
      refine V.toI ((hCB1 j hj).2.2.2.2.2.2.2.1) ?_
      refine v_iconst (v := (-1)) F dX5_remove_32 (by decide) ?_
      refine v_icmp_eq F 46 dX5_remove_33 (by decide) (fun c33 => ?_) (fun c33 => ?_)
      · refine v_aload_n F dX5_remove_46 rfl rfl ?_
        refine v_iload_n F dX5_remove_47 rfl ?_
        refine v_callV F 1 [_] rfl rfl rfl (c_unties hI2 hWf hCB1 hn hW hj (fun y hy => (hB.2.2.1 j y hj hy).1)) gX5_remove_X5_unties rfl hd_X5_unties ⟨⟨rfl, rfl⟩, ⟨(Nat.le_of_ble_eq_true rfl), (Nat.le_of_ble_eq_true rfl)⟩, ⟨(Nat.le_of_ble_eq_true rfl), (Nat.le_of_ble_eq_true rfl)⟩, (Nat.le_of_ble_eq_true rfl)⟩ hI2.x rfl dX5_remove_48 (fun v48 M48 q48 => ?_)
        obtain ⟨rfl, C4, hI4, hF4, hCB4, hc4⟩ := q48
        refine v_aload_n F dX5_remove_51 rfl rfl ?_
        refine v_get F 5 9 fo_X5_remove_34 dX5_remove_52 hI4.x rfl ?_
        refine v_iload_n F dX5_remove_55 rfl ?_
        refine v_iconst (v := nI 1) F dX5_remove_56 (by decide) ?_
        refine v_zast_n F dX5_remove_57 (hI4.r (f := 9) (sz := 24) (bl := 1) (by simp [isRow]) (by decide) (by decide)) (by first | omega | exact Nat.lt_trans (hW _ _) (by decide)) (by decide) ?_
        have hI5 := hI4.setC (f := 9) (sz := 24) (bl := 1) (by simp [isRow]) (by decide) (by decide) (upd (C4 9) j (vp_nar .boolean (nI 1)))
        have hCB5 : CB (uC C4 9 (upd (C4 9) j (vp_nar .boolean (nI 1)))) (u2 (unk B j) j 8 1) n := by rw [hun]; exact hCB4.up (j := j) (v := 1) 9 8 (by decide)
        refine v_aload_n F dX5_remove_58 rfl rfl ?_
        refine v_aload_n F dX5_remove_59 rfl rfl ?_
        refine v_get F 5 1 fo_X5_remove_7 dX5_remove_60 hI5.x rfl ?_
        refine v_iload_n F dX5_remove_63 rfl ?_
        refine v_iald_n F dX5_remove_64 (hI5.r (f := 1) (sz := 24) (bl := 0) (by simp [isRow]) (by decide) (by decide)) (by first | omega | exact Nat.lt_trans (hW _ _) (by decide)) (by decide) ?_
        refine V.toI ((hCB5 j hj).1.trans (by rw [hpg])) ?_
        refine v_callV F 1 [_] rfl rfl rfl (c_falls hI5 ((hs2.2 0 (by decide) (by decide) (by decide)).trans ((uT_n (by decide)).trans hT0)) hCB5 hB2 hWf ρ2 hρ20 hρ2 ((hs2.2 10 (by decide) (by decide) (by decide)).trans ((uT_n (by decide)).trans hT10)) (hCP.sm (by rw [uC_n (by decide), hc4 11 (by decide) (by decide), hs2.1 11 (by decide) (by decide) (by decide)]) (by rw [uC_n (by decide), hc4 12 (by decide) (by decide), hs2.1 12 (by decide) (by decide) (by decide)]) (by rw [uC_n (by decide), hc4 13 (by decide) (by decide), hs2.1 13 (by decide) (by decide) (by decide)])) hk hWP hp hFn2 (u := ordF B n (B j 0)) h16 (by rw [uC_n (by decide), hc4 17 (by decide) (by decide)]; exact h17) hFn.2.2.2.2 hoB hoB2) gX5_remove_X5_falls rfl hd_X5_falls ⟨⟨rfl, rfl⟩, ⟨(Nat.le_of_ble_eq_true rfl), (Nat.le_of_ble_eq_true rfl)⟩, ⟨(Nat.le_of_ble_eq_true rfl), (Nat.le_of_ble_eq_true rfl)⟩, (Nat.le_of_ble_eq_true rfl)⟩ hI5.x rfl dX5_remove_65 (fun v65 M65 q65 => ?_)
        obtain ⟨C5, T5, P9, c9, rfl, hI6, hF5, g1, g2, g3, g4, g5⟩ := q65
        exact v_iret F hr dX5_remove_68 (Nat.le_of_ble_eq_true rfl) (Nat.le_of_ble_eq_true rfl) ⟨P9, c9, rfl, ⟨C5, T5, hI6, (g2 0 (by decide) (by decide)).trans ((hs2.2 0 (by decide) (by decide) (by decide)).trans ((uT_n (by decide)).trans hT0)), (g2 10 (by decide) (by decide)).trans ((hs2.2 10 (by decide) (by decide) (by decide)).trans ((uT_n (by decide)).trans hT10)), (g2 20 (by decide) (by decide)).trans ((hs2.2 20 (by decide) (by decide) (by decide)).trans (uT_s.trans (by simp [thr, hg]))), hCB5.sm9 (fun f h => g1 f (by omega) (by omega) (by omega)), g3, fun q hq => by rw [g1 9 (by decide) (by decide) (by decide), uC_s, pk_un (by omega), hc4 9 (by decide) (by decide), hs2.1 9 (by decide) (by decide) (by decide)]; exact h9 q hq, fun q hq => by rw [g5 q hq, uC_n (by decide), hc4 13 (by decide) (by decide), hs2.1 13 (by decide) (by decide) (by decide)]; exact h13 q hq, hB2, hk, by rcases g4 with ⟨-, -, rfl⟩ | ⟨-, -, rfl⟩; exact hWP; exact lfP_lt hWP _ 20⟩, ((((hF1.tr hF2).tr hF4).up (hWf 9)).tr hF5), g4⟩
      · exact absurd (by rw [h7]; rfl) c33
    · have hun : unk B j = unl (unl B z) j := by simp [unk, h7]
      have hz : z < n := (hB.2.2.2 j z hj h7).1
      refine v_aload_n F dX5_remove_26 rfl rfl ?_
      refine v_get F 5 8 fo_X5_remove_31 dX5_remove_27 hI2.x rfl ?_
      refine v_iload_n F dX5_remove_30 rfl ?_
      refine v_iald_n F dX5_remove_31 (hI2.r (f := 8) (sz := 24) (bl := 0) (by simp [isRow]) (by decide) (by decide)) (by first | omega | exact Nat.lt_trans (hW _ _) (by decide)) (by decide) ?_
      refine V.toI ((hCB1 j hj).2.2.2.2.2.2.2.1) ?_
      refine v_iconst (v := (-1)) F dX5_remove_32 (by decide) ?_
      refine v_icmp_eq F 46 dX5_remove_33 (by decide) (fun c33 => ?_) (fun c33 => ?_)
      · exact absurd ((oI_m1 (hW _ _)).mp c33) (by omega)
      · refine v_aload_n F dX5_remove_36 rfl rfl ?_
        refine v_aload_n F dX5_remove_37 rfl rfl ?_
        refine v_get F 5 8 fo_X5_remove_31 dX5_remove_38 hI2.x rfl ?_
        refine v_iload_n F dX5_remove_41 rfl ?_
        refine v_iald_n F dX5_remove_42 (hI2.r (f := 8) (sz := 24) (bl := 0) (by simp [isRow]) (by decide) (by decide)) (by first | omega | exact Nat.lt_trans (hW _ _) (by decide)) (by decide) ?_
        refine V.toI ((hCB1 j hj).2.2.2.2.2.2.2.1.trans (show oI (B j 7) = nI z by rw [h7]; rfl)) ?_
        refine v_callV F 1 [_] rfl rfl rfl (c_unties hI2 hWf hCB1 hn hW hz (fun y hy => (hB.2.2.1 z y hz hy).1)) gX5_remove_X5_unties rfl hd_X5_unties ⟨⟨rfl, rfl⟩, ⟨(Nat.le_of_ble_eq_true rfl), (Nat.le_of_ble_eq_true rfl)⟩, ⟨(Nat.le_of_ble_eq_true rfl), (Nat.le_of_ble_eq_true rfl)⟩, (Nat.le_of_ble_eq_true rfl)⟩ hI2.x rfl dX5_remove_43 (fun v43 M43 q43 => ?_)
        obtain ⟨rfl, C2, hI3, hF3, hCB3, hc3⟩ := q43
        refine v_aload_n F dX5_remove_46 rfl rfl ?_
        refine v_iload_n F dX5_remove_47 rfl ?_
        refine v_callV F 1 [_] rfl rfl rfl (c_unties hI3 hWf hCB3 hn (unl_lt hW z) hj (fun y hy => (hB.2.2.1 j y hj (unl_6 hy)).1)) gX5_remove_X5_unties rfl hd_X5_unties ⟨⟨rfl, rfl⟩, ⟨(Nat.le_of_ble_eq_true rfl), (Nat.le_of_ble_eq_true rfl)⟩, ⟨(Nat.le_of_ble_eq_true rfl), (Nat.le_of_ble_eq_true rfl)⟩, (Nat.le_of_ble_eq_true rfl)⟩ hI3.x rfl dX5_remove_48 (fun v48 M48 q48 => ?_)
        obtain ⟨rfl, C4, hI4, hF4, hCB4, hc4⟩ := q48
        refine v_aload_n F dX5_remove_51 rfl rfl ?_
        refine v_get F 5 9 fo_X5_remove_34 dX5_remove_52 hI4.x rfl ?_
        refine v_iload_n F dX5_remove_55 rfl ?_
        refine v_iconst (v := nI 1) F dX5_remove_56 (by decide) ?_
        refine v_zast_n F dX5_remove_57 (hI4.r (f := 9) (sz := 24) (bl := 1) (by simp [isRow]) (by decide) (by decide)) (by first | omega | exact Nat.lt_trans (hW _ _) (by decide)) (by decide) ?_
        have hI5 := hI4.setC (f := 9) (sz := 24) (bl := 1) (by simp [isRow]) (by decide) (by decide) (upd (C4 9) j (vp_nar .boolean (nI 1)))
        have hCB5 : CB (uC C4 9 (upd (C4 9) j (vp_nar .boolean (nI 1)))) (u2 (unk B j) j 8 1) n := by rw [hun]; exact hCB4.up (j := j) (v := 1) 9 8 (by decide)
        refine v_aload_n F dX5_remove_58 rfl rfl ?_
        refine v_aload_n F dX5_remove_59 rfl rfl ?_
        refine v_get F 5 1 fo_X5_remove_7 dX5_remove_60 hI5.x rfl ?_
        refine v_iload_n F dX5_remove_63 rfl ?_
        refine v_iald_n F dX5_remove_64 (hI5.r (f := 1) (sz := 24) (bl := 0) (by simp [isRow]) (by decide) (by decide)) (by first | omega | exact Nat.lt_trans (hW _ _) (by decide)) (by decide) ?_
        refine V.toI ((hCB5 j hj).1.trans (by rw [hpg])) ?_
        refine v_callV F 1 [_] rfl rfl rfl (c_falls hI5 ((hs2.2 0 (by decide) (by decide) (by decide)).trans ((uT_n (by decide)).trans hT0)) hCB5 hB2 hWf ρ2 hρ20 hρ2 ((hs2.2 10 (by decide) (by decide) (by decide)).trans ((uT_n (by decide)).trans hT10)) (hCP.sm (by rw [uC_n (by decide), hc4 11 (by decide) (by decide), hc3 11 (by decide) (by decide), hs2.1 11 (by decide) (by decide) (by decide)]) (by rw [uC_n (by decide), hc4 12 (by decide) (by decide), hc3 12 (by decide) (by decide), hs2.1 12 (by decide) (by decide) (by decide)]) (by rw [uC_n (by decide), hc4 13 (by decide) (by decide), hc3 13 (by decide) (by decide), hs2.1 13 (by decide) (by decide) (by decide)])) hk hWP hp hFn2 (u := ordF B n (B j 0)) h16 (by rw [uC_n (by decide), hc4 17 (by decide) (by decide), hc3 17 (by decide) (by decide)]; exact h17) hFn.2.2.2.2 hoB hoB2) gX5_remove_X5_falls rfl hd_X5_falls ⟨⟨rfl, rfl⟩, ⟨(Nat.le_of_ble_eq_true rfl), (Nat.le_of_ble_eq_true rfl)⟩, ⟨(Nat.le_of_ble_eq_true rfl), (Nat.le_of_ble_eq_true rfl)⟩, (Nat.le_of_ble_eq_true rfl)⟩ hI5.x rfl dX5_remove_65 (fun v65 M65 q65 => ?_)
        obtain ⟨C5, T5, P9, c9, rfl, hI6, hF5, g1, g2, g3, g4, g5⟩ := q65
        exact v_iret F hr dX5_remove_68 (Nat.le_of_ble_eq_true rfl) (Nat.le_of_ble_eq_true rfl) ⟨P9, c9, rfl, ⟨C5, T5, hI6, (g2 0 (by decide) (by decide)).trans ((hs2.2 0 (by decide) (by decide) (by decide)).trans ((uT_n (by decide)).trans hT0)), (g2 10 (by decide) (by decide)).trans ((hs2.2 10 (by decide) (by decide) (by decide)).trans ((uT_n (by decide)).trans hT10)), (g2 20 (by decide) (by decide)).trans ((hs2.2 20 (by decide) (by decide) (by decide)).trans (uT_s.trans (by simp [thr, hg]))), hCB5.sm9 (fun f h => g1 f (by omega) (by omega) (by omega)), g3, fun q hq => by rw [g1 9 (by decide) (by decide) (by decide), uC_s, pk_un (by omega), hc4 9 (by decide) (by decide), hc3 9 (by decide) (by decide), hs2.1 9 (by decide) (by decide) (by decide)]; exact h9 q hq, fun q hq => by rw [g5 q hq, uC_n (by decide), hc4 13 (by decide) (by decide), hc3 13 (by decide) (by decide), hs2.1 13 (by decide) (by decide) (by decide)]; exact h13 q hq, hB2, hk, by rcases g4 with ⟨-, -, rfl⟩ | ⟨-, -, rfl⟩; exact hWP; exact lfP_lt hWP _ 20⟩, (((((hF1.tr hF2).tr hF3).tr hF4).up (hWf 9)).tr hF5), g4⟩
  · exact absurd c11 (by simp [hg])
set_option maxHeartbeats 4000000 in
set_option maxRecDepth 100000 in
theorem c_Mremove_gone {l : Launch} {ω : Om} {M : MM} {Y : Nat → Nat} {B P : FF} {n k t : Nat} (hS : MS ω Y B P n k t M) {W : Nat → Prop} (hWf : ∀ f, W (Y f)) {j : Nat} (hj : j < n) (hg : B j 8 ≠ 0) : Ct l ω yX5_remove wsX5_remove rmX5_remove [.ref (Y 0), .int (nI j)] M (fun v M9 => v = some (.int (nI 0)) ∧ MS ω Y B P n k 1 M9 ∧ Fr W M M9) 0 0 := by
  refine Ct.ofV (cc := cX5_remove) (maxL := 2) (ret := (some .int)) [some (.ref (Y 0)), some (.int (nI j))] (by decide) rfl (Nat.le_of_ble_eq_true rfl) rfl (Lc.av (av := [.ref (Y 0), .int (nI j)]) (k := 0) rfl) ?_
  intro σ F hl hr hname
  have F : Fx ω σ cX5_remove 2 wsX5_remove RX5 rmX5_remove := F
  obtain ⟨C, T, hI, hT0, hT10, hT20, hCB, hCP, h9, h13, hB, hk, hWP⟩ := hS
  have hn : n ≤ 24 := hB.1
  have hW : ∀ i j, B i j < 128 := hB.2.1
  refine v_aload_n F dX5_remove_0 rfl rfl ?_
  refine v_aload_n F dX5_remove_1 rfl rfl ?_
  refine v_iload_n F dX5_remove_2 rfl ?_
  refine v_callV F 1 [_] rfl rfl rfl (c_isBox_in hI hT0 hCB hB hj) gX5_remove_X5_isBox rfl hd_X5_isBox ⟨⟨rfl, rfl⟩, ⟨(Nat.le_of_ble_eq_true rfl), (Nat.le_of_ble_eq_true rfl)⟩, ⟨(Nat.le_of_ble_eq_true rfl), (Nat.le_of_ble_eq_true rfl)⟩, (Nat.le_of_ble_eq_true rfl)⟩ hI.x rfl dX5_remove_3 (fun v3 M3 q3 => ?_)
  obtain ⟨rfl, e3⟩ := q3
  replace e3 := e3.symm
  subst e3
  refine v_iconst (v := nI 1) F dX5_remove_6 (by decide) ?_
  refine V.toI (show nI 1 = bI true from rfl) ?_
  refine v_iconst (v := nI 1) F dX5_remove_7 (by decide) ?_
  refine V.toI (show nI 1 = bI true from rfl) ?_
  refine v_callV F 3 [_, _, _] rfl rfl rfl (c_X5_goes hI hWf) gX5_remove_X5_goes rfl hd_X5_goes ⟨⟨rfl, rfl⟩, ⟨(Nat.le_of_ble_eq_true rfl), (Nat.le_of_ble_eq_true rfl)⟩, ⟨(Nat.le_of_ble_eq_true rfl), (Nat.le_of_ble_eq_true rfl)⟩, (Nat.le_of_ble_eq_true rfl)⟩ hI.x rfl dX5_remove_8 (fun v8 M8 q8 => ?_)
  obtain ⟨rfl, hI1, hF1⟩ := q8
  refine v_if_ne_b F 16 dX5_remove_11 (by decide) (fun c11 => ?_) (fun c11 => ?_)
  · exact absurd c11 (by simp [hg])
  · refine v_iconst (v := nI 0) F dX5_remove_14 (by decide) ?_
    exact v_iret F hr dX5_remove_15 (Nat.le_of_ble_eq_true rfl) (Nat.le_of_ble_eq_true rfl) ⟨rfl, (by rw [show thr (decide (B j 8 = 0)) true true = 1 by simp [thr, hg]] at hI1; exact MS.q (t0 := 0) hI1 Sm2.rf hT0 hT10 hCB hCP h9 h13 hB hk hWP), hF1⟩
set_option maxHeartbeats 4000000 in
set_option maxRecDepth 100000 in
theorem c_Mremove_out {l : Launch} {ω : Om} {M : MM} {Y : Nat → Nat} {B P : FF} {n k t : Nat} (hS : MS ω Y B P n k t M) {W : Nat → Prop} (hWf : ∀ f, W (Y f)) {j : Int32} (hj : j < 0 ∨ nI n ≤ j) : Ct l ω yX5_remove wsX5_remove rmX5_remove [.ref (Y 0), .int j] M (fun v M9 => v = some (.int (nI 0)) ∧ MS ω Y B P n k 1 M9 ∧ Fr W M M9) 0 0 := by
  refine Ct.ofV (cc := cX5_remove) (maxL := 2) (ret := (some .int)) [some (.ref (Y 0)), some (.int j)] (by decide) rfl (Nat.le_of_ble_eq_true rfl) rfl (Lc.av (av := [.ref (Y 0), .int j]) (k := 0) rfl) ?_
  intro σ F hl hr hname
  have F : Fx ω σ cX5_remove 2 wsX5_remove RX5 rmX5_remove := F
  obtain ⟨C, T, hI, hT0, hT10, hT20, hCB, hCP, h9, h13, hB, hk, hWP⟩ := hS
  have hn : n ≤ 24 := hB.1
  have hW : ∀ i j, B i j < 128 := hB.2.1
  refine v_aload_n F dX5_remove_0 rfl rfl ?_
  refine v_aload_n F dX5_remove_1 rfl rfl ?_
  refine v_iload_n F dX5_remove_2 rfl ?_
  refine v_callV F 1 [_] rfl rfl rfl (c_isBox_out hI hT0 hCB hB hj) gX5_remove_X5_isBox rfl hd_X5_isBox ⟨⟨rfl, rfl⟩, ⟨(Nat.le_of_ble_eq_true rfl), (Nat.le_of_ble_eq_true rfl)⟩, ⟨(Nat.le_of_ble_eq_true rfl), (Nat.le_of_ble_eq_true rfl)⟩, (Nat.le_of_ble_eq_true rfl)⟩ hI.x rfl dX5_remove_3 (fun v3 M3 q3 => ?_)
  obtain ⟨rfl, e3⟩ := q3
  replace e3 := e3.symm
  subst e3
  refine v_iconst (v := nI 1) F dX5_remove_6 (by decide) ?_
  refine V.toI (show nI 1 = bI true from rfl) ?_
  refine v_iconst (v := nI 1) F dX5_remove_7 (by decide) ?_
  refine V.toI (show nI 1 = bI true from rfl) ?_
  refine v_callV F 3 [_, _, _] rfl rfl rfl (c_X5_goes hI hWf) gX5_remove_X5_goes rfl hd_X5_goes ⟨⟨rfl, rfl⟩, ⟨(Nat.le_of_ble_eq_true rfl), (Nat.le_of_ble_eq_true rfl)⟩, ⟨(Nat.le_of_ble_eq_true rfl), (Nat.le_of_ble_eq_true rfl)⟩, (Nat.le_of_ble_eq_true rfl)⟩ hI.x rfl dX5_remove_8 (fun v8 M8 q8 => ?_)
  obtain ⟨rfl, hI1, hF1⟩ := q8
  refine v_if_ne_b F 16 dX5_remove_11 (by decide) (fun c11 => ?_) (fun c11 => ?_)
  · exact absurd c11 (by decide)
  · refine v_iconst (v := nI 0) F dX5_remove_14 (by decide) ?_
    exact v_iret F hr dX5_remove_15 (Nat.le_of_ble_eq_true rfl) (Nat.le_of_ble_eq_true rfl) ⟨rfl, MS.q (t0 := 0) hI1 Sm2.rf hT0 hT10 hCB hCP h9 h13 hB hk hWP, hF1⟩
