/-! the reference: approving -/
theorem Sm2.goes {C C' : Nat → Nat → Int32} {T T' : Nat → Nat} (h : Sm2 C C' T T') (t : Nat) : Sm2 C C' (uT T 20 t) (uT T' 20 t) := by
  refine ⟨h.1, fun f h1 h2 => ?_⟩
  by_cases hf : f = 20
  · subst hf; rw [uT_s, uT_s]
  · rw [uT_n hf, uT_n hf]; exact h.2 f h1 h2
theorem CPP.next {C : Nat → Nat → Int32} {P : FF} {k a p : Nat} (h : CPP C P k) (h0 : C 13 k = 0) : CPP (uC (uC C 11 (upd (C 11) k (nI a))) 12 (upd (uC C 11 (upd (C 11) k (nI a)) 12) k (nI p))) (nwP P k a p) (k + 1) := by
  intro i hi
  by_cases hik : i = k
  · subst hik
    refine ⟨?_, ?_, ?_⟩
    · rw [uC_n (by decide), uC_s, pk_us]; simp [nwP]
    · rw [uC_s, pk_us]; simp [nwP]
    · rw [uC_n (by decide), uC_n (by decide), h0]; simp [nwP, nI]
  · obtain ⟨a1, a2, a3⟩ := h i (by omega)
    rw [show nwP P k a p i = P i by funext b; simp [nwP, hik]]
    refine ⟨?_, ?_, ?_⟩
    · rw [uC_n (by decide), uC_s, pk_un hik]; exact a1
    · rw [uC_s, pk_un hik, uC_n (by decide)]; exact a2
    · rw [uC_n (by decide), uC_n (by decide)]; exact a3
theorem nwP_lt {P : FF} {k a p : Nat} (hP : ∀ i j, P i j < 128) (ha : a < 6) (hp : p < 5) : ∀ i j, nwP P k a p i j < 128 := by
  intro i j
  unfold nwP
  split
  · split
    · omega
    · split
      · omega
      · split <;> omega
  · exact hP i j
def rmX5_hasBox : Room := { frames := 4, cells := 0, slots := 0, locals := 97 }
theorem hd_X5_hasBox : yX5_hasBox.cls = (RX5, TX5, 21).1 ∧ yX5_hasBox.cls ≠ "java/lang/invoke/MethodHandle" ∧ yX5_hasBox.cls ≠ "java/lang/invoke/VarHandle" ∧ (parseMethodDescriptor yX5_hasBox.desc).map (fun d => d.parameters.length) = some 1 := by decide +kernel
theorem fo_X5_hasBox_82 : FO wsX5_hasBox RX5 82 5 14 := ⟨_, _, _, rfl, by decide, by decide +kernel, by decide +kernel⟩
set_option maxHeartbeats 4000000 in
set_option maxRecDepth 100000 in
theorem c_hasBox {l : Launch} {ω : Om} {M : MM} {Y : Nat → Nat} {C : Nat → Nat → Int32} {T : Nat → Nat} (hI : MI ω Y C T M) {B : FF} {n : Nat} (hT0 : T 0 = n) (hCB : CB C B n) (hB : WB B n) {W : Nat → Prop} (hWf : ∀ f, W (Y f)) (ρ : Nat → Nat) (hρ0 : ∀ i, ρ i < 24) (hρ : ∀ i y, i < n → B i 7 = y + 1 → ρ y < ρ i) {p : Nat} (hp : p < 5) (hFn : Fnd B n p) : Ct l ω yX5_hasBox wsX5_hasBox rmX5_hasBox [.ref (Y 0), .int (nI p)] M (fun v M9 => v = some (.int (bI (decide (0 < (ordF B n p).length)))) ∧ ∃ C9 T9, MI ω Y C9 T9 M9 ∧ Fr W M M9 ∧ Sm2 C C9 T T9 ∧ T9 14 = (ordF B n p).length ∧ Pf (C9 15) (ordF B n p)) 0 0 := by
  refine Ct.ofV (cc := cX5_hasBox) (maxL := 2) (ret := (some .boolean)) [some (.ref (Y 0)), some (.int (nI p))] (by decide) rfl (Nat.le_of_ble_eq_true rfl) rfl (Lc.av (av := [.ref (Y 0), .int (nI p)]) (k := 0) rfl) ?_
  intro σ F hl hr hname
  have F : Fx ω σ cX5_hasBox 2 wsX5_hasBox RX5 rmX5_hasBox := F
  have hn : n ≤ 24 := hB.1
  have hW : ∀ i j, B i j < 128 := hB.2.1
  have ho24 := hFn.2.2.2.2
  refine v_aload_n F dX5_hasBox_0 rfl rfl ?_
  refine v_iload_n F dX5_hasBox_1 rfl ?_
  refine v_callV F 1 [_] rfl rfl rfl (c_finds hI hT0 hCB hB hWf ρ hρ0 hρ hp hFn) gX5_hasBox_X5_finds rfl hd_X5_finds ⟨⟨rfl, rfl⟩, ⟨(Nat.le_of_ble_eq_true rfl), (Nat.le_of_ble_eq_true rfl)⟩, ⟨(Nat.le_of_ble_eq_true rfl), (Nat.le_of_ble_eq_true rfl)⟩, (Nat.le_of_ble_eq_true rfl)⟩ hI.x rfl dX5_hasBox_2 (fun v2 M2 q2 => ?_)
  obtain ⟨rfl, C9, T9, hI9, hF9, hs9, hl9, hp9⟩ := q2
  refine v_aload_n F dX5_hasBox_5 rfl rfl ?_
  refine v_get F 5 14 fo_X5_hasBox_82 dX5_hasBox_6 hI9.x rfl ?_
  refine V.toI (show nI (T9 14) = nI (ordF B n p).length by rw [hl9]) ?_
  refine v_if_le_n F 16 dX5_hasBox_9 (by decide) (by first | omega | exact Nat.lt_trans (hW _ _) (by decide)) (fun c9 => ?_) (fun c9 => ?_)
  · refine v_iconst (v := nI 0) F dX5_hasBox_16 (by decide) ?_
    exact v_zret F hr dX5_hasBox_17 rfl (Nat.le_of_ble_eq_true rfl) (Nat.le_of_ble_eq_true rfl) ⟨by first | (rw [decide_eq_true (by omega)]; rfl) | (rw [decide_eq_false (by omega)]; rfl), C9, T9, hI9, hF9, hs9, hl9, hp9⟩
  · refine v_iconst (v := nI 1) F dX5_hasBox_12 (by decide) ?_
    refine v_goto F 17 dX5_hasBox_13 (by decide) ?_
    exact v_zret F hr dX5_hasBox_17 rfl (Nat.le_of_ble_eq_true rfl) (Nat.le_of_ble_eq_true rfl) ⟨by first | (rw [decide_eq_true (by omega)]; rfl) | (rw [decide_eq_false (by omega)]; rfl), C9, T9, hI9, hF9, hs9, hl9, hp9⟩
def rmX5_approve : Room := { frames := 5, cells := 0, slots := 0, locals := 118 }
theorem hd_X5_approve : yX5_approve.cls = (RX5, TX5, 21).1 ∧ yX5_approve.cls ≠ "java/lang/invoke/MethodHandle" ∧ yX5_approve.cls ≠ "java/lang/invoke/VarHandle" ∧ (parseMethodDescriptor yX5_approve.desc).map (fun d => d.parameters.length) = some 2 := by decide +kernel
theorem fo_X5_approve_38 : FO wsX5_approve RX5 38 5 11 := ⟨_, _, _, rfl, by decide, by decide +kernel, by decide +kernel⟩
theorem fo_X5_approve_41 : FO wsX5_approve RX5 41 5 12 := ⟨_, _, _, rfl, by decide, by decide +kernel, by decide +kernel⟩
theorem fo_X5_approve_110 : FO wsX5_approve RX5 110 5 10 := ⟨_, _, _, rfl, by decide, by decide +kernel, by decide +kernel⟩
theorem fp_X5_approve_110 : FP wsX5_approve RX5 110 5 10 .int := ⟨_, _, _, tyX5, rfl, by decide, by decide +kernel, by decide +kernel, tyX5_ok, nmX5, rfl, by decide +kernel⟩
set_option maxHeartbeats 4000000 in
set_option maxRecDepth 100000 in
theorem c_Mapprove {l : Launch} {ω : Om} {M : MM} {Y : Nat → Nat} {B P : FF} {n k t : Nat} (hS : MS ω Y B P n k t M) {W : Nat → Prop} (hWf : ∀ f, W (Y f)) {a p : Nat} (ha : a < 6) (hp : p < 5) (hK : Ok B n p) (hne : 0 < (ordF B n p).length) (hk20 : k < 20) : Ct l ω yX5_approve wsX5_approve rmX5_approve [.ref (Y 0), .int (nI a), .int (nI p)] M (fun v M9 => v = some (.int (nI k)) ∧ MS ω Y B (nwP P k a p) n (k + 1) 0 M9 ∧ Fr W M M9) 0 0 := by
  refine Ct.ofV (cc := cX5_approve) (maxL := 4) (ret := (some .int)) [some (.ref (Y 0)), some (.int (nI a)), some (.int (nI p)), none] (by decide) rfl (Nat.le_of_ble_eq_true rfl) rfl (Lc.av (av := [.ref (Y 0), .int (nI a), .int (nI p)]) (k := 1) rfl) ?_
  intro σ F hl hr hname
  have F : Fx ω σ cX5_approve 4 wsX5_approve RX5 rmX5_approve := F
  obtain ⟨C, T, hI, hT0, hT10, hT20, hCB, hCP, h9, h13, hB, hk, hWP⟩ := hS
  have hn : n ≤ 24 := hB.1
  have hW : ∀ i j, B i j < 128 := hB.2.1
  obtain ⟨hFn, hox, ρ, hρ0, hρ⟩ := id hK
  have hoB : ∀ x, x ∈ ordF B n p → x < 128 := fun x hx => by have := hox x hx; omega
  refine v_iload_n F dX5_approve_0 rfl ?_
  refine v_iconst (v := nI 0) F dX5_approve_1 (by decide) ?_
  refine v_iconst (v := nI 5) F dX5_approve_2 (by decide) ?_
  refine v_callS F 3 [_, _, _] rfl rfl rfl (c_in_t (nI_nlt (a := a) (b := 0) (by omega) (by omega)) (nI_nlt (a := 5) (b := a) (by omega) (by omega))) gX5_approve_X5_in rfl hd_X5_in ⟨⟨rfl, rfl⟩, ⟨(Nat.le_of_ble_eq_true rfl), (Nat.le_of_ble_eq_true rfl)⟩, ⟨(Nat.le_of_ble_eq_true rfl), (Nat.le_of_ble_eq_true rfl)⟩, (Nat.le_of_ble_eq_true rfl)⟩ dX5_approve_3 (fun v3 M3 q3 => ?_)
  obtain ⟨rfl, e3⟩ := q3
  replace e3 := e3.symm
  subst e3
  refine v_if_eq_b F 20 dX5_approve_6 (by decide) (fun c6 => ?_) (fun c6 => ?_)
  · exact absurd c6 (by decide)
  · refine v_iload_n F dX5_approve_9 rfl ?_
    refine v_callS F 1 [_] rfl rfl rfl (c_isPage_t hp) gX5_approve_X5_isPage rfl hd_X5_isPage ⟨⟨rfl, rfl⟩, ⟨(Nat.le_of_ble_eq_true rfl), (Nat.le_of_ble_eq_true rfl)⟩, ⟨(Nat.le_of_ble_eq_true rfl), (Nat.le_of_ble_eq_true rfl)⟩, (Nat.le_of_ble_eq_true rfl)⟩ dX5_approve_10 (fun v10 M10 q10 => ?_)
    obtain ⟨rfl, e10⟩ := q10
    replace e10 := e10.symm
    subst e10
    refine v_if_eq_b F 20 dX5_approve_13 (by decide) (fun c13 => ?_) (fun c13 => ?_)
    · exact absurd c13 (by decide)
    · refine v_iconst (v := nI 1) F dX5_approve_16 (by decide) ?_
      refine v_goto F 21 dX5_approve_17 (by decide) ?_
      first | refine V.toI (show nI 1 = bI true from rfl) ?_ | refine V.toI (show nI 0 = bI false from rfl) ?_
      refine v_istore_n F dX5_approve_21 (Nat.le_of_ble_eq_true rfl) (ok2_d rfl) ?_
      refine v_aload_n F dX5_approve_22 rfl rfl ?_
      refine v_iload_n F dX5_approve_23 rfl ?_
      refine v_iload_n F dX5_approve_24 rfl ?_
      refine v_if_eq_b F 49 dX5_approve_25 (by decide) (fun c25 => ?_) (fun c25 => ?_)
      · exact absurd c25 (by simp)
      · refine v_aload_n F dX5_approve_28 rfl rfl ?_
        refine v_iload_n F dX5_approve_29 rfl ?_
        refine v_callV F 1 [_] rfl rfl rfl (c_hasBox hI hT0 hCB hB hWf ρ hρ0 hρ hp hFn) gX5_approve_X5_hasBox rfl hd_X5_hasBox ⟨⟨rfl, rfl⟩, ⟨(Nat.le_of_ble_eq_true rfl), (Nat.le_of_ble_eq_true rfl)⟩, ⟨(Nat.le_of_ble_eq_true rfl), (Nat.le_of_ble_eq_true rfl)⟩, (Nat.le_of_ble_eq_true rfl)⟩ hI.x rfl dX5_approve_30 (fun v30 M30 q30 => ?_)
        obtain ⟨rfl, C9, T9, hI9, hF9, hs9, hl9, hp9⟩ := q30
        have hT9 : T9 10 = k := (hs9.2 10 (by decide) (by decide)).trans hT10
        refine v_if_eq_b F 49 dX5_approve_33 (by decide) (fun c33 => ?_) (fun c33 => ?_)
        · exact absurd hne (of_decide_eq_false c33)
        · refine v_aload_n F dX5_approve_36 rfl rfl ?_
          refine v_get F 5 10 fo_X5_approve_110 dX5_approve_37 hI9.x rfl ?_
          refine V.toI (show nI (T9 10) = nI k by rw [hT9]) ?_
          refine v_bipush (v := nI 20) F dX5_approve_40 (by decide) ?_
          refine v_icmp_ge_n F 49 dX5_approve_42 (by decide) (by first | omega | exact Nat.lt_trans (hW _ _) (by decide)) (by first | omega | exact Nat.lt_trans (hW _ _) (by decide)) (fun c42 => ?_) (fun c42 => ?_)
          · exact absurd c42 (by omega)
          · refine v_iconst (v := nI 1) F dX5_approve_45 (by decide) ?_
            refine v_goto F 50 dX5_approve_46 (by decide) ?_
            first | refine V.toI (show nI 1 = bI true from rfl) ?_ | refine V.toI (show nI 0 = bI false from rfl) ?_
            refine v_iconst (v := nI 1) F dX5_approve_50 (by decide) ?_
            refine V.toI (show nI 1 = bI true from rfl) ?_
            refine v_callV F 3 [_, _, _] rfl rfl rfl (c_X5_goes hI9 hWf) gX5_approve_X5_goes rfl hd_X5_goes ⟨⟨rfl, rfl⟩, ⟨(Nat.le_of_ble_eq_true rfl), (Nat.le_of_ble_eq_true rfl)⟩, ⟨(Nat.le_of_ble_eq_true rfl), (Nat.le_of_ble_eq_true rfl)⟩, (Nat.le_of_ble_eq_true rfl)⟩ hI9.x rfl dX5_approve_51 (fun v51 M51 q51 => ?_)
            obtain ⟨rfl, hI1, hF1⟩ := q51
            have e9 : uT T9 20 (thr true true true) 10 = k := (uT_n (by decide)).trans hT9
            refine v_if_ne_b F 59 dX5_approve_54 (by decide) (fun c54 => ?_) (fun c54 => ?_)
            · refine v_aload_n F dX5_approve_59 rfl rfl ?_
              refine v_get F 5 11 fo_X5_approve_38 dX5_approve_60 hI1.x rfl ?_
              refine v_aload_n F dX5_approve_63 rfl rfl ?_
              refine v_get F 5 10 fo_X5_approve_110 dX5_approve_64 hI1.x rfl ?_
              refine V.toI (show nI (uT T9 20 (thr true true true) 10) = nI k by rw [e9]) ?_
              refine v_iload_n F dX5_approve_67 rfl ?_
              refine v_iast_n F dX5_approve_68 (hI1.r (f := 11) (sz := 20) (bl := 0) (by simp [isRow]) (by decide) (by decide)) (by first | omega | exact Nat.lt_trans (hW _ _) (by decide)) (by decide) ?_
              have hI2 := hI1.setC (f := 11) (sz := 20) (bl := 0) (by simp [isRow]) (by decide) (by decide) (upd (C9 11) k (nI a))
              refine v_aload_n F dX5_approve_69 rfl rfl ?_
              refine v_get F 5 12 fo_X5_approve_41 dX5_approve_70 hI2.x rfl ?_
              refine v_aload_n F dX5_approve_73 rfl rfl ?_
              refine v_get F 5 10 fo_X5_approve_110 dX5_approve_74 hI2.x rfl ?_
              refine V.toI (show nI (uT T9 20 (thr true true true) 10) = nI k by rw [e9]) ?_
              refine v_iload_n F dX5_approve_77 rfl ?_
              refine v_iast_n F dX5_approve_78 (hI2.r (f := 12) (sz := 20) (bl := 0) (by simp [isRow]) (by decide) (by decide)) (by first | omega | exact Nat.lt_trans (hW _ _) (by decide)) (by decide) ?_
              have hI3 := hI2.setC (f := 12) (sz := 20) (bl := 0) (by simp [isRow]) (by decide) (by decide) (upd (uC C9 11 (upd (C9 11) k (nI a)) 12) k (nI p))
              refine v_aload_n F dX5_approve_79 rfl rfl ?_
              refine v_dup F dX5_approve_80 rfl ?_
              refine v_get F 5 10 fo_X5_approve_110 dX5_approve_81 hI3.x rfl ?_
              refine V.toI (show nI (uT T9 20 (thr true true true) 10) = nI k by rw [e9]) ?_
              refine v_iconst (v := nI 1) F dX5_approve_84 (by decide) ?_
              refine v_iadd_n F dX5_approve_85 ?_
              refine v_put F 5 10 fp_X5_approve_110 dX5_approve_86 hI3.x rfl rfl (Nat.le_of_ble_eq_true rfl) ?_
              have hI4 := hI3.setT (f := 10) (v := k + 1) rfl
              refine v_aload_n F dX5_approve_89 rfl rfl ?_
              refine v_get F 5 10 fo_X5_approve_110 dX5_approve_90 hI4.x rfl ?_
              refine V.toI (show nI (uT (uT T9 20 (thr true true true)) 10 (k + 1) 10) = nI (k + 1) by rw [uT_s]) ?_
              refine v_iconst (v := nI 1) F dX5_approve_93 (by decide) ?_
              refine v_isub_n F dX5_approve_94 (by first | omega | exact Nat.lt_trans (hW _ _) (by decide)) ?_
              exact v_iret F hr dX5_approve_95 (Nat.le_of_ble_eq_true rfl) (Nat.le_of_ble_eq_true rfl) ⟨rfl, ⟨_, _, hI4, (uT_n (by decide)).trans ((uT_n (by decide)).trans ((hs9.2 0 (by decide) (by decide)).trans hT0)), uT_s, (uT_n (by decide)).trans uT_s, hCB.sm9 (fun f h => by rw [uC_n (by omega), uC_n (by omega)]; exact hs9.1 f (by omega) (by omega)), CPP.next (hCP.sm (hs9.1 11 (by decide) (by decide)) (hs9.1 12 (by decide) (by decide)) (hs9.1 13 (by decide) (by decide))) (by rw [hs9.1 13 (by decide) (by decide)]; exact h13 k (Nat.le_refl _)), fun q hq => by rw [uC_n (by decide), uC_n (by decide), hs9.1 9 (by decide) (by decide)]; exact h9 q hq, fun q hq => by rw [uC_n (by decide), uC_n (by decide), hs9.1 13 (by decide) (by decide)]; exact h13 q (by omega), hB, by omega, nwP_lt hWP ha hp⟩, ((((hF9.tr hF1).up (hWf 11)).up (hWf 12)).up (hWf 0))⟩
            · exact absurd c54 (by simp)
set_option maxHeartbeats 4000000 in
set_option maxRecDepth 100000 in
theorem c_Mapprove_none {l : Launch} {ω : Om} {M : MM} {Y : Nat → Nat} {B P : FF} {n k t : Nat} (hS : MS ω Y B P n k t M) {W : Nat → Prop} (hWf : ∀ f, W (Y f)) {a p : Nat} (ha : a < 6) (hp : p < 5) (hK : Ok B n p) (hne : ¬ (0 < (ordF B n p).length ∧ k < 20)) : Ct l ω yX5_approve wsX5_approve rmX5_approve [.ref (Y 0), .int (nI a), .int (nI p)] M (fun v M9 => v = some (.int (nI 0)) ∧ MS ω Y B P n k 2 M9 ∧ Fr W M M9) 0 0 := by
  refine Ct.ofV (cc := cX5_approve) (maxL := 4) (ret := (some .int)) [some (.ref (Y 0)), some (.int (nI a)), some (.int (nI p)), none] (by decide) rfl (Nat.le_of_ble_eq_true rfl) rfl (Lc.av (av := [.ref (Y 0), .int (nI a), .int (nI p)]) (k := 1) rfl) ?_
  intro σ F hl hr hname
  have F : Fx ω σ cX5_approve 4 wsX5_approve RX5 rmX5_approve := F
  obtain ⟨C, T, hI, hT0, hT10, hT20, hCB, hCP, h9, h13, hB, hk, hWP⟩ := hS
  have hn : n ≤ 24 := hB.1
  have hW : ∀ i j, B i j < 128 := hB.2.1
  obtain ⟨hFn, hox, ρ, hρ0, hρ⟩ := id hK
  have hoB : ∀ x, x ∈ ordF B n p → x < 128 := fun x hx => by have := hox x hx; omega
  refine v_iload_n F dX5_approve_0 rfl ?_
  refine v_iconst (v := nI 0) F dX5_approve_1 (by decide) ?_
  refine v_iconst (v := nI 5) F dX5_approve_2 (by decide) ?_
  refine v_callS F 3 [_, _, _] rfl rfl rfl (c_in_t (nI_nlt (a := a) (b := 0) (by omega) (by omega)) (nI_nlt (a := 5) (b := a) (by omega) (by omega))) gX5_approve_X5_in rfl hd_X5_in ⟨⟨rfl, rfl⟩, ⟨(Nat.le_of_ble_eq_true rfl), (Nat.le_of_ble_eq_true rfl)⟩, ⟨(Nat.le_of_ble_eq_true rfl), (Nat.le_of_ble_eq_true rfl)⟩, (Nat.le_of_ble_eq_true rfl)⟩ dX5_approve_3 (fun v3 M3 q3 => ?_)
  obtain ⟨rfl, e3⟩ := q3
  replace e3 := e3.symm
  subst e3
  refine v_if_eq_b F 20 dX5_approve_6 (by decide) (fun c6 => ?_) (fun c6 => ?_)
  · exact absurd c6 (by decide)
  · refine v_iload_n F dX5_approve_9 rfl ?_
    refine v_callS F 1 [_] rfl rfl rfl (c_isPage_t hp) gX5_approve_X5_isPage rfl hd_X5_isPage ⟨⟨rfl, rfl⟩, ⟨(Nat.le_of_ble_eq_true rfl), (Nat.le_of_ble_eq_true rfl)⟩, ⟨(Nat.le_of_ble_eq_true rfl), (Nat.le_of_ble_eq_true rfl)⟩, (Nat.le_of_ble_eq_true rfl)⟩ dX5_approve_10 (fun v10 M10 q10 => ?_)
    obtain ⟨rfl, e10⟩ := q10
    replace e10 := e10.symm
    subst e10
    refine v_if_eq_b F 20 dX5_approve_13 (by decide) (fun c13 => ?_) (fun c13 => ?_)
    · exact absurd c13 (by decide)
    · refine v_iconst (v := nI 1) F dX5_approve_16 (by decide) ?_
      refine v_goto F 21 dX5_approve_17 (by decide) ?_
      first | refine V.toI (show nI 1 = bI true from rfl) ?_ | refine V.toI (show nI 0 = bI false from rfl) ?_
      refine v_istore_n F dX5_approve_21 (Nat.le_of_ble_eq_true rfl) (ok2_d rfl) ?_
      refine v_aload_n F dX5_approve_22 rfl rfl ?_
      refine v_iload_n F dX5_approve_23 rfl ?_
      refine v_iload_n F dX5_approve_24 rfl ?_
      refine v_if_eq_b F 49 dX5_approve_25 (by decide) (fun c25 => ?_) (fun c25 => ?_)
      · exact absurd c25 (by simp)
      · refine v_aload_n F dX5_approve_28 rfl rfl ?_
        refine v_iload_n F dX5_approve_29 rfl ?_
        refine v_callV F 1 [_] rfl rfl rfl (c_hasBox hI hT0 hCB hB hWf ρ hρ0 hρ hp hFn) gX5_approve_X5_hasBox rfl hd_X5_hasBox ⟨⟨rfl, rfl⟩, ⟨(Nat.le_of_ble_eq_true rfl), (Nat.le_of_ble_eq_true rfl)⟩, ⟨(Nat.le_of_ble_eq_true rfl), (Nat.le_of_ble_eq_true rfl)⟩, (Nat.le_of_ble_eq_true rfl)⟩ hI.x rfl dX5_approve_30 (fun v30 M30 q30 => ?_)
        obtain ⟨rfl, C9, T9, hI9, hF9, hs9, hl9, hp9⟩ := q30
        have hT9 : T9 10 = k := (hs9.2 10 (by decide) (by decide)).trans hT10
        refine v_if_eq_b F 49 dX5_approve_33 (by decide) (fun c33 => ?_) (fun c33 => ?_)
        · refine v_iconst (v := nI 0) F dX5_approve_49 (by decide) ?_
          first | refine V.toI (show nI 1 = bI true from rfl) ?_ | refine V.toI (show nI 0 = bI false from rfl) ?_
          refine v_iconst (v := nI 1) F dX5_approve_50 (by decide) ?_
          refine V.toI (show nI 1 = bI true from rfl) ?_
          refine v_callV F 3 [_, _, _] rfl rfl rfl (c_X5_goes hI9 hWf) gX5_approve_X5_goes rfl hd_X5_goes ⟨⟨rfl, rfl⟩, ⟨(Nat.le_of_ble_eq_true rfl), (Nat.le_of_ble_eq_true rfl)⟩, ⟨(Nat.le_of_ble_eq_true rfl), (Nat.le_of_ble_eq_true rfl)⟩, (Nat.le_of_ble_eq_true rfl)⟩ hI9.x rfl dX5_approve_51 (fun v51 M51 q51 => ?_)
          obtain ⟨rfl, hI1, hF1⟩ := q51
          refine v_if_ne_b F 59 dX5_approve_54 (by decide) (fun c54 => ?_) (fun c54 => ?_)
          · exact absurd c54 (by simp)
          · refine v_iconst (v := nI 0) F dX5_approve_57 (by decide) ?_
            exact v_iret F hr dX5_approve_58 (Nat.le_of_ble_eq_true rfl) (Nat.le_of_ble_eq_true rfl) ⟨rfl, MS.q (t0 := 0) hI1 (hs9.goes _) hT0 hT10 hCB hCP h9 h13 hB hk hWP, hF9.tr hF1⟩
        · refine v_aload_n F dX5_approve_36 rfl rfl ?_
          refine v_get F 5 10 fo_X5_approve_110 dX5_approve_37 hI9.x rfl ?_
          refine V.toI (show nI (T9 10) = nI k by rw [hT9]) ?_
          refine v_bipush (v := nI 20) F dX5_approve_40 (by decide) ?_
          refine v_icmp_ge_n F 49 dX5_approve_42 (by decide) (by first | omega | exact Nat.lt_trans (hW _ _) (by decide)) (by first | omega | exact Nat.lt_trans (hW _ _) (by decide)) (fun c42 => ?_) (fun c42 => ?_)
          · refine v_iconst (v := nI 0) F dX5_approve_49 (by decide) ?_
            first | refine V.toI (show nI 1 = bI true from rfl) ?_ | refine V.toI (show nI 0 = bI false from rfl) ?_
            refine v_iconst (v := nI 1) F dX5_approve_50 (by decide) ?_
            refine V.toI (show nI 1 = bI true from rfl) ?_
            refine v_callV F 3 [_, _, _] rfl rfl rfl (c_X5_goes hI9 hWf) gX5_approve_X5_goes rfl hd_X5_goes ⟨⟨rfl, rfl⟩, ⟨(Nat.le_of_ble_eq_true rfl), (Nat.le_of_ble_eq_true rfl)⟩, ⟨(Nat.le_of_ble_eq_true rfl), (Nat.le_of_ble_eq_true rfl)⟩, (Nat.le_of_ble_eq_true rfl)⟩ hI9.x rfl dX5_approve_51 (fun v51 M51 q51 => ?_)
            obtain ⟨rfl, hI1, hF1⟩ := q51
            refine v_if_ne_b F 59 dX5_approve_54 (by decide) (fun c54 => ?_) (fun c54 => ?_)
            · exact absurd c54 (by simp)
            · refine v_iconst (v := nI 0) F dX5_approve_57 (by decide) ?_
              exact v_iret F hr dX5_approve_58 (Nat.le_of_ble_eq_true rfl) (Nat.le_of_ble_eq_true rfl) ⟨rfl, MS.q (t0 := 0) hI1 (hs9.goes _) hT0 hT10 hCB hCP h9 h13 hB hk hWP, hF9.tr hF1⟩
          · exact absurd ⟨of_decide_eq_true c33, by omega⟩ hne
set_option maxHeartbeats 4000000 in
set_option maxRecDepth 100000 in
theorem c_Mapprove_who {l : Launch} {ω : Om} {M : MM} {Y : Nat → Nat} {B P : FF} {n k t : Nat} (hS : MS ω Y B P n k t M) {W : Nat → Prop} (hWf : ∀ f, W (Y f)) {a p : Int32} (ha : a < nI 0 ∨ nI 5 < a) : Ct l ω yX5_approve wsX5_approve rmX5_approve [.ref (Y 0), .int a, .int p] M (fun v M9 => v = some (.int (nI 0)) ∧ MS ω Y B P n k 1 M9 ∧ Fr W M M9) 0 0 := by
  refine Ct.ofV (cc := cX5_approve) (maxL := 4) (ret := (some .int)) [some (.ref (Y 0)), some (.int a), some (.int p), none] (by decide) rfl (Nat.le_of_ble_eq_true rfl) rfl (Lc.av (av := [.ref (Y 0), .int a, .int p]) (k := 1) rfl) ?_
  intro σ F hl hr hname
  have F : Fx ω σ cX5_approve 4 wsX5_approve RX5 rmX5_approve := F
  obtain ⟨C, T, hI, hT0, hT10, hT20, hCB, hCP, h9, h13, hB, hk, hWP⟩ := hS
  have hn : n ≤ 24 := hB.1
  have hW : ∀ i j, B i j < 128 := hB.2.1
  refine v_iload_n F dX5_approve_0 rfl ?_
  refine v_iconst (v := nI 0) F dX5_approve_1 (by decide) ?_
  refine v_iconst (v := nI 5) F dX5_approve_2 (by decide) ?_
  refine v_callS F 3 [_, _, _] rfl rfl rfl (c_in_f ha) gX5_approve_X5_in rfl hd_X5_in ⟨⟨rfl, rfl⟩, ⟨(Nat.le_of_ble_eq_true rfl), (Nat.le_of_ble_eq_true rfl)⟩, ⟨(Nat.le_of_ble_eq_true rfl), (Nat.le_of_ble_eq_true rfl)⟩, (Nat.le_of_ble_eq_true rfl)⟩ dX5_approve_3 (fun v3 M3 q3 => ?_)
  obtain ⟨rfl, e3⟩ := q3
  replace e3 := e3.symm
  subst e3
  refine v_if_eq_b F 20 dX5_approve_6 (by decide) (fun c6 => ?_) (fun c6 => ?_)
  · refine v_iconst (v := nI 0) F dX5_approve_20 (by decide) ?_
    first | refine V.toI (show nI 1 = bI true from rfl) ?_ | refine V.toI (show nI 0 = bI false from rfl) ?_
    refine v_istore_n F dX5_approve_21 (Nat.le_of_ble_eq_true rfl) (ok2_d rfl) ?_
    refine v_aload_n F dX5_approve_22 rfl rfl ?_
    refine v_iload_n F dX5_approve_23 rfl ?_
    refine v_iload_n F dX5_approve_24 rfl ?_
    refine v_if_eq_b F 49 dX5_approve_25 (by decide) (fun c25 => ?_) (fun c25 => ?_)
    · refine v_iconst (v := nI 0) F dX5_approve_49 (by decide) ?_
      first | refine V.toI (show nI 1 = bI true from rfl) ?_ | refine V.toI (show nI 0 = bI false from rfl) ?_
      refine v_iconst (v := nI 1) F dX5_approve_50 (by decide) ?_
      refine V.toI (show nI 1 = bI true from rfl) ?_
      refine v_callV F 3 [_, _, _] rfl rfl rfl (c_X5_goes hI hWf) gX5_approve_X5_goes rfl hd_X5_goes ⟨⟨rfl, rfl⟩, ⟨(Nat.le_of_ble_eq_true rfl), (Nat.le_of_ble_eq_true rfl)⟩, ⟨(Nat.le_of_ble_eq_true rfl), (Nat.le_of_ble_eq_true rfl)⟩, (Nat.le_of_ble_eq_true rfl)⟩ hI.x rfl dX5_approve_51 (fun v51 M51 q51 => ?_)
      obtain ⟨rfl, hI1, hF1⟩ := q51
      refine v_if_ne_b F 59 dX5_approve_54 (by decide) (fun c54 => ?_) (fun c54 => ?_)
      · exact absurd c54 (by simp)
      · refine v_iconst (v := nI 0) F dX5_approve_57 (by decide) ?_
        exact v_iret F hr dX5_approve_58 (Nat.le_of_ble_eq_true rfl) (Nat.le_of_ble_eq_true rfl) ⟨rfl, MS.q (t0 := 0) hI1 Sm2.rf hT0 hT10 hCB hCP h9 h13 hB hk hWP, hF1⟩
    · exact absurd c25 (by simp)
  · exact absurd c6 (by decide)
set_option maxHeartbeats 4000000 in
set_option maxRecDepth 100000 in
theorem c_Mapprove_x {l : Launch} {ω : Om} {M : MM} {Y : Nat → Nat} {B P : FF} {n k t : Nat} (hS : MS ω Y B P n k t M) {W : Nat → Prop} (hWf : ∀ f, W (Y f)) {a : Nat} {y : Int32} (ha : a < 6) (hy : y < 0 ∨ nI 5 ≤ y) : Ct l ω yX5_approve wsX5_approve rmX5_approve [.ref (Y 0), .int (nI a), .int y] M (fun v M9 => v = some (.int (nI 0)) ∧ MS ω Y B P n k 1 M9 ∧ Fr W M M9) 0 0 := by
  refine Ct.ofV (cc := cX5_approve) (maxL := 4) (ret := (some .int)) [some (.ref (Y 0)), some (.int (nI a)), some (.int y), none] (by decide) rfl (Nat.le_of_ble_eq_true rfl) rfl (Lc.av (av := [.ref (Y 0), .int (nI a), .int y]) (k := 1) rfl) ?_
  intro σ F hl hr hname
  have F : Fx ω σ cX5_approve 4 wsX5_approve RX5 rmX5_approve := F
  obtain ⟨C, T, hI, hT0, hT10, hT20, hCB, hCP, h9, h13, hB, hk, hWP⟩ := hS
  have hn : n ≤ 24 := hB.1
  have hW : ∀ i j, B i j < 128 := hB.2.1
  refine v_iload_n F dX5_approve_0 rfl ?_
  refine v_iconst (v := nI 0) F dX5_approve_1 (by decide) ?_
  refine v_iconst (v := nI 5) F dX5_approve_2 (by decide) ?_
  refine v_callS F 3 [_, _, _] rfl rfl rfl (c_in_t (nI_nlt (a := a) (b := 0) (by omega) (by omega)) (nI_nlt (a := 5) (b := a) (by omega) (by omega))) gX5_approve_X5_in rfl hd_X5_in ⟨⟨rfl, rfl⟩, ⟨(Nat.le_of_ble_eq_true rfl), (Nat.le_of_ble_eq_true rfl)⟩, ⟨(Nat.le_of_ble_eq_true rfl), (Nat.le_of_ble_eq_true rfl)⟩, (Nat.le_of_ble_eq_true rfl)⟩ dX5_approve_3 (fun v3 M3 q3 => ?_)
  obtain ⟨rfl, e3⟩ := q3
  replace e3 := e3.symm
  subst e3
  refine v_if_eq_b F 20 dX5_approve_6 (by decide) (fun c6 => ?_) (fun c6 => ?_)
  · exact absurd c6 (by decide)
  · refine v_iload_n F dX5_approve_9 rfl ?_
    refine v_callS F 1 [_] rfl rfl rfl (c_isPage_f hy) gX5_approve_X5_isPage rfl hd_X5_isPage ⟨⟨rfl, rfl⟩, ⟨(Nat.le_of_ble_eq_true rfl), (Nat.le_of_ble_eq_true rfl)⟩, ⟨(Nat.le_of_ble_eq_true rfl), (Nat.le_of_ble_eq_true rfl)⟩, (Nat.le_of_ble_eq_true rfl)⟩ dX5_approve_10 (fun v10 M10 q10 => ?_)
    obtain ⟨rfl, e10⟩ := q10
    replace e10 := e10.symm
    subst e10
    refine v_if_eq_b F 20 dX5_approve_13 (by decide) (fun c13 => ?_) (fun c13 => ?_)
    · refine v_iconst (v := nI 0) F dX5_approve_20 (by decide) ?_
      first | refine V.toI (show nI 1 = bI true from rfl) ?_ | refine V.toI (show nI 0 = bI false from rfl) ?_
      refine v_istore_n F dX5_approve_21 (Nat.le_of_ble_eq_true rfl) (ok2_d rfl) ?_
      refine v_aload_n F dX5_approve_22 rfl rfl ?_
      refine v_iload_n F dX5_approve_23 rfl ?_
      refine v_iload_n F dX5_approve_24 rfl ?_
      refine v_if_eq_b F 49 dX5_approve_25 (by decide) (fun c25 => ?_) (fun c25 => ?_)
      · refine v_iconst (v := nI 0) F dX5_approve_49 (by decide) ?_
        first | refine V.toI (show nI 1 = bI true from rfl) ?_ | refine V.toI (show nI 0 = bI false from rfl) ?_
        refine v_iconst (v := nI 1) F dX5_approve_50 (by decide) ?_
        refine V.toI (show nI 1 = bI true from rfl) ?_
        refine v_callV F 3 [_, _, _] rfl rfl rfl (c_X5_goes hI hWf) gX5_approve_X5_goes rfl hd_X5_goes ⟨⟨rfl, rfl⟩, ⟨(Nat.le_of_ble_eq_true rfl), (Nat.le_of_ble_eq_true rfl)⟩, ⟨(Nat.le_of_ble_eq_true rfl), (Nat.le_of_ble_eq_true rfl)⟩, (Nat.le_of_ble_eq_true rfl)⟩ hI.x rfl dX5_approve_51 (fun v51 M51 q51 => ?_)
        obtain ⟨rfl, hI1, hF1⟩ := q51
        refine v_if_ne_b F 59 dX5_approve_54 (by decide) (fun c54 => ?_) (fun c54 => ?_)
        · exact absurd c54 (by simp)
        · refine v_iconst (v := nI 0) F dX5_approve_57 (by decide) ?_
          exact v_iret F hr dX5_approve_58 (Nat.le_of_ble_eq_true rfl) (Nat.le_of_ble_eq_true rfl) ⟨rfl, MS.q (t0 := 0) hI1 Sm2.rf hT0 hT10 hCB hCP h9 h13 hB hk hWP, hF1⟩
      · exact absurd c25 (by simp)
    · exact absurd c13 (by decide)
