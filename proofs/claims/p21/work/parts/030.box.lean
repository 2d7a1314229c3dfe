/-! the boxes' own methods -/
def rmX1_bottom : Room := { frames := 0, cells := 0, slots := 0, locals := 0 }
theorem hd_X1_bottom : yX1_bottom.cls = (RX1, TX1, 10).1 ∧ yX1_bottom.cls ≠ "java/lang/invoke/MethodHandle" ∧ yX1_bottom.cls ≠ "java/lang/invoke/VarHandle" ∧ (parseMethodDescriptor yX1_bottom.desc).map (fun d => d.parameters.length) = some 0 := by decide +kernel
theorem fo_X1_bottom_32 : FO wsX1_bottom RX1 32 1 4 := ⟨_, _, _, rfl, by decide, by decide +kernel, by decide +kernel⟩
theorem fo_X1_bottom_38 : FO wsX1_bottom RX1 38 1 6 := ⟨_, _, _, rfl, by decide, by decide +kernel, by decide +kernel⟩
set_option maxHeartbeats 4000000 in
set_option maxRecDepth 100000 in
theorem c_X1_bottom {l : Launch} {ω : Om} {M : MM} {b i : Nat} {A B : FF} (hW : ∀ i j, B i j < 128) (hb : M b = some (.inr (1, bxF A B i))) : Ct l ω yX1_bottom wsX1_bottom rmX1_bottom [.ref b] M (fun v M9 => v = some (.int (nI (B i 2 + B i 4))) ∧ M9 = M) 0 0 := by
  refine Ct.ofV (cc := cX1_bottom) (maxL := 1) (ret := (some .int)) [some (.ref b)] (by decide) rfl (Nat.le_of_ble_eq_true rfl) rfl (Lc.av (av := [.ref b]) (k := 0) rfl) ?_
  intro σ F hl hr hname
  have F : Fx ω σ cX1_bottom 1 wsX1_bottom RX1 rmX1_bottom := F
  refine v_aload_n F dX1_bottom_0 rfl rfl ?_
  refine v_get F 1 4 fo_X1_bottom_32 dX1_bottom_1 hb rfl ?_
  refine v_aload_n F dX1_bottom_4 rfl rfl ?_
  refine v_get F 1 6 fo_X1_bottom_38 dX1_bottom_5 hb rfl ?_
  refine v_iadd_n F dX1_bottom_8 ?_
  exact v_iret F hr dX1_bottom_9 (Nat.le_of_ble_eq_true rfl) (Nat.le_of_ble_eq_true rfl) ⟨rfl, rfl⟩
def rmX1_begin : Room := { frames := 0, cells := 0, slots := 0, locals := 0 }
theorem hd_X1_begin : yX1_begin.cls = (RX1, TX1, 10).1 ∧ yX1_begin.cls ≠ "java/lang/invoke/MethodHandle" ∧ yX1_begin.cls ≠ "java/lang/invoke/VarHandle" ∧ (parseMethodDescriptor yX1_begin.desc).map (fun d => d.parameters.length) = some 1 := by decide +kernel
theorem fo_X1_begin_29 : FO wsX1_begin RX1 29 1 3 := ⟨_, _, _, rfl, by decide, by decide +kernel, by decide +kernel⟩
theorem fo_X1_begin_32 : FO wsX1_begin RX1 32 1 4 := ⟨_, _, _, rfl, by decide, by decide +kernel, by decide +kernel⟩
set_option maxHeartbeats 4000000 in
set_option maxRecDepth 100000 in
theorem c_X1_begin {l : Launch} {ω : Om} {M : MM} {b i : Nat} {ac : Bool} {A B : FF} (hW : ∀ i j, B i j < 128) (hb : M b = some (.inr (1, bxF A B i))) : Ct l ω yX1_begin wsX1_begin rmX1_begin [.ref b, .int (bI ac)] M (fun v M9 => v = some (.int (nI (B i (if ac then 2 else 1)))) ∧ M9 = M) 0 0 := by
  refine Ct.ofV (cc := cX1_begin) (maxL := 2) (ret := (some .int)) [some (.ref b), some (.int (bI ac))] (by decide) rfl (Nat.le_of_ble_eq_true rfl) rfl (Lc.av (av := [.ref b, .int (bI ac)]) (k := 0) rfl) ?_
  intro σ F hl hr hname
  have F : Fx ω σ cX1_begin 2 wsX1_begin RX1 rmX1_begin := F
  refine v_iload_n F dX1_begin_0 rfl ?_
  refine v_if_eq_b F 11 dX1_begin_1 (by decide) (fun c1 => ?_) (fun c1 => ?_)
  · refine v_aload_n F dX1_begin_11 rfl rfl ?_
    refine v_get F 1 3 fo_X1_begin_29 dX1_begin_12 hb rfl ?_
    exact v_iret F hr dX1_begin_15 (Nat.le_of_ble_eq_true rfl) (Nat.le_of_ble_eq_true rfl) ⟨by simp [*], rfl⟩
  · refine v_aload_n F dX1_begin_4 rfl rfl ?_
    refine v_get F 1 4 fo_X1_begin_32 dX1_begin_5 hb rfl ?_
    refine v_goto F 15 dX1_begin_8 (by decide) ?_
    exact v_iret F hr dX1_begin_15 (Nat.le_of_ble_eq_true rfl) (Nat.le_of_ble_eq_true rfl) ⟨by simp [*], rfl⟩
def rmX1_end : Room := { frames := 0, cells := 0, slots := 0, locals := 0 }
theorem hd_X1_end : yX1_end.cls = (RX1, TX1, 10).1 ∧ yX1_end.cls ≠ "java/lang/invoke/MethodHandle" ∧ yX1_end.cls ≠ "java/lang/invoke/VarHandle" ∧ (parseMethodDescriptor yX1_end.desc).map (fun d => d.parameters.length) = some 1 := by decide +kernel
theorem fo_X1_end_29 : FO wsX1_end RX1 29 1 3 := ⟨_, _, _, rfl, by decide, by decide +kernel, by decide +kernel⟩
theorem fo_X1_end_32 : FO wsX1_end RX1 32 1 4 := ⟨_, _, _, rfl, by decide, by decide +kernel, by decide +kernel⟩
theorem fo_X1_end_35 : FO wsX1_end RX1 35 1 5 := ⟨_, _, _, rfl, by decide, by decide +kernel, by decide +kernel⟩
theorem fo_X1_end_38 : FO wsX1_end RX1 38 1 6 := ⟨_, _, _, rfl, by decide, by decide +kernel, by decide +kernel⟩
set_option maxHeartbeats 4000000 in
set_option maxRecDepth 100000 in
theorem c_X1_end {l : Launch} {ω : Om} {M : MM} {b i : Nat} {ac : Bool} {A B : FF} (hW : ∀ i j, B i j < 128) (hb : M b = some (.inr (1, bxF A B i))) : Ct l ω yX1_end wsX1_end rmX1_end [.ref b, .int (bI ac)] M (fun v M9 => v = some (.int (nI (if ac then B i 2 + B i 4 else B i 1 + B i 3))) ∧ M9 = M) 0 0 := by
  refine Ct.ofV (cc := cX1_end) (maxL := 2) (ret := (some .int)) [some (.ref b), some (.int (bI ac))] (by decide) rfl (Nat.le_of_ble_eq_true rfl) rfl (Lc.av (av := [.ref b, .int (bI ac)]) (k := 0) rfl) ?_
  intro σ F hl hr hname
  have F : Fx ω σ cX1_end 2 wsX1_end RX1 rmX1_end := F
  refine v_iload_n F dX1_end_0 rfl ?_
  refine v_if_eq_b F 16 dX1_end_1 (by decide) (fun c1 => ?_) (fun c1 => ?_)
  · refine v_aload_n F dX1_end_16 rfl rfl ?_
    refine v_get F 1 3 fo_X1_end_29 dX1_end_17 hb rfl ?_
    refine v_aload_n F dX1_end_20 rfl rfl ?_
    refine v_get F 1 5 fo_X1_end_35 dX1_end_21 hb rfl ?_
    refine v_iadd_n F dX1_end_24 ?_
    exact v_iret F hr dX1_end_25 (Nat.le_of_ble_eq_true rfl) (Nat.le_of_ble_eq_true rfl) ⟨by simp [*], rfl⟩
  · refine v_aload_n F dX1_end_4 rfl rfl ?_
    refine v_get F 1 4 fo_X1_end_32 dX1_end_5 hb rfl ?_
    refine v_aload_n F dX1_end_8 rfl rfl ?_
    refine v_get F 1 6 fo_X1_end_38 dX1_end_9 hb rfl ?_
    refine v_iadd_n F dX1_end_12 ?_
    refine v_goto F 25 dX1_end_13 (by decide) ?_
    exact v_iret F hr dX1_end_25 (Nat.le_of_ble_eq_true rfl) (Nat.le_of_ble_eq_true rfl) ⟨by simp [*], rfl⟩
def rmX1_middleAcross : Room := { frames := 0, cells := 0, slots := 0, locals := 0 }
theorem hd_X1_middleAcross : yX1_middleAcross.cls = (RX1, TX1, 10).1 ∧ yX1_middleAcross.cls ≠ "java/lang/invoke/MethodHandle" ∧ yX1_middleAcross.cls ≠ "java/lang/invoke/VarHandle" ∧ (parseMethodDescriptor yX1_middleAcross.desc).map (fun d => d.parameters.length) = some 0 := by decide +kernel
theorem fo_X1_middleAcross_29 : FO wsX1_middleAcross RX1 29 1 3 := ⟨_, _, _, rfl, by decide, by decide +kernel, by decide +kernel⟩
theorem fo_X1_middleAcross_35 : FO wsX1_middleAcross RX1 35 1 5 := ⟨_, _, _, rfl, by decide, by decide +kernel, by decide +kernel⟩
set_option maxHeartbeats 4000000 in
set_option maxRecDepth 100000 in
theorem c_X1_middleAcross {l : Launch} {ω : Om} {M : MM} {b i : Nat} {A B : FF} (hW : ∀ i j, B i j < 128) (hb : M b = some (.inr (1, bxF A B i))) : Ct l ω yX1_middleAcross wsX1_middleAcross rmX1_middleAcross [.ref b] M (fun v M9 => v = some (.int (nI (B i 1 + B i 3 / 2))) ∧ M9 = M) 0 0 := by
  refine Ct.ofV (cc := cX1_middleAcross) (maxL := 1) (ret := (some .int)) [some (.ref b)] (by decide) rfl (Nat.le_of_ble_eq_true rfl) rfl (Lc.av (av := [.ref b]) (k := 0) rfl) ?_
  intro σ F hl hr hname
  have F : Fx ω σ cX1_middleAcross 1 wsX1_middleAcross RX1 rmX1_middleAcross := F
  refine v_aload_n F dX1_middleAcross_0 rfl rfl ?_
  refine v_get F 1 3 fo_X1_middleAcross_29 dX1_middleAcross_1 hb rfl ?_
  refine v_aload_n F dX1_middleAcross_4 rfl rfl ?_
  refine v_get F 1 5 fo_X1_middleAcross_35 dX1_middleAcross_5 hb rfl ?_
  refine v_iconst (v := nI 2) F dX1_middleAcross_8 (by decide) ?_
  refine v_idiv_n F dX1_middleAcross_9 (by first | omega | exact Nat.lt_trans (hW _ _) (by decide) | (have h1 := hW i 1; have h2 := hW i 2; have h3 := hW i 3; have h4 := hW i 4; have h5 := hW i 5; omega)) (by decide) (by decide) ?_
  refine v_iadd_n F dX1_middleAcross_10 ?_
  exact v_iret F hr dX1_middleAcross_11 (Nat.le_of_ble_eq_true rfl) (Nat.le_of_ble_eq_true rfl) ⟨rfl, rfl⟩
def rmX1_middleDown : Room := { frames := 0, cells := 0, slots := 0, locals := 0 }
theorem hd_X1_middleDown : yX1_middleDown.cls = (RX1, TX1, 10).1 ∧ yX1_middleDown.cls ≠ "java/lang/invoke/MethodHandle" ∧ yX1_middleDown.cls ≠ "java/lang/invoke/VarHandle" ∧ (parseMethodDescriptor yX1_middleDown.desc).map (fun d => d.parameters.length) = some 0 := by decide +kernel
theorem fo_X1_middleDown_32 : FO wsX1_middleDown RX1 32 1 4 := ⟨_, _, _, rfl, by decide, by decide +kernel, by decide +kernel⟩
theorem fo_X1_middleDown_38 : FO wsX1_middleDown RX1 38 1 6 := ⟨_, _, _, rfl, by decide, by decide +kernel, by decide +kernel⟩
set_option maxHeartbeats 4000000 in
set_option maxRecDepth 100000 in
theorem c_X1_middleDown {l : Launch} {ω : Om} {M : MM} {b i : Nat} {A B : FF} (hW : ∀ i j, B i j < 128) (hb : M b = some (.inr (1, bxF A B i))) : Ct l ω yX1_middleDown wsX1_middleDown rmX1_middleDown [.ref b] M (fun v M9 => v = some (.int (nI (B i 2 + B i 4 / 2))) ∧ M9 = M) 0 0 := by
  refine Ct.ofV (cc := cX1_middleDown) (maxL := 1) (ret := (some .int)) [some (.ref b)] (by decide) rfl (Nat.le_of_ble_eq_true rfl) rfl (Lc.av (av := [.ref b]) (k := 0) rfl) ?_
  intro σ F hl hr hname
  have F : Fx ω σ cX1_middleDown 1 wsX1_middleDown RX1 rmX1_middleDown := F
  refine v_aload_n F dX1_middleDown_0 rfl rfl ?_
  refine v_get F 1 4 fo_X1_middleDown_32 dX1_middleDown_1 hb rfl ?_
  refine v_aload_n F dX1_middleDown_4 rfl rfl ?_
  refine v_get F 1 6 fo_X1_middleDown_38 dX1_middleDown_5 hb rfl ?_
  refine v_iconst (v := nI 2) F dX1_middleDown_8 (by decide) ?_
  refine v_idiv_n F dX1_middleDown_9 (by first | omega | exact Nat.lt_trans (hW _ _) (by decide) | (have h1 := hW i 1; have h2 := hW i 2; have h3 := hW i 3; have h4 := hW i 4; have h5 := hW i 5; omega)) (by decide) (by decide) ?_
  refine v_iadd_n F dX1_middleDown_10 ?_
  exact v_iret F hr dX1_middleDown_11 (Nat.le_of_ble_eq_true rfl) (Nat.le_of_ble_eq_true rfl) ⟨rfl, rfl⟩
def rmX1_isHead : Room := { frames := 0, cells := 0, slots := 0, locals := 0 }
theorem hd_X1_isHead : yX1_isHead.cls = (RX1, TX1, 10).1 ∧ yX1_isHead.cls ≠ "java/lang/invoke/MethodHandle" ∧ yX1_isHead.cls ≠ "java/lang/invoke/VarHandle" ∧ (parseMethodDescriptor yX1_isHead.desc).map (fun d => d.parameters.length) = some 0 := by decide +kernel
theorem fo_X1_isHead_41 : FO wsX1_isHead RX1 41 1 2 := ⟨_, _, _, rfl, by decide, by decide +kernel, by decide +kernel⟩
set_option maxHeartbeats 4000000 in
set_option maxRecDepth 100000 in
theorem c_X1_isHead {l : Launch} {ω : Om} {M : MM} {b i : Nat} {A B : FF} (hW : ∀ i j, B i j < 128) (hb : M b = some (.inr (1, bxF A B i))) : Ct l ω yX1_isHead wsX1_isHead rmX1_isHead [.ref b] M (fun v M9 => v = some (.int (bI (decide (4 ≤ B i 5)))) ∧ M9 = M) 0 0 := by
  refine Ct.ofV (cc := cX1_isHead) (maxL := 1) (ret := (some .boolean)) [some (.ref b)] (by decide) rfl (Nat.le_of_ble_eq_true rfl) rfl (Lc.av (av := [.ref b]) (k := 0) rfl) ?_
  intro σ F hl hr hname
  have F : Fx ω σ cX1_isHead 1 wsX1_isHead RX1 rmX1_isHead := F
  refine v_aload_n F dX1_isHead_0 rfl rfl ?_
  refine v_get F 1 2 fo_X1_isHead_41 dX1_isHead_1 hb rfl ?_
  refine v_iconst (v := nI 4) F dX1_isHead_4 (by decide) ?_
  refine v_icmp_lt_n F 12 dX1_isHead_5 (by decide) (by first | omega | exact Nat.lt_trans (hW _ _) (by decide) | (have h1 := hW i 1; have h2 := hW i 2; have h3 := hW i 3; have h4 := hW i 4; have h5 := hW i 5; omega)) (by first | omega | exact Nat.lt_trans (hW _ _) (by decide) | (have h1 := hW i 1; have h2 := hW i 2; have h3 := hW i 3; have h4 := hW i 4; have h5 := hW i 5; omega)) (fun c5 => ?_) (fun c5 => ?_)
  · refine v_iconst (v := nI 0) F dX1_isHead_12 (by decide) ?_
    exact v_zret F hr dX1_isHead_13 rfl (Nat.le_of_ble_eq_true rfl) (Nat.le_of_ble_eq_true rfl) (by first | exact ⟨zl1 (by simp; omega), rfl⟩ | exact ⟨zl0 (by simp; omega), rfl⟩)
  · refine v_iconst (v := nI 1) F dX1_isHead_8 (by decide) ?_
    refine v_goto F 13 dX1_isHead_9 (by decide) ?_
    exact v_zret F hr dX1_isHead_13 rfl (Nat.le_of_ble_eq_true rfl) (Nat.le_of_ble_eq_true rfl) (by first | exact ⟨zl1 (by simp; omega), rfl⟩ | exact ⟨zl0 (by simp; omega), rfl⟩)
def rmX1_level : Room := { frames := 0, cells := 0, slots := 0, locals := 0 }
theorem hd_X1_level : yX1_level.cls = (RX1, TX1, 10).1 ∧ yX1_level.cls ≠ "java/lang/invoke/MethodHandle" ∧ yX1_level.cls ≠ "java/lang/invoke/VarHandle" ∧ (parseMethodDescriptor yX1_level.desc).map (fun d => d.parameters.length) = some 0 := by decide +kernel
theorem fo_X1_level_41 : FO wsX1_level RX1 41 1 2 := ⟨_, _, _, rfl, by decide, by decide +kernel, by decide +kernel⟩
set_option maxHeartbeats 4000000 in
set_option maxRecDepth 100000 in
theorem c_X1_level {l : Launch} {ω : Om} {M : MM} {b i : Nat} {A B : FF} (hW : ∀ i j, B i j < 128) (hb : M b = some (.inr (1, bxF A B i))) (h4 : 4 ≤ B i 5) : Ct l ω yX1_level wsX1_level rmX1_level [.ref b] M (fun v M9 => v = some (.int (nI (B i 5 - 3))) ∧ M9 = M) 0 0 := by
  refine Ct.ofV (cc := cX1_level) (maxL := 1) (ret := (some .int)) [some (.ref b)] (by decide) rfl (Nat.le_of_ble_eq_true rfl) rfl (Lc.av (av := [.ref b]) (k := 0) rfl) ?_
  intro σ F hl hr hname
  have F : Fx ω σ cX1_level 1 wsX1_level RX1 rmX1_level := F
  refine v_aload_n F dX1_level_0 rfl rfl ?_
  refine v_get F 1 2 fo_X1_level_41 dX1_level_1 hb rfl ?_
  refine v_iconst (v := nI 4) F dX1_level_4 (by decide) ?_
  refine v_isub_n F dX1_level_5 (by first | omega | exact Nat.lt_trans (hW _ _) (by decide) | (have h1 := hW i 1; have h2 := hW i 2; have h3 := hW i 3; have h4 := hW i 4; have h5 := hW i 5; omega)) ?_
  refine v_iconst (v := nI 1) F dX1_level_6 (by decide) ?_
  refine v_iadd_n F dX1_level_7 ?_
  exact v_iret F hr dX1_level_8 (Nat.le_of_ble_eq_true rfl) (Nat.le_of_ble_eq_true rfl) ⟨il (by omega), rfl⟩
def ovl (B : FF) (i j : Nat) : Bool := decide (B i 1 < B j 1 + B j 3) && decide (B j 1 < B i 1 + B i 3) && decide (B i 2 < B j 2 + B j 4) && decide (B j 2 < B i 2 + B i 4)
def rmX1_overlaps : Room := { frames := 1, cells := 0, slots := 0, locals := 20 }
theorem hd_X1_overlaps : yX1_overlaps.cls = (RX1, TX1, 10).1 ∧ yX1_overlaps.cls ≠ "java/lang/invoke/MethodHandle" ∧ yX1_overlaps.cls ≠ "java/lang/invoke/VarHandle" ∧ (parseMethodDescriptor yX1_overlaps.desc).map (fun d => d.parameters.length) = some 1 := by decide +kernel
theorem fo_X1_overlaps_29 : FO wsX1_overlaps RX1 29 1 3 := ⟨_, _, _, rfl, by decide, by decide +kernel, by decide +kernel⟩
theorem fo_X1_overlaps_32 : FO wsX1_overlaps RX1 32 1 4 := ⟨_, _, _, rfl, by decide, by decide +kernel, by decide +kernel⟩
theorem fo_X1_overlaps_35 : FO wsX1_overlaps RX1 35 1 5 := ⟨_, _, _, rfl, by decide, by decide +kernel, by decide +kernel⟩
set_option maxHeartbeats 4000000 in
set_option maxRecDepth 100000 in
theorem c_X1_overlaps {l : Launch} {ω : Om} {M : MM} {b b2 i j : Nat} {A B : FF} (hW : ∀ i j, B i j < 128) (hb : M b = some (.inr (1, bxF A B i))) (hb2 : M b2 = some (.inr (1, bxF A B j))) : Ct l ω yX1_overlaps wsX1_overlaps rmX1_overlaps [.ref b, .ref b2] M (fun v M9 => v = some (.int (bI (ovl B i j))) ∧ M9 = M) 0 0 := by
  refine Ct.ofV (cc := cX1_overlaps) (maxL := 2) (ret := (some .boolean)) [some (.ref b), some (.ref b2)] (by decide) rfl (Nat.le_of_ble_eq_true rfl) rfl (Lc.av (av := [.ref b, .ref b2]) (k := 0) rfl) ?_
  intro σ F hl hr hname
  have F : Fx ω σ cX1_overlaps 2 wsX1_overlaps RX1 rmX1_overlaps := F
  refine v_aload_n F dX1_overlaps_0 rfl rfl ?_
  refine v_get F 1 3 fo_X1_overlaps_29 dX1_overlaps_1 (by first | exact hb | exact hb2) rfl ?_
  refine v_aload_n F dX1_overlaps_4 rfl rfl ?_
  refine v_get F 1 3 fo_X1_overlaps_29 dX1_overlaps_5 (by first | exact hb | exact hb2) rfl ?_
  refine v_aload_n F dX1_overlaps_8 rfl rfl ?_
  refine v_get F 1 5 fo_X1_overlaps_35 dX1_overlaps_9 (by first | exact hb | exact hb2) rfl ?_
  refine v_iadd_n F dX1_overlaps_12 ?_
  refine v_icmp_ge_n F 58 dX1_overlaps_13 (by decide) (by first | omega | exact Nat.lt_trans (hW _ _) (by decide) | (have h1 := hW i 1; have h2 := hW i 2; have h3 := hW i 3; have h4 := hW i 4; have g1 := hW j 1; have g2 := hW j 2; have g3 := hW j 3; have g4 := hW j 4; omega)) (by first | omega | exact Nat.lt_trans (hW _ _) (by decide) | (have h1 := hW i 1; have h2 := hW i 2; have h3 := hW i 3; have h4 := hW i 4; have g1 := hW j 1; have g2 := hW j 2; have g3 := hW j 3; have g4 := hW j 4; omega)) (fun c13 => ?_) (fun c13 => ?_)
  · refine v_iconst (v := nI 0) F dX1_overlaps_58 (by decide) ?_
    exact v_zret F hr dX1_overlaps_59 rfl (Nat.le_of_ble_eq_true rfl) (Nat.le_of_ble_eq_true rfl) (by first | exact ⟨zl1 (by simp [ovl]; omega), rfl⟩ | exact ⟨zl0 (by simp [ovl]; omega), rfl⟩)
  · refine v_aload_n F dX1_overlaps_16 rfl rfl ?_
    refine v_get F 1 3 fo_X1_overlaps_29 dX1_overlaps_17 (by first | exact hb | exact hb2) rfl ?_
    refine v_aload_n F dX1_overlaps_20 rfl rfl ?_
    refine v_get F 1 3 fo_X1_overlaps_29 dX1_overlaps_21 (by first | exact hb | exact hb2) rfl ?_
    refine v_aload_n F dX1_overlaps_24 rfl rfl ?_
    refine v_get F 1 5 fo_X1_overlaps_35 dX1_overlaps_25 (by first | exact hb | exact hb2) rfl ?_
    refine v_iadd_n F dX1_overlaps_28 ?_
    refine v_icmp_ge_n F 58 dX1_overlaps_29 (by decide) (by first | omega | exact Nat.lt_trans (hW _ _) (by decide) | (have h1 := hW i 1; have h2 := hW i 2; have h3 := hW i 3; have h4 := hW i 4; have g1 := hW j 1; have g2 := hW j 2; have g3 := hW j 3; have g4 := hW j 4; omega)) (by first | omega | exact Nat.lt_trans (hW _ _) (by decide) | (have h1 := hW i 1; have h2 := hW i 2; have h3 := hW i 3; have h4 := hW i 4; have g1 := hW j 1; have g2 := hW j 2; have g3 := hW j 3; have g4 := hW j 4; omega)) (fun c29 => ?_) (fun c29 => ?_)
    · refine v_iconst (v := nI 0) F dX1_overlaps_58 (by decide) ?_
      exact v_zret F hr dX1_overlaps_59 rfl (Nat.le_of_ble_eq_true rfl) (Nat.le_of_ble_eq_true rfl) (by first | exact ⟨zl1 (by simp [ovl]; omega), rfl⟩ | exact ⟨zl0 (by simp [ovl]; omega), rfl⟩)
    · refine v_aload_n F dX1_overlaps_32 rfl rfl ?_
      refine v_get F 1 4 fo_X1_overlaps_32 dX1_overlaps_33 (by first | exact hb | exact hb2) rfl ?_
      refine v_aload_n F dX1_overlaps_36 rfl rfl ?_
      refine v_callV F 0 [] rfl rfl rfl (c_X1_bottom hW hb2) gX1_overlaps_X1_bottom rfl hd_X1_bottom ⟨⟨rfl, rfl⟩, ⟨(Nat.le_of_ble_eq_true rfl), (Nat.le_of_ble_eq_true rfl)⟩, ⟨(Nat.le_of_ble_eq_true rfl), (Nat.le_of_ble_eq_true rfl)⟩, (Nat.le_of_ble_eq_true rfl)⟩ hb2 rfl dX1_overlaps_37 (fun v37 M37 q37 => ?_)
      obtain ⟨rfl, e37⟩ := q37
      replace e37 := e37.symm
      subst e37
      refine v_icmp_ge_n F 58 dX1_overlaps_40 (by decide) (by first | omega | exact Nat.lt_trans (hW _ _) (by decide) | (have h1 := hW i 1; have h2 := hW i 2; have h3 := hW i 3; have h4 := hW i 4; have g1 := hW j 1; have g2 := hW j 2; have g3 := hW j 3; have g4 := hW j 4; omega)) (by first | omega | exact Nat.lt_trans (hW _ _) (by decide) | (have h1 := hW i 1; have h2 := hW i 2; have h3 := hW i 3; have h4 := hW i 4; have g1 := hW j 1; have g2 := hW j 2; have g3 := hW j 3; have g4 := hW j 4; omega)) (fun c40 => ?_) (fun c40 => ?_)
      · refine v_iconst (v := nI 0) F dX1_overlaps_58 (by decide) ?_
        exact v_zret F hr dX1_overlaps_59 rfl (Nat.le_of_ble_eq_true rfl) (Nat.le_of_ble_eq_true rfl) (by first | exact ⟨zl1 (by simp [ovl]; omega), rfl⟩ | exact ⟨zl0 (by simp [ovl]; omega), rfl⟩)
      · refine v_aload_n F dX1_overlaps_43 rfl rfl ?_
        refine v_get F 1 4 fo_X1_overlaps_32 dX1_overlaps_44 (by first | exact hb | exact hb2) rfl ?_
        refine v_aload_n F dX1_overlaps_47 rfl rfl ?_
        refine v_callV F 0 [] rfl rfl rfl (c_X1_bottom hW hb) gX1_overlaps_X1_bottom rfl hd_X1_bottom ⟨⟨rfl, rfl⟩, ⟨(Nat.le_of_ble_eq_true rfl), (Nat.le_of_ble_eq_true rfl)⟩, ⟨(Nat.le_of_ble_eq_true rfl), (Nat.le_of_ble_eq_true rfl)⟩, (Nat.le_of_ble_eq_true rfl)⟩ hb rfl dX1_overlaps_48 (fun v48 M48 q48 => ?_)
        obtain ⟨rfl, e48⟩ := q48
        replace e48 := e48.symm
        subst e48
        refine v_icmp_ge_n F 58 dX1_overlaps_51 (by decide) (by first | omega | exact Nat.lt_trans (hW _ _) (by decide) | (have h1 := hW i 1; have h2 := hW i 2; have h3 := hW i 3; have h4 := hW i 4; have g1 := hW j 1; have g2 := hW j 2; have g3 := hW j 3; have g4 := hW j 4; omega)) (by first | omega | exact Nat.lt_trans (hW _ _) (by decide) | (have h1 := hW i 1; have h2 := hW i 2; have h3 := hW i 3; have h4 := hW i 4; have g1 := hW j 1; have g2 := hW j 2; have g3 := hW j 3; have g4 := hW j 4; omega)) (fun c51 => ?_) (fun c51 => ?_)
        · refine v_iconst (v := nI 0) F dX1_overlaps_58 (by decide) ?_
          exact v_zret F hr dX1_overlaps_59 rfl (Nat.le_of_ble_eq_true rfl) (Nat.le_of_ble_eq_true rfl) (by first | exact ⟨zl1 (by simp [ovl]; omega), rfl⟩ | exact ⟨zl0 (by simp [ovl]; omega), rfl⟩)
        · refine v_iconst (v := nI 1) F dX1_overlaps_54 (by decide) ?_
          refine v_goto F 59 dX1_overlaps_55 (by decide) ?_
          exact v_zret F hr dX1_overlaps_59 rfl (Nat.le_of_ble_eq_true rfl) (Nat.le_of_ble_eq_true rfl) (by first | exact ⟨zl1 (by simp [ovl]; omega), rfl⟩ | exact ⟨zl0 (by simp [ovl]; omega), rfl⟩)
def ahd (B : FF) (i j : Nat) : Bool := if B i 2 = B j 2 then (if B i 1 = B j 1 then decide (i < j) else decide (B i 1 < B j 1)) else decide (B i 2 < B j 2)
def rmX1_isAheadByEdges : Room := { frames := 0, cells := 0, slots := 0, locals := 0 }
theorem hd_X1_isAheadByEdges : yX1_isAheadByEdges.cls = (RX1, TX1, 10).1 ∧ yX1_isAheadByEdges.cls ≠ "java/lang/invoke/MethodHandle" ∧ yX1_isAheadByEdges.cls ≠ "java/lang/invoke/VarHandle" ∧ (parseMethodDescriptor yX1_isAheadByEdges.desc).map (fun d => d.parameters.length) = some 1 := by decide +kernel
theorem fo_X1_isAheadByEdges_22 : FO wsX1_isAheadByEdges RX1 22 1 0 := ⟨_, _, _, rfl, by decide, by decide +kernel, by decide +kernel⟩
theorem fo_X1_isAheadByEdges_29 : FO wsX1_isAheadByEdges RX1 29 1 3 := ⟨_, _, _, rfl, by decide, by decide +kernel, by decide +kernel⟩
theorem fo_X1_isAheadByEdges_32 : FO wsX1_isAheadByEdges RX1 32 1 4 := ⟨_, _, _, rfl, by decide, by decide +kernel, by decide +kernel⟩
set_option maxHeartbeats 4000000 in
set_option maxRecDepth 100000 in
theorem c_X1_isAheadByEdges {l : Launch} {ω : Om} {M : MM} {b b2 i j : Nat} {A B : FF} (hW : ∀ i j, B i j < 128) (hb : M b = some (.inr (1, bxF A B i))) (hb2 : M b2 = some (.inr (1, bxF A B j))) (hi : i < 24) (hj : j < 24) : Ct l ω yX1_isAheadByEdges wsX1_isAheadByEdges rmX1_isAheadByEdges [.ref b, .ref b2] M (fun v M9 => v = some (.int (bI (ahd B i j))) ∧ M9 = M) 0 0 := by
  refine Ct.ofV (cc := cX1_isAheadByEdges) (maxL := 2) (ret := (some .boolean)) [some (.ref b), some (.ref b2)] (by decide) rfl (Nat.le_of_ble_eq_true rfl) rfl (Lc.av (av := [.ref b, .ref b2]) (k := 0) rfl) ?_
  intro σ F hl hr hname
  have F : Fx ω σ cX1_isAheadByEdges 2 wsX1_isAheadByEdges RX1 rmX1_isAheadByEdges := F
  refine v_aload_n F dX1_isAheadByEdges_0 rfl rfl ?_
  refine v_get F 1 4 fo_X1_isAheadByEdges_32 dX1_isAheadByEdges_1 (by first | exact hb | exact hb2) rfl ?_
  refine v_aload_n F dX1_isAheadByEdges_4 rfl rfl ?_
  refine v_get F 1 4 fo_X1_isAheadByEdges_32 dX1_isAheadByEdges_5 (by first | exact hb | exact hb2) rfl ?_
  refine v_icmp_eq_n F 28 dX1_isAheadByEdges_8 (by decide) (by first | omega | exact Nat.lt_trans (hW _ _) (by decide) | (have h1 := hW i 1; have h2 := hW i 2; have h3 := hW i 3; have h4 := hW i 4; have g1 := hW j 1; have g2 := hW j 2; have g3 := hW j 3; have g4 := hW j 4; omega)) (by first | omega | exact Nat.lt_trans (hW _ _) (by decide) | (have h1 := hW i 1; have h2 := hW i 2; have h3 := hW i 3; have h4 := hW i 4; have g1 := hW j 1; have g2 := hW j 2; have g3 := hW j 3; have g4 := hW j 4; omega)) (fun c8 => ?_) (fun c8 => ?_)
  · refine v_aload_n F dX1_isAheadByEdges_28 rfl rfl ?_
    refine v_get F 1 3 fo_X1_isAheadByEdges_29 dX1_isAheadByEdges_29 (by first | exact hb | exact hb2) rfl ?_
    refine v_aload_n F dX1_isAheadByEdges_32 rfl rfl ?_
    refine v_get F 1 3 fo_X1_isAheadByEdges_29 dX1_isAheadByEdges_33 (by first | exact hb | exact hb2) rfl ?_
    refine v_icmp_eq_n F 56 dX1_isAheadByEdges_36 (by decide) (by first | omega | exact Nat.lt_trans (hW _ _) (by decide) | (have h1 := hW i 1; have h2 := hW i 2; have h3 := hW i 3; have h4 := hW i 4; have g1 := hW j 1; have g2 := hW j 2; have g3 := hW j 3; have g4 := hW j 4; omega)) (by first | omega | exact Nat.lt_trans (hW _ _) (by decide) | (have h1 := hW i 1; have h2 := hW i 2; have h3 := hW i 3; have h4 := hW i 4; have g1 := hW j 1; have g2 := hW j 2; have g3 := hW j 3; have g4 := hW j 4; omega)) (fun c36 => ?_) (fun c36 => ?_)
    · refine v_aload_n F dX1_isAheadByEdges_56 rfl rfl ?_
      refine v_get F 1 0 fo_X1_isAheadByEdges_22 dX1_isAheadByEdges_57 (by first | exact hb | exact hb2) rfl ?_
      refine v_aload_n F dX1_isAheadByEdges_60 rfl rfl ?_
      refine v_get F 1 0 fo_X1_isAheadByEdges_22 dX1_isAheadByEdges_61 (by first | exact hb | exact hb2) rfl ?_
      refine v_icmp_ge_n F 71 dX1_isAheadByEdges_64 (by decide) (by first | omega | exact Nat.lt_trans (hW _ _) (by decide) | (have h1 := hW i 1; have h2 := hW i 2; have h3 := hW i 3; have h4 := hW i 4; have g1 := hW j 1; have g2 := hW j 2; have g3 := hW j 3; have g4 := hW j 4; omega)) (by first | omega | exact Nat.lt_trans (hW _ _) (by decide) | (have h1 := hW i 1; have h2 := hW i 2; have h3 := hW i 3; have h4 := hW i 4; have g1 := hW j 1; have g2 := hW j 2; have g3 := hW j 3; have g4 := hW j 4; omega)) (fun c64 => ?_) (fun c64 => ?_)
      · refine v_iconst (v := nI 0) F dX1_isAheadByEdges_71 (by decide) ?_
        exact v_zret F hr dX1_isAheadByEdges_72 rfl (Nat.le_of_ble_eq_true rfl) (Nat.le_of_ble_eq_true rfl) (by first | (refine ⟨zl1 ?_, rfl⟩; simp [ahd, *]; done) | (refine ⟨zl1 ?_, rfl⟩; simp [ahd, *]; omega) | (refine ⟨zl0 ?_, rfl⟩; simp [ahd, *]; done) | (refine ⟨zl0 ?_, rfl⟩; simp [ahd, *]; omega))
      · refine v_iconst (v := nI 1) F dX1_isAheadByEdges_67 (by decide) ?_
        refine v_goto F 72 dX1_isAheadByEdges_68 (by decide) ?_
        exact v_zret F hr dX1_isAheadByEdges_72 rfl (Nat.le_of_ble_eq_true rfl) (Nat.le_of_ble_eq_true rfl) (by first | (refine ⟨zl1 ?_, rfl⟩; simp [ahd, *]; done) | (refine ⟨zl1 ?_, rfl⟩; simp [ahd, *]; omega) | (refine ⟨zl0 ?_, rfl⟩; simp [ahd, *]; done) | (refine ⟨zl0 ?_, rfl⟩; simp [ahd, *]; omega))
    · refine v_aload_n F dX1_isAheadByEdges_39 rfl rfl ?_
      refine v_get F 1 3 fo_X1_isAheadByEdges_29 dX1_isAheadByEdges_40 (by first | exact hb | exact hb2) rfl ?_
      refine v_aload_n F dX1_isAheadByEdges_43 rfl rfl ?_
      refine v_get F 1 3 fo_X1_isAheadByEdges_29 dX1_isAheadByEdges_44 (by first | exact hb | exact hb2) rfl ?_
      refine v_icmp_ge_n F 54 dX1_isAheadByEdges_47 (by decide) (by first | omega | exact Nat.lt_trans (hW _ _) (by decide) | (have h1 := hW i 1; have h2 := hW i 2; have h3 := hW i 3; have h4 := hW i 4; have g1 := hW j 1; have g2 := hW j 2; have g3 := hW j 3; have g4 := hW j 4; omega)) (by first | omega | exact Nat.lt_trans (hW _ _) (by decide) | (have h1 := hW i 1; have h2 := hW i 2; have h3 := hW i 3; have h4 := hW i 4; have g1 := hW j 1; have g2 := hW j 2; have g3 := hW j 3; have g4 := hW j 4; omega)) (fun c47 => ?_) (fun c47 => ?_)
      · refine v_iconst (v := nI 0) F dX1_isAheadByEdges_54 (by decide) ?_
        exact v_zret F hr dX1_isAheadByEdges_55 rfl (Nat.le_of_ble_eq_true rfl) (Nat.le_of_ble_eq_true rfl) (by first | (refine ⟨zl1 ?_, rfl⟩; simp [ahd, *]; done) | (refine ⟨zl1 ?_, rfl⟩; simp [ahd, *]; omega) | (refine ⟨zl0 ?_, rfl⟩; simp [ahd, *]; done) | (refine ⟨zl0 ?_, rfl⟩; simp [ahd, *]; omega))
      · refine v_iconst (v := nI 1) F dX1_isAheadByEdges_50 (by decide) ?_
        refine v_goto F 55 dX1_isAheadByEdges_51 (by decide) ?_
        exact v_zret F hr dX1_isAheadByEdges_55 rfl (Nat.le_of_ble_eq_true rfl) (Nat.le_of_ble_eq_true rfl) (by first | (refine ⟨zl1 ?_, rfl⟩; simp [ahd, *]; done) | (refine ⟨zl1 ?_, rfl⟩; simp [ahd, *]; omega) | (refine ⟨zl0 ?_, rfl⟩; simp [ahd, *]; done) | (refine ⟨zl0 ?_, rfl⟩; simp [ahd, *]; omega))
  · refine v_aload_n F dX1_isAheadByEdges_11 rfl rfl ?_
    refine v_get F 1 4 fo_X1_isAheadByEdges_32 dX1_isAheadByEdges_12 (by first | exact hb | exact hb2) rfl ?_
    refine v_aload_n F dX1_isAheadByEdges_15 rfl rfl ?_
    refine v_get F 1 4 fo_X1_isAheadByEdges_32 dX1_isAheadByEdges_16 (by first | exact hb | exact hb2) rfl ?_
    refine v_icmp_ge_n F 26 dX1_isAheadByEdges_19 (by decide) (by first | omega | exact Nat.lt_trans (hW _ _) (by decide) | (have h1 := hW i 1; have h2 := hW i 2; have h3 := hW i 3; have h4 := hW i 4; have g1 := hW j 1; have g2 := hW j 2; have g3 := hW j 3; have g4 := hW j 4; omega)) (by first | omega | exact Nat.lt_trans (hW _ _) (by decide) | (have h1 := hW i 1; have h2 := hW i 2; have h3 := hW i 3; have h4 := hW i 4; have g1 := hW j 1; have g2 := hW j 2; have g3 := hW j 3; have g4 := hW j 4; omega)) (fun c19 => ?_) (fun c19 => ?_)
    · refine v_iconst (v := nI 0) F dX1_isAheadByEdges_26 (by decide) ?_
      exact v_zret F hr dX1_isAheadByEdges_27 rfl (Nat.le_of_ble_eq_true rfl) (Nat.le_of_ble_eq_true rfl) (by first | (refine ⟨zl1 ?_, rfl⟩; simp [ahd, *]; done) | (refine ⟨zl1 ?_, rfl⟩; simp [ahd, *]; omega) | (refine ⟨zl0 ?_, rfl⟩; simp [ahd, *]; done) | (refine ⟨zl0 ?_, rfl⟩; simp [ahd, *]; omega))
    · refine v_iconst (v := nI 1) F dX1_isAheadByEdges_22 (by decide) ?_
      refine v_goto F 27 dX1_isAheadByEdges_23 (by decide) ?_
      exact v_zret F hr dX1_isAheadByEdges_27 rfl (Nat.le_of_ble_eq_true rfl) (Nat.le_of_ble_eq_true rfl) (by first | (refine ⟨zl1 ?_, rfl⟩; simp [ahd, *]; done) | (refine ⟨zl1 ?_, rfl⟩; simp [ahd, *]; omega) | (refine ⟨zl0 ?_, rfl⟩; simp [ahd, *]; done) | (refine ⟨zl0 ?_, rfl⟩; simp [ahd, *]; omega))
