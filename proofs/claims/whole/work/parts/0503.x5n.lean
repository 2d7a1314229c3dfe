/-! the reference: what a box is about -/
theorem oI_s (y : Nat) : oI (y + 1) = nI y := rfl
def rmX5_about : Room := { frames := 1, cells := 0, slots := 0, locals := 23 }
theorem hd_X5_about : yX5_about.cls = (RX5, TX5, 21).1 ∧ yX5_about.cls ≠ "java/lang/invoke/MethodHandle" ∧ yX5_about.cls ≠ "java/lang/invoke/VarHandle" ∧ (parseMethodDescriptor yX5_about.desc).map (fun d => d.parameters.length) = some 2 := by decide +kernel
theorem fo_X5_about_7 : FO wsX5_about RX5 7 5 1 := ⟨_, _, _, rfl, by decide, by decide +kernel, by decide +kernel⟩
theorem fo_X5_about_64 : FO wsX5_about RX5 64 5 0 := ⟨_, _, _, rfl, by decide, by decide +kernel, by decide +kernel⟩
set_option maxHeartbeats 4000000 in
set_option maxRecDepth 100000 in
theorem c_Mabout_0 {l : Launch} {ω : Om} {M : MM} {Y : Nat → Nat} {B P : FF} {n k t : Nat} (hS : MS ω Y B P n k t M) {W : Nat → Prop} (hWf : ∀ f, W (Y f)) {j : Nat} (hj : j < n) : Ct l ω yX5_about wsX5_about rmX5_about [.ref (Y 0), .int (nI j), .int (nI 0)] M (fun v M9 => v = some (.int (nI (B j 0))) ∧ MS ω Y B P n k 0 M9 ∧ Fr W M M9) 0 0 := by
  refine Ct.ofV (cc := cX5_about) (maxL := 3) (ret := (some .int)) [some (.ref (Y 0)), some (.int (nI j)), some (.int (nI 0))] (by decide) rfl (Nat.le_of_ble_eq_true rfl) rfl (Lc.av (av := [.ref (Y 0), .int (nI j), .int (nI 0)]) (k := 0) rfl) ?_
  intro σ F hl hr hname
  have F : Fx ω σ cX5_about 3 wsX5_about RX5 rmX5_about := F
  obtain ⟨C, T, hI, hT0, hT10, hT20, hCB, hCP, h9, h13, hB, hk, hWP⟩ := hS
  have hn : n ≤ 24 := hB.1
  have hW : ∀ i j, B i j < 128 := hB.2.1
  refine v_aload_n F dX5_about_0 rfl rfl ?_
  refine v_iload_n F dX5_about_1 rfl ?_
  refine v_iconst (v := nI 0) F dX5_about_2 (by decide) ?_
  refine v_aload_n F dX5_about_3 rfl rfl ?_
  refine v_get F 5 0 fo_X5_about_64 dX5_about_4 hI.x rfl ?_
  refine V.toI (show nI (T 0) = nI n by rw [hT0]) ?_
  refine v_iconst (v := nI 1) F dX5_about_7 (by decide) ?_
  refine v_isub F dX5_about_8 ?_
  refine v_callS F 3 [_, _, _] rfl rfl rfl (c_in_t (int24i (n := n) (by omega) hj).1 (int24i (n := n) (by omega) hj).2) gX5_about_X5_in rfl hd_X5_in ⟨⟨rfl, rfl⟩, ⟨(Nat.le_of_ble_eq_true rfl), (Nat.le_of_ble_eq_true rfl)⟩, ⟨(Nat.le_of_ble_eq_true rfl), (Nat.le_of_ble_eq_true rfl)⟩, (Nat.le_of_ble_eq_true rfl)⟩ dX5_about_9 (fun v9 M9 q9 => ?_)
  obtain ⟨rfl, e9⟩ := q9
  replace e9 := e9.symm
  subst e9
  refine v_iload_n F dX5_about_12 rfl ?_
  refine v_iconst (v := nI 0) F dX5_about_13 (by decide) ?_
  refine v_bipush (v := nI 8) F dX5_about_14 (by decide) ?_
  refine v_callS F 3 [_, _, _] rfl rfl rfl (c_in_t (y := nI 0) (by decide) (by decide)) gX5_about_X5_in rfl hd_X5_in ⟨⟨rfl, rfl⟩, ⟨(Nat.le_of_ble_eq_true rfl), (Nat.le_of_ble_eq_true rfl)⟩, ⟨(Nat.le_of_ble_eq_true rfl), (Nat.le_of_ble_eq_true rfl)⟩, (Nat.le_of_ble_eq_true rfl)⟩ dX5_about_16 (fun v16 M16 q16 => ?_)
  obtain ⟨rfl, e16⟩ := q16
  replace e16 := e16.symm
  subst e16
  refine v_iconst (v := nI 1) F dX5_about_19 (by decide) ?_
  refine V.toI (show nI 1 = bI true from rfl) ?_
  refine v_callV F 3 [_, _, _] rfl rfl rfl (c_X5_goes hI hWf) gX5_about_X5_goes rfl hd_X5_goes ⟨⟨rfl, rfl⟩, ⟨(Nat.le_of_ble_eq_true rfl), (Nat.le_of_ble_eq_true rfl)⟩, ⟨(Nat.le_of_ble_eq_true rfl), (Nat.le_of_ble_eq_true rfl)⟩, (Nat.le_of_ble_eq_true rfl)⟩ hI.x rfl dX5_about_20 (fun v20 M20 q20 => ?_)
  obtain ⟨rfl, hI1, hF1⟩ := q20
  rw [show thr true true true = 0 from rfl] at hI1
  refine v_if_ne_b F 28 dX5_about_23 (by decide) (fun c23 => ?_) (fun c23 => ?_)
  · refine v_iload_n F dX5_about_28 rfl ?_
    refine v_tableIn F 47 76 dX5_about_29 (by decide) (by decide) (by decide) (by decide) ?_
    refine v_aload_n F dX5_about_76 rfl rfl ?_
    refine v_get F 5 1 fo_X5_about_7 dX5_about_77 hI1.x rfl ?_
    refine v_iload_n F dX5_about_80 rfl ?_
    refine v_iald_n F dX5_about_81 (hI1.r (f := 1) (sz := 24) (bl := 0) (by simp [isRow]) (by decide) (by decide)) (by first | omega | exact Nat.lt_trans (hW _ _) (by decide)) (by decide) ?_
    refine V.toI ((hCB j hj).1) ?_
    exact v_iret F hr dX5_about_82 (Nat.le_of_ble_eq_true rfl) (Nat.le_of_ble_eq_true rfl) ⟨rfl, MS.q (t0 := 0) hI1 Sm2.rf hT0 hT10 hCB hCP h9 h13 hB hk hWP, hF1⟩
  · exact absurd c23 (by decide)
theorem fo_X5_about_13 : FO wsX5_about RX5 13 5 2 := ⟨_, _, _, rfl, by decide, by decide +kernel, by decide +kernel⟩
set_option maxHeartbeats 4000000 in
set_option maxRecDepth 100000 in
theorem c_Mabout_1 {l : Launch} {ω : Om} {M : MM} {Y : Nat → Nat} {B P : FF} {n k t : Nat} (hS : MS ω Y B P n k t M) {W : Nat → Prop} (hWf : ∀ f, W (Y f)) {j : Nat} (hj : j < n) : Ct l ω yX5_about wsX5_about rmX5_about [.ref (Y 0), .int (nI j), .int (nI 1)] M (fun v M9 => v = some (.int (nI (B j 1))) ∧ MS ω Y B P n k 0 M9 ∧ Fr W M M9) 0 0 := by
  refine Ct.ofV (cc := cX5_about) (maxL := 3) (ret := (some .int)) [some (.ref (Y 0)), some (.int (nI j)), some (.int (nI 1))] (by decide) rfl (Nat.le_of_ble_eq_true rfl) rfl (Lc.av (av := [.ref (Y 0), .int (nI j), .int (nI 1)]) (k := 0) rfl) ?_
  intro σ F hl hr hname
  have F : Fx ω σ cX5_about 3 wsX5_about RX5 rmX5_about := F
  obtain ⟨C, T, hI, hT0, hT10, hT20, hCB, hCP, h9, h13, hB, hk, hWP⟩ := hS
  have hn : n ≤ 24 := hB.1
  have hW : ∀ i j, B i j < 128 := hB.2.1
  refine v_aload_n F dX5_about_0 rfl rfl ?_
  refine v_iload_n F dX5_about_1 rfl ?_
  refine v_iconst (v := nI 0) F dX5_about_2 (by decide) ?_
  refine v_aload_n F dX5_about_3 rfl rfl ?_
  refine v_get F 5 0 fo_X5_about_64 dX5_about_4 hI.x rfl ?_
  refine V.toI (show nI (T 0) = nI n by rw [hT0]) ?_
  refine v_iconst (v := nI 1) F dX5_about_7 (by decide) ?_
  refine v_isub F dX5_about_8 ?_
  refine v_callS F 3 [_, _, _] rfl rfl rfl (c_in_t (int24i (n := n) (by omega) hj).1 (int24i (n := n) (by omega) hj).2) gX5_about_X5_in rfl hd_X5_in ⟨⟨rfl, rfl⟩, ⟨(Nat.le_of_ble_eq_true rfl), (Nat.le_of_ble_eq_true rfl)⟩, ⟨(Nat.le_of_ble_eq_true rfl), (Nat.le_of_ble_eq_true rfl)⟩, (Nat.le_of_ble_eq_true rfl)⟩ dX5_about_9 (fun v9 M9 q9 => ?_)
  obtain ⟨rfl, e9⟩ := q9
  replace e9 := e9.symm
  subst e9
  refine v_iload_n F dX5_about_12 rfl ?_
  refine v_iconst (v := nI 0) F dX5_about_13 (by decide) ?_
  refine v_bipush (v := nI 8) F dX5_about_14 (by decide) ?_
  refine v_callS F 3 [_, _, _] rfl rfl rfl (c_in_t (y := nI 1) (by decide) (by decide)) gX5_about_X5_in rfl hd_X5_in ⟨⟨rfl, rfl⟩, ⟨(Nat.le_of_ble_eq_true rfl), (Nat.le_of_ble_eq_true rfl)⟩, ⟨(Nat.le_of_ble_eq_true rfl), (Nat.le_of_ble_eq_true rfl)⟩, (Nat.le_of_ble_eq_true rfl)⟩ dX5_about_16 (fun v16 M16 q16 => ?_)
  obtain ⟨rfl, e16⟩ := q16
  replace e16 := e16.symm
  subst e16
  refine v_iconst (v := nI 1) F dX5_about_19 (by decide) ?_
  refine V.toI (show nI 1 = bI true from rfl) ?_
  refine v_callV F 3 [_, _, _] rfl rfl rfl (c_X5_goes hI hWf) gX5_about_X5_goes rfl hd_X5_goes ⟨⟨rfl, rfl⟩, ⟨(Nat.le_of_ble_eq_true rfl), (Nat.le_of_ble_eq_true rfl)⟩, ⟨(Nat.le_of_ble_eq_true rfl), (Nat.le_of_ble_eq_true rfl)⟩, (Nat.le_of_ble_eq_true rfl)⟩ hI.x rfl dX5_about_20 (fun v20 M20 q20 => ?_)
  obtain ⟨rfl, hI1, hF1⟩ := q20
  rw [show thr true true true = 0 from rfl] at hI1
  refine v_if_ne_b F 28 dX5_about_23 (by decide) (fun c23 => ?_) (fun c23 => ?_)
  · refine v_iload_n F dX5_about_28 rfl ?_
    refine v_tableIn F 54 83 dX5_about_29 (by decide) (by decide) (by decide) (by decide) ?_
    refine v_aload_n F dX5_about_83 rfl rfl ?_
    refine v_get F 5 2 fo_X5_about_13 dX5_about_84 hI1.x rfl ?_
    refine v_iload_n F dX5_about_87 rfl ?_
    refine v_iald_n F dX5_about_88 (hI1.r (f := 2) (sz := 24) (bl := 0) (by simp [isRow]) (by decide) (by decide)) (by first | omega | exact Nat.lt_trans (hW _ _) (by decide)) (by decide) ?_
    refine V.toI ((hCB j hj).2.1) ?_
    exact v_iret F hr dX5_about_89 (Nat.le_of_ble_eq_true rfl) (Nat.le_of_ble_eq_true rfl) ⟨rfl, MS.q (t0 := 0) hI1 Sm2.rf hT0 hT10 hCB hCP h9 h13 hB hk hWP, hF1⟩
  · exact absurd c23 (by decide)
theorem fo_X5_about_16 : FO wsX5_about RX5 16 5 3 := ⟨_, _, _, rfl, by decide, by decide +kernel, by decide +kernel⟩
set_option maxHeartbeats 4000000 in
set_option maxRecDepth 100000 in
theorem c_Mabout_2 {l : Launch} {ω : Om} {M : MM} {Y : Nat → Nat} {B P : FF} {n k t : Nat} (hS : MS ω Y B P n k t M) {W : Nat → Prop} (hWf : ∀ f, W (Y f)) {j : Nat} (hj : j < n) : Ct l ω yX5_about wsX5_about rmX5_about [.ref (Y 0), .int (nI j), .int (nI 2)] M (fun v M9 => v = some (.int (nI (B j 2))) ∧ MS ω Y B P n k 0 M9 ∧ Fr W M M9) 0 0 := by
  refine Ct.ofV (cc := cX5_about) (maxL := 3) (ret := (some .int)) [some (.ref (Y 0)), some (.int (nI j)), some (.int (nI 2))] (by decide) rfl (Nat.le_of_ble_eq_true rfl) rfl (Lc.av (av := [.ref (Y 0), .int (nI j), .int (nI 2)]) (k := 0) rfl) ?_
  intro σ F hl hr hname
  have F : Fx ω σ cX5_about 3 wsX5_about RX5 rmX5_about := F
  obtain ⟨C, T, hI, hT0, hT10, hT20, hCB, hCP, h9, h13, hB, hk, hWP⟩ := hS
  have hn : n ≤ 24 := hB.1
  have hW : ∀ i j, B i j < 128 := hB.2.1
  refine v_aload_n F dX5_about_0 rfl rfl ?_
  refine v_iload_n F dX5_about_1 rfl ?_
  refine v_iconst (v := nI 0) F dX5_about_2 (by decide) ?_
  refine v_aload_n F dX5_about_3 rfl rfl ?_
  refine v_get F 5 0 fo_X5_about_64 dX5_about_4 hI.x rfl ?_
  refine V.toI (show nI (T 0) = nI n by rw [hT0]) ?_
  refine v_iconst (v := nI 1) F dX5_about_7 (by decide) ?_
  refine v_isub F dX5_about_8 ?_
  refine v_callS F 3 [_, _, _] rfl rfl rfl (c_in_t (int24i (n := n) (by omega) hj).1 (int24i (n := n) (by omega) hj).2) gX5_about_X5_in rfl hd_X5_in ⟨⟨rfl, rfl⟩, ⟨(Nat.le_of_ble_eq_true rfl), (Nat.le_of_ble_eq_true rfl)⟩, ⟨(Nat.le_of_ble_eq_true rfl), (Nat.le_of_ble_eq_true rfl)⟩, (Nat.le_of_ble_eq_true rfl)⟩ dX5_about_9 (fun v9 M9 q9 => ?_)
  obtain ⟨rfl, e9⟩ := q9
  replace e9 := e9.symm
  subst e9
  refine v_iload_n F dX5_about_12 rfl ?_
  refine v_iconst (v := nI 0) F dX5_about_13 (by decide) ?_
  refine v_bipush (v := nI 8) F dX5_about_14 (by decide) ?_
  refine v_callS F 3 [_, _, _] rfl rfl rfl (c_in_t (y := nI 2) (by decide) (by decide)) gX5_about_X5_in rfl hd_X5_in ⟨⟨rfl, rfl⟩, ⟨(Nat.le_of_ble_eq_true rfl), (Nat.le_of_ble_eq_true rfl)⟩, ⟨(Nat.le_of_ble_eq_true rfl), (Nat.le_of_ble_eq_true rfl)⟩, (Nat.le_of_ble_eq_true rfl)⟩ dX5_about_16 (fun v16 M16 q16 => ?_)
  obtain ⟨rfl, e16⟩ := q16
  replace e16 := e16.symm
  subst e16
  refine v_iconst (v := nI 1) F dX5_about_19 (by decide) ?_
  refine V.toI (show nI 1 = bI true from rfl) ?_
  refine v_callV F 3 [_, _, _] rfl rfl rfl (c_X5_goes hI hWf) gX5_about_X5_goes rfl hd_X5_goes ⟨⟨rfl, rfl⟩, ⟨(Nat.le_of_ble_eq_true rfl), (Nat.le_of_ble_eq_true rfl)⟩, ⟨(Nat.le_of_ble_eq_true rfl), (Nat.le_of_ble_eq_true rfl)⟩, (Nat.le_of_ble_eq_true rfl)⟩ hI.x rfl dX5_about_20 (fun v20 M20 q20 => ?_)
  obtain ⟨rfl, hI1, hF1⟩ := q20
  rw [show thr true true true = 0 from rfl] at hI1
  refine v_if_ne_b F 28 dX5_about_23 (by decide) (fun c23 => ?_) (fun c23 => ?_)
  · refine v_iload_n F dX5_about_28 rfl ?_
    refine v_tableIn F 61 90 dX5_about_29 (by decide) (by decide) (by decide) (by decide) ?_
    refine v_aload_n F dX5_about_90 rfl rfl ?_
    refine v_get F 5 3 fo_X5_about_16 dX5_about_91 hI1.x rfl ?_
    refine v_iload_n F dX5_about_94 rfl ?_
    refine v_iald_n F dX5_about_95 (hI1.r (f := 3) (sz := 24) (bl := 0) (by simp [isRow]) (by decide) (by decide)) (by first | omega | exact Nat.lt_trans (hW _ _) (by decide)) (by decide) ?_
    refine V.toI ((hCB j hj).2.2.1) ?_
    exact v_iret F hr dX5_about_96 (Nat.le_of_ble_eq_true rfl) (Nat.le_of_ble_eq_true rfl) ⟨rfl, MS.q (t0 := 0) hI1 Sm2.rf hT0 hT10 hCB hCP h9 h13 hB hk hWP, hF1⟩
  · exact absurd c23 (by decide)
theorem fo_X5_about_19 : FO wsX5_about RX5 19 5 4 := ⟨_, _, _, rfl, by decide, by decide +kernel, by decide +kernel⟩
set_option maxHeartbeats 4000000 in
set_option maxRecDepth 100000 in
theorem c_Mabout_3 {l : Launch} {ω : Om} {M : MM} {Y : Nat → Nat} {B P : FF} {n k t : Nat} (hS : MS ω Y B P n k t M) {W : Nat → Prop} (hWf : ∀ f, W (Y f)) {j : Nat} (hj : j < n) : Ct l ω yX5_about wsX5_about rmX5_about [.ref (Y 0), .int (nI j), .int (nI 3)] M (fun v M9 => v = some (.int (nI (B j 3))) ∧ MS ω Y B P n k 0 M9 ∧ Fr W M M9) 0 0 := by
  refine Ct.ofV (cc := cX5_about) (maxL := 3) (ret := (some .int)) [some (.ref (Y 0)), some (.int (nI j)), some (.int (nI 3))] (by decide) rfl (Nat.le_of_ble_eq_true rfl) rfl (Lc.av (av := [.ref (Y 0), .int (nI j), .int (nI 3)]) (k := 0) rfl) ?_
  intro σ F hl hr hname
  have F : Fx ω σ cX5_about 3 wsX5_about RX5 rmX5_about := F
  obtain ⟨C, T, hI, hT0, hT10, hT20, hCB, hCP, h9, h13, hB, hk, hWP⟩ := hS
  have hn : n ≤ 24 := hB.1
  have hW : ∀ i j, B i j < 128 := hB.2.1
  refine v_aload_n F dX5_about_0 rfl rfl ?_
  refine v_iload_n F dX5_about_1 rfl ?_
  refine v_iconst (v := nI 0) F dX5_about_2 (by decide) ?_
  refine v_aload_n F dX5_about_3 rfl rfl ?_
  refine v_get F 5 0 fo_X5_about_64 dX5_about_4 hI.x rfl ?_
  refine V.toI (show nI (T 0) = nI n by rw [hT0]) ?_
  refine v_iconst (v := nI 1) F dX5_about_7 (by decide) ?_
  refine v_isub F dX5_about_8 ?_
  refine v_callS F 3 [_, _, _] rfl rfl rfl (c_in_t (int24i (n := n) (by omega) hj).1 (int24i (n := n) (by omega) hj).2) gX5_about_X5_in rfl hd_X5_in ⟨⟨rfl, rfl⟩, ⟨(Nat.le_of_ble_eq_true rfl), (Nat.le_of_ble_eq_true rfl)⟩, ⟨(Nat.le_of_ble_eq_true rfl), (Nat.le_of_ble_eq_true rfl)⟩, (Nat.le_of_ble_eq_true rfl)⟩ dX5_about_9 (fun v9 M9 q9 => ?_)
  obtain ⟨rfl, e9⟩ := q9
  replace e9 := e9.symm
  subst e9
  refine v_iload_n F dX5_about_12 rfl ?_
  refine v_iconst (v := nI 0) F dX5_about_13 (by decide) ?_
  refine v_bipush (v := nI 8) F dX5_about_14 (by decide) ?_
  refine v_callS F 3 [_, _, _] rfl rfl rfl (c_in_t (y := nI 3) (by decide) (by decide)) gX5_about_X5_in rfl hd_X5_in ⟨⟨rfl, rfl⟩, ⟨(Nat.le_of_ble_eq_true rfl), (Nat.le_of_ble_eq_true rfl)⟩, ⟨(Nat.le_of_ble_eq_true rfl), (Nat.le_of_ble_eq_true rfl)⟩, (Nat.le_of_ble_eq_true rfl)⟩ dX5_about_16 (fun v16 M16 q16 => ?_)
  obtain ⟨rfl, e16⟩ := q16
  replace e16 := e16.symm
  subst e16
  refine v_iconst (v := nI 1) F dX5_about_19 (by decide) ?_
  refine V.toI (show nI 1 = bI true from rfl) ?_
  refine v_callV F 3 [_, _, _] rfl rfl rfl (c_X5_goes hI hWf) gX5_about_X5_goes rfl hd_X5_goes ⟨⟨rfl, rfl⟩, ⟨(Nat.le_of_ble_eq_true rfl), (Nat.le_of_ble_eq_true rfl)⟩, ⟨(Nat.le_of_ble_eq_true rfl), (Nat.le_of_ble_eq_true rfl)⟩, (Nat.le_of_ble_eq_true rfl)⟩ hI.x rfl dX5_about_20 (fun v20 M20 q20 => ?_)
  obtain ⟨rfl, hI1, hF1⟩ := q20
  rw [show thr true true true = 0 from rfl] at hI1
  refine v_if_ne_b F 28 dX5_about_23 (by decide) (fun c23 => ?_) (fun c23 => ?_)
  · refine v_iload_n F dX5_about_28 rfl ?_
    refine v_tableIn F 68 97 dX5_about_29 (by decide) (by decide) (by decide) (by decide) ?_
    refine v_aload_n F dX5_about_97 rfl rfl ?_
    refine v_get F 5 4 fo_X5_about_19 dX5_about_98 hI1.x rfl ?_
    refine v_iload_n F dX5_about_101 rfl ?_
    refine v_iald_n F dX5_about_102 (hI1.r (f := 4) (sz := 24) (bl := 0) (by simp [isRow]) (by decide) (by decide)) (by first | omega | exact Nat.lt_trans (hW _ _) (by decide)) (by decide) ?_
    refine V.toI ((hCB j hj).2.2.2.1) ?_
    exact v_iret F hr dX5_about_103 (Nat.le_of_ble_eq_true rfl) (Nat.le_of_ble_eq_true rfl) ⟨rfl, MS.q (t0 := 0) hI1 Sm2.rf hT0 hT10 hCB hCP h9 h13 hB hk hWP, hF1⟩
  · exact absurd c23 (by decide)
theorem fo_X5_about_22 : FO wsX5_about RX5 22 5 5 := ⟨_, _, _, rfl, by decide, by decide +kernel, by decide +kernel⟩
set_option maxHeartbeats 4000000 in
set_option maxRecDepth 100000 in
theorem c_Mabout_4 {l : Launch} {ω : Om} {M : MM} {Y : Nat → Nat} {B P : FF} {n k t : Nat} (hS : MS ω Y B P n k t M) {W : Nat → Prop} (hWf : ∀ f, W (Y f)) {j : Nat} (hj : j < n) : Ct l ω yX5_about wsX5_about rmX5_about [.ref (Y 0), .int (nI j), .int (nI 4)] M (fun v M9 => v = some (.int (nI (B j 4))) ∧ MS ω Y B P n k 0 M9 ∧ Fr W M M9) 0 0 := by
  refine Ct.ofV (cc := cX5_about) (maxL := 3) (ret := (some .int)) [some (.ref (Y 0)), some (.int (nI j)), some (.int (nI 4))] (by decide) rfl (Nat.le_of_ble_eq_true rfl) rfl (Lc.av (av := [.ref (Y 0), .int (nI j), .int (nI 4)]) (k := 0) rfl) ?_
  intro σ F hl hr hname
  have F : Fx ω σ cX5_about 3 wsX5_about RX5 rmX5_about := F
  obtain ⟨C, T, hI, hT0, hT10, hT20, hCB, hCP, h9, h13, hB, hk, hWP⟩ := hS
  have hn : n ≤ 24 := hB.1
  have hW : ∀ i j, B i j < 128 := hB.2.1
  refine v_aload_n F dX5_about_0 rfl rfl ?_
  refine v_iload_n F dX5_about_1 rfl ?_
  refine v_iconst (v := nI 0) F dX5_about_2 (by decide) ?_
  refine v_aload_n F dX5_about_3 rfl rfl ?_
  refine v_get F 5 0 fo_X5_about_64 dX5_about_4 hI.x rfl ?_
  refine V.toI (show nI (T 0) = nI n by rw [hT0]) ?_
  refine v_iconst (v := nI 1) F dX5_about_7 (by decide) ?_
  refine v_isub F dX5_about_8 ?_
  refine v_callS F 3 [_, _, _] rfl rfl rfl (c_in_t (int24i (n := n) (by omega) hj).1 (int24i (n := n) (by omega) hj).2) gX5_about_X5_in rfl hd_X5_in ⟨⟨rfl, rfl⟩, ⟨(Nat.le_of_ble_eq_true rfl), (Nat.le_of_ble_eq_true rfl)⟩, ⟨(Nat.le_of_ble_eq_true rfl), (Nat.le_of_ble_eq_true rfl)⟩, (Nat.le_of_ble_eq_true rfl)⟩ dX5_about_9 (fun v9 M9 q9 => ?_)
  obtain ⟨rfl, e9⟩ := q9
  replace e9 := e9.symm
  subst e9
  refine v_iload_n F dX5_about_12 rfl ?_
  refine v_iconst (v := nI 0) F dX5_about_13 (by decide) ?_
  refine v_bipush (v := nI 8) F dX5_about_14 (by decide) ?_
  refine v_callS F 3 [_, _, _] rfl rfl rfl (c_in_t (y := nI 4) (by decide) (by decide)) gX5_about_X5_in rfl hd_X5_in ⟨⟨rfl, rfl⟩, ⟨(Nat.le_of_ble_eq_true rfl), (Nat.le_of_ble_eq_true rfl)⟩, ⟨(Nat.le_of_ble_eq_true rfl), (Nat.le_of_ble_eq_true rfl)⟩, (Nat.le_of_ble_eq_true rfl)⟩ dX5_about_16 (fun v16 M16 q16 => ?_)
  obtain ⟨rfl, e16⟩ := q16
  replace e16 := e16.symm
  subst e16
  refine v_iconst (v := nI 1) F dX5_about_19 (by decide) ?_
  refine V.toI (show nI 1 = bI true from rfl) ?_
  refine v_callV F 3 [_, _, _] rfl rfl rfl (c_X5_goes hI hWf) gX5_about_X5_goes rfl hd_X5_goes ⟨⟨rfl, rfl⟩, ⟨(Nat.le_of_ble_eq_true rfl), (Nat.le_of_ble_eq_true rfl)⟩, ⟨(Nat.le_of_ble_eq_true rfl), (Nat.le_of_ble_eq_true rfl)⟩, (Nat.le_of_ble_eq_true rfl)⟩ hI.x rfl dX5_about_20 (fun v20 M20 q20 => ?_)
  obtain ⟨rfl, hI1, hF1⟩ := q20
  rw [show thr true true true = 0 from rfl] at hI1
  refine v_if_ne_b F 28 dX5_about_23 (by decide) (fun c23 => ?_) (fun c23 => ?_)
  · refine v_iload_n F dX5_about_28 rfl ?_
    refine v_tableIn F 75 104 dX5_about_29 (by decide) (by decide) (by decide) (by decide) ?_
    refine v_aload_n F dX5_about_104 rfl rfl ?_
    refine v_get F 5 5 fo_X5_about_22 dX5_about_105 hI1.x rfl ?_
    refine v_iload_n F dX5_about_108 rfl ?_
    refine v_iald_n F dX5_about_109 (hI1.r (f := 5) (sz := 24) (bl := 0) (by simp [isRow]) (by decide) (by decide)) (by first | omega | exact Nat.lt_trans (hW _ _) (by decide)) (by decide) ?_
    refine V.toI ((hCB j hj).2.2.2.2.1) ?_
    exact v_iret F hr dX5_about_110 (Nat.le_of_ble_eq_true rfl) (Nat.le_of_ble_eq_true rfl) ⟨rfl, MS.q (t0 := 0) hI1 Sm2.rf hT0 hT10 hCB hCP h9 h13 hB hk hWP, hF1⟩
  · exact absurd c23 (by decide)
theorem fo_X5_about_25 : FO wsX5_about RX5 25 5 6 := ⟨_, _, _, rfl, by decide, by decide +kernel, by decide +kernel⟩
set_option maxHeartbeats 4000000 in
set_option maxRecDepth 100000 in
theorem c_Mabout_5 {l : Launch} {ω : Om} {M : MM} {Y : Nat → Nat} {B P : FF} {n k t : Nat} (hS : MS ω Y B P n k t M) {W : Nat → Prop} (hWf : ∀ f, W (Y f)) {j : Nat} (hj : j < n) : Ct l ω yX5_about wsX5_about rmX5_about [.ref (Y 0), .int (nI j), .int (nI 5)] M (fun v M9 => v = some (.int (nI (B j 5))) ∧ MS ω Y B P n k 0 M9 ∧ Fr W M M9) 0 0 := by
  refine Ct.ofV (cc := cX5_about) (maxL := 3) (ret := (some .int)) [some (.ref (Y 0)), some (.int (nI j)), some (.int (nI 5))] (by decide) rfl (Nat.le_of_ble_eq_true rfl) rfl (Lc.av (av := [.ref (Y 0), .int (nI j), .int (nI 5)]) (k := 0) rfl) ?_
  intro σ F hl hr hname
  have F : Fx ω σ cX5_about 3 wsX5_about RX5 rmX5_about := F
  obtain ⟨C, T, hI, hT0, hT10, hT20, hCB, hCP, h9, h13, hB, hk, hWP⟩ := hS
  have hn : n ≤ 24 := hB.1
  have hW : ∀ i j, B i j < 128 := hB.2.1
  refine v_aload_n F dX5_about_0 rfl rfl ?_
  refine v_iload_n F dX5_about_1 rfl ?_
  refine v_iconst (v := nI 0) F dX5_about_2 (by decide) ?_
  refine v_aload_n F dX5_about_3 rfl rfl ?_
  refine v_get F 5 0 fo_X5_about_64 dX5_about_4 hI.x rfl ?_
  refine V.toI (show nI (T 0) = nI n by rw [hT0]) ?_
  refine v_iconst (v := nI 1) F dX5_about_7 (by decide) ?_
  refine v_isub F dX5_about_8 ?_
  refine v_callS F 3 [_, _, _] rfl rfl rfl (c_in_t (int24i (n := n) (by omega) hj).1 (int24i (n := n) (by omega) hj).2) gX5_about_X5_in rfl hd_X5_in ⟨⟨rfl, rfl⟩, ⟨(Nat.le_of_ble_eq_true rfl), (Nat.le_of_ble_eq_true rfl)⟩, ⟨(Nat.le_of_ble_eq_true rfl), (Nat.le_of_ble_eq_true rfl)⟩, (Nat.le_of_ble_eq_true rfl)⟩ dX5_about_9 (fun v9 M9 q9 => ?_)
  obtain ⟨rfl, e9⟩ := q9
  replace e9 := e9.symm
  subst e9
  refine v_iload_n F dX5_about_12 rfl ?_
  refine v_iconst (v := nI 0) F dX5_about_13 (by decide) ?_
  refine v_bipush (v := nI 8) F dX5_about_14 (by decide) ?_
  refine v_callS F 3 [_, _, _] rfl rfl rfl (c_in_t (y := nI 5) (by decide) (by decide)) gX5_about_X5_in rfl hd_X5_in ⟨⟨rfl, rfl⟩, ⟨(Nat.le_of_ble_eq_true rfl), (Nat.le_of_ble_eq_true rfl)⟩, ⟨(Nat.le_of_ble_eq_true rfl), (Nat.le_of_ble_eq_true rfl)⟩, (Nat.le_of_ble_eq_true rfl)⟩ dX5_about_16 (fun v16 M16 q16 => ?_)
  obtain ⟨rfl, e16⟩ := q16
  replace e16 := e16.symm
  subst e16
  refine v_iconst (v := nI 1) F dX5_about_19 (by decide) ?_
  refine V.toI (show nI 1 = bI true from rfl) ?_
  refine v_callV F 3 [_, _, _] rfl rfl rfl (c_X5_goes hI hWf) gX5_about_X5_goes rfl hd_X5_goes ⟨⟨rfl, rfl⟩, ⟨(Nat.le_of_ble_eq_true rfl), (Nat.le_of_ble_eq_true rfl)⟩, ⟨(Nat.le_of_ble_eq_true rfl), (Nat.le_of_ble_eq_true rfl)⟩, (Nat.le_of_ble_eq_true rfl)⟩ hI.x rfl dX5_about_20 (fun v20 M20 q20 => ?_)
  obtain ⟨rfl, hI1, hF1⟩ := q20
  rw [show thr true true true = 0 from rfl] at hI1
  refine v_if_ne_b F 28 dX5_about_23 (by decide) (fun c23 => ?_) (fun c23 => ?_)
  · refine v_iload_n F dX5_about_28 rfl ?_
    refine v_tableIn F 82 111 dX5_about_29 (by decide) (by decide) (by decide) (by decide) ?_
    refine v_aload_n F dX5_about_111 rfl rfl ?_
    refine v_get F 5 6 fo_X5_about_25 dX5_about_112 hI1.x rfl ?_
    refine v_iload_n F dX5_about_115 rfl ?_
    refine v_iald_n F dX5_about_116 (hI1.r (f := 6) (sz := 24) (bl := 0) (by simp [isRow]) (by decide) (by decide)) (by first | omega | exact Nat.lt_trans (hW _ _) (by decide)) (by decide) ?_
    refine V.toI ((hCB j hj).2.2.2.2.2.1) ?_
    exact v_iret F hr dX5_about_117 (Nat.le_of_ble_eq_true rfl) (Nat.le_of_ble_eq_true rfl) ⟨rfl, MS.q (t0 := 0) hI1 Sm2.rf hT0 hT10 hCB hCP h9 h13 hB hk hWP, hF1⟩
  · exact absurd c23 (by decide)
theorem fo_X5_about_28 : FO wsX5_about RX5 28 5 7 := ⟨_, _, _, rfl, by decide, by decide +kernel, by decide +kernel⟩
theorem fo_X5_about_34 : FO wsX5_about RX5 34 5 9 := ⟨_, _, _, rfl, by decide, by decide +kernel, by decide +kernel⟩
set_option maxHeartbeats 4000000 in
set_option maxRecDepth 100000 in
theorem c_Mabout_6 {l : Launch} {ω : Om} {M : MM} {Y : Nat → Nat} {B P : FF} {n k t : Nat} (hS : MS ω Y B P n k t M) {W : Nat → Prop} (hWf : ∀ f, W (Y f)) {j : Nat} (hj : j < n) (hz : B j 8 ≠ 0 → B j 6 = 0) : Ct l ω yX5_about wsX5_about rmX5_about [.ref (Y 0), .int (nI j), .int (nI 6)] M (fun v M9 => v = some (.int (oI (B j 6))) ∧ MS ω Y B P n k 0 M9 ∧ Fr W M M9) 0 0 := by
  refine Ct.ofV (cc := cX5_about) (maxL := 3) (ret := (some .int)) [some (.ref (Y 0)), some (.int (nI j)), some (.int (nI 6))] (by decide) rfl (Nat.le_of_ble_eq_true rfl) rfl (Lc.av (av := [.ref (Y 0), .int (nI j), .int (nI 6)]) (k := 0) rfl) ?_
  intro σ F hl hr hname
  have F : Fx ω σ cX5_about 3 wsX5_about RX5 rmX5_about := F
  obtain ⟨C, T, hI, hT0, hT10, hT20, hCB, hCP, h9, h13, hB, hk, hWP⟩ := hS
  have hn : n ≤ 24 := hB.1
  have hW : ∀ i j, B i j < 128 := hB.2.1
  refine v_aload_n F dX5_about_0 rfl rfl ?_
  refine v_iload_n F dX5_about_1 rfl ?_
  refine v_iconst (v := nI 0) F dX5_about_2 (by decide) ?_
  refine v_aload_n F dX5_about_3 rfl rfl ?_
  refine v_get F 5 0 fo_X5_about_64 dX5_about_4 hI.x rfl ?_
  refine V.toI (show nI (T 0) = nI n by rw [hT0]) ?_
  refine v_iconst (v := nI 1) F dX5_about_7 (by decide) ?_
  refine v_isub F dX5_about_8 ?_
  refine v_callS F 3 [_, _, _] rfl rfl rfl (c_in_t (int24i (n := n) (by omega) hj).1 (int24i (n := n) (by omega) hj).2) gX5_about_X5_in rfl hd_X5_in ⟨⟨rfl, rfl⟩, ⟨(Nat.le_of_ble_eq_true rfl), (Nat.le_of_ble_eq_true rfl)⟩, ⟨(Nat.le_of_ble_eq_true rfl), (Nat.le_of_ble_eq_true rfl)⟩, (Nat.le_of_ble_eq_true rfl)⟩ dX5_about_9 (fun v9 M9 q9 => ?_)
  obtain ⟨rfl, e9⟩ := q9
  replace e9 := e9.symm
  subst e9
  refine v_iload_n F dX5_about_12 rfl ?_
  refine v_iconst (v := nI 0) F dX5_about_13 (by decide) ?_
  refine v_bipush (v := nI 8) F dX5_about_14 (by decide) ?_
  refine v_callS F 3 [_, _, _] rfl rfl rfl (c_in_t (y := nI 6) (by decide) (by decide)) gX5_about_X5_in rfl hd_X5_in ⟨⟨rfl, rfl⟩, ⟨(Nat.le_of_ble_eq_true rfl), (Nat.le_of_ble_eq_true rfl)⟩, ⟨(Nat.le_of_ble_eq_true rfl), (Nat.le_of_ble_eq_true rfl)⟩, (Nat.le_of_ble_eq_true rfl)⟩ dX5_about_16 (fun v16 M16 q16 => ?_)
  obtain ⟨rfl, e16⟩ := q16
  replace e16 := e16.symm
  subst e16
  refine v_iconst (v := nI 1) F dX5_about_19 (by decide) ?_
  refine V.toI (show nI 1 = bI true from rfl) ?_
  refine v_callV F 3 [_, _, _] rfl rfl rfl (c_X5_goes hI hWf) gX5_about_X5_goes rfl hd_X5_goes ⟨⟨rfl, rfl⟩, ⟨(Nat.le_of_ble_eq_true rfl), (Nat.le_of_ble_eq_true rfl)⟩, ⟨(Nat.le_of_ble_eq_true rfl), (Nat.le_of_ble_eq_true rfl)⟩, (Nat.le_of_ble_eq_true rfl)⟩ hI.x rfl dX5_about_20 (fun v20 M20 q20 => ?_)
  obtain ⟨rfl, hI1, hF1⟩ := q20
  rw [show thr true true true = 0 from rfl] at hI1
  refine v_if_ne_b F 28 dX5_about_23 (by decide) (fun c23 => ?_) (fun c23 => ?_)
  · refine v_iload_n F dX5_about_28 rfl ?_
    refine v_tableIn F 89 118 dX5_about_29 (by decide) (by decide) (by decide) (by decide) ?_
    refine v_aload_n F dX5_about_118 rfl rfl ?_
    refine v_get F 5 9 fo_X5_about_34 dX5_about_119 hI1.x rfl ?_
    refine v_iload_n F dX5_about_122 rfl ?_
    refine v_zald_n F dX5_about_123 (hI1.r (f := 9) (sz := 24) (bl := 1) (by simp [isRow]) (by decide) (by decide)) (by first | omega | exact Nat.lt_trans (hW _ _) (by decide)) (by decide) ?_
    refine V.toI ((hCB j hj).2.2.2.2.2.2.2.2) ?_
    refine v_if_eq_n F 131 dX5_about_124 (by decide) (by first | omega | exact Nat.lt_trans (hW _ _) (by decide)) (fun c124 => ?_) (fun c124 => ?_)
    · refine v_aload_n F dX5_about_131 rfl rfl ?_
      refine v_get F 5 7 fo_X5_about_28 dX5_about_132 hI1.x rfl ?_
      refine v_iload_n F dX5_about_135 rfl ?_
      refine v_iald_n F dX5_about_136 (hI1.r (f := 7) (sz := 24) (bl := 0) (by simp [isRow]) (by decide) (by decide)) (by first | omega | exact Nat.lt_trans (hW _ _) (by decide)) (by decide) ?_
      refine V.toI ((hCB j hj).2.2.2.2.2.2.1) ?_
      exact v_iret F hr dX5_about_137 (Nat.le_of_ble_eq_true rfl) (Nat.le_of_ble_eq_true rfl) ⟨by first | rfl | (rw [hz (by assumption)]; rfl), MS.q (t0 := 0) hI1 Sm2.rf hT0 hT10 hCB hCP h9 h13 hB hk hWP, hF1⟩
    · refine v_iconst (v := (-1)) F dX5_about_127 (by decide) ?_
      refine v_goto F 137 dX5_about_128 (by decide) ?_
      exact v_iret F hr dX5_about_137 (Nat.le_of_ble_eq_true rfl) (Nat.le_of_ble_eq_true rfl) ⟨by first | rfl | (rw [hz (by assumption)]; rfl), MS.q (t0 := 0) hI1 Sm2.rf hT0 hT10 hCB hCP h9 h13 hB hk hWP, hF1⟩
  · exact absurd c23 (by decide)
theorem fo_X5_about_31 : FO wsX5_about RX5 31 5 8 := ⟨_, _, _, rfl, by decide, by decide +kernel, by decide +kernel⟩
set_option maxHeartbeats 4000000 in
set_option maxRecDepth 100000 in
theorem c_Mabout_7 {l : Launch} {ω : Om} {M : MM} {Y : Nat → Nat} {B P : FF} {n k t : Nat} (hS : MS ω Y B P n k t M) {W : Nat → Prop} (hWf : ∀ f, W (Y f)) {j : Nat} (hj : j < n) (hz : B j 8 ≠ 0 → B j 7 = 0) : Ct l ω yX5_about wsX5_about rmX5_about [.ref (Y 0), .int (nI j), .int (nI 7)] M (fun v M9 => v = some (.int (oI (B j 7))) ∧ MS ω Y B P n k 0 M9 ∧ Fr W M M9) 0 0 := by
  refine Ct.ofV (cc := cX5_about) (maxL := 3) (ret := (some .int)) [some (.ref (Y 0)), some (.int (nI j)), some (.int (nI 7))] (by decide) rfl (Nat.le_of_ble_eq_true rfl) rfl (Lc.av (av := [.ref (Y 0), .int (nI j), .int (nI 7)]) (k := 0) rfl) ?_
  intro σ F hl hr hname
  have F : Fx ω σ cX5_about 3 wsX5_about RX5 rmX5_about := F
  obtain ⟨C, T, hI, hT0, hT10, hT20, hCB, hCP, h9, h13, hB, hk, hWP⟩ := hS
  have hn : n ≤ 24 := hB.1
  have hW : ∀ i j, B i j < 128 := hB.2.1
  refine v_aload_n F dX5_about_0 rfl rfl ?_
  refine v_iload_n F dX5_about_1 rfl ?_
  refine v_iconst (v := nI 0) F dX5_about_2 (by decide) ?_
  refine v_aload_n F dX5_about_3 rfl rfl ?_
  refine v_get F 5 0 fo_X5_about_64 dX5_about_4 hI.x rfl ?_
  refine V.toI (show nI (T 0) = nI n by rw [hT0]) ?_
  refine v_iconst (v := nI 1) F dX5_about_7 (by decide) ?_
  refine v_isub F dX5_about_8 ?_
  refine v_callS F 3 [_, _, _] rfl rfl rfl (c_in_t (int24i (n := n) (by omega) hj).1 (int24i (n := n) (by omega) hj).2) gX5_about_X5_in rfl hd_X5_in ⟨⟨rfl, rfl⟩, ⟨(Nat.le_of_ble_eq_true rfl), (Nat.le_of_ble_eq_true rfl)⟩, ⟨(Nat.le_of_ble_eq_true rfl), (Nat.le_of_ble_eq_true rfl)⟩, (Nat.le_of_ble_eq_true rfl)⟩ dX5_about_9 (fun v9 M9 q9 => ?_)
  obtain ⟨rfl, e9⟩ := q9
  replace e9 := e9.symm
  subst e9
  refine v_iload_n F dX5_about_12 rfl ?_
  refine v_iconst (v := nI 0) F dX5_about_13 (by decide) ?_
  refine v_bipush (v := nI 8) F dX5_about_14 (by decide) ?_
  refine v_callS F 3 [_, _, _] rfl rfl rfl (c_in_t (y := nI 7) (by decide) (by decide)) gX5_about_X5_in rfl hd_X5_in ⟨⟨rfl, rfl⟩, ⟨(Nat.le_of_ble_eq_true rfl), (Nat.le_of_ble_eq_true rfl)⟩, ⟨(Nat.le_of_ble_eq_true rfl), (Nat.le_of_ble_eq_true rfl)⟩, (Nat.le_of_ble_eq_true rfl)⟩ dX5_about_16 (fun v16 M16 q16 => ?_)
  obtain ⟨rfl, e16⟩ := q16
  replace e16 := e16.symm
  subst e16
  refine v_iconst (v := nI 1) F dX5_about_19 (by decide) ?_
  refine V.toI (show nI 1 = bI true from rfl) ?_
  refine v_callV F 3 [_, _, _] rfl rfl rfl (c_X5_goes hI hWf) gX5_about_X5_goes rfl hd_X5_goes ⟨⟨rfl, rfl⟩, ⟨(Nat.le_of_ble_eq_true rfl), (Nat.le_of_ble_eq_true rfl)⟩, ⟨(Nat.le_of_ble_eq_true rfl), (Nat.le_of_ble_eq_true rfl)⟩, (Nat.le_of_ble_eq_true rfl)⟩ hI.x rfl dX5_about_20 (fun v20 M20 q20 => ?_)
  obtain ⟨rfl, hI1, hF1⟩ := q20
  rw [show thr true true true = 0 from rfl] at hI1
  refine v_if_ne_b F 28 dX5_about_23 (by decide) (fun c23 => ?_) (fun c23 => ?_)
  · refine v_iload_n F dX5_about_28 rfl ?_
    refine v_tableIn F 109 138 dX5_about_29 (by decide) (by decide) (by decide) (by decide) ?_
    refine v_aload_n F dX5_about_138 rfl rfl ?_
    refine v_get F 5 9 fo_X5_about_34 dX5_about_139 hI1.x rfl ?_
    refine v_iload_n F dX5_about_142 rfl ?_
    refine v_zald_n F dX5_about_143 (hI1.r (f := 9) (sz := 24) (bl := 1) (by simp [isRow]) (by decide) (by decide)) (by first | omega | exact Nat.lt_trans (hW _ _) (by decide)) (by decide) ?_
    refine V.toI ((hCB j hj).2.2.2.2.2.2.2.2) ?_
    refine v_if_eq_n F 151 dX5_about_144 (by decide) (by first | omega | exact Nat.lt_trans (hW _ _) (by decide)) (fun c144 => ?_) (fun c144 => ?_)
    · refine v_aload_n F dX5_about_151 rfl rfl ?_
      refine v_get F 5 8 fo_X5_about_31 dX5_about_152 hI1.x rfl ?_
      refine v_iload_n F dX5_about_155 rfl ?_
      refine v_iald_n F dX5_about_156 (hI1.r (f := 8) (sz := 24) (bl := 0) (by simp [isRow]) (by decide) (by decide)) (by first | omega | exact Nat.lt_trans (hW _ _) (by decide)) (by decide) ?_
      refine V.toI ((hCB j hj).2.2.2.2.2.2.2.1) ?_
      exact v_iret F hr dX5_about_157 (Nat.le_of_ble_eq_true rfl) (Nat.le_of_ble_eq_true rfl) ⟨by first | rfl | (rw [hz (by assumption)]; rfl), MS.q (t0 := 0) hI1 Sm2.rf hT0 hT10 hCB hCP h9 h13 hB hk hWP, hF1⟩
    · refine v_iconst (v := (-1)) F dX5_about_147 (by decide) ?_
      refine v_goto F 157 dX5_about_148 (by decide) ?_
      exact v_iret F hr dX5_about_157 (Nat.le_of_ble_eq_true rfl) (Nat.le_of_ble_eq_true rfl) ⟨by first | rfl | (rw [hz (by assumption)]; rfl), MS.q (t0 := 0) hI1 Sm2.rf hT0 hT10 hCB hCP h9 h13 hB hk hWP, hF1⟩
  · exact absurd c23 (by decide)
set_option maxHeartbeats 4000000 in
set_option maxRecDepth 100000 in
theorem c_Mabout_8 {l : Launch} {ω : Om} {M : MM} {Y : Nat → Nat} {B P : FF} {n k t : Nat} (hS : MS ω Y B P n k t M) {W : Nat → Prop} (hWf : ∀ f, W (Y f)) {j : Nat} (hj : j < n) (h01 : B j 8 ≤ 1) : Ct l ω yX5_about wsX5_about rmX5_about [.ref (Y 0), .int (nI j), .int (nI 8)] M (fun v M9 => v = some (.int (nI (B j 8))) ∧ MS ω Y B P n k 0 M9 ∧ Fr W M M9) 0 0 := by
  refine Ct.ofV (cc := cX5_about) (maxL := 3) (ret := (some .int)) [some (.ref (Y 0)), some (.int (nI j)), some (.int (nI 8))] (by decide) rfl (Nat.le_of_ble_eq_true rfl) rfl (Lc.av (av := [.ref (Y 0), .int (nI j), .int (nI 8)]) (k := 0) rfl) ?_
  intro σ F hl hr hname
  have F : Fx ω σ cX5_about 3 wsX5_about RX5 rmX5_about := F
  obtain ⟨C, T, hI, hT0, hT10, hT20, hCB, hCP, h9, h13, hB, hk, hWP⟩ := hS
  have hn : n ≤ 24 := hB.1
  have hW : ∀ i j, B i j < 128 := hB.2.1
  refine v_aload_n F dX5_about_0 rfl rfl ?_
  refine v_iload_n F dX5_about_1 rfl ?_
  refine v_iconst (v := nI 0) F dX5_about_2 (by decide) ?_
  refine v_aload_n F dX5_about_3 rfl rfl ?_
  refine v_get F 5 0 fo_X5_about_64 dX5_about_4 hI.x rfl ?_
  refine V.toI (show nI (T 0) = nI n by rw [hT0]) ?_
  refine v_iconst (v := nI 1) F dX5_about_7 (by decide) ?_
  refine v_isub F dX5_about_8 ?_
  refine v_callS F 3 [_, _, _] rfl rfl rfl (c_in_t (int24i (n := n) (by omega) hj).1 (int24i (n := n) (by omega) hj).2) gX5_about_X5_in rfl hd_X5_in ⟨⟨rfl, rfl⟩, ⟨(Nat.le_of_ble_eq_true rfl), (Nat.le_of_ble_eq_true rfl)⟩, ⟨(Nat.le_of_ble_eq_true rfl), (Nat.le_of_ble_eq_true rfl)⟩, (Nat.le_of_ble_eq_true rfl)⟩ dX5_about_9 (fun v9 M9 q9 => ?_)
  obtain ⟨rfl, e9⟩ := q9
  replace e9 := e9.symm
  subst e9
  refine v_iload_n F dX5_about_12 rfl ?_
  refine v_iconst (v := nI 0) F dX5_about_13 (by decide) ?_
  refine v_bipush (v := nI 8) F dX5_about_14 (by decide) ?_
  refine v_callS F 3 [_, _, _] rfl rfl rfl (c_in_t (y := nI 8) (by decide) (by decide)) gX5_about_X5_in rfl hd_X5_in ⟨⟨rfl, rfl⟩, ⟨(Nat.le_of_ble_eq_true rfl), (Nat.le_of_ble_eq_true rfl)⟩, ⟨(Nat.le_of_ble_eq_true rfl), (Nat.le_of_ble_eq_true rfl)⟩, (Nat.le_of_ble_eq_true rfl)⟩ dX5_about_16 (fun v16 M16 q16 => ?_)
  obtain ⟨rfl, e16⟩ := q16
  replace e16 := e16.symm
  subst e16
  refine v_iconst (v := nI 1) F dX5_about_19 (by decide) ?_
  refine V.toI (show nI 1 = bI true from rfl) ?_
  refine v_callV F 3 [_, _, _] rfl rfl rfl (c_X5_goes hI hWf) gX5_about_X5_goes rfl hd_X5_goes ⟨⟨rfl, rfl⟩, ⟨(Nat.le_of_ble_eq_true rfl), (Nat.le_of_ble_eq_true rfl)⟩, ⟨(Nat.le_of_ble_eq_true rfl), (Nat.le_of_ble_eq_true rfl)⟩, (Nat.le_of_ble_eq_true rfl)⟩ hI.x rfl dX5_about_20 (fun v20 M20 q20 => ?_)
  obtain ⟨rfl, hI1, hF1⟩ := q20
  rw [show thr true true true = 0 from rfl] at hI1
  refine v_if_ne_b F 28 dX5_about_23 (by decide) (fun c23 => ?_) (fun c23 => ?_)
  · refine v_iload_n F dX5_about_28 rfl ?_
    refine v_tableOut F 158 dX5_about_29 (by decide) (by decide) ?_
    refine v_aload_n F dX5_about_158 rfl rfl ?_
    refine v_get F 5 9 fo_X5_about_34 dX5_about_159 hI1.x rfl ?_
    refine v_iload_n F dX5_about_162 rfl ?_
    refine v_zald_n F dX5_about_163 (hI1.r (f := 9) (sz := 24) (bl := 1) (by simp [isRow]) (by decide) (by decide)) (by first | omega | exact Nat.lt_trans (hW _ _) (by decide)) (by decide) ?_
    refine V.toI ((hCB j hj).2.2.2.2.2.2.2.2) ?_
    refine v_if_eq_n F 171 dX5_about_164 (by decide) (by first | omega | exact Nat.lt_trans (hW _ _) (by decide)) (fun c164 => ?_) (fun c164 => ?_)
    · refine v_iconst (v := nI 0) F dX5_about_171 (by decide) ?_
      exact v_iret F hr dX5_about_172 (Nat.le_of_ble_eq_true rfl) (Nat.le_of_ble_eq_true rfl) ⟨by first | rw [show B j 8 = 0 by omega] | rw [show B j 8 = 1 by omega], MS.q (t0 := 0) hI1 Sm2.rf hT0 hT10 hCB hCP h9 h13 hB hk hWP, hF1⟩
    · refine v_iconst (v := nI 1) F dX5_about_167 (by decide) ?_
      refine v_goto F 172 dX5_about_168 (by decide) ?_
      exact v_iret F hr dX5_about_172 (Nat.le_of_ble_eq_true rfl) (Nat.le_of_ble_eq_true rfl) ⟨by first | rw [show B j 8 = 0 by omega] | rw [show B j 8 = 1 by omega], MS.q (t0 := 0) hI1 Sm2.rf hT0 hT10 hCB hCP h9 h13 hB hk hWP, hF1⟩
  · exact absurd c23 (by decide)
set_option maxHeartbeats 4000000 in
set_option maxRecDepth 100000 in
theorem c_Mabout_bad {l : Launch} {ω : Om} {M : MM} {Y : Nat → Nat} {B P : FF} {n k t : Nat} (hS : MS ω Y B P n k t M) {W : Nat → Prop} (hWf : ∀ f, W (Y f)) {j : Nat} {w : Int32} (hj : j < n) (hw : w < nI 0 ∨ nI 8 < w) : Ct l ω yX5_about wsX5_about rmX5_about [.ref (Y 0), .int (nI j), .int w] M (fun v M9 => v = some (.int (nI 0)) ∧ MS ω Y B P n k 2 M9 ∧ Fr W M M9) 0 0 := by
  refine Ct.ofV (cc := cX5_about) (maxL := 3) (ret := (some .int)) [some (.ref (Y 0)), some (.int (nI j)), some (.int w)] (by decide) rfl (Nat.le_of_ble_eq_true rfl) rfl (Lc.av (av := [.ref (Y 0), .int (nI j), .int w]) (k := 0) rfl) ?_
  intro σ F hl hr hname
  have F : Fx ω σ cX5_about 3 wsX5_about RX5 rmX5_about := F
  obtain ⟨C, T, hI, hT0, hT10, hT20, hCB, hCP, h9, h13, hB, hk, hWP⟩ := hS
  have hn : n ≤ 24 := hB.1
  have hW : ∀ i j, B i j < 128 := hB.2.1
  refine v_aload_n F dX5_about_0 rfl rfl ?_
  refine v_iload_n F dX5_about_1 rfl ?_
  refine v_iconst (v := nI 0) F dX5_about_2 (by decide) ?_
  refine v_aload_n F dX5_about_3 rfl rfl ?_
  refine v_get F 5 0 fo_X5_about_64 dX5_about_4 hI.x rfl ?_
  refine V.toI (show nI (T 0) = nI n by rw [hT0]) ?_
  refine v_iconst (v := nI 1) F dX5_about_7 (by decide) ?_
  refine v_isub F dX5_about_8 ?_
  refine v_callS F 3 [_, _, _] rfl rfl rfl (c_in_t (int24i (n := n) (by omega) hj).1 (int24i (n := n) (by omega) hj).2) gX5_about_X5_in rfl hd_X5_in ⟨⟨rfl, rfl⟩, ⟨(Nat.le_of_ble_eq_true rfl), (Nat.le_of_ble_eq_true rfl)⟩, ⟨(Nat.le_of_ble_eq_true rfl), (Nat.le_of_ble_eq_true rfl)⟩, (Nat.le_of_ble_eq_true rfl)⟩ dX5_about_9 (fun v9 M9 q9 => ?_)
  obtain ⟨rfl, e9⟩ := q9
  replace e9 := e9.symm
  subst e9
  refine v_iload_n F dX5_about_12 rfl ?_
  refine v_iconst (v := nI 0) F dX5_about_13 (by decide) ?_
  refine v_bipush (v := nI 8) F dX5_about_14 (by decide) ?_
  refine v_callS F 3 [_, _, _] rfl rfl rfl (c_in_f hw) gX5_about_X5_in rfl hd_X5_in ⟨⟨rfl, rfl⟩, ⟨(Nat.le_of_ble_eq_true rfl), (Nat.le_of_ble_eq_true rfl)⟩, ⟨(Nat.le_of_ble_eq_true rfl), (Nat.le_of_ble_eq_true rfl)⟩, (Nat.le_of_ble_eq_true rfl)⟩ dX5_about_16 (fun v16 M16 q16 => ?_)
  obtain ⟨rfl, e16⟩ := q16
  replace e16 := e16.symm
  subst e16
  refine v_iconst (v := nI 1) F dX5_about_19 (by decide) ?_
  refine V.toI (show nI 1 = bI true from rfl) ?_
  refine v_callV F 3 [_, _, _] rfl rfl rfl (c_X5_goes hI hWf) gX5_about_X5_goes rfl hd_X5_goes ⟨⟨rfl, rfl⟩, ⟨(Nat.le_of_ble_eq_true rfl), (Nat.le_of_ble_eq_true rfl)⟩, ⟨(Nat.le_of_ble_eq_true rfl), (Nat.le_of_ble_eq_true rfl)⟩, (Nat.le_of_ble_eq_true rfl)⟩ hI.x rfl dX5_about_20 (fun v20 M20 q20 => ?_)
  obtain ⟨rfl, hI1, hF1⟩ := q20
  refine v_if_ne_b F 28 dX5_about_23 (by decide) (fun c23 => ?_) (fun c23 => ?_)
  · exact absurd c23 (by decide)
  · refine v_iconst (v := nI 0) F dX5_about_26 (by decide) ?_
    exact v_iret F hr dX5_about_27 (Nat.le_of_ble_eq_true rfl) (Nat.le_of_ble_eq_true rfl) ⟨rfl, MS.q (t0 := 0) hI1 Sm2.rf hT0 hT10 hCB hCP h9 h13 hB hk hWP, hF1⟩
set_option maxHeartbeats 4000000 in
set_option maxRecDepth 100000 in
theorem c_Mabout_out {l : Launch} {ω : Om} {M : MM} {Y : Nat → Nat} {B P : FF} {n k t : Nat} (hS : MS ω Y B P n k t M) {W : Nat → Prop} (hWf : ∀ f, W (Y f)) {j w : Int32} (hj : j < 0 ∨ nI n ≤ j) {b : Bool} (hb : (¬ w < nI 0 ∧ ¬ nI 8 < w) ∨ (w < nI 0 ∨ nI 8 < w)) : Ct l ω yX5_about wsX5_about rmX5_about [.ref (Y 0), .int j, .int w] M (fun v M9 => v = some (.int (nI 0)) ∧ MS ω Y B P n k 1 M9 ∧ Fr W M M9) 0 0 := by
  refine Ct.ofV (cc := cX5_about) (maxL := 3) (ret := (some .int)) [some (.ref (Y 0)), some (.int j), some (.int w)] (by decide) rfl (Nat.le_of_ble_eq_true rfl) rfl (Lc.av (av := [.ref (Y 0), .int j, .int w]) (k := 0) rfl) ?_
  intro σ F hl hr hname
  have F : Fx ω σ cX5_about 3 wsX5_about RX5 rmX5_about := F
  obtain ⟨C, T, hI, hT0, hT10, hT20, hCB, hCP, h9, h13, hB, hk, hWP⟩ := hS
  have hn : n ≤ 24 := hB.1
  have hW : ∀ i j, B i j < 128 := hB.2.1
  refine v_aload_n F dX5_about_0 rfl rfl ?_
  refine v_iload_n F dX5_about_1 rfl ?_
  refine v_iconst (v := nI 0) F dX5_about_2 (by decide) ?_
  refine v_aload_n F dX5_about_3 rfl rfl ?_
  refine v_get F 5 0 fo_X5_about_64 dX5_about_4 hI.x rfl ?_
  refine V.toI (show nI (T 0) = nI n by rw [hT0]) ?_
  refine v_iconst (v := nI 1) F dX5_about_7 (by decide) ?_
  refine v_isub F dX5_about_8 ?_
  refine v_callS F 3 [_, _, _] rfl rfl rfl (c_in_f (int24 (n := n) (by omega) hj)) gX5_about_X5_in rfl hd_X5_in ⟨⟨rfl, rfl⟩, ⟨(Nat.le_of_ble_eq_true rfl), (Nat.le_of_ble_eq_true rfl)⟩, ⟨(Nat.le_of_ble_eq_true rfl), (Nat.le_of_ble_eq_true rfl)⟩, (Nat.le_of_ble_eq_true rfl)⟩ dX5_about_9 (fun v9 M9 q9 => ?_)
  obtain ⟨rfl, e9⟩ := q9
  replace e9 := e9.symm
  subst e9
  rcases hb with hb | hb
  · refine v_iload_n F dX5_about_12 rfl ?_
    refine v_iconst (v := nI 0) F dX5_about_13 (by decide) ?_
    refine v_bipush (v := nI 8) F dX5_about_14 (by decide) ?_
    refine v_callS F 3 [_, _, _] rfl rfl rfl (c_in_t hb.1 hb.2) gX5_about_X5_in rfl hd_X5_in ⟨⟨rfl, rfl⟩, ⟨(Nat.le_of_ble_eq_true rfl), (Nat.le_of_ble_eq_true rfl)⟩, ⟨(Nat.le_of_ble_eq_true rfl), (Nat.le_of_ble_eq_true rfl)⟩, (Nat.le_of_ble_eq_true rfl)⟩ dX5_about_16 (fun v16 M16 q16 => ?_)
    obtain ⟨rfl, e16⟩ := q16
    replace e16 := e16.symm
    subst e16
    refine v_iconst (v := nI 1) F dX5_about_19 (by decide) ?_
    refine V.toI (show nI 1 = bI true from rfl) ?_
    refine v_callV F 3 [_, _, _] rfl rfl rfl (c_X5_goes hI hWf) gX5_about_X5_goes rfl hd_X5_goes ⟨⟨rfl, rfl⟩, ⟨(Nat.le_of_ble_eq_true rfl), (Nat.le_of_ble_eq_true rfl)⟩, ⟨(Nat.le_of_ble_eq_true rfl), (Nat.le_of_ble_eq_true rfl)⟩, (Nat.le_of_ble_eq_true rfl)⟩ hI.x rfl dX5_about_20 (fun v20 M20 q20 => ?_)
    obtain ⟨rfl, hI1, hF1⟩ := q20
    refine v_if_ne_b F 28 dX5_about_23 (by decide) (fun c23 => ?_) (fun c23 => ?_)
    · exact absurd c23 (by decide)
    · refine v_iconst (v := nI 0) F dX5_about_26 (by decide) ?_
      exact v_iret F hr dX5_about_27 (Nat.le_of_ble_eq_true rfl) (Nat.le_of_ble_eq_true rfl) ⟨rfl, MS.q (t0 := 0) hI1 Sm2.rf hT0 hT10 hCB hCP h9 h13 hB hk hWP, hF1⟩
  · refine v_iload_n F dX5_about_12 rfl ?_
    refine v_iconst (v := nI 0) F dX5_about_13 (by decide) ?_
    refine v_bipush (v := nI 8) F dX5_about_14 (by decide) ?_
    refine v_callS F 3 [_, _, _] rfl rfl rfl (c_in_f hb) gX5_about_X5_in rfl hd_X5_in ⟨⟨rfl, rfl⟩, ⟨(Nat.le_of_ble_eq_true rfl), (Nat.le_of_ble_eq_true rfl)⟩, ⟨(Nat.le_of_ble_eq_true rfl), (Nat.le_of_ble_eq_true rfl)⟩, (Nat.le_of_ble_eq_true rfl)⟩ dX5_about_16 (fun v16 M16 q16 => ?_)
    obtain ⟨rfl, e16⟩ := q16
    replace e16 := e16.symm
    subst e16
    refine v_iconst (v := nI 1) F dX5_about_19 (by decide) ?_
    refine V.toI (show nI 1 = bI true from rfl) ?_
    refine v_callV F 3 [_, _, _] rfl rfl rfl (c_X5_goes hI hWf) gX5_about_X5_goes rfl hd_X5_goes ⟨⟨rfl, rfl⟩, ⟨(Nat.le_of_ble_eq_true rfl), (Nat.le_of_ble_eq_true rfl)⟩, ⟨(Nat.le_of_ble_eq_true rfl), (Nat.le_of_ble_eq_true rfl)⟩, (Nat.le_of_ble_eq_true rfl)⟩ hI.x rfl dX5_about_20 (fun v20 M20 q20 => ?_)
    obtain ⟨rfl, hI1, hF1⟩ := q20
    refine v_if_ne_b F 28 dX5_about_23 (by decide) (fun c23 => ?_) (fun c23 => ?_)
    · exact absurd c23 (by decide)
    · refine v_iconst (v := nI 0) F dX5_about_26 (by decide) ?_
      exact v_iret F hr dX5_about_27 (Nat.le_of_ble_eq_true rfl) (Nat.le_of_ble_eq_true rfl) ⟨rfl, MS.q (t0 := 0) hI1 Sm2.rf hT0 hT10 hCB hCP h9 h13 hB hk hWP, hF1⟩
