/-! the reference: a new box; what is refused -/
set_option maxHeartbeats 4000000 in
set_option maxRecDepth 100000 in
theorem c_Mmove_gone {l : Launch} {ω : Om} {M : MM} {Y : Nat → Nat} {B P : FF} {n k t : Nat} (hS : MS ω Y B P n k t M) {W : Nat → Prop} (hWf : ∀ f, W (Y f)) {j : Nat} {x y : Int32} (hj : j < n) (hg : B j 8 ≠ 0) : Ct l ω yX5_move wsX5_move rmX5_move [.ref (Y 0), .int (nI j), .int x, .int y] M (fun v M9 => v = some (.int (nI 0)) ∧ MS ω Y B P n k 1 M9 ∧ Fr W M M9) 0 0 := by
  refine Ct.ofV (cc := cX5_move) (maxL := 5) (ret := (some .int)) [some (.ref (Y 0)), some (.int (nI j)), some (.int x), some (.int y), none] (by decide) rfl (Nat.le_of_ble_eq_true rfl) rfl (Lc.av (av := [.ref (Y 0), .int (nI j), .int x, .int y]) (k := 1) rfl) ?_
  intro σ F hl hr hname
  have F : Fx ω σ cX5_move 5 wsX5_move RX5 rmX5_move := F
  obtain ⟨C, T, hI, hT0, hT10, hT20, hCB, hCP, h9, h13, hB, hk, hWP⟩ := hS
  have hn : n ≤ 24 := hB.1
  have hW : ∀ i j, B i j < 128 := hB.2.1
  refine v_aload_n F dX5_move_0 rfl rfl ?_
  refine v_iload_n F dX5_move_1 rfl ?_
  refine v_callV F 1 [_] rfl rfl rfl (c_isBox_in hI hT0 hCB hB hj) gX5_move_X5_isBox rfl hd_X5_isBox ⟨⟨rfl, rfl⟩, ⟨(Nat.le_of_ble_eq_true rfl), (Nat.le_of_ble_eq_true rfl)⟩, ⟨(Nat.le_of_ble_eq_true rfl), (Nat.le_of_ble_eq_true rfl)⟩, (Nat.le_of_ble_eq_true rfl)⟩ hI.x rfl dX5_move_2 (fun v2 M2 q2 => ?_)
  obtain ⟨rfl, e2⟩ := q2
  replace e2 := e2.symm
  subst e2
  refine v_istore F dX5_move_5 (Nat.le_of_ble_eq_true rfl) (ok2_d rfl) ?_
  refine v_aload_n F dX5_move_7 rfl rfl ?_
  refine v_iload F dX5_move_8 rfl ?_
  refine v_iload F dX5_move_10 rfl ?_
  refine v_if_eq_b F 39 dX5_move_12 (by decide) (fun c12 => ?_) (fun c12 => ?_)
  · refine v_iconst (v := nI 0) F dX5_move_39 (by decide) ?_
    first | refine V.toI (show nI 1 = bI true from rfl) ?_ | refine V.toI (show nI 0 = bI false from rfl) ?_
    refine v_iconst (v := nI 1) F dX5_move_40 (by decide) ?_
    refine V.toI (show nI 1 = bI true from rfl) ?_
    refine v_callV F 3 [_, _, _] rfl rfl rfl (c_X5_goes hI hWf) gX5_move_X5_goes rfl hd_X5_goes ⟨⟨rfl, rfl⟩, ⟨(Nat.le_of_ble_eq_true rfl), (Nat.le_of_ble_eq_true rfl)⟩, ⟨(Nat.le_of_ble_eq_true rfl), (Nat.le_of_ble_eq_true rfl)⟩, (Nat.le_of_ble_eq_true rfl)⟩ hI.x rfl dX5_move_41 (fun v41 M41 q41 => ?_)
    obtain ⟨rfl, hI1, hF1⟩ := q41
    refine v_if_ne_b F 49 dX5_move_44 (by decide) (fun c44 => ?_) (fun c44 => ?_)
    · exact absurd c44 (by simp)
    · refine v_iconst (v := nI 0) F dX5_move_47 (by decide) ?_
      exact v_iret F hr dX5_move_48 (Nat.le_of_ble_eq_true rfl) (Nat.le_of_ble_eq_true rfl) ⟨rfl, (by rw [show thr (decide (B j 8 = 0)) false true = 1 by simp [thr, hg]] at hI1; exact MS.q (t0 := 0) hI1 Sm2.rf hT0 hT10 hCB hCP h9 h13 hB hk hWP), hF1⟩
  · exact absurd c12 (by simp [hg])
set_option maxHeartbeats 4000000 in
set_option maxRecDepth 100000 in
theorem c_Mmove_out {l : Launch} {ω : Om} {M : MM} {Y : Nat → Nat} {B P : FF} {n k t : Nat} (hS : MS ω Y B P n k t M) {W : Nat → Prop} (hWf : ∀ f, W (Y f)) {j x y : Int32} (hj : j < 0 ∨ nI n ≤ j) : Ct l ω yX5_move wsX5_move rmX5_move [.ref (Y 0), .int j, .int x, .int y] M (fun v M9 => v = some (.int (nI 0)) ∧ MS ω Y B P n k 1 M9 ∧ Fr W M M9) 0 0 := by
  refine Ct.ofV (cc := cX5_move) (maxL := 5) (ret := (some .int)) [some (.ref (Y 0)), some (.int j), some (.int x), some (.int y), none] (by decide) rfl (Nat.le_of_ble_eq_true rfl) rfl (Lc.av (av := [.ref (Y 0), .int j, .int x, .int y]) (k := 1) rfl) ?_
  intro σ F hl hr hname
  have F : Fx ω σ cX5_move 5 wsX5_move RX5 rmX5_move := F
  obtain ⟨C, T, hI, hT0, hT10, hT20, hCB, hCP, h9, h13, hB, hk, hWP⟩ := hS
  have hn : n ≤ 24 := hB.1
  have hW : ∀ i j, B i j < 128 := hB.2.1
  refine v_aload_n F dX5_move_0 rfl rfl ?_
  refine v_iload_n F dX5_move_1 rfl ?_
  refine v_callV F 1 [_] rfl rfl rfl (c_isBox_out hI hT0 hCB hB hj) gX5_move_X5_isBox rfl hd_X5_isBox ⟨⟨rfl, rfl⟩, ⟨(Nat.le_of_ble_eq_true rfl), (Nat.le_of_ble_eq_true rfl)⟩, ⟨(Nat.le_of_ble_eq_true rfl), (Nat.le_of_ble_eq_true rfl)⟩, (Nat.le_of_ble_eq_true rfl)⟩ hI.x rfl dX5_move_2 (fun v2 M2 q2 => ?_)
  obtain ⟨rfl, e2⟩ := q2
  replace e2 := e2.symm
  subst e2
  refine v_istore F dX5_move_5 (Nat.le_of_ble_eq_true rfl) (ok2_d rfl) ?_
  refine v_aload_n F dX5_move_7 rfl rfl ?_
  refine v_iload F dX5_move_8 rfl ?_
  refine v_iload F dX5_move_10 rfl ?_
  refine v_if_eq_b F 39 dX5_move_12 (by decide) (fun c12 => ?_) (fun c12 => ?_)
  · refine v_iconst (v := nI 0) F dX5_move_39 (by decide) ?_
    first | refine V.toI (show nI 1 = bI true from rfl) ?_ | refine V.toI (show nI 0 = bI false from rfl) ?_
    refine v_iconst (v := nI 1) F dX5_move_40 (by decide) ?_
    refine V.toI (show nI 1 = bI true from rfl) ?_
    refine v_callV F 3 [_, _, _] rfl rfl rfl (c_X5_goes hI hWf) gX5_move_X5_goes rfl hd_X5_goes ⟨⟨rfl, rfl⟩, ⟨(Nat.le_of_ble_eq_true rfl), (Nat.le_of_ble_eq_true rfl)⟩, ⟨(Nat.le_of_ble_eq_true rfl), (Nat.le_of_ble_eq_true rfl)⟩, (Nat.le_of_ble_eq_true rfl)⟩ hI.x rfl dX5_move_41 (fun v41 M41 q41 => ?_)
    obtain ⟨rfl, hI1, hF1⟩ := q41
    refine v_if_ne_b F 49 dX5_move_44 (by decide) (fun c44 => ?_) (fun c44 => ?_)
    · exact absurd c44 (by simp)
    · refine v_iconst (v := nI 0) F dX5_move_47 (by decide) ?_
      exact v_iret F hr dX5_move_48 (Nat.le_of_ble_eq_true rfl) (Nat.le_of_ble_eq_true rfl) ⟨rfl, MS.q (t0 := 0) hI1 Sm2.rf hT0 hT10 hCB hCP h9 h13 hB hk hWP, hF1⟩
  · exact absurd c12 (by decide)
set_option maxHeartbeats 4000000 in
set_option maxRecDepth 100000 in
theorem c_Mmove_bad {l : Launch} {ω : Om} {M : MM} {Y : Nat → Nat} {B P : FF} {n k t : Nat} (hS : MS ω Y B P n k t M) {W : Nat → Prop} (hWf : ∀ f, W (Y f)) {j : Nat} {x y : Int32} (hj : j < n) (hg : B j 8 = 0) (hb : ¬ inPm x y (nI (B j 3)) (nI (B j 4))) : Ct l ω yX5_move wsX5_move rmX5_move [.ref (Y 0), .int (nI j), .int x, .int y] M (fun v M9 => v = some (.int (nI 0)) ∧ MS ω Y B P n k 2 M9 ∧ Fr W M M9) 0 0 := by
  refine Ct.ofV (cc := cX5_move) (maxL := 5) (ret := (some .int)) [some (.ref (Y 0)), some (.int (nI j)), some (.int x), some (.int y), none] (by decide) rfl (Nat.le_of_ble_eq_true rfl) rfl (Lc.av (av := [.ref (Y 0), .int (nI j), .int x, .int y]) (k := 1) rfl) ?_
  intro σ F hl hr hname
  have F : Fx ω σ cX5_move 5 wsX5_move RX5 rmX5_move := F
  obtain ⟨C, T, hI, hT0, hT10, hT20, hCB, hCP, h9, h13, hB, hk, hWP⟩ := hS
  have hn : n ≤ 24 := hB.1
  have hW : ∀ i j, B i j < 128 := hB.2.1
  refine v_aload_n F dX5_move_0 rfl rfl ?_
  refine v_iload_n F dX5_move_1 rfl ?_
  refine v_callV F 1 [_] rfl rfl rfl (c_isBox_in hI hT0 hCB hB hj) gX5_move_X5_isBox rfl hd_X5_isBox ⟨⟨rfl, rfl⟩, ⟨(Nat.le_of_ble_eq_true rfl), (Nat.le_of_ble_eq_true rfl)⟩, ⟨(Nat.le_of_ble_eq_true rfl), (Nat.le_of_ble_eq_true rfl)⟩, (Nat.le_of_ble_eq_true rfl)⟩ hI.x rfl dX5_move_2 (fun v2 M2 q2 => ?_)
  obtain ⟨rfl, e2⟩ := q2
  replace e2 := e2.symm
  subst e2
  refine v_istore F dX5_move_5 (Nat.le_of_ble_eq_true rfl) (ok2_d rfl) ?_
  refine v_aload_n F dX5_move_7 rfl rfl ?_
  refine v_iload F dX5_move_8 rfl ?_
  refine v_iload F dX5_move_10 rfl ?_
  refine v_if_eq_b F 39 dX5_move_12 (by decide) (fun c12 => ?_) (fun c12 => ?_)
  · exact absurd c12 (by simp [hg])
  · refine v_iload_n F dX5_move_15 rfl ?_
    refine v_iload_n F dX5_move_16 rfl ?_
    refine v_aload_n F dX5_move_17 rfl rfl ?_
    refine v_get F 5 4 fo_X5_move_19 dX5_move_18 hI.x rfl ?_
    refine v_iload_n F dX5_move_21 rfl ?_
    refine v_iald_n F dX5_move_22 (hI.r (f := 4) (sz := 24) (bl := 0) (by simp [isRow]) (by decide) (by decide)) (by first | omega | exact Nat.lt_trans (hW _ _) (by decide)) (by decide) ?_
    refine V.toI ((hCB j hj).2.2.2.1) ?_
    refine v_aload_n F dX5_move_23 rfl rfl ?_
    refine v_get F 5 5 fo_X5_move_22 dX5_move_24 hI.x rfl ?_
    refine v_iload_n F dX5_move_27 rfl ?_
    refine v_iald_n F dX5_move_28 (hI.r (f := 5) (sz := 24) (bl := 0) (by simp [isRow]) (by decide) (by decide)) (by first | omega | exact Nat.lt_trans (hW _ _) (by decide)) (by decide) ?_
    refine V.toI ((hCB j hj).2.2.2.2.1) ?_
    refine v_callS F 4 [_, _, _, _] rfl rfl rfl (c_isWithin_f hb) gX5_move_X5_isWithin rfl hd_X5_isWithin ⟨⟨rfl, rfl⟩, ⟨(Nat.le_of_ble_eq_true rfl), (Nat.le_of_ble_eq_true rfl)⟩, ⟨(Nat.le_of_ble_eq_true rfl), (Nat.le_of_ble_eq_true rfl)⟩, (Nat.le_of_ble_eq_true rfl)⟩ dX5_move_29 (fun v29 M29 q29 => ?_)
    obtain ⟨rfl, e29⟩ := q29
    replace e29 := e29.symm
    subst e29
    refine v_if_eq_b F 39 dX5_move_32 (by decide) (fun c32 => ?_) (fun c32 => ?_)
    · refine v_iconst (v := nI 0) F dX5_move_39 (by decide) ?_
      first | refine V.toI (show nI 1 = bI true from rfl) ?_ | refine V.toI (show nI 0 = bI false from rfl) ?_
      refine v_iconst (v := nI 1) F dX5_move_40 (by decide) ?_
      refine V.toI (show nI 1 = bI true from rfl) ?_
      refine v_callV F 3 [_, _, _] rfl rfl rfl (c_X5_goes hI hWf) gX5_move_X5_goes rfl hd_X5_goes ⟨⟨rfl, rfl⟩, ⟨(Nat.le_of_ble_eq_true rfl), (Nat.le_of_ble_eq_true rfl)⟩, ⟨(Nat.le_of_ble_eq_true rfl), (Nat.le_of_ble_eq_true rfl)⟩, (Nat.le_of_ble_eq_true rfl)⟩ hI.x rfl dX5_move_41 (fun v41 M41 q41 => ?_)
      obtain ⟨rfl, hI1, hF1⟩ := q41
      refine v_if_ne_b F 49 dX5_move_44 (by decide) (fun c44 => ?_) (fun c44 => ?_)
      · exact absurd c44 (by simp)
      · refine v_iconst (v := nI 0) F dX5_move_47 (by decide) ?_
        exact v_iret F hr dX5_move_48 (Nat.le_of_ble_eq_true rfl) (Nat.le_of_ble_eq_true rfl) ⟨rfl, (by rw [show thr (decide (B j 8 = 0)) false true = 2 by simp [thr, hg]] at hI1; exact MS.q (t0 := 0) hI1 Sm2.rf hT0 hT10 hCB hCP h9 h13 hB hk hWP), hF1⟩
    · exact absurd c32 (by decide)
set_option maxHeartbeats 4000000 in
set_option maxRecDepth 100000 in
theorem c_Mresize_gone {l : Launch} {ω : Om} {M : MM} {Y : Nat → Nat} {B P : FF} {n k t : Nat} (hS : MS ω Y B P n k t M) {W : Nat → Prop} (hWf : ∀ f, W (Y f)) {j : Nat} {x y : Int32} (hj : j < n) (hg : B j 8 ≠ 0) : Ct l ω yX5_resize wsX5_resize rmX5_resize [.ref (Y 0), .int (nI j), .int x, .int y] M (fun v M9 => v = some (.int (nI 0)) ∧ MS ω Y B P n k 1 M9 ∧ Fr W M M9) 0 0 := by
  refine Ct.ofV (cc := cX5_resize) (maxL := 5) (ret := (some .int)) [some (.ref (Y 0)), some (.int (nI j)), some (.int x), some (.int y), none] (by decide) rfl (Nat.le_of_ble_eq_true rfl) rfl (Lc.av (av := [.ref (Y 0), .int (nI j), .int x, .int y]) (k := 1) rfl) ?_
  intro σ F hl hr hname
  have F : Fx ω σ cX5_resize 5 wsX5_resize RX5 rmX5_resize := F
  obtain ⟨C, T, hI, hT0, hT10, hT20, hCB, hCP, h9, h13, hB, hk, hWP⟩ := hS
  have hn : n ≤ 24 := hB.1
  have hW : ∀ i j, B i j < 128 := hB.2.1
  refine v_aload_n F dX5_resize_0 rfl rfl ?_
  refine v_iload_n F dX5_resize_1 rfl ?_
  refine v_callV F 1 [_] rfl rfl rfl (c_isBox_in hI hT0 hCB hB hj) gX5_resize_X5_isBox rfl hd_X5_isBox ⟨⟨rfl, rfl⟩, ⟨(Nat.le_of_ble_eq_true rfl), (Nat.le_of_ble_eq_true rfl)⟩, ⟨(Nat.le_of_ble_eq_true rfl), (Nat.le_of_ble_eq_true rfl)⟩, (Nat.le_of_ble_eq_true rfl)⟩ hI.x rfl dX5_resize_2 (fun v2 M2 q2 => ?_)
  obtain ⟨rfl, e2⟩ := q2
  replace e2 := e2.symm
  subst e2
  refine v_istore F dX5_resize_5 (Nat.le_of_ble_eq_true rfl) (ok2_d rfl) ?_
  refine v_aload_n F dX5_resize_7 rfl rfl ?_
  refine v_iload F dX5_resize_8 rfl ?_
  refine v_iload F dX5_resize_10 rfl ?_
  refine v_if_eq_b F 39 dX5_resize_12 (by decide) (fun c12 => ?_) (fun c12 => ?_)
  · refine v_iconst (v := nI 0) F dX5_resize_39 (by decide) ?_
    first | refine V.toI (show nI 1 = bI true from rfl) ?_ | refine V.toI (show nI 0 = bI false from rfl) ?_
    refine v_iconst (v := nI 1) F dX5_resize_40 (by decide) ?_
    refine V.toI (show nI 1 = bI true from rfl) ?_
    refine v_callV F 3 [_, _, _] rfl rfl rfl (c_X5_goes hI hWf) gX5_resize_X5_goes rfl hd_X5_goes ⟨⟨rfl, rfl⟩, ⟨(Nat.le_of_ble_eq_true rfl), (Nat.le_of_ble_eq_true rfl)⟩, ⟨(Nat.le_of_ble_eq_true rfl), (Nat.le_of_ble_eq_true rfl)⟩, (Nat.le_of_ble_eq_true rfl)⟩ hI.x rfl dX5_resize_41 (fun v41 M41 q41 => ?_)
    obtain ⟨rfl, hI1, hF1⟩ := q41
    refine v_if_ne_b F 49 dX5_resize_44 (by decide) (fun c44 => ?_) (fun c44 => ?_)
    · exact absurd c44 (by simp)
    · refine v_iconst (v := nI 0) F dX5_resize_47 (by decide) ?_
      exact v_iret F hr dX5_resize_48 (Nat.le_of_ble_eq_true rfl) (Nat.le_of_ble_eq_true rfl) ⟨rfl, (by rw [show thr (decide (B j 8 = 0)) false true = 1 by simp [thr, hg]] at hI1; exact MS.q (t0 := 0) hI1 Sm2.rf hT0 hT10 hCB hCP h9 h13 hB hk hWP), hF1⟩
  · exact absurd c12 (by simp [hg])
set_option maxHeartbeats 4000000 in
set_option maxRecDepth 100000 in
theorem c_Mresize_out {l : Launch} {ω : Om} {M : MM} {Y : Nat → Nat} {B P : FF} {n k t : Nat} (hS : MS ω Y B P n k t M) {W : Nat → Prop} (hWf : ∀ f, W (Y f)) {j x y : Int32} (hj : j < 0 ∨ nI n ≤ j) : Ct l ω yX5_resize wsX5_resize rmX5_resize [.ref (Y 0), .int j, .int x, .int y] M (fun v M9 => v = some (.int (nI 0)) ∧ MS ω Y B P n k 1 M9 ∧ Fr W M M9) 0 0 := by
  refine Ct.ofV (cc := cX5_resize) (maxL := 5) (ret := (some .int)) [some (.ref (Y 0)), some (.int j), some (.int x), some (.int y), none] (by decide) rfl (Nat.le_of_ble_eq_true rfl) rfl (Lc.av (av := [.ref (Y 0), .int j, .int x, .int y]) (k := 1) rfl) ?_
  intro σ F hl hr hname
  have F : Fx ω σ cX5_resize 5 wsX5_resize RX5 rmX5_resize := F
  obtain ⟨C, T, hI, hT0, hT10, hT20, hCB, hCP, h9, h13, hB, hk, hWP⟩ := hS
  have hn : n ≤ 24 := hB.1
  have hW : ∀ i j, B i j < 128 := hB.2.1
  refine v_aload_n F dX5_resize_0 rfl rfl ?_
  refine v_iload_n F dX5_resize_1 rfl ?_
  refine v_callV F 1 [_] rfl rfl rfl (c_isBox_out hI hT0 hCB hB hj) gX5_resize_X5_isBox rfl hd_X5_isBox ⟨⟨rfl, rfl⟩, ⟨(Nat.le_of_ble_eq_true rfl), (Nat.le_of_ble_eq_true rfl)⟩, ⟨(Nat.le_of_ble_eq_true rfl), (Nat.le_of_ble_eq_true rfl)⟩, (Nat.le_of_ble_eq_true rfl)⟩ hI.x rfl dX5_resize_2 (fun v2 M2 q2 => ?_)
  obtain ⟨rfl, e2⟩ := q2
  replace e2 := e2.symm
  subst e2
  refine v_istore F dX5_resize_5 (Nat.le_of_ble_eq_true rfl) (ok2_d rfl) ?_
  refine v_aload_n F dX5_resize_7 rfl rfl ?_
  refine v_iload F dX5_resize_8 rfl ?_
  refine v_iload F dX5_resize_10 rfl ?_
  refine v_if_eq_b F 39 dX5_resize_12 (by decide) (fun c12 => ?_) (fun c12 => ?_)
  · refine v_iconst (v := nI 0) F dX5_resize_39 (by decide) ?_
    first | refine V.toI (show nI 1 = bI true from rfl) ?_ | refine V.toI (show nI 0 = bI false from rfl) ?_
    refine v_iconst (v := nI 1) F dX5_resize_40 (by decide) ?_
    refine V.toI (show nI 1 = bI true from rfl) ?_
    refine v_callV F 3 [_, _, _] rfl rfl rfl (c_X5_goes hI hWf) gX5_resize_X5_goes rfl hd_X5_goes ⟨⟨rfl, rfl⟩, ⟨(Nat.le_of_ble_eq_true rfl), (Nat.le_of_ble_eq_true rfl)⟩, ⟨(Nat.le_of_ble_eq_true rfl), (Nat.le_of_ble_eq_true rfl)⟩, (Nat.le_of_ble_eq_true rfl)⟩ hI.x rfl dX5_resize_41 (fun v41 M41 q41 => ?_)
    obtain ⟨rfl, hI1, hF1⟩ := q41
    refine v_if_ne_b F 49 dX5_resize_44 (by decide) (fun c44 => ?_) (fun c44 => ?_)
    · exact absurd c44 (by simp)
    · refine v_iconst (v := nI 0) F dX5_resize_47 (by decide) ?_
      exact v_iret F hr dX5_resize_48 (Nat.le_of_ble_eq_true rfl) (Nat.le_of_ble_eq_true rfl) ⟨rfl, MS.q (t0 := 0) hI1 Sm2.rf hT0 hT10 hCB hCP h9 h13 hB hk hWP, hF1⟩
  · exact absurd c12 (by decide)
set_option maxHeartbeats 4000000 in
set_option maxRecDepth 100000 in
theorem c_Mresize_bad {l : Launch} {ω : Om} {M : MM} {Y : Nat → Nat} {B P : FF} {n k t : Nat} (hS : MS ω Y B P n k t M) {W : Nat → Prop} (hWf : ∀ f, W (Y f)) {j : Nat} {x y : Int32} (hj : j < n) (hg : B j 8 = 0) (hb : ¬ inPm (nI (B j 1)) (nI (B j 2)) x y) : Ct l ω yX5_resize wsX5_resize rmX5_resize [.ref (Y 0), .int (nI j), .int x, .int y] M (fun v M9 => v = some (.int (nI 0)) ∧ MS ω Y B P n k 2 M9 ∧ Fr W M M9) 0 0 := by
  refine Ct.ofV (cc := cX5_resize) (maxL := 5) (ret := (some .int)) [some (.ref (Y 0)), some (.int (nI j)), some (.int x), some (.int y), none] (by decide) rfl (Nat.le_of_ble_eq_true rfl) rfl (Lc.av (av := [.ref (Y 0), .int (nI j), .int x, .int y]) (k := 1) rfl) ?_
  intro σ F hl hr hname
  have F : Fx ω σ cX5_resize 5 wsX5_resize RX5 rmX5_resize := F
  obtain ⟨C, T, hI, hT0, hT10, hT20, hCB, hCP, h9, h13, hB, hk, hWP⟩ := hS
  have hn : n ≤ 24 := hB.1
  have hW : ∀ i j, B i j < 128 := hB.2.1
  refine v_aload_n F dX5_resize_0 rfl rfl ?_
  refine v_iload_n F dX5_resize_1 rfl ?_
  refine v_callV F 1 [_] rfl rfl rfl (c_isBox_in hI hT0 hCB hB hj) gX5_resize_X5_isBox rfl hd_X5_isBox ⟨⟨rfl, rfl⟩, ⟨(Nat.le_of_ble_eq_true rfl), (Nat.le_of_ble_eq_true rfl)⟩, ⟨(Nat.le_of_ble_eq_true rfl), (Nat.le_of_ble_eq_true rfl)⟩, (Nat.le_of_ble_eq_true rfl)⟩ hI.x rfl dX5_resize_2 (fun v2 M2 q2 => ?_)
  obtain ⟨rfl, e2⟩ := q2
  replace e2 := e2.symm
  subst e2
  refine v_istore F dX5_resize_5 (Nat.le_of_ble_eq_true rfl) (ok2_d rfl) ?_
  refine v_aload_n F dX5_resize_7 rfl rfl ?_
  refine v_iload F dX5_resize_8 rfl ?_
  refine v_iload F dX5_resize_10 rfl ?_
  refine v_if_eq_b F 39 dX5_resize_12 (by decide) (fun c12 => ?_) (fun c12 => ?_)
  · exact absurd c12 (by simp [hg])
  · refine v_aload_n F dX5_resize_15 rfl rfl ?_
    refine v_get F 5 2 fo_X5_resize_13 dX5_resize_16 hI.x rfl ?_
    refine v_iload_n F dX5_resize_19 rfl ?_
    refine v_iald_n F dX5_resize_20 (hI.r (f := 2) (sz := 24) (bl := 0) (by simp [isRow]) (by decide) (by decide)) (by first | omega | exact Nat.lt_trans (hW _ _) (by decide)) (by decide) ?_
    refine V.toI ((hCB j hj).2.1) ?_
    refine v_aload_n F dX5_resize_21 rfl rfl ?_
    refine v_get F 5 3 fo_X5_resize_16 dX5_resize_22 hI.x rfl ?_
    refine v_iload_n F dX5_resize_25 rfl ?_
    refine v_iald_n F dX5_resize_26 (hI.r (f := 3) (sz := 24) (bl := 0) (by simp [isRow]) (by decide) (by decide)) (by first | omega | exact Nat.lt_trans (hW _ _) (by decide)) (by decide) ?_
    refine V.toI ((hCB j hj).2.2.1) ?_
    refine v_iload_n F dX5_resize_27 rfl ?_
    refine v_iload_n F dX5_resize_28 rfl ?_
    refine v_callS F 4 [_, _, _, _] rfl rfl rfl (c_isWithin_f hb) gX5_resize_X5_isWithin rfl hd_X5_isWithin ⟨⟨rfl, rfl⟩, ⟨(Nat.le_of_ble_eq_true rfl), (Nat.le_of_ble_eq_true rfl)⟩, ⟨(Nat.le_of_ble_eq_true rfl), (Nat.le_of_ble_eq_true rfl)⟩, (Nat.le_of_ble_eq_true rfl)⟩ dX5_resize_29 (fun v29 M29 q29 => ?_)
    obtain ⟨rfl, e29⟩ := q29
    replace e29 := e29.symm
    subst e29
    refine v_if_eq_b F 39 dX5_resize_32 (by decide) (fun c32 => ?_) (fun c32 => ?_)
    · refine v_iconst (v := nI 0) F dX5_resize_39 (by decide) ?_
      first | refine V.toI (show nI 1 = bI true from rfl) ?_ | refine V.toI (show nI 0 = bI false from rfl) ?_
      refine v_iconst (v := nI 1) F dX5_resize_40 (by decide) ?_
      refine V.toI (show nI 1 = bI true from rfl) ?_
      refine v_callV F 3 [_, _, _] rfl rfl rfl (c_X5_goes hI hWf) gX5_resize_X5_goes rfl hd_X5_goes ⟨⟨rfl, rfl⟩, ⟨(Nat.le_of_ble_eq_true rfl), (Nat.le_of_ble_eq_true rfl)⟩, ⟨(Nat.le_of_ble_eq_true rfl), (Nat.le_of_ble_eq_true rfl)⟩, (Nat.le_of_ble_eq_true rfl)⟩ hI.x rfl dX5_resize_41 (fun v41 M41 q41 => ?_)
      obtain ⟨rfl, hI1, hF1⟩ := q41
      refine v_if_ne_b F 49 dX5_resize_44 (by decide) (fun c44 => ?_) (fun c44 => ?_)
      · exact absurd c44 (by simp)
      · refine v_iconst (v := nI 0) F dX5_resize_47 (by decide) ?_
        exact v_iret F hr dX5_resize_48 (Nat.le_of_ble_eq_true rfl) (Nat.le_of_ble_eq_true rfl) ⟨rfl, (by rw [show thr (decide (B j 8 = 0)) false true = 2 by simp [thr, hg]] at hI1; exact MS.q (t0 := 0) hI1 Sm2.rf hT0 hT10 hCB hCP h9 h13 hB hk hWP), hF1⟩
    · exact absurd c32 (by decide)
def rmX5_box : Room := { frames := 6, cells := 0, slots := 0, locals := 143 }
theorem hd_X5_box : yX5_box.cls = (RX5, TX5, 21).1 ∧ yX5_box.cls ≠ "java/lang/invoke/MethodHandle" ∧ yX5_box.cls ≠ "java/lang/invoke/VarHandle" ∧ (parseMethodDescriptor yX5_box.desc).map (fun d => d.parameters.length) = some 6 := by decide +kernel
theorem fo_X5_box_7 : FO wsX5_box RX5 7 5 1 := ⟨_, _, _, rfl, by decide, by decide +kernel, by decide +kernel⟩
theorem fo_X5_box_13 : FO wsX5_box RX5 13 5 2 := ⟨_, _, _, rfl, by decide, by decide +kernel, by decide +kernel⟩
theorem fo_X5_box_16 : FO wsX5_box RX5 16 5 3 := ⟨_, _, _, rfl, by decide, by decide +kernel, by decide +kernel⟩
theorem fo_X5_box_19 : FO wsX5_box RX5 19 5 4 := ⟨_, _, _, rfl, by decide, by decide +kernel, by decide +kernel⟩
theorem fo_X5_box_22 : FO wsX5_box RX5 22 5 5 := ⟨_, _, _, rfl, by decide, by decide +kernel, by decide +kernel⟩
theorem fo_X5_box_25 : FO wsX5_box RX5 25 5 6 := ⟨_, _, _, rfl, by decide, by decide +kernel, by decide +kernel⟩
theorem fo_X5_box_28 : FO wsX5_box RX5 28 5 7 := ⟨_, _, _, rfl, by decide, by decide +kernel, by decide +kernel⟩
theorem fo_X5_box_31 : FO wsX5_box RX5 31 5 8 := ⟨_, _, _, rfl, by decide, by decide +kernel, by decide +kernel⟩
theorem fo_X5_box_64 : FO wsX5_box RX5 64 5 0 := ⟨_, _, _, rfl, by decide, by decide +kernel, by decide +kernel⟩
theorem fp_X5_box_64 : FP wsX5_box RX5 64 5 0 .int := ⟨_, _, _, tyX5, rfl, by decide, by decide +kernel, by decide +kernel, tyX5_ok, nmX5, rfl, by decide +kernel⟩
set_option maxHeartbeats 4000000 in
set_option maxRecDepth 100000 in
theorem c_Mbox {l : Launch} {ω : Om} {M : MM} {Y : Nat → Nat} {B P : FF} {n k t : Nat} (hS : MS ω Y B P n k t M) {W : Nat → Prop} (hWf : ∀ f, W (Y f)) {p x y w h kd : Nat} (hp : p < 5) (hkd : kd ≤ 6) (h1 : 1 ≤ w) (h2 : 1 ≤ h) (h3 : x + w ≤ 60) (h4 : y + h ≤ 80) (hn24 : n < 24) (hB2 : WB (nwB B n p x y w h kd) (n + 1)) (hK : Ok B n p) (hK2 : Ok (nwB B n p x y w h kd) (n + 1) p) : Ct l ω yX5_box wsX5_box rmX5_box [.ref (Y 0), .int (nI p), .int (nI x), .int (nI y), .int (nI w), .int (nI h), .int (nI kd)] M (fun v M9 => ∃ P9 c9, v = some (.int (nI n)) ∧ MS ω Y (nwB B n p x y w h kd) P9 (n + 1) k 0 M9 ∧ Fr W M M9 ∧ Fall P p k (ordF (nwB B n p x y w h kd) (n + 1) p = ordF B n p) c9 P9) 0 0 := by
  refine Ct.ofV (cc := cX5_box) (maxL := 8) (ret := (some .int)) [some (.ref (Y 0)), some (.int (nI p)), some (.int (nI x)), some (.int (nI y)), some (.int (nI w)), some (.int (nI h)), some (.int (nI kd)), none] (by decide) rfl (Nat.le_of_ble_eq_true rfl) rfl (Lc.av (av := [.ref (Y 0), .int (nI p), .int (nI x), .int (nI y), .int (nI w), .int (nI h), .int (nI kd)]) (k := 1) rfl) ?_
  intro σ F hl hr hname
  have F : Fx ω σ cX5_box 8 wsX5_box RX5 rmX5_box := F
  obtain ⟨C, T, hI, hT0, hT10, hT20, hCB, hCP, h9, h13, hB, hk, hWP⟩ := hS
  have hn : n ≤ 24 := hB.1
  have hW : ∀ i j, B i j < 128 := hB.2.1
  obtain ⟨hFn, hox, ρ, hρ0, hρ⟩ := id hK
  have hoB : ∀ x, x ∈ ordF B n p → x < 128 := fun x hx => by have := hox x hx; omega
  obtain ⟨hFn2, hox2, ρ2, hρ20, hρ2⟩ := id hK2
  have hoB2 : ∀ x9, x9 ∈ ordF (nwB B n p x y w h kd) (n + 1) p → x9 < 128 := fun x9 hx => by have := hox2 x9 hx; omega
  refine v_aload_n F dX5_box_0 rfl rfl ?_
  refine v_iload_n F dX5_box_1 rfl ?_
  refine v_callS F 1 [_] rfl rfl rfl (c_isPage_t hp) gX5_box_X5_isPage rfl hd_X5_isPage ⟨⟨rfl, rfl⟩, ⟨(Nat.le_of_ble_eq_true rfl), (Nat.le_of_ble_eq_true rfl)⟩, ⟨(Nat.le_of_ble_eq_true rfl), (Nat.le_of_ble_eq_true rfl)⟩, (Nat.le_of_ble_eq_true rfl)⟩ dX5_box_2 (fun v2 M2 q2 => ?_)
  obtain ⟨rfl, e2⟩ := q2
  replace e2 := e2.symm
  subst e2
  refine v_iload F dX5_box_5 rfl ?_
  refine v_iconst (v := nI 0) F dX5_box_7 (by decide) ?_
  refine v_bipush (v := nI 6) F dX5_box_8 (by decide) ?_
  refine v_callS F 3 [_, _, _] rfl rfl rfl (c_in_t (nI_nlt (a := kd) (b := 0) (by omega) (by omega)) (nI_nlt (a := 6) (b := kd) (by omega) (by omega))) gX5_box_X5_in rfl hd_X5_in ⟨⟨rfl, rfl⟩, ⟨(Nat.le_of_ble_eq_true rfl), (Nat.le_of_ble_eq_true rfl)⟩, ⟨(Nat.le_of_ble_eq_true rfl), (Nat.le_of_ble_eq_true rfl)⟩, (Nat.le_of_ble_eq_true rfl)⟩ dX5_box_10 (fun v10 M10 q10 => ?_)
  obtain ⟨rfl, e10⟩ := q10
  replace e10 := e10.symm
  subst e10
  refine v_if_eq_b F 32 dX5_box_13 (by decide) (fun c13 => ?_) (fun c13 => ?_)
  · exact absurd c13 (by decide)
  · refine v_iload_n F dX5_box_16 rfl ?_
    refine v_iload_n F dX5_box_17 rfl ?_
    refine v_iload F dX5_box_18 rfl ?_
    refine v_iload F dX5_box_20 rfl ?_
    refine v_callS F 4 [_, _, _, _] rfl rfl rfl (c_isWithin_t (inPm_nat h1 h2 h3 h4)) gX5_box_X5_isWithin rfl hd_X5_isWithin ⟨⟨rfl, rfl⟩, ⟨(Nat.le_of_ble_eq_true rfl), (Nat.le_of_ble_eq_true rfl)⟩, ⟨(Nat.le_of_ble_eq_true rfl), (Nat.le_of_ble_eq_true rfl)⟩, (Nat.le_of_ble_eq_true rfl)⟩ dX5_box_22 (fun v22 M22 q22 => ?_)
    obtain ⟨rfl, e22⟩ := q22
    replace e22 := e22.symm
    subst e22
    refine v_if_eq_b F 32 dX5_box_25 (by decide) (fun c25 => ?_) (fun c25 => ?_)
    · exact absurd c25 (by decide)
    · refine v_iconst (v := nI 1) F dX5_box_28 (by decide) ?_
      refine v_goto F 33 dX5_box_29 (by decide) ?_
      first | refine V.toI (show nI 1 = bI true from rfl) ?_ | refine V.toI (show nI 0 = bI false from rfl) ?_
      refine v_aload_n F dX5_box_33 rfl rfl ?_
      refine v_get F 5 0 fo_X5_box_64 dX5_box_34 hI.x rfl ?_
      refine V.toI (show nI (T 0) = nI n by rw [hT0]) ?_
      refine v_bipush (v := nI 24) F dX5_box_37 (by decide) ?_
      refine v_icmp_ge_n F 46 dX5_box_39 (by decide) (by first | omega | exact Nat.lt_trans (hW _ _) (by decide)) (by first | omega | exact Nat.lt_trans (hW _ _) (by decide)) (fun c39 => ?_) (fun c39 => ?_)
      · exact absurd c39 (by omega)
      · refine v_iconst (v := nI 1) F dX5_box_42 (by decide) ?_
        refine v_goto F 47 dX5_box_43 (by decide) ?_
        first | refine V.toI (show nI 1 = bI true from rfl) ?_ | refine V.toI (show nI 0 = bI false from rfl) ?_
        refine v_callV F 3 [_, _, _] rfl rfl rfl (c_X5_goes hI hWf) gX5_box_X5_goes rfl hd_X5_goes ⟨⟨rfl, rfl⟩, ⟨(Nat.le_of_ble_eq_true rfl), (Nat.le_of_ble_eq_true rfl)⟩, ⟨(Nat.le_of_ble_eq_true rfl), (Nat.le_of_ble_eq_true rfl)⟩, (Nat.le_of_ble_eq_true rfl)⟩ hI.x rfl dX5_box_47 (fun v47 M47 q47 => ?_)
        obtain ⟨rfl, hI1, hF1⟩ := q47
        refine v_if_ne_b F 55 dX5_box_50 (by decide) (fun c50 => ?_) (fun c50 => ?_)
        · refine v_aload_n F dX5_box_55 rfl rfl ?_
          refine v_iload_n F dX5_box_56 rfl ?_
          refine v_callV F 1 [_] rfl rfl rfl (c_keeps hI1 ((uT_n (by decide)).trans hT0) hCB hB hWf ρ hρ0 hρ hp hFn) gX5_box_X5_keeps rfl hd_X5_keeps ⟨⟨rfl, rfl⟩, ⟨(Nat.le_of_ble_eq_true rfl), (Nat.le_of_ble_eq_true rfl)⟩, ⟨(Nat.le_of_ble_eq_true rfl), (Nat.le_of_ble_eq_true rfl)⟩, (Nat.le_of_ble_eq_true rfl)⟩ hI1.x rfl dX5_box_57 (fun v57 M57 q57 => ?_)
          obtain ⟨rfl, C1, T1, hI2, hF2, hs2, h16, h17⟩ := q57
          have hT1 : T1 0 = n := (hs2.2 0 (by decide) (by decide) (by decide)).trans ((uT_n (by decide)).trans hT0)
          refine v_aload_n F dX5_box_60 rfl rfl ?_
          refine v_get F 5 1 fo_X5_box_7 dX5_box_61 hI2.x rfl ?_
          refine v_aload_n F dX5_box_64 rfl rfl ?_
          refine v_get F 5 0 fo_X5_box_64 dX5_box_65 hI2.x rfl ?_
          refine V.toI (show nI (T1 0) = nI n by rw [hT1]) ?_
          refine v_iload_n F dX5_box_68 rfl ?_
          refine v_iast_n F dX5_box_69 (hI2.r (f := 1) (sz := 24) (bl := 0) (by simp [isRow]) (by decide) (by decide)) (by first | omega | exact Nat.lt_trans (hW _ _) (by decide)) (by decide) ?_
          obtain ⟨D1, hD1, hJ1⟩ : ∃ D, D = uC C1 1 (upd (C1 1) n (nI p)) ∧ MI ω Y D T1 _ := ⟨_, rfl, hI2.setC (f := 1) (sz := 24) (bl := 0) (by simp [isRow]) (by decide) (by decide) (_)⟩
          refine v_aload_n F dX5_box_70 rfl rfl ?_
          refine v_get F 5 2 fo_X5_box_13 dX5_box_71 hJ1.x rfl ?_
          refine v_aload_n F dX5_box_74 rfl rfl ?_
          refine v_get F 5 0 fo_X5_box_64 dX5_box_75 hJ1.x rfl ?_
          refine V.toI (show nI (T1 0) = nI n by rw [hT1]) ?_
          refine v_iload_n F dX5_box_78 rfl ?_
          refine v_iast_n F dX5_box_79 (hJ1.r (f := 2) (sz := 24) (bl := 0) (by simp [isRow]) (by decide) (by decide)) (by first | omega | exact Nat.lt_trans (hW _ _) (by decide)) (by decide) ?_
          obtain ⟨D2, hD2, hJ2⟩ : ∃ D, D = uC D1 2 (upd (D1 2) n (nI x)) ∧ MI ω Y D T1 _ := ⟨_, rfl, hJ1.setC (f := 2) (sz := 24) (bl := 0) (by simp [isRow]) (by decide) (by decide) (_)⟩
          refine v_aload_n F dX5_box_80 rfl rfl ?_
          refine v_get F 5 3 fo_X5_box_16 dX5_box_81 hJ2.x rfl ?_
          refine v_aload_n F dX5_box_84 rfl rfl ?_
          refine v_get F 5 0 fo_X5_box_64 dX5_box_85 hJ2.x rfl ?_
          refine V.toI (show nI (T1 0) = nI n by rw [hT1]) ?_
          refine v_iload_n F dX5_box_88 rfl ?_
          refine v_iast_n F dX5_box_89 (hJ2.r (f := 3) (sz := 24) (bl := 0) (by simp [isRow]) (by decide) (by decide)) (by first | omega | exact Nat.lt_trans (hW _ _) (by decide)) (by decide) ?_
          obtain ⟨D3, hD3, hJ3⟩ : ∃ D, D = uC D2 3 (upd (D2 3) n (nI y)) ∧ MI ω Y D T1 _ := ⟨_, rfl, hJ2.setC (f := 3) (sz := 24) (bl := 0) (by simp [isRow]) (by decide) (by decide) (_)⟩
          refine v_aload_n F dX5_box_90 rfl rfl ?_
          refine v_get F 5 4 fo_X5_box_19 dX5_box_91 hJ3.x rfl ?_
          refine v_aload_n F dX5_box_94 rfl rfl ?_
          refine v_get F 5 0 fo_X5_box_64 dX5_box_95 hJ3.x rfl ?_
          refine V.toI (show nI (T1 0) = nI n by rw [hT1]) ?_
          refine v_iload F dX5_box_98 rfl ?_
          refine v_iast_n F dX5_box_100 (hJ3.r (f := 4) (sz := 24) (bl := 0) (by simp [isRow]) (by decide) (by decide)) (by first | omega | exact Nat.lt_trans (hW _ _) (by decide)) (by decide) ?_
          obtain ⟨D4, hD4, hJ4⟩ : ∃ D, D = uC D3 4 (upd (D3 4) n (nI w)) ∧ MI ω Y D T1 _ := ⟨_, rfl, hJ3.setC (f := 4) (sz := 24) (bl := 0) (by simp [isRow]) (by decide) (by decide) (_)⟩
          refine v_aload_n F dX5_box_101 rfl rfl ?_
          refine v_get F 5 5 fo_X5_box_22 dX5_box_102 hJ4.x rfl ?_
          refine v_aload_n F dX5_box_105 rfl rfl ?_
          refine v_get F 5 0 fo_X5_box_64 dX5_box_106 hJ4.x rfl ?_
          refine V.toI (show nI (T1 0) = nI n by rw [hT1]) ?_
          refine v_iload F dX5_box_109 rfl ?_
          refine v_iast_n F dX5_box_111 (hJ4.r (f := 5) (sz := 24) (bl := 0) (by simp [isRow]) (by decide) (by decide)) (by first | omega | exact Nat.lt_trans (hW _ _) (by decide)) (by decide) ?_
          obtain ⟨D5, hD5, hJ5⟩ : ∃ D, D = uC D4 5 (upd (D4 5) n (nI h)) ∧ MI ω Y D T1 _ := ⟨_, rfl, hJ4.setC (f := 5) (sz := 24) (bl := 0) (by simp [isRow]) (by decide) (by decide) (_)⟩
          refine v_aload_n F dX5_box_112 rfl rfl ?_
          refine v_get F 5 6 fo_X5_box_25 dX5_box_113 hJ5.x rfl ?_
          refine v_aload_n F dX5_box_116 rfl rfl ?_
          refine v_get F 5 0 fo_X5_box_64 dX5_box_117 hJ5.x rfl ?_
          refine V.toI (show nI (T1 0) = nI n by rw [hT1]) ?_
          refine v_iload F dX5_box_120 rfl ?_
          refine v_iast_n F dX5_box_122 (hJ5.r (f := 6) (sz := 24) (bl := 0) (by simp [isRow]) (by decide) (by decide)) (by first | omega | exact Nat.lt_trans (hW _ _) (by decide)) (by decide) ?_
          obtain ⟨D6, hD6, hJ6⟩ : ∃ D, D = uC D5 6 (upd (D5 6) n (nI kd)) ∧ MI ω Y D T1 _ := ⟨_, rfl, hJ5.setC (f := 6) (sz := 24) (bl := 0) (by simp [isRow]) (by decide) (by decide) (_)⟩
          refine v_aload_n F dX5_box_123 rfl rfl ?_
          refine v_get F 5 7 fo_X5_box_28 dX5_box_124 hJ6.x rfl ?_
          refine v_aload_n F dX5_box_127 rfl rfl ?_
          refine v_get F 5 0 fo_X5_box_64 dX5_box_128 hJ6.x rfl ?_
          refine V.toI (show nI (T1 0) = nI n by rw [hT1]) ?_
          refine v_iconst (v := (-1)) F dX5_box_131 (by decide) ?_
          refine v_iast_n F dX5_box_132 (hJ6.r (f := 7) (sz := 24) (bl := 0) (by simp [isRow]) (by decide) (by decide)) (by first | omega | exact Nat.lt_trans (hW _ _) (by decide)) (by decide) ?_
          obtain ⟨D7, hD7, hJ7⟩ : ∃ D, D = uC D6 7 (upd (D6 7) n (-1)) ∧ MI ω Y D T1 _ := ⟨_, rfl, hJ6.setC (f := 7) (sz := 24) (bl := 0) (by simp [isRow]) (by decide) (by decide) (_)⟩
          refine v_aload_n F dX5_box_133 rfl rfl ?_
          refine v_get F 5 8 fo_X5_box_31 dX5_box_134 hJ7.x rfl ?_
          refine v_aload_n F dX5_box_137 rfl rfl ?_
          refine v_get F 5 0 fo_X5_box_64 dX5_box_138 hJ7.x rfl ?_
          refine V.toI (show nI (T1 0) = nI n by rw [hT1]) ?_
          refine v_iconst (v := (-1)) F dX5_box_141 (by decide) ?_
          refine v_iast_n F dX5_box_142 (hJ7.r (f := 8) (sz := 24) (bl := 0) (by simp [isRow]) (by decide) (by decide)) (by first | omega | exact Nat.lt_trans (hW _ _) (by decide)) (by decide) ?_
          obtain ⟨D8, hD8, hJ8⟩ : ∃ D, D = uC D7 8 (upd (D7 8) n (-1)) ∧ MI ω Y D T1 _ := ⟨_, rfl, hJ7.setC (f := 8) (sz := 24) (bl := 0) (by simp [isRow]) (by decide) (by decide) (_)⟩
          refine v_aload_n F dX5_box_143 rfl rfl ?_
          refine v_dup F dX5_box_144 rfl ?_
          refine v_get F 5 0 fo_X5_box_64 dX5_box_145 hJ8.x rfl ?_
          refine V.toI (show nI (T1 0) = nI n by rw [hT1]) ?_
          refine v_iconst (v := nI 1) F dX5_box_148 (by decide) ?_
          refine v_iadd_n F dX5_box_149 ?_
          refine v_put F 5 0 fp_X5_box_64 dX5_box_150 hJ8.x rfl rfl (Nat.le_of_ble_eq_true rfl) ?_
          have hI4 := hJ8.setT (f := 0) (v := n + 1) rfl
          have e1 : D8 1 = upd (C1 1) n (nI p) := by simp [hD8, hD7, hD6, hD5, hD4, hD3, hD2, hD1, uC]
          have e2 : D8 2 = upd (C1 2) n (nI x) := by simp [hD8, hD7, hD6, hD5, hD4, hD3, hD2, hD1, uC]
          have e3 : D8 3 = upd (C1 3) n (nI y) := by simp [hD8, hD7, hD6, hD5, hD4, hD3, hD2, hD1, uC]
          have e4 : D8 4 = upd (C1 4) n (nI w) := by simp [hD8, hD7, hD6, hD5, hD4, hD3, hD2, hD1, uC]
          have e5 : D8 5 = upd (C1 5) n (nI h) := by simp [hD8, hD7, hD6, hD5, hD4, hD3, hD2, hD1, uC]
          have e6 : D8 6 = upd (C1 6) n (nI kd) := by simp [hD8, hD7, hD6, hD5, hD4, hD3, hD2, hD1, uC]
          have e7 : D8 7 = upd (C1 7) n (-1) := by simp [hD8, hD7, hD6, hD5, hD4, hD3, hD2, hD1, uC]
          have e8 : D8 8 = upd (C1 8) n (-1) := by simp [hD8, hD7, hD6, hD5, hD4, hD3, hD2, hD1, uC]
          have e9 : D8 9 = C 9 := by simp [hD8, hD7, hD6, hD5, hD4, hD3, hD2, hD1, uC, hs2.1]
          have e11 : D8 11 = C 11 := by simp [hD8, hD7, hD6, hD5, hD4, hD3, hD2, hD1, uC, hs2.1]
          have e12 : D8 12 = C 12 := by simp [hD8, hD7, hD6, hD5, hD4, hD3, hD2, hD1, uC, hs2.1]
          have e13 : D8 13 = C 13 := by simp [hD8, hD7, hD6, hD5, hD4, hD3, hD2, hD1, uC, hs2.1]
          have e17 : D8 17 = C1 17 := by simp [hD8, hD7, hD6, hD5, hD4, hD3, hD2, hD1, uC]
          have hCB2 : CB D8 (nwB B n p x y w h kd) (n + 1) := by
            intro i hi
            rw [e1, e2, e3, e4, e5, e6, e7, e8, e9]
            by_cases hin : i = n
            · subst hin
              rw [pk_us, pk_us, pk_us, pk_us, pk_us, pk_us, pk_us, pk_us, h9 i (Nat.le_refl i)]
              simp [nwB, oI, nI]
            · obtain ⟨a1, a2, a3, a4, a5, a6, a7, a8, a9⟩ := (hCB.sm hs2.1) i (by omega)
              rw [hs2.1 9 (by decide) (by decide) (by decide)] at a9
              rw [pk_un hin, pk_un hin, pk_un hin, pk_un hin, pk_un hin, pk_un hin, pk_un hin, pk_un hin, show nwB B n p x y w h kd i = B i by funext b; simp [nwB, hin]]
              exact ⟨a1, a2, a3, a4, a5, a6, a7, a8, a9⟩
          have hCP2 : CPP D8 P k := hCP.sm e11 e12 e13
          refine v_aload_n F dX5_box_153 rfl rfl ?_
          refine v_iload_n F dX5_box_154 rfl ?_
          refine v_callV F 1 [_] rfl rfl rfl (c_falls hI4 uT_s hCB2 hB2 hWf ρ2 hρ20 hρ2 ((uT_n (by decide)).trans ((hs2.2 10 (by decide) (by decide) (by decide)).trans ((uT_n (by decide)).trans hT10))) hCP2 hk hWP hp hFn2 (u := ordF B n p) ((uT_n (by decide)).trans h16) (by rw [e17]; exact h17) hFn.2.2.2.2 hoB hoB2) gX5_box_X5_falls rfl hd_X5_falls ⟨⟨rfl, rfl⟩, ⟨(Nat.le_of_ble_eq_true rfl), (Nat.le_of_ble_eq_true rfl)⟩, ⟨(Nat.le_of_ble_eq_true rfl), (Nat.le_of_ble_eq_true rfl)⟩, (Nat.le_of_ble_eq_true rfl)⟩ hI4.x rfl dX5_box_155 (fun v155 M155 q155 => ?_)
          obtain ⟨C5, T5, P9, c9, rfl, hI5, hF5, g1, g2, g3, g4, g5⟩ := q155
          refine v_istore F dX5_box_158 (Nat.le_of_ble_eq_true rfl) (ok2_d rfl) ?_
          refine v_aload_n F dX5_box_160 rfl rfl ?_
          refine v_get F 5 0 fo_X5_box_64 dX5_box_161 hI5.x rfl ?_
          refine V.toI (show nI (T5 0) = nI (n + 1) by rw [g2 0 (by decide) (by decide), uT_s]) ?_
          refine v_iconst (v := nI 1) F dX5_box_164 (by decide) ?_
          refine v_isub_n F dX5_box_165 (by first | omega | exact Nat.lt_trans (hW _ _) (by decide)) ?_
          exact v_iret F hr dX5_box_166 (Nat.le_of_ble_eq_true rfl) (Nat.le_of_ble_eq_true rfl) ⟨P9, c9, rfl, ⟨C5, T5, hI5, (g2 0 (by decide) (by decide)).trans uT_s, (g2 10 (by decide) (by decide)).trans ((uT_n (by decide)).trans ((hs2.2 10 (by decide) (by decide) (by decide)).trans ((uT_n (by decide)).trans hT10))), (g2 20 (by decide) (by decide)).trans ((uT_n (by decide)).trans ((hs2.2 20 (by decide) (by decide) (by decide)).trans uT_s)), hCB2.sm9 (fun f h => g1 f (by omega) (by omega) (by omega)), g3, fun q hq => by rw [g1 9 (by decide) (by decide) (by decide), e9]; exact h9 q (by omega), fun q hq => by rw [g5 q hq, e13]; exact h13 q hq, hB2, hk, by rcases g4 with ⟨-, -, rfl⟩ | ⟨-, -, rfl⟩; exact hWP; exact lfP_lt hWP _ 20⟩, (((((((((((hF1.tr hF2).up (hWf 1)).up (hWf 2)).up (hWf 3)).up (hWf 4)).up (hWf 5)).up (hWf 6)).up (hWf 7)).up (hWf 8)).up (hWf 0)).tr hF5), g4⟩
        · exact absurd c50 (by decide)
set_option maxHeartbeats 4000000 in
set_option maxRecDepth 100000 in
theorem c_Mbox_full {l : Launch} {ω : Om} {M : MM} {Y : Nat → Nat} {B P : FF} {n k t : Nat} (hS : MS ω Y B P n k t M) {W : Nat → Prop} (hWf : ∀ f, W (Y f)) {p x y w h kd : Nat} (hp : p < 5) (hkd : kd ≤ 6) (h1 : 1 ≤ w) (h2 : 1 ≤ h) (h3 : x + w ≤ 60) (h4 : y + h ≤ 80) (hn24 : ¬ n < 24) : Ct l ω yX5_box wsX5_box rmX5_box [.ref (Y 0), .int (nI p), .int (nI x), .int (nI y), .int (nI w), .int (nI h), .int (nI kd)] M (fun v M9 => v = some (.int (nI 0)) ∧ MS ω Y B P n k 3 M9 ∧ Fr W M M9) 0 0 := by
  refine Ct.ofV (cc := cX5_box) (maxL := 8) (ret := (some .int)) [some (.ref (Y 0)), some (.int (nI p)), some (.int (nI x)), some (.int (nI y)), some (.int (nI w)), some (.int (nI h)), some (.int (nI kd)), none] (by decide) rfl (Nat.le_of_ble_eq_true rfl) rfl (Lc.av (av := [.ref (Y 0), .int (nI p), .int (nI x), .int (nI y), .int (nI w), .int (nI h), .int (nI kd)]) (k := 1) rfl) ?_
  intro σ F hl hr hname
  have F : Fx ω σ cX5_box 8 wsX5_box RX5 rmX5_box := F
  obtain ⟨C, T, hI, hT0, hT10, hT20, hCB, hCP, h9, h13, hB, hk, hWP⟩ := hS
  have hn : n ≤ 24 := hB.1
  have hW : ∀ i j, B i j < 128 := hB.2.1
  refine v_aload_n F dX5_box_0 rfl rfl ?_
  refine v_iload_n F dX5_box_1 rfl ?_
  refine v_callS F 1 [_] rfl rfl rfl (c_isPage_t hp) gX5_box_X5_isPage rfl hd_X5_isPage ⟨⟨rfl, rfl⟩, ⟨(Nat.le_of_ble_eq_true rfl), (Nat.le_of_ble_eq_true rfl)⟩, ⟨(Nat.le_of_ble_eq_true rfl), (Nat.le_of_ble_eq_true rfl)⟩, (Nat.le_of_ble_eq_true rfl)⟩ dX5_box_2 (fun v2 M2 q2 => ?_)
  obtain ⟨rfl, e2⟩ := q2
  replace e2 := e2.symm
  subst e2
  refine v_iload F dX5_box_5 rfl ?_
  refine v_iconst (v := nI 0) F dX5_box_7 (by decide) ?_
  refine v_bipush (v := nI 6) F dX5_box_8 (by decide) ?_
  refine v_callS F 3 [_, _, _] rfl rfl rfl (c_in_t (nI_nlt (a := kd) (b := 0) (by omega) (by omega)) (nI_nlt (a := 6) (b := kd) (by omega) (by omega))) gX5_box_X5_in rfl hd_X5_in ⟨⟨rfl, rfl⟩, ⟨(Nat.le_of_ble_eq_true rfl), (Nat.le_of_ble_eq_true rfl)⟩, ⟨(Nat.le_of_ble_eq_true rfl), (Nat.le_of_ble_eq_true rfl)⟩, (Nat.le_of_ble_eq_true rfl)⟩ dX5_box_10 (fun v10 M10 q10 => ?_)
  obtain ⟨rfl, e10⟩ := q10
  replace e10 := e10.symm
  subst e10
  refine v_if_eq_b F 32 dX5_box_13 (by decide) (fun c13 => ?_) (fun c13 => ?_)
  · exact absurd c13 (by decide)
  · refine v_iload_n F dX5_box_16 rfl ?_
    refine v_iload_n F dX5_box_17 rfl ?_
    refine v_iload F dX5_box_18 rfl ?_
    refine v_iload F dX5_box_20 rfl ?_
    refine v_callS F 4 [_, _, _, _] rfl rfl rfl (c_isWithin_t (inPm_nat h1 h2 h3 h4)) gX5_box_X5_isWithin rfl hd_X5_isWithin ⟨⟨rfl, rfl⟩, ⟨(Nat.le_of_ble_eq_true rfl), (Nat.le_of_ble_eq_true rfl)⟩, ⟨(Nat.le_of_ble_eq_true rfl), (Nat.le_of_ble_eq_true rfl)⟩, (Nat.le_of_ble_eq_true rfl)⟩ dX5_box_22 (fun v22 M22 q22 => ?_)
    obtain ⟨rfl, e22⟩ := q22
    replace e22 := e22.symm
    subst e22
    refine v_if_eq_b F 32 dX5_box_25 (by decide) (fun c25 => ?_) (fun c25 => ?_)
    · exact absurd c25 (by decide)
    · refine v_iconst (v := nI 1) F dX5_box_28 (by decide) ?_
      refine v_goto F 33 dX5_box_29 (by decide) ?_
      first | refine V.toI (show nI 1 = bI true from rfl) ?_ | refine V.toI (show nI 0 = bI false from rfl) ?_
      refine v_aload_n F dX5_box_33 rfl rfl ?_
      refine v_get F 5 0 fo_X5_box_64 dX5_box_34 hI.x rfl ?_
      refine V.toI (show nI (T 0) = nI n by rw [hT0]) ?_
      refine v_bipush (v := nI 24) F dX5_box_37 (by decide) ?_
      refine v_icmp_ge_n F 46 dX5_box_39 (by decide) (by first | omega | exact Nat.lt_trans (hW _ _) (by decide)) (by first | omega | exact Nat.lt_trans (hW _ _) (by decide)) (fun c39 => ?_) (fun c39 => ?_)
      · refine v_iconst (v := nI 0) F dX5_box_46 (by decide) ?_
        first | refine V.toI (show nI 1 = bI true from rfl) ?_ | refine V.toI (show nI 0 = bI false from rfl) ?_
        refine v_callV F 3 [_, _, _] rfl rfl rfl (c_X5_goes hI hWf) gX5_box_X5_goes rfl hd_X5_goes ⟨⟨rfl, rfl⟩, ⟨(Nat.le_of_ble_eq_true rfl), (Nat.le_of_ble_eq_true rfl)⟩, ⟨(Nat.le_of_ble_eq_true rfl), (Nat.le_of_ble_eq_true rfl)⟩, (Nat.le_of_ble_eq_true rfl)⟩ hI.x rfl dX5_box_47 (fun v47 M47 q47 => ?_)
        obtain ⟨rfl, hI1, hF1⟩ := q47
        refine v_if_ne_b F 55 dX5_box_50 (by decide) (fun c50 => ?_) (fun c50 => ?_)
        · exact absurd c50 (by decide)
        · refine v_iconst (v := nI 0) F dX5_box_53 (by decide) ?_
          exact v_iret F hr dX5_box_54 (Nat.le_of_ble_eq_true rfl) (Nat.le_of_ble_eq_true rfl) ⟨rfl, MS.q (t0 := 0) hI1 Sm2.rf hT0 hT10 hCB hCP h9 h13 hB hk hWP, hF1⟩
      · exact absurd c39 (by omega)
set_option maxHeartbeats 4000000 in
set_option maxRecDepth 100000 in
theorem c_Mbox_kind {l : Launch} {ω : Om} {M : MM} {Y : Nat → Nat} {B P : FF} {n k t : Nat} (hS : MS ω Y B P n k t M) {W : Nat → Prop} (hWf : ∀ f, W (Y f)) {p : Nat} {x y w h kd : Int32} (hp : p < 5) (hkd : kd < 0 ∨ nI 6 < kd) : Ct l ω yX5_box wsX5_box rmX5_box [.ref (Y 0), .int (nI p), .int x, .int y, .int w, .int h, .int kd] M (fun v M9 => v = some (.int (nI 0)) ∧ MS ω Y B P n k 2 M9 ∧ Fr W M M9) 0 0 := by
  refine Ct.ofV (cc := cX5_box) (maxL := 8) (ret := (some .int)) [some (.ref (Y 0)), some (.int (nI p)), some (.int x), some (.int y), some (.int w), some (.int h), some (.int kd), none] (by decide) rfl (Nat.le_of_ble_eq_true rfl) rfl (Lc.av (av := [.ref (Y 0), .int (nI p), .int x, .int y, .int w, .int h, .int kd]) (k := 1) rfl) ?_
  intro σ F hl hr hname
  have F : Fx ω σ cX5_box 8 wsX5_box RX5 rmX5_box := F
  obtain ⟨C, T, hI, hT0, hT10, hT20, hCB, hCP, h9, h13, hB, hk, hWP⟩ := hS
  have hn : n ≤ 24 := hB.1
  have hW : ∀ i j, B i j < 128 := hB.2.1
  refine v_aload_n F dX5_box_0 rfl rfl ?_
  refine v_iload_n F dX5_box_1 rfl ?_
  refine v_callS F 1 [_] rfl rfl rfl (c_isPage_t hp) gX5_box_X5_isPage rfl hd_X5_isPage ⟨⟨rfl, rfl⟩, ⟨(Nat.le_of_ble_eq_true rfl), (Nat.le_of_ble_eq_true rfl)⟩, ⟨(Nat.le_of_ble_eq_true rfl), (Nat.le_of_ble_eq_true rfl)⟩, (Nat.le_of_ble_eq_true rfl)⟩ dX5_box_2 (fun v2 M2 q2 => ?_)
  obtain ⟨rfl, e2⟩ := q2
  replace e2 := e2.symm
  subst e2
  refine v_iload F dX5_box_5 rfl ?_
  refine v_iconst (v := nI 0) F dX5_box_7 (by decide) ?_
  refine v_bipush (v := nI 6) F dX5_box_8 (by decide) ?_
  refine v_callS F 3 [_, _, _] rfl rfl rfl (c_in_f (y := kd) (a := nI 0) (b := nI 6) hkd) gX5_box_X5_in rfl hd_X5_in ⟨⟨rfl, rfl⟩, ⟨(Nat.le_of_ble_eq_true rfl), (Nat.le_of_ble_eq_true rfl)⟩, ⟨(Nat.le_of_ble_eq_true rfl), (Nat.le_of_ble_eq_true rfl)⟩, (Nat.le_of_ble_eq_true rfl)⟩ dX5_box_10 (fun v10 M10 q10 => ?_)
  obtain ⟨rfl, e10⟩ := q10
  replace e10 := e10.symm
  subst e10
  refine v_if_eq_b F 32 dX5_box_13 (by decide) (fun c13 => ?_) (fun c13 => ?_)
  · refine v_iconst (v := nI 0) F dX5_box_32 (by decide) ?_
    first | refine V.toI (show nI 1 = bI true from rfl) ?_ | refine V.toI (show nI 0 = bI false from rfl) ?_
    refine v_aload_n F dX5_box_33 rfl rfl ?_
    refine v_get F 5 0 fo_X5_box_64 dX5_box_34 hI.x rfl ?_
    refine V.toI (show nI (T 0) = nI n by rw [hT0]) ?_
    refine v_bipush (v := nI 24) F dX5_box_37 (by decide) ?_
    refine v_icmp_ge_n F 46 dX5_box_39 (by decide) (by first | omega | exact Nat.lt_trans (hW _ _) (by decide)) (by first | omega | exact Nat.lt_trans (hW _ _) (by decide)) (fun c39 => ?_) (fun c39 => ?_)
    · refine v_iconst (v := nI 0) F dX5_box_46 (by decide) ?_
      first | refine V.toI (show nI 1 = bI true from rfl) ?_ | refine V.toI (show nI 0 = bI false from rfl) ?_
      refine v_callV F 3 [_, _, _] rfl rfl rfl (c_X5_goes hI hWf) gX5_box_X5_goes rfl hd_X5_goes ⟨⟨rfl, rfl⟩, ⟨(Nat.le_of_ble_eq_true rfl), (Nat.le_of_ble_eq_true rfl)⟩, ⟨(Nat.le_of_ble_eq_true rfl), (Nat.le_of_ble_eq_true rfl)⟩, (Nat.le_of_ble_eq_true rfl)⟩ hI.x rfl dX5_box_47 (fun v47 M47 q47 => ?_)
      obtain ⟨rfl, hI1, hF1⟩ := q47
      refine v_if_ne_b F 55 dX5_box_50 (by decide) (fun c50 => ?_) (fun c50 => ?_)
      · exact absurd c50 (by simp)
      · refine v_iconst (v := nI 0) F dX5_box_53 (by decide) ?_
        exact v_iret F hr dX5_box_54 (Nat.le_of_ble_eq_true rfl) (Nat.le_of_ble_eq_true rfl) ⟨rfl, MS.q (t0 := 0) hI1 Sm2.rf hT0 hT10 hCB hCP h9 h13 hB hk hWP, hF1⟩
    · refine v_iconst (v := nI 1) F dX5_box_42 (by decide) ?_
      refine v_goto F 47 dX5_box_43 (by decide) ?_
      first | refine V.toI (show nI 1 = bI true from rfl) ?_ | refine V.toI (show nI 0 = bI false from rfl) ?_
      refine v_callV F 3 [_, _, _] rfl rfl rfl (c_X5_goes hI hWf) gX5_box_X5_goes rfl hd_X5_goes ⟨⟨rfl, rfl⟩, ⟨(Nat.le_of_ble_eq_true rfl), (Nat.le_of_ble_eq_true rfl)⟩, ⟨(Nat.le_of_ble_eq_true rfl), (Nat.le_of_ble_eq_true rfl)⟩, (Nat.le_of_ble_eq_true rfl)⟩ hI.x rfl dX5_box_47 (fun v47 M47 q47 => ?_)
      obtain ⟨rfl, hI1, hF1⟩ := q47
      refine v_if_ne_b F 55 dX5_box_50 (by decide) (fun c50 => ?_) (fun c50 => ?_)
      · exact absurd c50 (by simp)
      · refine v_iconst (v := nI 0) F dX5_box_53 (by decide) ?_
        exact v_iret F hr dX5_box_54 (Nat.le_of_ble_eq_true rfl) (Nat.le_of_ble_eq_true rfl) ⟨rfl, MS.q (t0 := 0) hI1 Sm2.rf hT0 hT10 hCB hCP h9 h13 hB hk hWP, hF1⟩
  · exact absurd c13 (by decide)
set_option maxHeartbeats 4000000 in
set_option maxRecDepth 100000 in
theorem c_Mbox_bad {l : Launch} {ω : Om} {M : MM} {Y : Nat → Nat} {B P : FF} {n k t : Nat} (hS : MS ω Y B P n k t M) {W : Nat → Prop} (hWf : ∀ f, W (Y f)) {p kd : Nat} {x y w h : Int32} (hp : p < 5) (hkd : kd ≤ 6) (hb : ¬ inPm x y w h) : Ct l ω yX5_box wsX5_box rmX5_box [.ref (Y 0), .int (nI p), .int x, .int y, .int w, .int h, .int (nI kd)] M (fun v M9 => v = some (.int (nI 0)) ∧ MS ω Y B P n k 2 M9 ∧ Fr W M M9) 0 0 := by
  refine Ct.ofV (cc := cX5_box) (maxL := 8) (ret := (some .int)) [some (.ref (Y 0)), some (.int (nI p)), some (.int x), some (.int y), some (.int w), some (.int h), some (.int (nI kd)), none] (by decide) rfl (Nat.le_of_ble_eq_true rfl) rfl (Lc.av (av := [.ref (Y 0), .int (nI p), .int x, .int y, .int w, .int h, .int (nI kd)]) (k := 1) rfl) ?_
  intro σ F hl hr hname
  have F : Fx ω σ cX5_box 8 wsX5_box RX5 rmX5_box := F
  obtain ⟨C, T, hI, hT0, hT10, hT20, hCB, hCP, h9, h13, hB, hk, hWP⟩ := hS
  have hn : n ≤ 24 := hB.1
  have hW : ∀ i j, B i j < 128 := hB.2.1
  refine v_aload_n F dX5_box_0 rfl rfl ?_
  refine v_iload_n F dX5_box_1 rfl ?_
  refine v_callS F 1 [_] rfl rfl rfl (c_isPage_t hp) gX5_box_X5_isPage rfl hd_X5_isPage ⟨⟨rfl, rfl⟩, ⟨(Nat.le_of_ble_eq_true rfl), (Nat.le_of_ble_eq_true rfl)⟩, ⟨(Nat.le_of_ble_eq_true rfl), (Nat.le_of_ble_eq_true rfl)⟩, (Nat.le_of_ble_eq_true rfl)⟩ dX5_box_2 (fun v2 M2 q2 => ?_)
  obtain ⟨rfl, e2⟩ := q2
  replace e2 := e2.symm
  subst e2
  refine v_iload F dX5_box_5 rfl ?_
  refine v_iconst (v := nI 0) F dX5_box_7 (by decide) ?_
  refine v_bipush (v := nI 6) F dX5_box_8 (by decide) ?_
  refine v_callS F 3 [_, _, _] rfl rfl rfl (c_in_t (nI_nlt (a := kd) (b := 0) (by omega) (by omega)) (nI_nlt (a := 6) (b := kd) (by omega) (by omega))) gX5_box_X5_in rfl hd_X5_in ⟨⟨rfl, rfl⟩, ⟨(Nat.le_of_ble_eq_true rfl), (Nat.le_of_ble_eq_true rfl)⟩, ⟨(Nat.le_of_ble_eq_true rfl), (Nat.le_of_ble_eq_true rfl)⟩, (Nat.le_of_ble_eq_true rfl)⟩ dX5_box_10 (fun v10 M10 q10 => ?_)
  obtain ⟨rfl, e10⟩ := q10
  replace e10 := e10.symm
  subst e10
  refine v_if_eq_b F 32 dX5_box_13 (by decide) (fun c13 => ?_) (fun c13 => ?_)
  · exact absurd c13 (by decide)
  · refine v_iload_n F dX5_box_16 rfl ?_
    refine v_iload_n F dX5_box_17 rfl ?_
    refine v_iload F dX5_box_18 rfl ?_
    refine v_iload F dX5_box_20 rfl ?_
    refine v_callS F 4 [_, _, _, _] rfl rfl rfl (c_isWithin_f hb) gX5_box_X5_isWithin rfl hd_X5_isWithin ⟨⟨rfl, rfl⟩, ⟨(Nat.le_of_ble_eq_true rfl), (Nat.le_of_ble_eq_true rfl)⟩, ⟨(Nat.le_of_ble_eq_true rfl), (Nat.le_of_ble_eq_true rfl)⟩, (Nat.le_of_ble_eq_true rfl)⟩ dX5_box_22 (fun v22 M22 q22 => ?_)
    obtain ⟨rfl, e22⟩ := q22
    replace e22 := e22.symm
    subst e22
    refine v_if_eq_b F 32 dX5_box_25 (by decide) (fun c25 => ?_) (fun c25 => ?_)
    · refine v_iconst (v := nI 0) F dX5_box_32 (by decide) ?_
      first | refine V.toI (show nI 1 = bI true from rfl) ?_ | refine V.toI (show nI 0 = bI false from rfl) ?_
      refine v_aload_n F dX5_box_33 rfl rfl ?_
      refine v_get F 5 0 fo_X5_box_64 dX5_box_34 hI.x rfl ?_
      refine V.toI (show nI (T 0) = nI n by rw [hT0]) ?_
      refine v_bipush (v := nI 24) F dX5_box_37 (by decide) ?_
      refine v_icmp_ge_n F 46 dX5_box_39 (by decide) (by first | omega | exact Nat.lt_trans (hW _ _) (by decide)) (by first | omega | exact Nat.lt_trans (hW _ _) (by decide)) (fun c39 => ?_) (fun c39 => ?_)
      · refine v_iconst (v := nI 0) F dX5_box_46 (by decide) ?_
        first | refine V.toI (show nI 1 = bI true from rfl) ?_ | refine V.toI (show nI 0 = bI false from rfl) ?_
        refine v_callV F 3 [_, _, _] rfl rfl rfl (c_X5_goes hI hWf) gX5_box_X5_goes rfl hd_X5_goes ⟨⟨rfl, rfl⟩, ⟨(Nat.le_of_ble_eq_true rfl), (Nat.le_of_ble_eq_true rfl)⟩, ⟨(Nat.le_of_ble_eq_true rfl), (Nat.le_of_ble_eq_true rfl)⟩, (Nat.le_of_ble_eq_true rfl)⟩ hI.x rfl dX5_box_47 (fun v47 M47 q47 => ?_)
        obtain ⟨rfl, hI1, hF1⟩ := q47
        refine v_if_ne_b F 55 dX5_box_50 (by decide) (fun c50 => ?_) (fun c50 => ?_)
        · exact absurd c50 (by simp)
        · refine v_iconst (v := nI 0) F dX5_box_53 (by decide) ?_
          exact v_iret F hr dX5_box_54 (Nat.le_of_ble_eq_true rfl) (Nat.le_of_ble_eq_true rfl) ⟨rfl, MS.q (t0 := 0) hI1 Sm2.rf hT0 hT10 hCB hCP h9 h13 hB hk hWP, hF1⟩
      · refine v_iconst (v := nI 1) F dX5_box_42 (by decide) ?_
        refine v_goto F 47 dX5_box_43 (by decide) ?_
        first | refine V.toI (show nI 1 = bI true from rfl) ?_ | refine V.toI (show nI 0 = bI false from rfl) ?_
        refine v_callV F 3 [_, _, _] rfl rfl rfl (c_X5_goes hI hWf) gX5_box_X5_goes rfl hd_X5_goes ⟨⟨rfl, rfl⟩, ⟨(Nat.le_of_ble_eq_true rfl), (Nat.le_of_ble_eq_true rfl)⟩, ⟨(Nat.le_of_ble_eq_true rfl), (Nat.le_of_ble_eq_true rfl)⟩, (Nat.le_of_ble_eq_true rfl)⟩ hI.x rfl dX5_box_47 (fun v47 M47 q47 => ?_)
        obtain ⟨rfl, hI1, hF1⟩ := q47
        refine v_if_ne_b F 55 dX5_box_50 (by decide) (fun c50 => ?_) (fun c50 => ?_)
        · exact absurd c50 (by simp)
        · refine v_iconst (v := nI 0) F dX5_box_53 (by decide) ?_
          exact v_iret F hr dX5_box_54 (Nat.le_of_ble_eq_true rfl) (Nat.le_of_ble_eq_true rfl) ⟨rfl, MS.q (t0 := 0) hI1 Sm2.rf hT0 hT10 hCB hCP h9 h13 hB hk hWP, hF1⟩
    · exact absurd c25 (by decide)
