/-! the reference: a box on no page -/
set_option maxHeartbeats 4000000 in
set_option maxRecDepth 100000 in
theorem c_Mbox_x1 {l : Launch} {ω : Om} {M : MM} {Y : Nat → Nat} {B P : FF} {n k t : Nat} (hS : MS ω Y B P n k t M) {W : Nat → Prop} (hWf : ∀ f, W (Y f)) {p x y w h kd : Int32} (hy : p < 0 ∨ nI 5 ≤ p) (hkd : kd < nI 0 ∨ nI 6 < kd) : Ct l ω yX5_box wsX5_box rmX5_box [.ref (Y 0), .int p, .int x, .int y, .int w, .int h, .int kd] M (fun v M9 => v = some (.int (nI 0)) ∧ MS ω Y B P n k 1 M9 ∧ Fr W M M9) 0 0 := by
  refine Ct.ofV (cc := cX5_box) (maxL := 8) (ret := (some .int)) [some (.ref (Y 0)), some (.int p), some (.int x), some (.int y), some (.int w), some (.int h), some (.int kd), none] (by decide) rfl (Nat.le_of_ble_eq_true rfl) rfl (Lc.av (av := [.ref (Y 0), .int p, .int x, .int y, .int w, .int h, .int kd]) (k := 1) rfl) ?_
  intro σ F hl hr hname
  have F : Fx ω σ cX5_box 8 wsX5_box RX5 rmX5_box := F
  obtain ⟨C, T, hI, hT0, hT10, hT20, hCB, hCP, h9, h13, hB, hk, hWP⟩ := hS
  have hn : n ≤ 24 := hB.1
  have hW : ∀ i j, B i j < 128 := hB.2.1
  refine v_aload_n F dX5_box_0 rfl rfl ?_
  refine v_iload_n F dX5_box_1 rfl ?_
  refine v_callS F 1 [_] rfl rfl rfl (c_isPage_f hy) gX5_box_X5_isPage rfl hd_X5_isPage ⟨⟨rfl, rfl⟩, ⟨(Nat.le_of_ble_eq_true rfl), (Nat.le_of_ble_eq_true rfl)⟩, ⟨(Nat.le_of_ble_eq_true rfl), (Nat.le_of_ble_eq_true rfl)⟩, (Nat.le_of_ble_eq_true rfl)⟩ dX5_box_2 (fun v2 M2 q2 => ?_)
  obtain ⟨rfl, e2⟩ := q2
  replace e2 := e2.symm
  subst e2
  refine v_iload F dX5_box_5 rfl ?_
  refine v_iconst (v := nI 0) F dX5_box_7 (by decide) ?_
  refine v_bipush (v := nI 6) F dX5_box_8 (by decide) ?_
  refine v_callS F 3 [_, _, _] rfl rfl rfl (c_in_f (y := kd) (a := nI 0) (b := nI 6) hkd) gX5_box_X5_in rfl hd_X5_in ⟨⟨rfl, rfl⟩, ⟨(Nat.le_of_ble_eq_true rfl), (Nat.le_of_ble_eq_true rfl)⟩, ⟨(Nat.le_of_ble_eq_true rfl), (Nat.le_of_ble_eq_true rfl)⟩, (Nat.le_of_ble_eq_true rfl)⟩ dX5_box_10 (fun v10 M10 q10 => ?_)
  obtain ⟨rfl, e10⟩ := q10
  replace e10 := e10.symm
  subst e10
  refine v_if_eq_b F 32 dX5_box_13 (by decide) (fun c13 => ?_) (fun c13 => ?_)
  · refine v_iconst (v := nI 0) F dX5_box_32 (by decide) ?_
    first | refine V.toI (show nI 1 = bI true from rfl) ?_ | refine V.toI (show nI 0 = bI false from rfl) ?_
    refine v_aload_n F dX5_box_33 rfl rfl ?_
    refine v_get F 5 0 fo_X5_box_64 dX5_box_34 hI.x rfl ?_
    refine V.toI (show nI (T 0) = nI n by rw [hT0]) ?_
    refine v_bipush (v := nI 24) F dX5_box_37 (by decide) ?_
    refine v_icmp_ge_n F 46 dX5_box_39 (by decide) (by first | omega | exact Nat.lt_trans (hW _ _) (by decide)) (by first | omega | exact Nat.lt_trans (hW _ _) (by decide)) (fun c39 => ?_) (fun c39 => ?_)
    · refine v_iconst (v := nI 0) F dX5_box_46 (by decide) ?_
      first | refine V.toI (show nI 1 = bI true from rfl) ?_ | refine V.toI (show nI 0 = bI false from rfl) ?_
      refine v_callV F 3 [_, _, _] rfl rfl rfl (c_X5_goes hI hWf) gX5_box_X5_goes rfl hd_X5_goes ⟨⟨rfl, rfl⟩, ⟨(Nat.le_of_ble_eq_true rfl), (Nat.le_of_ble_eq_true rfl)⟩, ⟨(Nat.le_of_ble_eq_true rfl), (Nat.le_of_ble_eq_true rfl)⟩, (Nat.le_of_ble_eq_true rfl)⟩ hI.x rfl dX5_box_47 (fun v47 M47 q47 => ?_)
      obtain ⟨rfl, hI1, hF1⟩ := q47
      refine v_if_ne_b F 55 dX5_box_50 (by decide) (fun c50 => ?_) (fun c50 => ?_)
      · exact absurd c50 (by simp)
      · refine v_iconst (v := nI 0) F dX5_box_53 (by decide) ?_
        exact v_iret F hr dX5_box_54 (Nat.le_of_ble_eq_true rfl) (Nat.le_of_ble_eq_true rfl) ⟨rfl, MS.q (t0 := 0) hI1 Sm2.rf hT0 hT10 hCB hCP h9 h13 hB hk hWP, hF1⟩
    · refine v_iconst (v := nI 1) F dX5_box_42 (by decide) ?_
      refine v_goto F 47 dX5_box_43 (by decide) ?_
      first | refine V.toI (show nI 1 = bI true from rfl) ?_ | refine V.toI (show nI 0 = bI false from rfl) ?_
      refine v_callV F 3 [_, _, _] rfl rfl rfl (c_X5_goes hI hWf) gX5_box_X5_goes rfl hd_X5_goes ⟨⟨rfl, rfl⟩, ⟨(Nat.le_of_ble_eq_true rfl), (Nat.le_of_ble_eq_true rfl)⟩, ⟨(Nat.le_of_ble_eq_true rfl), (Nat.le_of_ble_eq_true rfl)⟩, (Nat.le_of_ble_eq_true rfl)⟩ hI.x rfl dX5_box_47 (fun v47 M47 q47 => ?_)
      obtain ⟨rfl, hI1, hF1⟩ := q47
      refine v_if_ne_b F 55 dX5_box_50 (by decide) (fun c50 => ?_) (fun c50 => ?_)
      · exact absurd c50 (by simp)
      · refine v_iconst (v := nI 0) F dX5_box_53 (by decide) ?_
        exact v_iret F hr dX5_box_54 (Nat.le_of_ble_eq_true rfl) (Nat.le_of_ble_eq_true rfl) ⟨rfl, MS.q (t0 := 0) hI1 Sm2.rf hT0 hT10 hCB hCP h9 h13 hB hk hWP, hF1⟩
  · exact absurd c13 (by decide)
set_option maxHeartbeats 4000000 in
set_option maxRecDepth 100000 in
theorem c_Mbox_x2 {l : Launch} {ω : Om} {M : MM} {Y : Nat → Nat} {B P : FF} {n k t : Nat} (hS : MS ω Y B P n k t M) {W : Nat → Prop} (hWf : ∀ f, W (Y f)) {p x y w h kd : Int32} (hy : p < 0 ∨ nI 5 ≤ p) (hk2 : ¬ kd < nI 0 ∧ ¬ nI 6 < kd) (hb : ¬ inPm x y w h) : Ct l ω yX5_box wsX5_box rmX5_box [.ref (Y 0), .int p, .int x, .int y, .int w, .int h, .int kd] M (fun v M9 => v = some (.int (nI 0)) ∧ MS ω Y B P n k 1 M9 ∧ Fr W M M9) 0 0 := by
  refine Ct.ofV (cc := cX5_box) (maxL := 8) (ret := (some .int)) [some (.ref (Y 0)), some (.int p), some (.int x), some (.int y), some (.int w), some (.int h), some (.int kd), none] (by decide) rfl (Nat.le_of_ble_eq_true rfl) rfl (Lc.av (av := [.ref (Y 0), .int p, .int x, .int y, .int w, .int h, .int kd]) (k := 1) rfl) ?_
  intro σ F hl hr hname
  have F : Fx ω σ cX5_box 8 wsX5_box RX5 rmX5_box := F
  obtain ⟨C, T, hI, hT0, hT10, hT20, hCB, hCP, h9, h13, hB, hk, hWP⟩ := hS
  have hn : n ≤ 24 := hB.1
  have hW : ∀ i j, B i j < 128 := hB.2.1
  refine v_aload_n F dX5_box_0 rfl rfl ?_
  refine v_iload_n F dX5_box_1 rfl ?_
  refine v_callS F 1 [_] rfl rfl rfl (c_isPage_f hy) gX5_box_X5_isPage rfl hd_X5_isPage ⟨⟨rfl, rfl⟩, ⟨(Nat.le_of_ble_eq_true rfl), (Nat.le_of_ble_eq_true rfl)⟩, ⟨(Nat.le_of_ble_eq_true rfl), (Nat.le_of_ble_eq_true rfl)⟩, (Nat.le_of_ble_eq_true rfl)⟩ dX5_box_2 (fun v2 M2 q2 => ?_)
  obtain ⟨rfl, e2⟩ := q2
  replace e2 := e2.symm
  subst e2
  refine v_iload F dX5_box_5 rfl ?_
  refine v_iconst (v := nI 0) F dX5_box_7 (by decide) ?_
  refine v_bipush (v := nI 6) F dX5_box_8 (by decide) ?_
  refine v_callS F 3 [_, _, _] rfl rfl rfl (c_in_t (y := kd) (a := nI 0) (b := nI 6) hk2.1 hk2.2) gX5_box_X5_in rfl hd_X5_in ⟨⟨rfl, rfl⟩, ⟨(Nat.le_of_ble_eq_true rfl), (Nat.le_of_ble_eq_true rfl)⟩, ⟨(Nat.le_of_ble_eq_true rfl), (Nat.le_of_ble_eq_true rfl)⟩, (Nat.le_of_ble_eq_true rfl)⟩ dX5_box_10 (fun v10 M10 q10 => ?_)
  obtain ⟨rfl, e10⟩ := q10
  replace e10 := e10.symm
  subst e10
  refine v_if_eq_b F 32 dX5_box_13 (by decide) (fun c13 => ?_) (fun c13 => ?_)
  · exact absurd c13 (by decide)
  · refine v_iload_n F dX5_box_16 rfl ?_
    refine v_iload_n F dX5_box_17 rfl ?_
    refine v_iload F dX5_box_18 rfl ?_
    refine v_iload F dX5_box_20 rfl ?_
    refine v_callS F 4 [_, _, _, _] rfl rfl rfl (c_isWithin_f hb) gX5_box_X5_isWithin rfl hd_X5_isWithin ⟨⟨rfl, rfl⟩, ⟨(Nat.le_of_ble_eq_true rfl), (Nat.le_of_ble_eq_true rfl)⟩, ⟨(Nat.le_of_ble_eq_true rfl), (Nat.le_of_ble_eq_true rfl)⟩, (Nat.le_of_ble_eq_true rfl)⟩ dX5_box_22 (fun v22 M22 q22 => ?_)
    obtain ⟨rfl, e22⟩ := q22
    replace e22 := e22.symm
    subst e22
    refine v_if_eq_b F 32 dX5_box_25 (by decide) (fun c25 => ?_) (fun c25 => ?_)
    · refine v_iconst (v := nI 0) F dX5_box_32 (by decide) ?_
      first | refine V.toI (show nI 1 = bI true from rfl) ?_ | refine V.toI (show nI 0 = bI false from rfl) ?_
      refine v_aload_n F dX5_box_33 rfl rfl ?_
      refine v_get F 5 0 fo_X5_box_64 dX5_box_34 hI.x rfl ?_
      refine V.toI (show nI (T 0) = nI n by rw [hT0]) ?_
      refine v_bipush (v := nI 24) F dX5_box_37 (by decide) ?_
      refine v_icmp_ge_n F 46 dX5_box_39 (by decide) (by first | omega | exact Nat.lt_trans (hW _ _) (by decide)) (by first | omega | exact Nat.lt_trans (hW _ _) (by decide)) (fun c39 => ?_) (fun c39 => ?_)
      · refine v_iconst (v := nI 0) F dX5_box_46 (by decide) ?_
        first | refine V.toI (show nI 1 = bI true from rfl) ?_ | refine V.toI (show nI 0 = bI false from rfl) ?_
        refine v_callV F 3 [_, _, _] rfl rfl rfl (c_X5_goes hI hWf) gX5_box_X5_goes rfl hd_X5_goes ⟨⟨rfl, rfl⟩, ⟨(Nat.le_of_ble_eq_true rfl), (Nat.le_of_ble_eq_true rfl)⟩, ⟨(Nat.le_of_ble_eq_true rfl), (Nat.le_of_ble_eq_true rfl)⟩, (Nat.le_of_ble_eq_true rfl)⟩ hI.x rfl dX5_box_47 (fun v47 M47 q47 => ?_)
        obtain ⟨rfl, hI1, hF1⟩ := q47
        refine v_if_ne_b F 55 dX5_box_50 (by decide) (fun c50 => ?_) (fun c50 => ?_)
        · exact absurd c50 (by simp)
        · refine v_iconst (v := nI 0) F dX5_box_53 (by decide) ?_
          exact v_iret F hr dX5_box_54 (Nat.le_of_ble_eq_true rfl) (Nat.le_of_ble_eq_true rfl) ⟨rfl, MS.q (t0 := 0) hI1 Sm2.rf hT0 hT10 hCB hCP h9 h13 hB hk hWP, hF1⟩
      · refine v_iconst (v := nI 1) F dX5_box_42 (by decide) ?_
        refine v_goto F 47 dX5_box_43 (by decide) ?_
        first | refine V.toI (show nI 1 = bI true from rfl) ?_ | refine V.toI (show nI 0 = bI false from rfl) ?_
        refine v_callV F 3 [_, _, _] rfl rfl rfl (c_X5_goes hI hWf) gX5_box_X5_goes rfl hd_X5_goes ⟨⟨rfl, rfl⟩, ⟨(Nat.le_of_ble_eq_true rfl), (Nat.le_of_ble_eq_true rfl)⟩, ⟨(Nat.le_of_ble_eq_true rfl), (Nat.le_of_ble_eq_true rfl)⟩, (Nat.le_of_ble_eq_true rfl)⟩ hI.x rfl dX5_box_47 (fun v47 M47 q47 => ?_)
        obtain ⟨rfl, hI1, hF1⟩ := q47
        refine v_if_ne_b F 55 dX5_box_50 (by decide) (fun c50 => ?_) (fun c50 => ?_)
        · exact absurd c50 (by simp)
        · refine v_iconst (v := nI 0) F dX5_box_53 (by decide) ?_
          exact v_iret F hr dX5_box_54 (Nat.le_of_ble_eq_true rfl) (Nat.le_of_ble_eq_true rfl) ⟨rfl, MS.q (t0 := 0) hI1 Sm2.rf hT0 hT10 hCB hCP h9 h13 hB hk hWP, hF1⟩
    · exact absurd c25 (by decide)
set_option maxHeartbeats 4000000 in
set_option maxRecDepth 100000 in
theorem c_Mbox_x3 {l : Launch} {ω : Om} {M : MM} {Y : Nat → Nat} {B P : FF} {n k t : Nat} (hS : MS ω Y B P n k t M) {W : Nat → Prop} (hWf : ∀ f, W (Y f)) {p x y w h kd : Int32} (hy : p < 0 ∨ nI 5 ≤ p) (hk2 : ¬ kd < nI 0 ∧ ¬ nI 6 < kd) (hb : inPm x y w h) : Ct l ω yX5_box wsX5_box rmX5_box [.ref (Y 0), .int p, .int x, .int y, .int w, .int h, .int kd] M (fun v M9 => v = some (.int (nI 0)) ∧ MS ω Y B P n k 1 M9 ∧ Fr W M M9) 0 0 := by
  refine Ct.ofV (cc := cX5_box) (maxL := 8) (ret := (some .int)) [some (.ref (Y 0)), some (.int p), some (.int x), some (.int y), some (.int w), some (.int h), some (.int kd), none] (by decide) rfl (Nat.le_of_ble_eq_true rfl) rfl (Lc.av (av := [.ref (Y 0), .int p, .int x, .int y, .int w, .int h, .int kd]) (k := 1) rfl) ?_
  intro σ F hl hr hname
  have F : Fx ω σ cX5_box 8 wsX5_box RX5 rmX5_box := F
  obtain ⟨C, T, hI, hT0, hT10, hT20, hCB, hCP, h9, h13, hB, hk, hWP⟩ := hS
  have hn : n ≤ 24 := hB.1
  have hW : ∀ i j, B i j < 128 := hB.2.1
  refine v_aload_n F dX5_box_0 rfl rfl ?_
  refine v_iload_n F dX5_box_1 rfl ?_
  refine v_callS F 1 [_] rfl rfl rfl (c_isPage_f hy) gX5_box_X5_isPage rfl hd_X5_isPage ⟨⟨rfl, rfl⟩, ⟨(Nat.le_of_ble_eq_true rfl), (Nat.le_of_ble_eq_true rfl)⟩, ⟨(Nat.le_of_ble_eq_true rfl), (Nat.le_of_ble_eq_true rfl)⟩, (Nat.le_of_ble_eq_true rfl)⟩ dX5_box_2 (fun v2 M2 q2 => ?_)
  obtain ⟨rfl, e2⟩ := q2
  replace e2 := e2.symm
  subst e2
  refine v_iload F dX5_box_5 rfl ?_
  refine v_iconst (v := nI 0) F dX5_box_7 (by decide) ?_
  refine v_bipush (v := nI 6) F dX5_box_8 (by decide) ?_
  refine v_callS F 3 [_, _, _] rfl rfl rfl (c_in_t (y := kd) (a := nI 0) (b := nI 6) hk2.1 hk2.2) gX5_box_X5_in rfl hd_X5_in ⟨⟨rfl, rfl⟩, ⟨(Nat.le_of_ble_eq_true rfl), (Nat.le_of_ble_eq_true rfl)⟩, ⟨(Nat.le_of_ble_eq_true rfl), (Nat.le_of_ble_eq_true rfl)⟩, (Nat.le_of_ble_eq_true rfl)⟩ dX5_box_10 (fun v10 M10 q10 => ?_)
  obtain ⟨rfl, e10⟩ := q10
  replace e10 := e10.symm
  subst e10
  refine v_if_eq_b F 32 dX5_box_13 (by decide) (fun c13 => ?_) (fun c13 => ?_)
  · exact absurd c13 (by decide)
  · refine v_iload_n F dX5_box_16 rfl ?_
    refine v_iload_n F dX5_box_17 rfl ?_
    refine v_iload F dX5_box_18 rfl ?_
    refine v_iload F dX5_box_20 rfl ?_
    refine v_callS F 4 [_, _, _, _] rfl rfl rfl (c_isWithin_t hb) gX5_box_X5_isWithin rfl hd_X5_isWithin ⟨⟨rfl, rfl⟩, ⟨(Nat.le_of_ble_eq_true rfl), (Nat.le_of_ble_eq_true rfl)⟩, ⟨(Nat.le_of_ble_eq_true rfl), (Nat.le_of_ble_eq_true rfl)⟩, (Nat.le_of_ble_eq_true rfl)⟩ dX5_box_22 (fun v22 M22 q22 => ?_)
    obtain ⟨rfl, e22⟩ := q22
    replace e22 := e22.symm
    subst e22
    refine v_if_eq_b F 32 dX5_box_25 (by decide) (fun c25 => ?_) (fun c25 => ?_)
    · exact absurd c25 (by decide)
    · refine v_iconst (v := nI 1) F dX5_box_28 (by decide) ?_
      refine v_goto F 33 dX5_box_29 (by decide) ?_
      first | refine V.toI (show nI 1 = bI true from rfl) ?_ | refine V.toI (show nI 0 = bI false from rfl) ?_
      refine v_aload_n F dX5_box_33 rfl rfl ?_
      refine v_get F 5 0 fo_X5_box_64 dX5_box_34 hI.x rfl ?_
      refine V.toI (show nI (T 0) = nI n by rw [hT0]) ?_
      refine v_bipush (v := nI 24) F dX5_box_37 (by decide) ?_
      refine v_icmp_ge_n F 46 dX5_box_39 (by decide) (by first | omega | exact Nat.lt_trans (hW _ _) (by decide)) (by first | omega | exact Nat.lt_trans (hW _ _) (by decide)) (fun c39 => ?_) (fun c39 => ?_)
      · refine v_iconst (v := nI 0) F dX5_box_46 (by decide) ?_
        first | refine V.toI (show nI 1 = bI true from rfl) ?_ | refine V.toI (show nI 0 = bI false from rfl) ?_
        refine v_callV F 3 [_, _, _] rfl rfl rfl (c_X5_goes hI hWf) gX5_box_X5_goes rfl hd_X5_goes ⟨⟨rfl, rfl⟩, ⟨(Nat.le_of_ble_eq_true rfl), (Nat.le_of_ble_eq_true rfl)⟩, ⟨(Nat.le_of_ble_eq_true rfl), (Nat.le_of_ble_eq_true rfl)⟩, (Nat.le_of_ble_eq_true rfl)⟩ hI.x rfl dX5_box_47 (fun v47 M47 q47 => ?_)
        obtain ⟨rfl, hI1, hF1⟩ := q47
        refine v_if_ne_b F 55 dX5_box_50 (by decide) (fun c50 => ?_) (fun c50 => ?_)
        · exact absurd c50 (by simp)
        · refine v_iconst (v := nI 0) F dX5_box_53 (by decide) ?_
          exact v_iret F hr dX5_box_54 (Nat.le_of_ble_eq_true rfl) (Nat.le_of_ble_eq_true rfl) ⟨rfl, MS.q (t0 := 0) hI1 Sm2.rf hT0 hT10 hCB hCP h9 h13 hB hk hWP, hF1⟩
      · refine v_iconst (v := nI 1) F dX5_box_42 (by decide) ?_
        refine v_goto F 47 dX5_box_43 (by decide) ?_
        first | refine V.toI (show nI 1 = bI true from rfl) ?_ | refine V.toI (show nI 0 = bI false from rfl) ?_
        refine v_callV F 3 [_, _, _] rfl rfl rfl (c_X5_goes hI hWf) gX5_box_X5_goes rfl hd_X5_goes ⟨⟨rfl, rfl⟩, ⟨(Nat.le_of_ble_eq_true rfl), (Nat.le_of_ble_eq_true rfl)⟩, ⟨(Nat.le_of_ble_eq_true rfl), (Nat.le_of_ble_eq_true rfl)⟩, (Nat.le_of_ble_eq_true rfl)⟩ hI.x rfl dX5_box_47 (fun v47 M47 q47 => ?_)
        obtain ⟨rfl, hI1, hF1⟩ := q47
        refine v_if_ne_b F 55 dX5_box_50 (by decide) (fun c50 => ?_) (fun c50 => ?_)
        · exact absurd c50 (by simp)
        · refine v_iconst (v := nI 0) F dX5_box_53 (by decide) ?_
          exact v_iret F hr dX5_box_54 (Nat.le_of_ble_eq_true rfl) (Nat.le_of_ble_eq_true rfl) ⟨rfl, MS.q (t0 := 0) hI1 Sm2.rf hT0 hT10 hCB hCP h9 h13 hB hk hWP, hF1⟩
theorem c_Mbox_x {l : Launch} {ω : Om} {M : MM} {Y : Nat → Nat} {B P : FF} {n k t : Nat} (hS : MS ω Y B P n k t M) {W : Nat → Prop} (hWf : ∀ f, W (Y f)) {p x y w h kd : Int32} (hy : p < 0 ∨ nI 5 ≤ p) : Ct l ω yX5_box wsX5_box rmX5_box [.ref (Y 0), .int p, .int x, .int y, .int w, .int h, .int kd] M (fun v M9 => v = some (.int (nI 0)) ∧ MS ω Y B P n k 1 M9 ∧ Fr W M M9) 0 0 := by
  by_cases h1 : kd < nI 0 ∨ nI 6 < kd
  · exact c_Mbox_x1 hS hWf hy h1
  · have h2 : ¬ kd < nI 0 ∧ ¬ nI 6 < kd := ⟨fun h => h1 (Or.inl h), fun h => h1 (Or.inr h)⟩
    by_cases hb : inPm x y w h
    · exact c_Mbox_x3 hS hWf hy h2 hb
    · exact c_Mbox_x2 hS hWf hy h2 hb
