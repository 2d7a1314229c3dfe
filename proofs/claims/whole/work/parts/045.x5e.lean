/-! the reference: its face, first part -/
/-- the reference stands at a state, t thrown last -/
def MS (ω : Om) (Y : Nat → Nat) (B P : FF) (n k t : Nat) (M : MM) : Prop := ∃ C T, MI ω Y C T M ∧ T 0 = n ∧ T 10 = k ∧ T 20 = t ∧ CB C B n ∧ CPP C P k ∧ (∀ q, n ≤ q → C 9 q = 0) ∧ (∀ q, k ≤ q → C 13 q = 0) ∧ WB B n ∧ k ≤ 20 ∧ (∀ i j, P i j < 128)
theorem CPP.sm {C C' : Nat → Nat → Int32} {P : FF} {k : Nat} (h : CPP C P k) (h1 : C' 11 = C 11) (h2 : C' 12 = C 12) (h3 : C' 13 = C 13) : CPP C' P k := fun i hi => by rw [h1, h2, h3]; exact h i hi
/-- a page whose order is found alike -/
def Ok (B : FF) (n p : Nat) : Prop := Fnd B n p ∧ (∀ x, x ∈ ordF B n p → x < n) ∧ ∃ ρ : Nat → Nat, (∀ i, ρ i < 24) ∧ ∀ i y, i < n → B i 7 = y + 1 → ρ y < ρ i
theorem MS.q {ω : Om} {Y : Nat → Nat} {C C9 : Nat → Nat → Int32} {T T9 : Nat → Nat} {B P : FF} {n k t t0 : Nat} {M9 : MM} (hI9 : MI ω Y C9 T9 M9) (hs : Sm2 C C9 (uT T 20 t) T9) (hT0 : T 0 = n) (hT10 : T 10 = k) (hCB : CB C B n) (hCP : CPP C P k) (h9 : ∀ q, n ≤ q → C 9 q = 0) (h13 : ∀ q, k ≤ q → C 13 q = 0) (hB : WB B n) (hk : k ≤ 20) (hWP : ∀ i j, P i j < 128) : MS ω Y B P n k t M9 :=
  ⟨C9, T9, hI9, (hs.2 0 (by decide) (by decide)).trans ((uT_n (by decide)).trans hT0), (hs.2 10 (by decide) (by decide)).trans ((uT_n (by decide)).trans hT10), (hs.2 20 (by decide) (by decide)).trans uT_s, hCB.sm (fun f h1 _ h3 => hs.1 f h1 h3), hCP.sm (hs.1 11 (by decide) (by decide)) (hs.1 12 (by decide) (by decide)) (hs.1 13 (by decide) (by decide)), fun q hq => by rw [hs.1 9 (by decide) (by decide)]; exact h9 q hq, fun q hq => by rw [hs.1 13 (by decide) (by decide)]; exact h13 q hq, hB, hk, hWP⟩
theorem Sm2.rf {C : Nat → Nat → Int32} {T : Nat → Nat} : Sm2 C C T T := ⟨fun _ _ _ => rfl, fun _ _ _ => rfl⟩
theorem CB.up {C : Nat → Nat → Int32} {B : FF} {n j v : Nat} (h : CB C B n) (f b : Nat) (hf : (f = 1 ∧ b = 0) ∨ (f = 2 ∧ b = 1) ∨ (f = 3 ∧ b = 2) ∨ (f = 4 ∧ b = 3) ∨ (f = 5 ∧ b = 4) ∨ (f = 6 ∧ b = 5) ∨ (f = 9 ∧ b = 8)) : CB (uC C f (upd (C f) j (nI v))) (u2 B j b v) n := by
  intro i hi
  obtain ⟨a1, a2, a3, a4, a5, a6, a7, a8, a9⟩ := h i hi
  rcases hf with ⟨rfl, rfl⟩ | ⟨rfl, rfl⟩ | ⟨rfl, rfl⟩ | ⟨rfl, rfl⟩ | ⟨rfl, rfl⟩ | ⟨rfl, rfl⟩ | ⟨rfl, rfl⟩ <;> (by_cases hij : i = j <;> simp [uC, upd, u2, hij] <;> simp_all)
theorem CB.up7 {C : Nat → Nat → Int32} {B : FF} {n j v : Nat} (h : CB C B n) (f b : Nat) (hf : (f = 7 ∧ b = 6) ∨ (f = 8 ∧ b = 7)) {w : Int32} (hw : w = oI v) : CB (uC C f (upd (C f) j w)) (u2 B j b v) n := by
  subst hw
  intro i hi
  obtain ⟨a1, a2, a3, a4, a5, a6, a7, a8, a9⟩ := h i hi
  rcases hf with ⟨rfl, rfl⟩ | ⟨rfl, rfl⟩ <;> (by_cases hij : i = j <;> simp [uC, upd, u2, hij] <;> simp_all)
theorem inPm_nat {x y w h : Nat} (h1 : 1 ≤ w) (h2 : 1 ≤ h) (h3 : x + w ≤ 60) (h4 : y + h ≤ 80) : inPm (nI x) (nI y) (nI w) (nI h) := by
  refine ⟨?_, ?_, nI_nlt (by omega) (by omega), nI_nlt (by omega) (by omega), ?_, ?_⟩
  · show ¬ nI x < nI 0
    exact nI_nlt (by omega) (by omega)
  · show ¬ nI y < nI 0
    exact nI_nlt (by omega) (by omega)
  · rw [pk_sub (by omega)]
    exact nI_nlt (by omega) (by omega)
  · rw [pk_sub (by omega)]
    exact nI_nlt (by omega) (by omega)
def rmX5_boxes : Room := { frames := 4, cells := 0, slots := 0, locals := 97 }
theorem hd_X5_boxes : yX5_boxes.cls = (RX5, TX5, 21).1 ∧ yX5_boxes.cls ≠ "java/lang/invoke/MethodHandle" ∧ yX5_boxes.cls ≠ "java/lang/invoke/VarHandle" ∧ (parseMethodDescriptor yX5_boxes.desc).map (fun d => d.parameters.length) = some 1 := by decide +kernel
theorem fo_X5_boxes_82 : FO wsX5_boxes RX5 82 5 14 := ⟨_, _, _, rfl, by decide, by decide +kernel, by decide +kernel⟩
set_option maxHeartbeats 4000000 in
set_option maxRecDepth 100000 in
theorem c_Mboxes {l : Launch} {ω : Om} {M : MM} {Y : Nat → Nat} {B P : FF} {n k t : Nat} (hS : MS ω Y B P n k t M) {W : Nat → Prop} (hWf : ∀ f, W (Y f)) {p : Nat} (hp : p < 5) (hK : Ok B n p) : Ct l ω yX5_boxes wsX5_boxes rmX5_boxes [.ref (Y 0), .int (nI p)] M (fun v M9 => v = some (.int (nI (ordF B n p).length)) ∧ MS ω Y B P n k 0 M9 ∧ Fr W M M9) 0 0 := by
  refine Ct.ofV (cc := cX5_boxes) (maxL := 2) (ret := (some .int)) [some (.ref (Y 0)), some (.int (nI p))] (by decide) rfl (Nat.le_of_ble_eq_true rfl) rfl (Lc.av (av := [.ref (Y 0), .int (nI p)]) (k := 0) rfl) ?_
  intro σ F hl hr hname
  have F : Fx ω σ cX5_boxes 2 wsX5_boxes RX5 rmX5_boxes := F
  obtain ⟨C, T, hI, hT0, hT10, hT20, hCB, hCP, h9, h13, hB, hk, hWP⟩ := hS
  have hn : n ≤ 24 := hB.1
  have hW : ∀ i j, B i j < 128 := hB.2.1
  obtain ⟨hFn, hox, ρ, hρ0, hρ⟩ := id hK
  have hoB : ∀ x, x ∈ ordF B n p → x < 128 := fun x hx => by have := hox x hx; omega
  refine v_aload_n F dX5_boxes_0 rfl rfl ?_
  refine v_iload_n F dX5_boxes_1 rfl ?_
  refine v_callS F 1 [_] rfl rfl rfl (c_isPage_t hp) gX5_boxes_X5_isPage rfl hd_X5_isPage ⟨⟨rfl, rfl⟩, ⟨(Nat.le_of_ble_eq_true rfl), (Nat.le_of_ble_eq_true rfl)⟩, ⟨(Nat.le_of_ble_eq_true rfl), (Nat.le_of_ble_eq_true rfl)⟩, (Nat.le_of_ble_eq_true rfl)⟩ dX5_boxes_2 (fun v2 M2 q2 => ?_)
  obtain ⟨rfl, e2⟩ := q2
  replace e2 := e2.symm
  subst e2
  refine v_iconst (v := nI 1) F dX5_boxes_5 (by decide) ?_
  refine V.toI (show nI 1 = bI true from rfl) ?_
  refine v_iconst (v := nI 1) F dX5_boxes_6 (by decide) ?_
  refine V.toI (show nI 1 = bI true from rfl) ?_
  refine v_callV F 3 [_, _, _] rfl rfl rfl (c_X5_goes hI hWf) gX5_boxes_X5_goes rfl hd_X5_goes ⟨⟨rfl, rfl⟩, ⟨(Nat.le_of_ble_eq_true rfl), (Nat.le_of_ble_eq_true rfl)⟩, ⟨(Nat.le_of_ble_eq_true rfl), (Nat.le_of_ble_eq_true rfl)⟩, (Nat.le_of_ble_eq_true rfl)⟩ hI.x rfl dX5_boxes_7 (fun v7 M7 q7 => ?_)
  obtain ⟨rfl, hI1, hF1⟩ := q7
  refine v_if_ne_b F 15 dX5_boxes_10 (by decide) (fun c10 => ?_) (fun c10 => ?_)
  · refine v_aload_n F dX5_boxes_15 rfl rfl ?_
    refine v_iload_n F dX5_boxes_16 rfl ?_
    refine v_callV F 1 [_] rfl rfl rfl (c_finds hI1 ((uT_n (by decide)).trans hT0) hCB hB hWf ρ hρ0 hρ hp hFn) gX5_boxes_X5_finds rfl hd_X5_finds ⟨⟨rfl, rfl⟩, ⟨(Nat.le_of_ble_eq_true rfl), (Nat.le_of_ble_eq_true rfl)⟩, ⟨(Nat.le_of_ble_eq_true rfl), (Nat.le_of_ble_eq_true rfl)⟩, (Nat.le_of_ble_eq_true rfl)⟩ hI1.x rfl dX5_boxes_17 (fun v17 M17 q17 => ?_)
    obtain ⟨rfl, C9, T9, hI9, hF9, hs9, hl9, hp9⟩ := q17
    refine v_aload_n F dX5_boxes_20 rfl rfl ?_
    refine v_get F 5 14 fo_X5_boxes_82 dX5_boxes_21 hI9.x rfl ?_
    refine V.toI (show nI (T9 14) = nI (ordF B n p).length by rw [hl9]) ?_
    exact v_iret F hr dX5_boxes_24 (Nat.le_of_ble_eq_true rfl) (Nat.le_of_ble_eq_true rfl) ⟨rfl, MS.q (t0 := 0) hI9 hs9 hT0 hT10 hCB hCP h9 h13 hB hk hWP, hF1.tr hF9⟩
  · exact absurd c10 (by decide)
set_option maxHeartbeats 4000000 in
set_option maxRecDepth 100000 in
theorem c_Mboxes_x {l : Launch} {ω : Om} {M : MM} {Y : Nat → Nat} {B P : FF} {n k t : Nat} (hS : MS ω Y B P n k t M) {W : Nat → Prop} (hWf : ∀ f, W (Y f)) {y : Int32} (hy : y < 0 ∨ nI 5 ≤ y) : Ct l ω yX5_boxes wsX5_boxes rmX5_boxes [.ref (Y 0), .int y] M (fun v M9 => v = some (.int (nI 0)) ∧ MS ω Y B P n k 1 M9 ∧ Fr W M M9) 0 0 := by
  refine Ct.ofV (cc := cX5_boxes) (maxL := 2) (ret := (some .int)) [some (.ref (Y 0)), some (.int y)] (by decide) rfl (Nat.le_of_ble_eq_true rfl) rfl (Lc.av (av := [.ref (Y 0), .int y]) (k := 0) rfl) ?_
  intro σ F hl hr hname
  have F : Fx ω σ cX5_boxes 2 wsX5_boxes RX5 rmX5_boxes := F
  obtain ⟨C, T, hI, hT0, hT10, hT20, hCB, hCP, h9, h13, hB, hk, hWP⟩ := hS
  have hn : n ≤ 24 := hB.1
  have hW : ∀ i j, B i j < 128 := hB.2.1
  refine v_aload_n F dX5_boxes_0 rfl rfl ?_
  refine v_iload_n F dX5_boxes_1 rfl ?_
  refine v_callS F 1 [_] rfl rfl rfl (c_isPage_f hy) gX5_boxes_X5_isPage rfl hd_X5_isPage ⟨⟨rfl, rfl⟩, ⟨(Nat.le_of_ble_eq_true rfl), (Nat.le_of_ble_eq_true rfl)⟩, ⟨(Nat.le_of_ble_eq_true rfl), (Nat.le_of_ble_eq_true rfl)⟩, (Nat.le_of_ble_eq_true rfl)⟩ dX5_boxes_2 (fun v2 M2 q2 => ?_)
  obtain ⟨rfl, e2⟩ := q2
  replace e2 := e2.symm
  subst e2
  refine v_iconst (v := nI 1) F dX5_boxes_5 (by decide) ?_
  refine V.toI (show nI 1 = bI true from rfl) ?_
  refine v_iconst (v := nI 1) F dX5_boxes_6 (by decide) ?_
  refine V.toI (show nI 1 = bI true from rfl) ?_
  refine v_callV F 3 [_, _, _] rfl rfl rfl (c_X5_goes hI hWf) gX5_boxes_X5_goes rfl hd_X5_goes ⟨⟨rfl, rfl⟩, ⟨(Nat.le_of_ble_eq_true rfl), (Nat.le_of_ble_eq_true rfl)⟩, ⟨(Nat.le_of_ble_eq_true rfl), (Nat.le_of_ble_eq_true rfl)⟩, (Nat.le_of_ble_eq_true rfl)⟩ hI.x rfl dX5_boxes_7 (fun v7 M7 q7 => ?_)
  obtain ⟨rfl, hI1, hF1⟩ := q7
  refine v_if_ne_b F 15 dX5_boxes_10 (by decide) (fun c10 => ?_) (fun c10 => ?_)
  · exact absurd c10 (by decide)
  · refine v_iconst (v := nI 0) F dX5_boxes_13 (by decide) ?_
    exact v_iret F hr dX5_boxes_14 (Nat.le_of_ble_eq_true rfl) (Nat.le_of_ble_eq_true rfl) ⟨rfl, MS.q (t0 := 0) hI1 Sm2.rf hT0 hT10 hCB hCP h9 h13 hB hk hWP, hF1⟩
def rmX5_order : Room := { frames := 4, cells := 0, slots := 0, locals := 97 }
theorem hd_X5_order : yX5_order.cls = (RX5, TX5, 21).1 ∧ yX5_order.cls ≠ "java/lang/invoke/MethodHandle" ∧ yX5_order.cls ≠ "java/lang/invoke/VarHandle" ∧ (parseMethodDescriptor yX5_order.desc).map (fun d => d.parameters.length) = some 2 := by decide +kernel
theorem fo_X5_order_47 : FO wsX5_order RX5 47 5 15 := ⟨_, _, _, rfl, by decide, by decide +kernel, by decide +kernel⟩
theorem fo_X5_order_82 : FO wsX5_order RX5 82 5 14 := ⟨_, _, _, rfl, by decide, by decide +kernel, by decide +kernel⟩
set_option maxHeartbeats 4000000 in
set_option maxRecDepth 100000 in
theorem c_Morder_in {l : Launch} {ω : Om} {M : MM} {Y : Nat → Nat} {B P : FF} {n k t : Nat} (hS : MS ω Y B P n k t M) {W : Nat → Prop} (hWf : ∀ f, W (Y f)) {p j : Nat} (hp : p < 5) (hK : Ok B n p) (hj : j < (ordF B n p).length) : Ct l ω yX5_order wsX5_order rmX5_order [.ref (Y 0), .int (nI p), .int (nI j)] M (fun v M9 => v = some (.int (nI ((ordF B n p).getD j 0))) ∧ MS ω Y B P n k 0 M9 ∧ Fr W M M9) 0 0 := by
  refine Ct.ofV (cc := cX5_order) (maxL := 3) (ret := (some .int)) [some (.ref (Y 0)), some (.int (nI p)), some (.int (nI j))] (by decide) rfl (Nat.le_of_ble_eq_true rfl) rfl (Lc.av (av := [.ref (Y 0), .int (nI p), .int (nI j)]) (k := 0) rfl) ?_
  intro σ F hl hr hname
  have F : Fx ω σ cX5_order 3 wsX5_order RX5 rmX5_order := F
  obtain ⟨C, T, hI, hT0, hT10, hT20, hCB, hCP, h9, h13, hB, hk, hWP⟩ := hS
  have hn : n ≤ 24 := hB.1
  have hW : ∀ i j, B i j < 128 := hB.2.1
  obtain ⟨hFn, hox, ρ, hρ0, hρ⟩ := id hK
  have hoB : ∀ x, x ∈ ordF B n p → x < 128 := fun x hx => by have := hox x hx; omega
  have ho24 := hFn.2.2.2.2
  refine v_aload_n F dX5_order_0 rfl rfl ?_
  refine v_iload_n F dX5_order_1 rfl ?_
  refine v_callS F 1 [_] rfl rfl rfl (c_isPage_t hp) gX5_order_X5_isPage rfl hd_X5_isPage ⟨⟨rfl, rfl⟩, ⟨(Nat.le_of_ble_eq_true rfl), (Nat.le_of_ble_eq_true rfl)⟩, ⟨(Nat.le_of_ble_eq_true rfl), (Nat.le_of_ble_eq_true rfl)⟩, (Nat.le_of_ble_eq_true rfl)⟩ dX5_order_2 (fun v2 M2 q2 => ?_)
  obtain ⟨rfl, e2⟩ := q2
  replace e2 := e2.symm
  subst e2
  refine v_if_eq_b F 16 dX5_order_5 (by decide) (fun c5 => ?_) (fun c5 => ?_)
  · exact absurd c5 (by decide)
  · refine v_iload_n F dX5_order_8 rfl ?_
    refine v_if_lt_n F 16 dX5_order_9 (by decide) (by first | omega | exact Nat.lt_trans (hW _ _) (by decide)) ?_
    refine v_iconst (v := nI 1) F dX5_order_12 (by decide) ?_
    refine v_goto F 17 dX5_order_13 (by decide) ?_
    first | refine V.toI (show nI 1 = bI true from rfl) ?_ | refine V.toI (show nI 0 = bI false from rfl) ?_
    refine v_iconst (v := nI 1) F dX5_order_17 (by decide) ?_
    refine V.toI (show nI 1 = bI true from rfl) ?_
    refine v_iconst (v := nI 1) F dX5_order_18 (by decide) ?_
    refine V.toI (show nI 1 = bI true from rfl) ?_
    refine v_callV F 3 [_, _, _] rfl rfl rfl (c_X5_goes hI hWf) gX5_order_X5_goes rfl hd_X5_goes ⟨⟨rfl, rfl⟩, ⟨(Nat.le_of_ble_eq_true rfl), (Nat.le_of_ble_eq_true rfl)⟩, ⟨(Nat.le_of_ble_eq_true rfl), (Nat.le_of_ble_eq_true rfl)⟩, (Nat.le_of_ble_eq_true rfl)⟩ hI.x rfl dX5_order_19 (fun v19 M19 q19 => ?_)
    obtain ⟨rfl, hI1, hF1⟩ := q19
    refine v_if_ne_b F 27 dX5_order_22 (by decide) (fun c22 => ?_) (fun c22 => ?_)
    · refine v_aload_n F dX5_order_27 rfl rfl ?_
      refine v_iload_n F dX5_order_28 rfl ?_
      refine v_callV F 1 [_] rfl rfl rfl (c_finds hI1 ((uT_n (by decide)).trans hT0) hCB hB hWf ρ hρ0 hρ hp hFn) gX5_order_X5_finds rfl hd_X5_finds ⟨⟨rfl, rfl⟩, ⟨(Nat.le_of_ble_eq_true rfl), (Nat.le_of_ble_eq_true rfl)⟩, ⟨(Nat.le_of_ble_eq_true rfl), (Nat.le_of_ble_eq_true rfl)⟩, (Nat.le_of_ble_eq_true rfl)⟩ hI1.x rfl dX5_order_29 (fun v29 M29 q29 => ?_)
      obtain ⟨rfl, C9, T9, hI9, hF9, hs9, hl9, hp9⟩ := q29
      refine v_iload_n F dX5_order_32 rfl ?_
      refine v_aload_n F dX5_order_33 rfl rfl ?_
      refine v_get F 5 14 fo_X5_order_82 dX5_order_34 hI9.x rfl ?_
      refine V.toI (show nI (T9 14) = nI (ordF B n p).length by rw [hl9]) ?_
      refine v_icmp_ge_n F 49 dX5_order_37 (by decide) (by first | omega | exact Nat.lt_trans (hW _ _) (by decide)) (by first | omega | exact Nat.lt_trans (hW _ _) (by decide)) (fun c37 => ?_) (fun c37 => ?_)
      · exact absurd c37 (by omega)
      · refine v_aload_n F dX5_order_40 rfl rfl ?_
        refine v_get F 5 15 fo_X5_order_47 dX5_order_41 hI9.x rfl ?_
        refine v_iload_n F dX5_order_44 rfl ?_
        refine v_iald_n F dX5_order_45 (hI9.r (f := 15) (sz := 24) (bl := 0) (by simp [isRow]) (by decide) (by decide)) (by first | omega | exact Nat.lt_trans (hW _ _) (by decide)) (by decide) ?_
        refine V.toI (hp9 j hj) ?_
        refine v_goto F 50 dX5_order_46 (by decide) ?_
        exact v_iret F hr dX5_order_50 (Nat.le_of_ble_eq_true rfl) (Nat.le_of_ble_eq_true rfl) ⟨rfl, MS.q (t0 := 0) hI9 hs9 hT0 hT10 hCB hCP h9 h13 hB hk hWP, hF1.tr hF9⟩
    · exact absurd c22 (by decide)
set_option maxHeartbeats 4000000 in
set_option maxRecDepth 100000 in
theorem c_Morder_out {l : Launch} {ω : Om} {M : MM} {Y : Nat → Nat} {B P : FF} {n k t : Nat} (hS : MS ω Y B P n k t M) {W : Nat → Prop} (hWf : ∀ f, W (Y f)) {p : Nat} {y : Int32} (hp : p < 5) (hK : Ok B n p) (hy0 : ¬ y < 0) (hy : nI (ordF B n p).length ≤ y) : Ct l ω yX5_order wsX5_order rmX5_order [.ref (Y 0), .int (nI p), .int y] M (fun v M9 => v = some (.int (-1)) ∧ MS ω Y B P n k 0 M9 ∧ Fr W M M9) 0 0 := by
  refine Ct.ofV (cc := cX5_order) (maxL := 3) (ret := (some .int)) [some (.ref (Y 0)), some (.int (nI p)), some (.int y)] (by decide) rfl (Nat.le_of_ble_eq_true rfl) rfl (Lc.av (av := [.ref (Y 0), .int (nI p), .int y]) (k := 0) rfl) ?_
  intro σ F hl hr hname
  have F : Fx ω σ cX5_order 3 wsX5_order RX5 rmX5_order := F
  obtain ⟨C, T, hI, hT0, hT10, hT20, hCB, hCP, h9, h13, hB, hk, hWP⟩ := hS
  have hn : n ≤ 24 := hB.1
  have hW : ∀ i j, B i j < 128 := hB.2.1
  obtain ⟨hFn, hox, ρ, hρ0, hρ⟩ := id hK
  have hoB : ∀ x, x ∈ ordF B n p → x < 128 := fun x hx => by have := hox x hx; omega
  have ho24 := hFn.2.2.2.2
  refine v_aload_n F dX5_order_0 rfl rfl ?_
  refine v_iload_n F dX5_order_1 rfl ?_
  refine v_callS F 1 [_] rfl rfl rfl (c_isPage_t hp) gX5_order_X5_isPage rfl hd_X5_isPage ⟨⟨rfl, rfl⟩, ⟨(Nat.le_of_ble_eq_true rfl), (Nat.le_of_ble_eq_true rfl)⟩, ⟨(Nat.le_of_ble_eq_true rfl), (Nat.le_of_ble_eq_true rfl)⟩, (Nat.le_of_ble_eq_true rfl)⟩ dX5_order_2 (fun v2 M2 q2 => ?_)
  obtain ⟨rfl, e2⟩ := q2
  replace e2 := e2.symm
  subst e2
  refine v_if_eq_b F 16 dX5_order_5 (by decide) (fun c5 => ?_) (fun c5 => ?_)
  · exact absurd c5 (by decide)
  · refine v_iload_n F dX5_order_8 rfl ?_
    refine v_if_lt F 16 dX5_order_9 (by decide) (fun c9 => ?_) (fun c9 => ?_)
    · exact absurd c9 hy0
    · refine v_iconst (v := nI 1) F dX5_order_12 (by decide) ?_
      refine v_goto F 17 dX5_order_13 (by decide) ?_
      first | refine V.toI (show nI 1 = bI true from rfl) ?_ | refine V.toI (show nI 0 = bI false from rfl) ?_
      refine v_iconst (v := nI 1) F dX5_order_17 (by decide) ?_
      refine V.toI (show nI 1 = bI true from rfl) ?_
      refine v_iconst (v := nI 1) F dX5_order_18 (by decide) ?_
      refine V.toI (show nI 1 = bI true from rfl) ?_
      refine v_callV F 3 [_, _, _] rfl rfl rfl (c_X5_goes hI hWf) gX5_order_X5_goes rfl hd_X5_goes ⟨⟨rfl, rfl⟩, ⟨(Nat.le_of_ble_eq_true rfl), (Nat.le_of_ble_eq_true rfl)⟩, ⟨(Nat.le_of_ble_eq_true rfl), (Nat.le_of_ble_eq_true rfl)⟩, (Nat.le_of_ble_eq_true rfl)⟩ hI.x rfl dX5_order_19 (fun v19 M19 q19 => ?_)
      obtain ⟨rfl, hI1, hF1⟩ := q19
      refine v_if_ne_b F 27 dX5_order_22 (by decide) (fun c22 => ?_) (fun c22 => ?_)
      · refine v_aload_n F dX5_order_27 rfl rfl ?_
        refine v_iload_n F dX5_order_28 rfl ?_
        refine v_callV F 1 [_] rfl rfl rfl (c_finds hI1 ((uT_n (by decide)).trans hT0) hCB hB hWf ρ hρ0 hρ hp hFn) gX5_order_X5_finds rfl hd_X5_finds ⟨⟨rfl, rfl⟩, ⟨(Nat.le_of_ble_eq_true rfl), (Nat.le_of_ble_eq_true rfl)⟩, ⟨(Nat.le_of_ble_eq_true rfl), (Nat.le_of_ble_eq_true rfl)⟩, (Nat.le_of_ble_eq_true rfl)⟩ hI1.x rfl dX5_order_29 (fun v29 M29 q29 => ?_)
        obtain ⟨rfl, C9, T9, hI9, hF9, hs9, hl9, hp9⟩ := q29
        refine v_iload_n F dX5_order_32 rfl ?_
        refine v_aload_n F dX5_order_33 rfl rfl ?_
        refine v_get F 5 14 fo_X5_order_82 dX5_order_34 hI9.x rfl ?_
        refine V.toI (show nI (T9 14) = nI (ordF B n p).length by rw [hl9]) ?_
        refine v_icmp_ge F 49 dX5_order_37 (by decide) (fun c37 => ?_) (fun c37 => ?_)
        · refine v_iconst (v := (-1)) F dX5_order_49 (by decide) ?_
          exact v_iret F hr dX5_order_50 (Nat.le_of_ble_eq_true rfl) (Nat.le_of_ble_eq_true rfl) ⟨rfl, MS.q (t0 := 0) hI9 hs9 hT0 hT10 hCB hCP h9 h13 hB hk hWP, hF1.tr hF9⟩
        · exact absurd hy c37
      · exact absurd c22 (by decide)
set_option maxHeartbeats 4000000 in
set_option maxRecDepth 100000 in
theorem c_Morder_x1 {l : Launch} {ω : Om} {M : MM} {Y : Nat → Nat} {B P : FF} {n k t : Nat} (hS : MS ω Y B P n k t M) {W : Nat → Prop} (hWf : ∀ f, W (Y f)) {y q : Int32} (hy : y < 0 ∨ nI 5 ≤ y) : Ct l ω yX5_order wsX5_order rmX5_order [.ref (Y 0), .int y, .int q] M (fun v M9 => v = some (.int (nI 0)) ∧ MS ω Y B P n k 1 M9 ∧ Fr W M M9) 0 0 := by
  refine Ct.ofV (cc := cX5_order) (maxL := 3) (ret := (some .int)) [some (.ref (Y 0)), some (.int y), some (.int q)] (by decide) rfl (Nat.le_of_ble_eq_true rfl) rfl (Lc.av (av := [.ref (Y 0), .int y, .int q]) (k := 0) rfl) ?_
  intro σ F hl hr hname
  have F : Fx ω σ cX5_order 3 wsX5_order RX5 rmX5_order := F
  obtain ⟨C, T, hI, hT0, hT10, hT20, hCB, hCP, h9, h13, hB, hk, hWP⟩ := hS
  have hn : n ≤ 24 := hB.1
  have hW : ∀ i j, B i j < 128 := hB.2.1
  refine v_aload_n F dX5_order_0 rfl rfl ?_
  refine v_iload_n F dX5_order_1 rfl ?_
  refine v_callS F 1 [_] rfl rfl rfl (c_isPage_f hy) gX5_order_X5_isPage rfl hd_X5_isPage ⟨⟨rfl, rfl⟩, ⟨(Nat.le_of_ble_eq_true rfl), (Nat.le_of_ble_eq_true rfl)⟩, ⟨(Nat.le_of_ble_eq_true rfl), (Nat.le_of_ble_eq_true rfl)⟩, (Nat.le_of_ble_eq_true rfl)⟩ dX5_order_2 (fun v2 M2 q2 => ?_)
  obtain ⟨rfl, e2⟩ := q2
  replace e2 := e2.symm
  subst e2
  refine v_if_eq_b F 16 dX5_order_5 (by decide) (fun c5 => ?_) (fun c5 => ?_)
  · refine v_iconst (v := nI 0) F dX5_order_16 (by decide) ?_
    first | refine V.toI (show nI 1 = bI true from rfl) ?_ | refine V.toI (show nI 0 = bI false from rfl) ?_
    refine v_iconst (v := nI 1) F dX5_order_17 (by decide) ?_
    refine V.toI (show nI 1 = bI true from rfl) ?_
    refine v_iconst (v := nI 1) F dX5_order_18 (by decide) ?_
    refine V.toI (show nI 1 = bI true from rfl) ?_
    refine v_callV F 3 [_, _, _] rfl rfl rfl (c_X5_goes hI hWf) gX5_order_X5_goes rfl hd_X5_goes ⟨⟨rfl, rfl⟩, ⟨(Nat.le_of_ble_eq_true rfl), (Nat.le_of_ble_eq_true rfl)⟩, ⟨(Nat.le_of_ble_eq_true rfl), (Nat.le_of_ble_eq_true rfl)⟩, (Nat.le_of_ble_eq_true rfl)⟩ hI.x rfl dX5_order_19 (fun v19 M19 q19 => ?_)
    obtain ⟨rfl, hI1, hF1⟩ := q19
    refine v_if_ne_b F 27 dX5_order_22 (by decide) (fun c22 => ?_) (fun c22 => ?_)
    · exact absurd c22 (by decide)
    · refine v_iconst (v := nI 0) F dX5_order_25 (by decide) ?_
      exact v_iret F hr dX5_order_26 (Nat.le_of_ble_eq_true rfl) (Nat.le_of_ble_eq_true rfl) ⟨rfl, MS.q (t0 := 0) hI1 Sm2.rf hT0 hT10 hCB hCP h9 h13 hB hk hWP, hF1⟩
  · exact absurd c5 (by decide)
set_option maxHeartbeats 4000000 in
set_option maxRecDepth 100000 in
theorem c_Morder_x2 {l : Launch} {ω : Om} {M : MM} {Y : Nat → Nat} {B P : FF} {n k t : Nat} (hS : MS ω Y B P n k t M) {W : Nat → Prop} (hWf : ∀ f, W (Y f)) {p : Nat} {q : Int32} (hp : p < 5) (hq : q < 0) : Ct l ω yX5_order wsX5_order rmX5_order [.ref (Y 0), .int (nI p), .int q] M (fun v M9 => v = some (.int (nI 0)) ∧ MS ω Y B P n k 1 M9 ∧ Fr W M M9) 0 0 := by
  refine Ct.ofV (cc := cX5_order) (maxL := 3) (ret := (some .int)) [some (.ref (Y 0)), some (.int (nI p)), some (.int q)] (by decide) rfl (Nat.le_of_ble_eq_true rfl) rfl (Lc.av (av := [.ref (Y 0), .int (nI p), .int q]) (k := 0) rfl) ?_
  intro σ F hl hr hname
  have F : Fx ω σ cX5_order 3 wsX5_order RX5 rmX5_order := F
  obtain ⟨C, T, hI, hT0, hT10, hT20, hCB, hCP, h9, h13, hB, hk, hWP⟩ := hS
  have hn : n ≤ 24 := hB.1
  have hW : ∀ i j, B i j < 128 := hB.2.1
  refine v_aload_n F dX5_order_0 rfl rfl ?_
  refine v_iload_n F dX5_order_1 rfl ?_
  refine v_callS F 1 [_] rfl rfl rfl (c_isPage_t hp) gX5_order_X5_isPage rfl hd_X5_isPage ⟨⟨rfl, rfl⟩, ⟨(Nat.le_of_ble_eq_true rfl), (Nat.le_of_ble_eq_true rfl)⟩, ⟨(Nat.le_of_ble_eq_true rfl), (Nat.le_of_ble_eq_true rfl)⟩, (Nat.le_of_ble_eq_true rfl)⟩ dX5_order_2 (fun v2 M2 q2 => ?_)
  obtain ⟨rfl, e2⟩ := q2
  replace e2 := e2.symm
  subst e2
  refine v_if_eq_b F 16 dX5_order_5 (by decide) (fun c5 => ?_) (fun c5 => ?_)
  · exact absurd c5 (by decide)
  · refine v_iload_n F dX5_order_8 rfl ?_
    refine v_if_lt F 16 dX5_order_9 (by decide) (fun c9 => ?_) (fun c9 => ?_)
    · refine v_iconst (v := nI 0) F dX5_order_16 (by decide) ?_
      first | refine V.toI (show nI 1 = bI true from rfl) ?_ | refine V.toI (show nI 0 = bI false from rfl) ?_
      refine v_iconst (v := nI 1) F dX5_order_17 (by decide) ?_
      refine V.toI (show nI 1 = bI true from rfl) ?_
      refine v_iconst (v := nI 1) F dX5_order_18 (by decide) ?_
      refine V.toI (show nI 1 = bI true from rfl) ?_
      refine v_callV F 3 [_, _, _] rfl rfl rfl (c_X5_goes hI hWf) gX5_order_X5_goes rfl hd_X5_goes ⟨⟨rfl, rfl⟩, ⟨(Nat.le_of_ble_eq_true rfl), (Nat.le_of_ble_eq_true rfl)⟩, ⟨(Nat.le_of_ble_eq_true rfl), (Nat.le_of_ble_eq_true rfl)⟩, (Nat.le_of_ble_eq_true rfl)⟩ hI.x rfl dX5_order_19 (fun v19 M19 q19 => ?_)
      obtain ⟨rfl, hI1, hF1⟩ := q19
      refine v_if_ne_b F 27 dX5_order_22 (by decide) (fun c22 => ?_) (fun c22 => ?_)
      · exact absurd c22 (by decide)
      · refine v_iconst (v := nI 0) F dX5_order_25 (by decide) ?_
        exact v_iret F hr dX5_order_26 (Nat.le_of_ble_eq_true rfl) (Nat.le_of_ble_eq_true rfl) ⟨rfl, MS.q (t0 := 0) hI1 Sm2.rf hT0 hT10 hCB hCP h9 h13 hB hk hWP, hF1⟩
    · exact absurd hq c9
def rmX5_orderAnew : Room := { frames := 5, cells := 0, slots := 0, locals := 119 }
theorem hd_X5_orderAnew : yX5_orderAnew.cls = (RX5, TX5, 21).1 ∧ yX5_orderAnew.cls ≠ "java/lang/invoke/MethodHandle" ∧ yX5_orderAnew.cls ≠ "java/lang/invoke/VarHandle" ∧ (parseMethodDescriptor yX5_orderAnew.desc).map (fun d => d.parameters.length) = some 2 := by decide +kernel
set_option maxHeartbeats 4000000 in
set_option maxRecDepth 100000 in
theorem c_MorderAnew_in {l : Launch} {ω : Om} {M : MM} {Y : Nat → Nat} {B P : FF} {n k t : Nat} (hS : MS ω Y B P n k t M) {W : Nat → Prop} (hWf : ∀ f, W (Y f)) {p j : Nat} (hp : p < 5) (hK : Ok B n p) (hj : j < (ordF B n p).length) : Ct l ω yX5_orderAnew wsX5_orderAnew rmX5_orderAnew [.ref (Y 0), .int (nI p), .int (nI j)] M (fun v M9 => v = some (.int (nI ((ordF B n p).getD j 0))) ∧ MS ω Y B P n k 0 M9 ∧ Fr W M M9) 0 0 := by
  refine Ct.ofV (cc := cX5_orderAnew) (maxL := 3) (ret := (some .int)) [some (.ref (Y 0)), some (.int (nI p)), some (.int (nI j))] (by decide) rfl (Nat.le_of_ble_eq_true rfl) rfl (Lc.av (av := [.ref (Y 0), .int (nI p), .int (nI j)]) (k := 0) rfl) ?_
  intro σ F hl hr hname
  have F : Fx ω σ cX5_orderAnew 3 wsX5_orderAnew RX5 rmX5_orderAnew := F
  obtain ⟨C, T, hI, -⟩ := id hS
  refine v_aload_n F dX5_orderAnew_0 rfl rfl ?_
  refine v_iload_n F dX5_orderAnew_1 rfl ?_
  refine v_iload_n F dX5_orderAnew_2 rfl ?_
  refine v_callV F 2 [_, _] rfl rfl rfl (c_Morder_in hS hWf hp hK hj) gX5_orderAnew_X5_order rfl hd_X5_order ⟨⟨rfl, rfl⟩, ⟨(Nat.le_of_ble_eq_true rfl), (Nat.le_of_ble_eq_true rfl)⟩, ⟨(Nat.le_of_ble_eq_true rfl), (Nat.le_of_ble_eq_true rfl)⟩, (Nat.le_of_ble_eq_true rfl)⟩ hI.x rfl dX5_orderAnew_3 (fun v3 M3 q3 => ?_)
  obtain ⟨rfl, hS3, hF3⟩ := q3
  exact v_iret F hr dX5_orderAnew_6 (Nat.le_of_ble_eq_true rfl) (Nat.le_of_ble_eq_true rfl) ⟨rfl, hS3, hF3⟩
set_option maxHeartbeats 4000000 in
set_option maxRecDepth 100000 in
theorem c_MorderAnew_out {l : Launch} {ω : Om} {M : MM} {Y : Nat → Nat} {B P : FF} {n k t : Nat} (hS : MS ω Y B P n k t M) {W : Nat → Prop} (hWf : ∀ f, W (Y f)) {p : Nat} {y : Int32} (hp : p < 5) (hK : Ok B n p) (hy0 : ¬ y < 0) (hy : nI (ordF B n p).length ≤ y) : Ct l ω yX5_orderAnew wsX5_orderAnew rmX5_orderAnew [.ref (Y 0), .int (nI p), .int y] M (fun v M9 => v = some (.int (-1)) ∧ MS ω Y B P n k 0 M9 ∧ Fr W M M9) 0 0 := by
  refine Ct.ofV (cc := cX5_orderAnew) (maxL := 3) (ret := (some .int)) [some (.ref (Y 0)), some (.int (nI p)), some (.int y)] (by decide) rfl (Nat.le_of_ble_eq_true rfl) rfl (Lc.av (av := [.ref (Y 0), .int (nI p), .int y]) (k := 0) rfl) ?_
  intro σ F hl hr hname
  have F : Fx ω σ cX5_orderAnew 3 wsX5_orderAnew RX5 rmX5_orderAnew := F
  obtain ⟨C, T, hI, -⟩ := id hS
  refine v_aload_n F dX5_orderAnew_0 rfl rfl ?_
  refine v_iload_n F dX5_orderAnew_1 rfl ?_
  refine v_iload_n F dX5_orderAnew_2 rfl ?_
  refine v_callV F 2 [_, _] rfl rfl rfl (c_Morder_out hS hWf hp hK hy0 hy) gX5_orderAnew_X5_order rfl hd_X5_order ⟨⟨rfl, rfl⟩, ⟨(Nat.le_of_ble_eq_true rfl), (Nat.le_of_ble_eq_true rfl)⟩, ⟨(Nat.le_of_ble_eq_true rfl), (Nat.le_of_ble_eq_true rfl)⟩, (Nat.le_of_ble_eq_true rfl)⟩ hI.x rfl dX5_orderAnew_3 (fun v3 M3 q3 => ?_)
  obtain ⟨rfl, hS3, hF3⟩ := q3
  exact v_iret F hr dX5_orderAnew_6 (Nat.le_of_ble_eq_true rfl) (Nat.le_of_ble_eq_true rfl) ⟨rfl, hS3, hF3⟩
set_option maxHeartbeats 4000000 in
set_option maxRecDepth 100000 in
theorem c_MorderAnew_x1 {l : Launch} {ω : Om} {M : MM} {Y : Nat → Nat} {B P : FF} {n k t : Nat} (hS : MS ω Y B P n k t M) {W : Nat → Prop} (hWf : ∀ f, W (Y f)) {y q : Int32} (hy : y < 0 ∨ nI 5 ≤ y) : Ct l ω yX5_orderAnew wsX5_orderAnew rmX5_orderAnew [.ref (Y 0), .int y, .int q] M (fun v M9 => v = some (.int (nI 0)) ∧ MS ω Y B P n k 1 M9 ∧ Fr W M M9) 0 0 := by
  refine Ct.ofV (cc := cX5_orderAnew) (maxL := 3) (ret := (some .int)) [some (.ref (Y 0)), some (.int y), some (.int q)] (by decide) rfl (Nat.le_of_ble_eq_true rfl) rfl (Lc.av (av := [.ref (Y 0), .int y, .int q]) (k := 0) rfl) ?_
  intro σ F hl hr hname
  have F : Fx ω σ cX5_orderAnew 3 wsX5_orderAnew RX5 rmX5_orderAnew := F
  obtain ⟨C, T, hI, -⟩ := id hS
  refine v_aload_n F dX5_orderAnew_0 rfl rfl ?_
  refine v_iload_n F dX5_orderAnew_1 rfl ?_
  refine v_iload_n F dX5_orderAnew_2 rfl ?_
  refine v_callV F 2 [_, _] rfl rfl rfl (c_Morder_x1 hS hWf hy) gX5_orderAnew_X5_order rfl hd_X5_order ⟨⟨rfl, rfl⟩, ⟨(Nat.le_of_ble_eq_true rfl), (Nat.le_of_ble_eq_true rfl)⟩, ⟨(Nat.le_of_ble_eq_true rfl), (Nat.le_of_ble_eq_true rfl)⟩, (Nat.le_of_ble_eq_true rfl)⟩ hI.x rfl dX5_orderAnew_3 (fun v3 M3 q3 => ?_)
  obtain ⟨rfl, hS3, hF3⟩ := q3
  exact v_iret F hr dX5_orderAnew_6 (Nat.le_of_ble_eq_true rfl) (Nat.le_of_ble_eq_true rfl) ⟨rfl, hS3, hF3⟩
set_option maxHeartbeats 4000000 in
set_option maxRecDepth 100000 in
theorem c_MorderAnew_x2 {l : Launch} {ω : Om} {M : MM} {Y : Nat → Nat} {B P : FF} {n k t : Nat} (hS : MS ω Y B P n k t M) {W : Nat → Prop} (hWf : ∀ f, W (Y f)) {p : Nat} {q : Int32} (hp : p < 5) (hq : q < 0) : Ct l ω yX5_orderAnew wsX5_orderAnew rmX5_orderAnew [.ref (Y 0), .int (nI p), .int q] M (fun v M9 => v = some (.int (nI 0)) ∧ MS ω Y B P n k 1 M9 ∧ Fr W M M9) 0 0 := by
  refine Ct.ofV (cc := cX5_orderAnew) (maxL := 3) (ret := (some .int)) [some (.ref (Y 0)), some (.int (nI p)), some (.int q)] (by decide) rfl (Nat.le_of_ble_eq_true rfl) rfl (Lc.av (av := [.ref (Y 0), .int (nI p), .int q]) (k := 0) rfl) ?_
  intro σ F hl hr hname
  have F : Fx ω σ cX5_orderAnew 3 wsX5_orderAnew RX5 rmX5_orderAnew := F
  obtain ⟨C, T, hI, -⟩ := id hS
  refine v_aload_n F dX5_orderAnew_0 rfl rfl ?_
  refine v_iload_n F dX5_orderAnew_1 rfl ?_
  refine v_iload_n F dX5_orderAnew_2 rfl ?_
  refine v_callV F 2 [_, _] rfl rfl rfl (c_Morder_x2 hS hWf hp hq) gX5_orderAnew_X5_order rfl hd_X5_order ⟨⟨rfl, rfl⟩, ⟨(Nat.le_of_ble_eq_true rfl), (Nat.le_of_ble_eq_true rfl)⟩, ⟨(Nat.le_of_ble_eq_true rfl), (Nat.le_of_ble_eq_true rfl)⟩, (Nat.le_of_ble_eq_true rfl)⟩ hI.x rfl dX5_orderAnew_3 (fun v3 M3 q3 => ?_)
  obtain ⟨rfl, hS3, hF3⟩ := q3
  exact v_iret F hr dX5_orderAnew_6 (Nat.le_of_ble_eq_true rfl) (Nat.le_of_ble_eq_true rfl) ⟨rfl, hS3, hF3⟩
def rmX5_move : Room := { frames := 6, cells := 0, slots := 0, locals := 143 }
theorem hd_X5_move : yX5_move.cls = (RX5, TX5, 21).1 ∧ yX5_move.cls ≠ "java/lang/invoke/MethodHandle" ∧ yX5_move.cls ≠ "java/lang/invoke/VarHandle" ∧ (parseMethodDescriptor yX5_move.desc).map (fun d => d.parameters.length) = some 3 := by decide +kernel
theorem fo_X5_move_7 : FO wsX5_move RX5 7 5 1 := ⟨_, _, _, rfl, by decide, by decide +kernel, by decide +kernel⟩
theorem fo_X5_move_13 : FO wsX5_move RX5 13 5 2 := ⟨_, _, _, rfl, by decide, by decide +kernel, by decide +kernel⟩
theorem fo_X5_move_16 : FO wsX5_move RX5 16 5 3 := ⟨_, _, _, rfl, by decide, by decide +kernel, by decide +kernel⟩
theorem fo_X5_move_19 : FO wsX5_move RX5 19 5 4 := ⟨_, _, _, rfl, by decide, by decide +kernel, by decide +kernel⟩
theorem fo_X5_move_22 : FO wsX5_move RX5 22 5 5 := ⟨_, _, _, rfl, by decide, by decide +kernel, by decide +kernel⟩
set_option maxHeartbeats 4000000 in
set_option maxRecDepth 100000 in
theorem c_Mmove {l : Launch} {ω : Om} {M : MM} {Y : Nat → Nat} {B P : FF} {n k t : Nat} (hS : MS ω Y B P n k t M) {W : Nat → Prop} (hWf : ∀ f, W (Y f)) {j : Nat} (hj : j < n) (hg : B j 8 = 0) (hp : B j 0 < 5) {x y : Nat} (h1 : 1 ≤ B j 3) (h2 : 1 ≤ B j 4) (h3 : x + B j 3 ≤ 60) (h4 : y + B j 4 ≤ 80) (hB2 : WB (mvB B j x y) n) (hK : Ok B n (B j 0)) (hK2 : Ok (mvB B j x y) n (B j 0)) : Ct l ω yX5_move wsX5_move rmX5_move [.ref (Y 0), .int (nI j), .int (nI x), .int (nI y)] M (fun v M9 => ∃ P9 c9, v = some (.int (nI c9)) ∧ MS ω Y (mvB B j x y) P9 n k 0 M9 ∧ Fr W M M9 ∧ Fall P (B j 0) k (ordF (mvB B j x y) n (B j 0) = ordF B n (B j 0)) c9 P9) 0 0 := by
  refine Ct.ofV (cc := cX5_move) (maxL := 5) (ret := (some .int)) [some (.ref (Y 0)), some (.int (nI j)), some (.int (nI x)), some (.int (nI y)), none] (by decide) rfl (Nat.le_of_ble_eq_true rfl) rfl (Lc.av (av := [.ref (Y 0), .int (nI j), .int (nI x), .int (nI y)]) (k := 1) rfl) ?_
  intro σ F hl hr hname
  have F : Fx ω σ cX5_move 5 wsX5_move RX5 rmX5_move := F
  obtain ⟨C, T, hI, hT0, hT10, hT20, hCB, hCP, h9, h13, hB, hk, hWP⟩ := hS
  have hn : n ≤ 24 := hB.1
  have hW : ∀ i j, B i j < 128 := hB.2.1
  obtain ⟨hFn, hox, ρ, hρ0, hρ⟩ := id hK
  have hoB : ∀ x, x ∈ ordF B n (B j 0) → x < 128 := fun x hx => by have := hox x hx; omega
  obtain ⟨hFn2, hox2, ρ2, hρ20, hρ2⟩ := id hK2
  have hoB2 : ∀ x9, x9 ∈ ordF (mvB B j x y) n (B j 0) → x9 < 128 := fun x9 hx => by have := hox2 x9 hx; omega
  refine v_aload_n F dX5_move_0 rfl rfl ?_
  refine v_iload_n F dX5_move_1 rfl ?_
  refine v_callV F 1 [_] rfl rfl rfl (c_isBox_in hI hT0 hCB hB hj) gX5_move_X5_isBox rfl hd_X5_isBox ⟨⟨rfl, rfl⟩, ⟨(Nat.le_of_ble_eq_true rfl), (Nat.le_of_ble_eq_true rfl)⟩, ⟨(Nat.le_of_ble_eq_true rfl), (Nat.le_of_ble_eq_true rfl)⟩, (Nat.le_of_ble_eq_true rfl)⟩ hI.x rfl dX5_move_2 (fun v2 M2 q2 => ?_)
  obtain ⟨rfl, e2⟩ := q2
  replace e2 := e2.symm
  subst e2
  refine v_istore F dX5_move_5 (Nat.le_of_ble_eq_true rfl) (ok2_d rfl) ?_
  refine v_aload_n F dX5_move_7 rfl rfl ?_
  refine v_iload F dX5_move_8 rfl ?_
  refine v_iload F dX5_move_10 rfl ?_
  refine v_if_eq_b F 39 dX5_move_12 (by decide) (fun c12 => ?_) (fun c12 => ?_)
  · exact absurd c12 (by simp [hg])
  · refine v_iload_n F dX5_move_15 rfl ?_
    refine v_iload_n F dX5_move_16 rfl ?_
    refine v_aload_n F dX5_move_17 rfl rfl ?_
    refine v_get F 5 4 fo_X5_move_19 dX5_move_18 hI.x rfl ?_
    refine v_iload_n F dX5_move_21 rfl ?_
    refine v_iald_n F dX5_move_22 (hI.r (f := 4) (sz := 24) (bl := 0) (by simp [isRow]) (by decide) (by decide)) (by first | omega | exact Nat.lt_trans (hW _ _) (by decide)) (by decide) ?_
    refine V.toI ((hCB j hj).2.2.2.1) ?_
    refine v_aload_n F dX5_move_23 rfl rfl ?_
    refine v_get F 5 5 fo_X5_move_22 dX5_move_24 hI.x rfl ?_
    refine v_iload_n F dX5_move_27 rfl ?_
    refine v_iald_n F dX5_move_28 (hI.r (f := 5) (sz := 24) (bl := 0) (by simp [isRow]) (by decide) (by decide)) (by first | omega | exact Nat.lt_trans (hW _ _) (by decide)) (by decide) ?_
    refine V.toI ((hCB j hj).2.2.2.2.1) ?_
    refine v_callS F 4 [_, _, _, _] rfl rfl rfl (c_isWithin_t (inPm_nat h1 h2 h3 h4)) gX5_move_X5_isWithin rfl hd_X5_isWithin ⟨⟨rfl, rfl⟩, ⟨(Nat.le_of_ble_eq_true rfl), (Nat.le_of_ble_eq_true rfl)⟩, ⟨(Nat.le_of_ble_eq_true rfl), (Nat.le_of_ble_eq_true rfl)⟩, (Nat.le_of_ble_eq_true rfl)⟩ dX5_move_29 (fun v29 M29 q29 => ?_)
    obtain ⟨rfl, e29⟩ := q29
    replace e29 := e29.symm
    subst e29
    refine v_if_eq_b F 39 dX5_move_32 (by decide) (fun c32 => ?_) (fun c32 => ?_)
    · exact absurd c32 (by decide)
    · refine v_iconst (v := nI 1) F dX5_move_35 (by decide) ?_
      refine v_goto F 40 dX5_move_36 (by decide) ?_
      first | refine V.toI (show nI 1 = bI true from rfl) ?_ | refine V.toI (show nI 0 = bI false from rfl) ?_
      refine v_iconst (v := nI 1) F dX5_move_40 (by decide) ?_
      refine V.toI (show nI 1 = bI true from rfl) ?_
      refine v_callV F 3 [_, _, _] rfl rfl rfl (c_X5_goes hI hWf) gX5_move_X5_goes rfl hd_X5_goes ⟨⟨rfl, rfl⟩, ⟨(Nat.le_of_ble_eq_true rfl), (Nat.le_of_ble_eq_true rfl)⟩, ⟨(Nat.le_of_ble_eq_true rfl), (Nat.le_of_ble_eq_true rfl)⟩, (Nat.le_of_ble_eq_true rfl)⟩ hI.x rfl dX5_move_41 (fun v41 M41 q41 => ?_)
      obtain ⟨rfl, hI1, hF1⟩ := q41
      refine v_if_ne_b F 49 dX5_move_44 (by decide) (fun c44 => ?_) (fun c44 => ?_)
      · refine v_aload_n F dX5_move_49 rfl rfl ?_
        refine v_aload_n F dX5_move_50 rfl rfl ?_
        refine v_get F 5 1 fo_X5_move_7 dX5_move_51 hI1.x rfl ?_
        refine v_iload_n F dX5_move_54 rfl ?_
        refine v_iald_n F dX5_move_55 (hI1.r (f := 1) (sz := 24) (bl := 0) (by simp [isRow]) (by decide) (by decide)) (by first | omega | exact Nat.lt_trans (hW _ _) (by decide)) (by decide) ?_
        refine V.toI ((hCB j hj).1) ?_
        refine v_callV F 1 [_] rfl rfl rfl (c_keeps hI1 ((uT_n (by decide)).trans hT0) hCB hB hWf ρ hρ0 hρ hp hFn) gX5_move_X5_keeps rfl hd_X5_keeps ⟨⟨rfl, rfl⟩, ⟨(Nat.le_of_ble_eq_true rfl), (Nat.le_of_ble_eq_true rfl)⟩, ⟨(Nat.le_of_ble_eq_true rfl), (Nat.le_of_ble_eq_true rfl)⟩, (Nat.le_of_ble_eq_true rfl)⟩ hI1.x rfl dX5_move_56 (fun v56 M56 q56 => ?_)
        obtain ⟨rfl, C1, T1, hI2, hF2, hs2, h16, h17⟩ := q56
        refine v_aload_n F dX5_move_59 rfl rfl ?_
        refine v_get F 5 2 fo_X5_move_13 dX5_move_60 hI2.x rfl ?_
        refine v_iload_n F dX5_move_63 rfl ?_
        refine v_iload_n F dX5_move_64 rfl ?_
        refine v_iast_n F dX5_move_65 (hI2.r (f := 2) (sz := 24) (bl := 0) (by simp [isRow]) (by decide) (by decide)) (by first | omega | exact Nat.lt_trans (hW _ _) (by decide)) (by decide) ?_
        have hI3 := hI2.setC (f := 2) (sz := 24) (bl := 0) (by simp [isRow]) (by decide) (by decide) (upd (C1 2) j (nI x))
        refine v_aload_n F dX5_move_66 rfl rfl ?_
        refine v_get F 5 3 fo_X5_move_16 dX5_move_67 hI3.x rfl ?_
        refine v_iload_n F dX5_move_70 rfl ?_
        refine v_iload_n F dX5_move_71 rfl ?_
        refine v_iast_n F dX5_move_72 (hI3.r (f := 3) (sz := 24) (bl := 0) (by simp [isRow]) (by decide) (by decide)) (by first | omega | exact Nat.lt_trans (hW _ _) (by decide)) (by decide) ?_
        have hI4 := hI3.setC (f := 3) (sz := 24) (bl := 0) (by simp [isRow]) (by decide) (by decide) (upd (uC C1 2 (upd (C1 2) j (nI x)) 3) j (nI y))
        have hCB4 := ((hCB.sm hs2.1).up (j := j) (v := x) 2 1 (by decide)).up (j := j) (v := y) 3 2 (by decide)
        have hCP4 : CPP (uC (uC C1 2 (upd (C1 2) j (nI x))) 3 (upd (uC C1 2 (upd (C1 2) j (nI x)) 3) j (nI y))) P k := hCP.sm (by rw [uC_n (by decide), uC_n (by decide), hs2.1 11 (by decide) (by decide) (by decide)]) (by rw [uC_n (by decide), uC_n (by decide), hs2.1 12 (by decide) (by decide) (by decide)]) (by rw [uC_n (by decide), uC_n (by decide), hs2.1 13 (by decide) (by decide) (by decide)])
        refine v_aload_n F dX5_move_73 rfl rfl ?_
        refine v_aload_n F dX5_move_74 rfl rfl ?_
        refine v_get F 5 1 fo_X5_move_7 dX5_move_75 hI4.x rfl ?_
        refine v_iload_n F dX5_move_78 rfl ?_
        refine v_iald_n F dX5_move_79 (hI4.r (f := 1) (sz := 24) (bl := 0) (by simp [isRow]) (by decide) (by decide)) (by first | omega | exact Nat.lt_trans (hW _ _) (by decide)) (by decide) ?_
        refine V.toI (show _ = nI (B j 0) by rw [uC_n (by decide), uC_n (by decide), hs2.1 1 (by decide) (by decide) (by decide)]; exact (hCB j hj).1) ?_
        refine v_callV F 1 [_] rfl rfl rfl (c_falls hI4 ((hs2.2 0 (by decide) (by decide) (by decide)).trans ((uT_n (by decide)).trans hT0)) hCB4 hB2 hWf ρ2 hρ20 hρ2 ((hs2.2 10 (by decide) (by decide) (by decide)).trans ((uT_n (by decide)).trans hT10)) hCP4 hk hWP hp hFn2 (u := ordF B n (B j 0)) h16 (by rw [uC_n (by decide), uC_n (by decide)]; exact h17) hFn.2.2.2.2 hoB hoB2) gX5_move_X5_falls rfl hd_X5_falls ⟨⟨rfl, rfl⟩, ⟨(Nat.le_of_ble_eq_true rfl), (Nat.le_of_ble_eq_true rfl)⟩, ⟨(Nat.le_of_ble_eq_true rfl), (Nat.le_of_ble_eq_true rfl)⟩, (Nat.le_of_ble_eq_true rfl)⟩ hI4.x rfl dX5_move_80 (fun v80 M80 q80 => ?_)
        obtain ⟨C5, T5, P9, c9, rfl, hI5, hF5, g1, g2, g3, g4, g5⟩ := q80
        exact v_iret F hr dX5_move_83 (Nat.le_of_ble_eq_true rfl) (Nat.le_of_ble_eq_true rfl) ⟨P9, c9, rfl, ⟨C5, T5, hI5, (g2 0 (by decide) (by decide)).trans ((hs2.2 0 (by decide) (by decide) (by decide)).trans ((uT_n (by decide)).trans hT0)), (g2 10 (by decide) (by decide)).trans ((hs2.2 10 (by decide) (by decide) (by decide)).trans ((uT_n (by decide)).trans hT10)), (g2 20 (by decide) (by decide)).trans ((hs2.2 20 (by decide) (by decide) (by decide)).trans (uT_s.trans (by simp [thr, hg]))), hCB4.sm9 (fun f h => g1 f (by omega) (by omega) (by omega)), g3, fun q hq => by rw [g1 9 (by decide) (by decide) (by decide), uC_n (by decide), uC_n (by decide), hs2.1 9 (by decide) (by decide) (by decide)]; exact h9 q hq, fun q hq => by rw [g5 q hq, uC_n (by decide), uC_n (by decide), hs2.1 13 (by decide) (by decide) (by decide)]; exact h13 q hq, hB2, hk, by rcases g4 with ⟨-, -, rfl⟩ | ⟨-, -, rfl⟩; exact hWP; exact lfP_lt hWP _ 20⟩, ((((hF1.tr hF2).up (hWf 2)).up (hWf 3)).tr hF5), g4⟩
      · exact absurd c44 (by simp [hg])
def rmX5_resize : Room := { frames := 6, cells := 0, slots := 0, locals := 143 }
theorem hd_X5_resize : yX5_resize.cls = (RX5, TX5, 21).1 ∧ yX5_resize.cls ≠ "java/lang/invoke/MethodHandle" ∧ yX5_resize.cls ≠ "java/lang/invoke/VarHandle" ∧ (parseMethodDescriptor yX5_resize.desc).map (fun d => d.parameters.length) = some 3 := by decide +kernel
theorem fo_X5_resize_7 : FO wsX5_resize RX5 7 5 1 := ⟨_, _, _, rfl, by decide, by decide +kernel, by decide +kernel⟩
theorem fo_X5_resize_13 : FO wsX5_resize RX5 13 5 2 := ⟨_, _, _, rfl, by decide, by decide +kernel, by decide +kernel⟩
theorem fo_X5_resize_16 : FO wsX5_resize RX5 16 5 3 := ⟨_, _, _, rfl, by decide, by decide +kernel, by decide +kernel⟩
theorem fo_X5_resize_19 : FO wsX5_resize RX5 19 5 4 := ⟨_, _, _, rfl, by decide, by decide +kernel, by decide +kernel⟩
theorem fo_X5_resize_22 : FO wsX5_resize RX5 22 5 5 := ⟨_, _, _, rfl, by decide, by decide +kernel, by decide +kernel⟩
set_option maxHeartbeats 4000000 in
set_option maxRecDepth 100000 in
theorem c_Mresize {l : Launch} {ω : Om} {M : MM} {Y : Nat → Nat} {B P : FF} {n k t : Nat} (hS : MS ω Y B P n k t M) {W : Nat → Prop} (hWf : ∀ f, W (Y f)) {j : Nat} (hj : j < n) (hg : B j 8 = 0) (hp : B j 0 < 5) {x y : Nat} (h1 : 1 ≤ x) (h2 : 1 ≤ y) (h3 : B j 1 + x ≤ 60) (h4 : B j 2 + y ≤ 80) (hB2 : WB (szB B j x y) n) (hK : Ok B n (B j 0)) (hK2 : Ok (szB B j x y) n (B j 0)) : Ct l ω yX5_resize wsX5_resize rmX5_resize [.ref (Y 0), .int (nI j), .int (nI x), .int (nI y)] M (fun v M9 => ∃ P9 c9, v = some (.int (nI c9)) ∧ MS ω Y (szB B j x y) P9 n k 0 M9 ∧ Fr W M M9 ∧ Fall P (B j 0) k (ordF (szB B j x y) n (B j 0) = ordF B n (B j 0)) c9 P9) 0 0 := by
  refine Ct.ofV (cc := cX5_resize) (maxL := 5) (ret := (some .int)) [some (.ref (Y 0)), some (.int (nI j)), some (.int (nI x)), some (.int (nI y)), none] (by decide) rfl (Nat.le_of_ble_eq_true rfl) rfl (Lc.av (av := [.ref (Y 0), .int (nI j), .int (nI x), .int (nI y)]) (k := 1) rfl) ?_
  intro σ F hl hr hname
  have F : Fx ω σ cX5_resize 5 wsX5_resize RX5 rmX5_resize := F
  obtain ⟨C, T, hI, hT0, hT10, hT20, hCB, hCP, h9, h13, hB, hk, hWP⟩ := hS
  have hn : n ≤ 24 := hB.1
  have hW : ∀ i j, B i j < 128 := hB.2.1
  obtain ⟨hFn, hox, ρ, hρ0, hρ⟩ := id hK
  have hoB : ∀ x, x ∈ ordF B n (B j 0) → x < 128 := fun x hx => by have := hox x hx; omega
  obtain ⟨hFn2, hox2, ρ2, hρ20, hρ2⟩ := id hK2
  have hoB2 : ∀ x9, x9 ∈ ordF (szB B j x y) n (B j 0) → x9 < 128 := fun x9 hx => by have := hox2 x9 hx; omega
  refine v_aload_n F dX5_resize_0 rfl rfl ?_
  refine v_iload_n F dX5_resize_1 rfl ?_
  refine v_callV F 1 [_] rfl rfl rfl (c_isBox_in hI hT0 hCB hB hj) gX5_resize_X5_isBox rfl hd_X5_isBox ⟨⟨rfl, rfl⟩, ⟨(Nat.le_of_ble_eq_true rfl), (Nat.le_of_ble_eq_true rfl)⟩, ⟨(Nat.le_of_ble_eq_true rfl), (Nat.le_of_ble_eq_true rfl)⟩, (Nat.le_of_ble_eq_true rfl)⟩ hI.x rfl dX5_resize_2 (fun v2 M2 q2 => ?_)
  obtain ⟨rfl, e2⟩ := q2
  replace e2 := e2.symm
  subst e2
  refine v_istore F dX5_resize_5 (Nat.le_of_ble_eq_true rfl) (ok2_d rfl) ?_
  refine v_aload_n F dX5_resize_7 rfl rfl ?_
  refine v_iload F dX5_resize_8 rfl ?_
  refine v_iload F dX5_resize_10 rfl ?_
  refine v_if_eq_b F 39 dX5_resize_12 (by decide) (fun c12 => ?_) (fun c12 => ?_)
  · exact absurd c12 (by simp [hg])
  · refine v_aload_n F dX5_resize_15 rfl rfl ?_
    refine v_get F 5 2 fo_X5_resize_13 dX5_resize_16 hI.x rfl ?_
    refine v_iload_n F dX5_resize_19 rfl ?_
    refine v_iald_n F dX5_resize_20 (hI.r (f := 2) (sz := 24) (bl := 0) (by simp [isRow]) (by decide) (by decide)) (by first | omega | exact Nat.lt_trans (hW _ _) (by decide)) (by decide) ?_
    refine V.toI ((hCB j hj).2.1) ?_
    refine v_aload_n F dX5_resize_21 rfl rfl ?_
    refine v_get F 5 3 fo_X5_resize_16 dX5_resize_22 hI.x rfl ?_
    refine v_iload_n F dX5_resize_25 rfl ?_
    refine v_iald_n F dX5_resize_26 (hI.r (f := 3) (sz := 24) (bl := 0) (by simp [isRow]) (by decide) (by decide)) (by first | omega | exact Nat.lt_trans (hW _ _) (by decide)) (by decide) ?_
    refine V.toI ((hCB j hj).2.2.1) ?_
    refine v_iload_n F dX5_resize_27 rfl ?_
    refine v_iload_n F dX5_resize_28 rfl ?_
    refine v_callS F 4 [_, _, _, _] rfl rfl rfl (c_isWithin_t (inPm_nat h1 h2 h3 h4)) gX5_resize_X5_isWithin rfl hd_X5_isWithin ⟨⟨rfl, rfl⟩, ⟨(Nat.le_of_ble_eq_true rfl), (Nat.le_of_ble_eq_true rfl)⟩, ⟨(Nat.le_of_ble_eq_true rfl), (Nat.le_of_ble_eq_true rfl)⟩, (Nat.le_of_ble_eq_true rfl)⟩ dX5_resize_29 (fun v29 M29 q29 => ?_)
    obtain ⟨rfl, e29⟩ := q29
    replace e29 := e29.symm
    subst e29
    refine v_if_eq_b F 39 dX5_resize_32 (by decide) (fun c32 => ?_) (fun c32 => ?_)
    · exact absurd c32 (by decide)
    · refine v_iconst (v := nI 1) F dX5_resize_35 (by decide) ?_
      refine v_goto F 40 dX5_resize_36 (by decide) ?_
      first | refine V.toI (show nI 1 = bI true from rfl) ?_ | refine V.toI (show nI 0 = bI false from rfl) ?_
      refine v_iconst (v := nI 1) F dX5_resize_40 (by decide) ?_
      refine V.toI (show nI 1 = bI true from rfl) ?_
      refine v_callV F 3 [_, _, _] rfl rfl rfl (c_X5_goes hI hWf) gX5_resize_X5_goes rfl hd_X5_goes ⟨⟨rfl, rfl⟩, ⟨(Nat.le_of_ble_eq_true rfl), (Nat.le_of_ble_eq_true rfl)⟩, ⟨(Nat.le_of_ble_eq_true rfl), (Nat.le_of_ble_eq_true rfl)⟩, (Nat.le_of_ble_eq_true rfl)⟩ hI.x rfl dX5_resize_41 (fun v41 M41 q41 => ?_)
      obtain ⟨rfl, hI1, hF1⟩ := q41
      refine v_if_ne_b F 49 dX5_resize_44 (by decide) (fun c44 => ?_) (fun c44 => ?_)
      · refine v_aload_n F dX5_resize_49 rfl rfl ?_
        refine v_aload_n F dX5_resize_50 rfl rfl ?_
        refine v_get F 5 1 fo_X5_resize_7 dX5_resize_51 hI1.x rfl ?_
        refine v_iload_n F dX5_resize_54 rfl ?_
        refine v_iald_n F dX5_resize_55 (hI1.r (f := 1) (sz := 24) (bl := 0) (by simp [isRow]) (by decide) (by decide)) (by first | omega | exact Nat.lt_trans (hW _ _) (by decide)) (by decide) ?_
        refine V.toI ((hCB j hj).1) ?_
        refine v_callV F 1 [_] rfl rfl rfl (c_keeps hI1 ((uT_n (by decide)).trans hT0) hCB hB hWf ρ hρ0 hρ hp hFn) gX5_resize_X5_keeps rfl hd_X5_keeps ⟨⟨rfl, rfl⟩, ⟨(Nat.le_of_ble_eq_true rfl), (Nat.le_of_ble_eq_true rfl)⟩, ⟨(Nat.le_of_ble_eq_true rfl), (Nat.le_of_ble_eq_true rfl)⟩, (Nat.le_of_ble_eq_true rfl)⟩ hI1.x rfl dX5_resize_56 (fun v56 M56 q56 => ?_)
        obtain ⟨rfl, C1, T1, hI2, hF2, hs2, h16, h17⟩ := q56
        refine v_aload_n F dX5_resize_59 rfl rfl ?_
        refine v_get F 5 4 fo_X5_resize_19 dX5_resize_60 hI2.x rfl ?_
        refine v_iload_n F dX5_resize_63 rfl ?_
        refine v_iload_n F dX5_resize_64 rfl ?_
        refine v_iast_n F dX5_resize_65 (hI2.r (f := 4) (sz := 24) (bl := 0) (by simp [isRow]) (by decide) (by decide)) (by first | omega | exact Nat.lt_trans (hW _ _) (by decide)) (by decide) ?_
        have hI3 := hI2.setC (f := 4) (sz := 24) (bl := 0) (by simp [isRow]) (by decide) (by decide) (upd (C1 4) j (nI x))
        refine v_aload_n F dX5_resize_66 rfl rfl ?_
        refine v_get F 5 5 fo_X5_resize_22 dX5_resize_67 hI3.x rfl ?_
        refine v_iload_n F dX5_resize_70 rfl ?_
        refine v_iload_n F dX5_resize_71 rfl ?_
        refine v_iast_n F dX5_resize_72 (hI3.r (f := 5) (sz := 24) (bl := 0) (by simp [isRow]) (by decide) (by decide)) (by first | omega | exact Nat.lt_trans (hW _ _) (by decide)) (by decide) ?_
        have hI4 := hI3.setC (f := 5) (sz := 24) (bl := 0) (by simp [isRow]) (by decide) (by decide) (upd (uC C1 4 (upd (C1 4) j (nI x)) 5) j (nI y))
        have hCB4 := ((hCB.sm hs2.1).up (j := j) (v := x) 4 3 (by decide)).up (j := j) (v := y) 5 4 (by decide)
        have hCP4 : CPP (uC (uC C1 4 (upd (C1 4) j (nI x))) 5 (upd (uC C1 4 (upd (C1 4) j (nI x)) 5) j (nI y))) P k := hCP.sm (by rw [uC_n (by decide), uC_n (by decide), hs2.1 11 (by decide) (by decide) (by decide)]) (by rw [uC_n (by decide), uC_n (by decide), hs2.1 12 (by decide) (by decide) (by decide)]) (by rw [uC_n (by decide), uC_n (by decide), hs2.1 13 (by decide) (by decide) (by decide)])
        refine v_aload_n F dX5_resize_73 rfl rfl ?_
        refine v_aload_n F dX5_resize_74 rfl rfl ?_
        refine v_get F 5 1 fo_X5_resize_7 dX5_resize_75 hI4.x rfl ?_
        refine v_iload_n F dX5_resize_78 rfl ?_
        refine v_iald_n F dX5_resize_79 (hI4.r (f := 1) (sz := 24) (bl := 0) (by simp [isRow]) (by decide) (by decide)) (by first | omega | exact Nat.lt_trans (hW _ _) (by decide)) (by decide) ?_
        refine V.toI (show _ = nI (B j 0) by rw [uC_n (by decide), uC_n (by decide), hs2.1 1 (by decide) (by decide) (by decide)]; exact (hCB j hj).1) ?_
        refine v_callV F 1 [_] rfl rfl rfl (c_falls hI4 ((hs2.2 0 (by decide) (by decide) (by decide)).trans ((uT_n (by decide)).trans hT0)) hCB4 hB2 hWf ρ2 hρ20 hρ2 ((hs2.2 10 (by decide) (by decide) (by decide)).trans ((uT_n (by decide)).trans hT10)) hCP4 hk hWP hp hFn2 (u := ordF B n (B j 0)) h16 (by rw [uC_n (by decide), uC_n (by decide)]; exact h17) hFn.2.2.2.2 hoB hoB2) gX5_resize_X5_falls rfl hd_X5_falls ⟨⟨rfl, rfl⟩, ⟨(Nat.le_of_ble_eq_true rfl), (Nat.le_of_ble_eq_true rfl)⟩, ⟨(Nat.le_of_ble_eq_true rfl), (Nat.le_of_ble_eq_true rfl)⟩, (Nat.le_of_ble_eq_true rfl)⟩ hI4.x rfl dX5_resize_80 (fun v80 M80 q80 => ?_)
        obtain ⟨C5, T5, P9, c9, rfl, hI5, hF5, g1, g2, g3, g4, g5⟩ := q80
        exact v_iret F hr dX5_resize_83 (Nat.le_of_ble_eq_true rfl) (Nat.le_of_ble_eq_true rfl) ⟨P9, c9, rfl, ⟨C5, T5, hI5, (g2 0 (by decide) (by decide)).trans ((hs2.2 0 (by decide) (by decide) (by decide)).trans ((uT_n (by decide)).trans hT0)), (g2 10 (by decide) (by decide)).trans ((hs2.2 10 (by decide) (by decide) (by decide)).trans ((uT_n (by decide)).trans hT10)), (g2 20 (by decide) (by decide)).trans ((hs2.2 20 (by decide) (by decide) (by decide)).trans (uT_s.trans (by simp [thr, hg]))), hCB4.sm9 (fun f h => g1 f (by omega) (by omega) (by omega)), g3, fun q hq => by rw [g1 9 (by decide) (by decide) (by decide), uC_n (by decide), uC_n (by decide), hs2.1 9 (by decide) (by decide) (by decide)]; exact h9 q hq, fun q hq => by rw [g5 q hq, uC_n (by decide), uC_n (by decide), hs2.1 13 (by decide) (by decide) (by decide)]; exact h13 q hq, hB2, hk, by rcases g4 with ⟨-, -, rfl⟩ | ⟨-, -, rfl⟩; exact hWP; exact lfP_lt hWP _ 20⟩, ((((hF1.tr hF2).up (hWf 4)).up (hWf 5)).tr hF5), g4⟩
      · exact absurd c44 (by simp [hg])
