/-! the law: its helpers -/
def rmL_box : Room := { frames := 74, cells := 5, slots := 34, locals := 1695 }
theorem hd_L_box : yL_box.cls ≠ "java/lang/invoke/MethodHandle" ∧ yL_box.cls ≠ "java/lang/invoke/VarHandle" ∧ (parseMethodDescriptor yL_box.desc).map (fun d => d.parameters.length) = some 8 := by decide +kernel
set_option maxHeartbeats 4000000 in
set_option maxRecDepth 100000 in
theorem h_box_ok {l : Launch} {ω : Om} {M : MM} {a O : Nat} {fs : List Value} (hx : M a = some (.inr (4, fs))) {p0 p1 p2 p3 p4 p5 : Int32} {g : Nat → Int64} {PQ0 : Option Value → MM → Prop} (hM : Ct l ω yX4_box wsX4_box rmX4_box [.ref a, .int p0, .int p1, .int p2, .int p3, .int p4, .int p5] M PQ0 5 34) (hpq : ∀ v M9, PQ0 v M9 → ∃ x : Int32, v = some (.int x) ∧ M9 O = some (.inl (ω.2.2 2, 1, .inr (.inl g)))) : CtN l ω yL_box wsL_box rmL_box [.ref a, .int p0, .int p1, .int p2, .int p3, .int p4, .int p5, .ref O] M (fun v M9 => ∃ (x : Int32) (M8 : MM) (g8 : Nat → Int64), PQ0 (some (.int x)) M8 ∧ v = some (.int (nI 0)) ∧ g8 0 = x.toInt64 ∧ M9 = mup M8 O (.inl (ω.2.2 2, 1, .inr (.inl g8)))) 5 34 := by
  refine CtN.ofV (cc := cL_box) (maxL := 9) (ret := (some .int)) [some (.ref a), some (.int p0), some (.int p1), some (.int p2), some (.int p3), some (.int p4), some (.int p5), some (.ref O), none] (by decide) rfl (Nat.le_of_ble_eq_true rfl) rfl (Lc.av (av := [.ref a, .int p0, .int p1, .int p2, .int p3, .int p4, .int p5, .ref O]) (k := 1) rfl) ?_
  intro σ F hl hr hname hNc
  have F : Fx ω σ cL_box 9 wsL_box RL rmL_box := F
  subst hl
  refine v_aload F dL_box_0 rfl rfl ?_
  refine v_iconst (v := nI 0) F dL_box_2 (by decide) ?_
  refine v_aload_n F dL_box_3 rfl rfl ?_
  refine v_iload_n F dL_box_4 rfl ?_
  refine v_iload_n F dL_box_5 rfl ?_
  refine v_iload_n F dL_box_6 rfl ?_
  refine v_iload F dL_box_7 rfl ?_
  refine v_iload F dL_box_9 rfl ?_
  refine v_iload F dL_box_11 rfl ?_
  refine v_callV F 6 [_, _, _, _, _, _] rfl rfl rfl (hM) gL_box_X4_box rfl hd_X4_box ⟨⟨rfl, rfl⟩, ⟨(Nat.le_of_ble_eq_true rfl), (Nat.le_of_ble_eq_true rfl)⟩, ⟨(Nat.le_of_ble_eq_true rfl), (Nat.le_of_ble_eq_true rfl)⟩, (Nat.le_of_ble_eq_true rfl)⟩ hx rfl dL_box_13 (fun v13 M13 q13 => ?_)
  obtain ⟨x, rfl, hO⟩ := hpq _ _ q13
  have q132 := q13
  refine v_i2l F dL_box_16 ?_
  refine v_last F dL_box_17 hO (vp_in_nI (by decide) (by decide)) ?_
  refine v_goto F 33 dL_box_18 (by decide) ?_
  refine v_iconst (v := nI 0) F dL_box_33 (by decide) ?_
  exact v_iret F hr dL_box_34 (Nat.le_of_ble_eq_true rfl) (Nat.le_of_ble_eq_true rfl) ⟨x, M13, _, q132, rfl, by first | rfl | (rw [if_pos (by assumption)]; rfl) | (rw [if_neg (by simp [*])]; rfl) | (simp [*]; rfl), rfl⟩
set_option maxHeartbeats 4000000 in
set_option maxRecDepth 100000 in
theorem h_box_x1 {l : Launch} {ω : Om} {M : MM} {a O : Nat} {fs : List Value} (hx : M a = some (.inr (4, fs))) {p0 p1 p2 p3 p4 p5 : Int32} (hM : CtX l ω yX4_box wsX4_box rmX4_box [.ref a, .int p0, .int p1, .int p2, .int p3, .int p4, .int p5] M (fun v M9 => False) (fun E => E = "java/lang/IndexOutOfBoundsException") 5 34) : CtN l ω yL_box wsL_box rmL_box [.ref a, .int p0, .int p1, .int p2, .int p3, .int p4, .int p5, .ref O] M (fun v M9 => v = some (.int (nI 1)) ∧ M9 = M) 5 34 := by
  refine CtN.ofV (cc := cL_box) (maxL := 9) (ret := (some .int)) [some (.ref a), some (.int p0), some (.int p1), some (.int p2), some (.int p3), some (.int p4), some (.int p5), some (.ref O), none] (by decide) rfl (Nat.le_of_ble_eq_true rfl) rfl (Lc.av (av := [.ref a, .int p0, .int p1, .int p2, .int p3, .int p4, .int p5, .ref O]) (k := 1) rfl) ?_
  intro σ F hl hr hname hNc
  have F : Fx ω σ cL_box 9 wsL_box RL rmL_box := F
  subst hl
  refine v_aload F dL_box_0 rfl rfl ?_
  refine v_iconst (v := nI 0) F dL_box_2 (by decide) ?_
  refine v_aload_n F dL_box_3 rfl rfl ?_
  refine v_iload_n F dL_box_4 rfl ?_
  refine v_iload_n F dL_box_5 rfl ?_
  refine v_iload_n F dL_box_6 rfl ?_
  refine v_iload F dL_box_7 rfl ?_
  refine v_iload F dL_box_9 rfl ?_
  refine v_iload F dL_box_11 rfl ?_
  refine v_callVC F 6 [_, _, _, _, _, _] rfl rfl rfl (hM) gL_box_X4_box rfl hd_X4_box ⟨⟨rfl, rfl⟩, ⟨(Nat.le_of_ble_eq_true rfl), (Nat.le_of_ble_eq_true rfl)⟩, ⟨(Nat.le_of_ble_eq_true rfl), (Nat.le_of_ble_eq_true rfl)⟩, (Nat.le_of_ble_eq_true rfl)⟩ hx rfl dL_box_13 (fun E hE => ⟨21, by subst hE; exact CatchOk.c1 F hname (by decide) (by decide) (by decide +kernel) (by decide +kernel), fun q9 => ?_⟩) (fun v9 M9 hq => hq.elim)
  refine v_astore F dL_box_21 rfl (Nat.le_of_ble_eq_true rfl) (ok2_d rfl) ?_
  refine v_iconst (v := nI 1) F dL_box_23 (by decide) ?_
  exact v_iret F hr dL_box_24 (Nat.le_of_ble_eq_true rfl) (Nat.le_of_ble_eq_true rfl) ⟨rfl, rfl⟩
set_option maxHeartbeats 4000000 in
set_option maxRecDepth 100000 in
theorem h_box_x2 {l : Launch} {ω : Om} {M : MM} {a O : Nat} {fs : List Value} (hx : M a = some (.inr (4, fs))) {p0 p1 p2 p3 p4 p5 : Int32} (hM : CtX l ω yX4_box wsX4_box rmX4_box [.ref a, .int p0, .int p1, .int p2, .int p3, .int p4, .int p5] M (fun v M9 => False) (fun E => E = "java/lang/IllegalArgumentException") 5 34) : CtN l ω yL_box wsL_box rmL_box [.ref a, .int p0, .int p1, .int p2, .int p3, .int p4, .int p5, .ref O] M (fun v M9 => v = some (.int (nI 2)) ∧ M9 = M) 5 34 := by
  refine CtN.ofV (cc := cL_box) (maxL := 9) (ret := (some .int)) [some (.ref a), some (.int p0), some (.int p1), some (.int p2), some (.int p3), some (.int p4), some (.int p5), some (.ref O), none] (by decide) rfl (Nat.le_of_ble_eq_true rfl) rfl (Lc.av (av := [.ref a, .int p0, .int p1, .int p2, .int p3, .int p4, .int p5, .ref O]) (k := 1) rfl) ?_
  intro σ F hl hr hname hNc
  have F : Fx ω σ cL_box 9 wsL_box RL rmL_box := F
  subst hl
  refine v_aload F dL_box_0 rfl rfl ?_
  refine v_iconst (v := nI 0) F dL_box_2 (by decide) ?_
  refine v_aload_n F dL_box_3 rfl rfl ?_
  refine v_iload_n F dL_box_4 rfl ?_
  refine v_iload_n F dL_box_5 rfl ?_
  refine v_iload_n F dL_box_6 rfl ?_
  refine v_iload F dL_box_7 rfl ?_
  refine v_iload F dL_box_9 rfl ?_
  refine v_iload F dL_box_11 rfl ?_
  refine v_callVC F 6 [_, _, _, _, _, _] rfl rfl rfl (hM) gL_box_X4_box rfl hd_X4_box ⟨⟨rfl, rfl⟩, ⟨(Nat.le_of_ble_eq_true rfl), (Nat.le_of_ble_eq_true rfl)⟩, ⟨(Nat.le_of_ble_eq_true rfl), (Nat.le_of_ble_eq_true rfl)⟩, (Nat.le_of_ble_eq_true rfl)⟩ hx rfl dL_box_13 (fun E hE => ⟨25, by subst hE; exact CatchOk.c2 (nm := "java/lang/IndexOutOfBoundsException") F hname (by decide) (by decide) (by decide) (by decide +kernel) (by decide +kernel) hNc.1 (by decide +kernel), fun q9 => ?_⟩) (fun v9 M9 hq => hq.elim)
  refine v_astore F dL_box_25 rfl (Nat.le_of_ble_eq_true rfl) (ok2_d rfl) ?_
  refine v_iconst (v := nI 2) F dL_box_27 (by decide) ?_
  exact v_iret F hr dL_box_28 (Nat.le_of_ble_eq_true rfl) (Nat.le_of_ble_eq_true rfl) ⟨rfl, rfl⟩
set_option maxHeartbeats 4000000 in
set_option maxRecDepth 100000 in
theorem h_box_x3 {l : Launch} {ω : Om} {M : MM} {a O : Nat} {fs : List Value} (hx : M a = some (.inr (4, fs))) {p0 p1 p2 p3 p4 p5 : Int32} (hM : CtX l ω yX4_box wsX4_box rmX4_box [.ref a, .int p0, .int p1, .int p2, .int p3, .int p4, .int p5] M (fun v M9 => False) (fun E => E = "java/lang/IllegalStateException") 5 34) : CtN l ω yL_box wsL_box rmL_box [.ref a, .int p0, .int p1, .int p2, .int p3, .int p4, .int p5, .ref O] M (fun v M9 => v = some (.int (nI 3)) ∧ M9 = M) 5 34 := by
  refine CtN.ofV (cc := cL_box) (maxL := 9) (ret := (some .int)) [some (.ref a), some (.int p0), some (.int p1), some (.int p2), some (.int p3), some (.int p4), some (.int p5), some (.ref O), none] (by decide) rfl (Nat.le_of_ble_eq_true rfl) rfl (Lc.av (av := [.ref a, .int p0, .int p1, .int p2, .int p3, .int p4, .int p5, .ref O]) (k := 1) rfl) ?_
  intro σ F hl hr hname hNc
  have F : Fx ω σ cL_box 9 wsL_box RL rmL_box := F
  subst hl
  refine v_aload F dL_box_0 rfl rfl ?_
  refine v_iconst (v := nI 0) F dL_box_2 (by decide) ?_
  refine v_aload_n F dL_box_3 rfl rfl ?_
  refine v_iload_n F dL_box_4 rfl ?_
  refine v_iload_n F dL_box_5 rfl ?_
  refine v_iload_n F dL_box_6 rfl ?_
  refine v_iload F dL_box_7 rfl ?_
  refine v_iload F dL_box_9 rfl ?_
  refine v_iload F dL_box_11 rfl ?_
  refine v_callVC F 6 [_, _, _, _, _, _] rfl rfl rfl (hM) gL_box_X4_box rfl hd_X4_box ⟨⟨rfl, rfl⟩, ⟨(Nat.le_of_ble_eq_true rfl), (Nat.le_of_ble_eq_true rfl)⟩, ⟨(Nat.le_of_ble_eq_true rfl), (Nat.le_of_ble_eq_true rfl)⟩, (Nat.le_of_ble_eq_true rfl)⟩ hx rfl dL_box_13 (fun E hE => ⟨29, by subst hE; exact CatchOk.c3 (nm := "java/lang/IndexOutOfBoundsException") (nm2 := "java/lang/IllegalArgumentException") F hname (by decide) (by decide) (by decide) (by decide) (by decide +kernel) (by decide +kernel) (by decide +kernel) hNc.2.1 hNc.2.2 (by decide +kernel), fun q9 => ?_⟩) (fun v9 M9 hq => hq.elim)
  refine v_astore F dL_box_29 rfl (Nat.le_of_ble_eq_true rfl) (ok2_d rfl) ?_
  refine v_iconst (v := nI 3) F dL_box_31 (by decide) ?_
  exact v_iret F hr dL_box_32 (Nat.le_of_ble_eq_true rfl) (Nat.le_of_ble_eq_true rfl) ⟨rfl, rfl⟩
def rmL_move : Room := { frames := 74, cells := 3, slots := 18, locals := 1692 }
theorem hd_L_move : yL_move.cls ≠ "java/lang/invoke/MethodHandle" ∧ yL_move.cls ≠ "java/lang/invoke/VarHandle" ∧ (parseMethodDescriptor yL_move.desc).map (fun d => d.parameters.length) = some 5 := by decide +kernel
set_option maxHeartbeats 4000000 in
set_option maxRecDepth 100000 in
theorem h_move_ok {l : Launch} {ω : Om} {M : MM} {a O : Nat} {fs : List Value} (hx : M a = some (.inr (4, fs))) {p0 p1 p2 : Int32} {g : Nat → Int64} {PQ0 : Option Value → MM → Prop} (hM : Ct l ω yX4_move wsX4_move rmX4_move [.ref a, .int p0, .int p1, .int p2] M PQ0 3 18) (hpq : ∀ v M9, PQ0 v M9 → ∃ x : Int32, v = some (.int x) ∧ M9 O = some (.inl (ω.2.2 2, 1, .inr (.inl g)))) : CtN l ω yL_move wsL_move rmL_move [.ref a, .int p0, .int p1, .int p2, .ref O] M (fun v M9 => ∃ (x : Int32) (M8 : MM) (g8 : Nat → Int64), PQ0 (some (.int x)) M8 ∧ v = some (.int (nI 0)) ∧ g8 0 = x.toInt64 ∧ M9 = mup M8 O (.inl (ω.2.2 2, 1, .inr (.inl g8)))) 3 18 := by
  refine CtN.ofV (cc := cL_move) (maxL := 6) (ret := (some .int)) [some (.ref a), some (.int p0), some (.int p1), some (.int p2), some (.ref O), none] (by decide) rfl (Nat.le_of_ble_eq_true rfl) rfl (Lc.av (av := [.ref a, .int p0, .int p1, .int p2, .ref O]) (k := 1) rfl) ?_
  intro σ F hl hr hname hNc
  have F : Fx ω σ cL_move 6 wsL_move RL rmL_move := F
  subst hl
  refine v_aload F dL_move_0 rfl rfl ?_
  refine v_iconst (v := nI 0) F dL_move_2 (by decide) ?_
  refine v_aload_n F dL_move_3 rfl rfl ?_
  refine v_iload_n F dL_move_4 rfl ?_
  refine v_iload_n F dL_move_5 rfl ?_
  refine v_iload_n F dL_move_6 rfl ?_
  refine v_callV F 3 [_, _, _] rfl rfl rfl (hM) gL_move_X4_move rfl hd_X4_move ⟨⟨rfl, rfl⟩, ⟨(Nat.le_of_ble_eq_true rfl), (Nat.le_of_ble_eq_true rfl)⟩, ⟨(Nat.le_of_ble_eq_true rfl), (Nat.le_of_ble_eq_true rfl)⟩, (Nat.le_of_ble_eq_true rfl)⟩ hx rfl dL_move_7 (fun v7 M7 q7 => ?_)
  obtain ⟨x, rfl, hO⟩ := hpq _ _ q7
  have q72 := q7
  refine v_i2l F dL_move_10 ?_
  refine v_last F dL_move_11 hO (vp_in_nI (by decide) (by decide)) ?_
  refine v_goto F 23 dL_move_12 (by decide) ?_
  refine v_iconst (v := nI 0) F dL_move_23 (by decide) ?_
  exact v_iret F hr dL_move_24 (Nat.le_of_ble_eq_true rfl) (Nat.le_of_ble_eq_true rfl) ⟨x, M7, _, q72, rfl, by first | rfl | (rw [if_pos (by assumption)]; rfl) | (rw [if_neg (by simp [*])]; rfl) | (simp [*]; rfl), rfl⟩
set_option maxHeartbeats 4000000 in
set_option maxRecDepth 100000 in
theorem h_move_x1 {l : Launch} {ω : Om} {M : MM} {a O : Nat} {fs : List Value} (hx : M a = some (.inr (4, fs))) {p0 p1 p2 : Int32} (hM : CtX l ω yX4_move wsX4_move rmX4_move [.ref a, .int p0, .int p1, .int p2] M (fun v M9 => False) (fun E => E = "java/lang/IndexOutOfBoundsException") 3 18) : CtN l ω yL_move wsL_move rmL_move [.ref a, .int p0, .int p1, .int p2, .ref O] M (fun v M9 => v = some (.int (nI 1)) ∧ M9 = M) 3 18 := by
  refine CtN.ofV (cc := cL_move) (maxL := 6) (ret := (some .int)) [some (.ref a), some (.int p0), some (.int p1), some (.int p2), some (.ref O), none] (by decide) rfl (Nat.le_of_ble_eq_true rfl) rfl (Lc.av (av := [.ref a, .int p0, .int p1, .int p2, .ref O]) (k := 1) rfl) ?_
  intro σ F hl hr hname hNc
  have F : Fx ω σ cL_move 6 wsL_move RL rmL_move := F
  subst hl
  refine v_aload F dL_move_0 rfl rfl ?_
  refine v_iconst (v := nI 0) F dL_move_2 (by decide) ?_
  refine v_aload_n F dL_move_3 rfl rfl ?_
  refine v_iload_n F dL_move_4 rfl ?_
  refine v_iload_n F dL_move_5 rfl ?_
  refine v_iload_n F dL_move_6 rfl ?_
  refine v_callVC F 3 [_, _, _] rfl rfl rfl (hM) gL_move_X4_move rfl hd_X4_move ⟨⟨rfl, rfl⟩, ⟨(Nat.le_of_ble_eq_true rfl), (Nat.le_of_ble_eq_true rfl)⟩, ⟨(Nat.le_of_ble_eq_true rfl), (Nat.le_of_ble_eq_true rfl)⟩, (Nat.le_of_ble_eq_true rfl)⟩ hx rfl dL_move_7 (fun E hE => ⟨15, by subst hE; exact CatchOk.c1 F hname (by decide) (by decide) (by decide +kernel) (by decide +kernel), fun q9 => ?_⟩) (fun v9 M9 hq => hq.elim)
  refine v_astore F dL_move_15 rfl (Nat.le_of_ble_eq_true rfl) (ok2_d rfl) ?_
  refine v_iconst (v := nI 1) F dL_move_17 (by decide) ?_
  exact v_iret F hr dL_move_18 (Nat.le_of_ble_eq_true rfl) (Nat.le_of_ble_eq_true rfl) ⟨rfl, rfl⟩
set_option maxHeartbeats 4000000 in
set_option maxRecDepth 100000 in
theorem h_move_x2 {l : Launch} {ω : Om} {M : MM} {a O : Nat} {fs : List Value} (hx : M a = some (.inr (4, fs))) {p0 p1 p2 : Int32} (hM : CtX l ω yX4_move wsX4_move rmX4_move [.ref a, .int p0, .int p1, .int p2] M (fun v M9 => False) (fun E => E = "java/lang/IllegalArgumentException") 3 18) : CtN l ω yL_move wsL_move rmL_move [.ref a, .int p0, .int p1, .int p2, .ref O] M (fun v M9 => v = some (.int (nI 2)) ∧ M9 = M) 3 18 := by
  refine CtN.ofV (cc := cL_move) (maxL := 6) (ret := (some .int)) [some (.ref a), some (.int p0), some (.int p1), some (.int p2), some (.ref O), none] (by decide) rfl (Nat.le_of_ble_eq_true rfl) rfl (Lc.av (av := [.ref a, .int p0, .int p1, .int p2, .ref O]) (k := 1) rfl) ?_
  intro σ F hl hr hname hNc
  have F : Fx ω σ cL_move 6 wsL_move RL rmL_move := F
  subst hl
  refine v_aload F dL_move_0 rfl rfl ?_
  refine v_iconst (v := nI 0) F dL_move_2 (by decide) ?_
  refine v_aload_n F dL_move_3 rfl rfl ?_
  refine v_iload_n F dL_move_4 rfl ?_
  refine v_iload_n F dL_move_5 rfl ?_
  refine v_iload_n F dL_move_6 rfl ?_
  refine v_callVC F 3 [_, _, _] rfl rfl rfl (hM) gL_move_X4_move rfl hd_X4_move ⟨⟨rfl, rfl⟩, ⟨(Nat.le_of_ble_eq_true rfl), (Nat.le_of_ble_eq_true rfl)⟩, ⟨(Nat.le_of_ble_eq_true rfl), (Nat.le_of_ble_eq_true rfl)⟩, (Nat.le_of_ble_eq_true rfl)⟩ hx rfl dL_move_7 (fun E hE => ⟨19, by subst hE; exact CatchOk.c2 (nm := "java/lang/IndexOutOfBoundsException") F hname (by decide) (by decide) (by decide) (by decide +kernel) (by decide +kernel) hNc.1 (by decide +kernel), fun q9 => ?_⟩) (fun v9 M9 hq => hq.elim)
  refine v_astore F dL_move_19 rfl (Nat.le_of_ble_eq_true rfl) (ok2_d rfl) ?_
  refine v_iconst (v := nI 2) F dL_move_21 (by decide) ?_
  exact v_iret F hr dL_move_22 (Nat.le_of_ble_eq_true rfl) (Nat.le_of_ble_eq_true rfl) ⟨rfl, rfl⟩
def rmL_resize : Room := { frames := 74, cells := 3, slots := 18, locals := 1692 }
theorem hd_L_resize : yL_resize.cls ≠ "java/lang/invoke/MethodHandle" ∧ yL_resize.cls ≠ "java/lang/invoke/VarHandle" ∧ (parseMethodDescriptor yL_resize.desc).map (fun d => d.parameters.length) = some 5 := by decide +kernel
set_option maxHeartbeats 4000000 in
set_option maxRecDepth 100000 in
theorem h_resize_ok {l : Launch} {ω : Om} {M : MM} {a O : Nat} {fs : List Value} (hx : M a = some (.inr (4, fs))) {p0 p1 p2 : Int32} {g : Nat → Int64} {PQ0 : Option Value → MM → Prop} (hM : Ct l ω yX4_resize wsX4_resize rmX4_resize [.ref a, .int p0, .int p1, .int p2] M PQ0 3 18) (hpq : ∀ v M9, PQ0 v M9 → ∃ x : Int32, v = some (.int x) ∧ M9 O = some (.inl (ω.2.2 2, 1, .inr (.inl g)))) : CtN l ω yL_resize wsL_resize rmL_resize [.ref a, .int p0, .int p1, .int p2, .ref O] M (fun v M9 => ∃ (x : Int32) (M8 : MM) (g8 : Nat → Int64), PQ0 (some (.int x)) M8 ∧ v = some (.int (nI 0)) ∧ g8 0 = x.toInt64 ∧ M9 = mup M8 O (.inl (ω.2.2 2, 1, .inr (.inl g8)))) 3 18 := by
  refine CtN.ofV (cc := cL_resize) (maxL := 6) (ret := (some .int)) [some (.ref a), some (.int p0), some (.int p1), some (.int p2), some (.ref O), none] (by decide) rfl (Nat.le_of_ble_eq_true rfl) rfl (Lc.av (av := [.ref a, .int p0, .int p1, .int p2, .ref O]) (k := 1) rfl) ?_
  intro σ F hl hr hname hNc
  have F : Fx ω σ cL_resize 6 wsL_resize RL rmL_resize := F
  subst hl
  refine v_aload F dL_resize_0 rfl rfl ?_
  refine v_iconst (v := nI 0) F dL_resize_2 (by decide) ?_
  refine v_aload_n F dL_resize_3 rfl rfl ?_
  refine v_iload_n F dL_resize_4 rfl ?_
  refine v_iload_n F dL_resize_5 rfl ?_
  refine v_iload_n F dL_resize_6 rfl ?_
  refine v_callV F 3 [_, _, _] rfl rfl rfl (hM) gL_resize_X4_resize rfl hd_X4_resize ⟨⟨rfl, rfl⟩, ⟨(Nat.le_of_ble_eq_true rfl), (Nat.le_of_ble_eq_true rfl)⟩, ⟨(Nat.le_of_ble_eq_true rfl), (Nat.le_of_ble_eq_true rfl)⟩, (Nat.le_of_ble_eq_true rfl)⟩ hx rfl dL_resize_7 (fun v7 M7 q7 => ?_)
  obtain ⟨x, rfl, hO⟩ := hpq _ _ q7
  have q72 := q7
  refine v_i2l F dL_resize_10 ?_
  refine v_last F dL_resize_11 hO (vp_in_nI (by decide) (by decide)) ?_
  refine v_goto F 23 dL_resize_12 (by decide) ?_
  refine v_iconst (v := nI 0) F dL_resize_23 (by decide) ?_
  exact v_iret F hr dL_resize_24 (Nat.le_of_ble_eq_true rfl) (Nat.le_of_ble_eq_true rfl) ⟨x, M7, _, q72, rfl, by first | rfl | (rw [if_pos (by assumption)]; rfl) | (rw [if_neg (by simp [*])]; rfl) | (simp [*]; rfl), rfl⟩
set_option maxHeartbeats 4000000 in
set_option maxRecDepth 100000 in
theorem h_resize_x1 {l : Launch} {ω : Om} {M : MM} {a O : Nat} {fs : List Value} (hx : M a = some (.inr (4, fs))) {p0 p1 p2 : Int32} (hM : CtX l ω yX4_resize wsX4_resize rmX4_resize [.ref a, .int p0, .int p1, .int p2] M (fun v M9 => False) (fun E => E = "java/lang/IndexOutOfBoundsException") 3 18) : CtN l ω yL_resize wsL_resize rmL_resize [.ref a, .int p0, .int p1, .int p2, .ref O] M (fun v M9 => v = some (.int (nI 1)) ∧ M9 = M) 3 18 := by
  refine CtN.ofV (cc := cL_resize) (maxL := 6) (ret := (some .int)) [some (.ref a), some (.int p0), some (.int p1), some (.int p2), some (.ref O), none] (by decide) rfl (Nat.le_of_ble_eq_true rfl) rfl (Lc.av (av := [.ref a, .int p0, .int p1, .int p2, .ref O]) (k := 1) rfl) ?_
  intro σ F hl hr hname hNc
  have F : Fx ω σ cL_resize 6 wsL_resize RL rmL_resize := F
  subst hl
  refine v_aload F dL_resize_0 rfl rfl ?_
  refine v_iconst (v := nI 0) F dL_resize_2 (by decide) ?_
  refine v_aload_n F dL_resize_3 rfl rfl ?_
  refine v_iload_n F dL_resize_4 rfl ?_
  refine v_iload_n F dL_resize_5 rfl ?_
  refine v_iload_n F dL_resize_6 rfl ?_
  refine v_callVC F 3 [_, _, _] rfl rfl rfl (hM) gL_resize_X4_resize rfl hd_X4_resize ⟨⟨rfl, rfl⟩, ⟨(Nat.le_of_ble_eq_true rfl), (Nat.le_of_ble_eq_true rfl)⟩, ⟨(Nat.le_of_ble_eq_true rfl), (Nat.le_of_ble_eq_true rfl)⟩, (Nat.le_of_ble_eq_true rfl)⟩ hx rfl dL_resize_7 (fun E hE => ⟨15, by subst hE; exact CatchOk.c1 F hname (by decide) (by decide) (by decide +kernel) (by decide +kernel), fun q9 => ?_⟩) (fun v9 M9 hq => hq.elim)
  refine v_astore F dL_resize_15 rfl (Nat.le_of_ble_eq_true rfl) (ok2_d rfl) ?_
  refine v_iconst (v := nI 1) F dL_resize_17 (by decide) ?_
  exact v_iret F hr dL_resize_18 (Nat.le_of_ble_eq_true rfl) (Nat.le_of_ble_eq_true rfl) ⟨rfl, rfl⟩
set_option maxHeartbeats 4000000 in
set_option maxRecDepth 100000 in
theorem h_resize_x2 {l : Launch} {ω : Om} {M : MM} {a O : Nat} {fs : List Value} (hx : M a = some (.inr (4, fs))) {p0 p1 p2 : Int32} (hM : CtX l ω yX4_resize wsX4_resize rmX4_resize [.ref a, .int p0, .int p1, .int p2] M (fun v M9 => False) (fun E => E = "java/lang/IllegalArgumentException") 3 18) : CtN l ω yL_resize wsL_resize rmL_resize [.ref a, .int p0, .int p1, .int p2, .ref O] M (fun v M9 => v = some (.int (nI 2)) ∧ M9 = M) 3 18 := by
  refine CtN.ofV (cc := cL_resize) (maxL := 6) (ret := (some .int)) [some (.ref a), some (.int p0), some (.int p1), some (.int p2), some (.ref O), none] (by decide) rfl (Nat.le_of_ble_eq_true rfl) rfl (Lc.av (av := [.ref a, .int p0, .int p1, .int p2, .ref O]) (k := 1) rfl) ?_
  intro σ F hl hr hname hNc
  have F : Fx ω σ cL_resize 6 wsL_resize RL rmL_resize := F
  subst hl
  refine v_aload F dL_resize_0 rfl rfl ?_
  refine v_iconst (v := nI 0) F dL_resize_2 (by decide) ?_
  refine v_aload_n F dL_resize_3 rfl rfl ?_
  refine v_iload_n F dL_resize_4 rfl ?_
  refine v_iload_n F dL_resize_5 rfl ?_
  refine v_iload_n F dL_resize_6 rfl ?_
  refine v_callVC F 3 [_, _, _] rfl rfl rfl (hM) gL_resize_X4_resize rfl hd_X4_resize ⟨⟨rfl, rfl⟩, ⟨(Nat.le_of_ble_eq_true rfl), (Nat.le_of_ble_eq_true rfl)⟩, ⟨(Nat.le_of_ble_eq_true rfl), (Nat.le_of_ble_eq_true rfl)⟩, (Nat.le_of_ble_eq_true rfl)⟩ hx rfl dL_resize_7 (fun E hE => ⟨19, by subst hE; exact CatchOk.c2 (nm := "java/lang/IndexOutOfBoundsException") F hname (by decide) (by decide) (by decide) (by decide +kernel) (by decide +kernel) hNc.1 (by decide +kernel), fun q9 => ?_⟩) (fun v9 M9 hq => hq.elim)
  refine v_astore F dL_resize_19 rfl (Nat.le_of_ble_eq_true rfl) (ok2_d rfl) ?_
  refine v_iconst (v := nI 2) F dL_resize_21 (by decide) ?_
  exact v_iret F hr dL_resize_22 (Nat.le_of_ble_eq_true rfl) (Nat.le_of_ble_eq_true rfl) ⟨rfl, rfl⟩
def rmL_remove : Room := { frames := 74, cells := 2, slots := 12, locals := 1690 }
theorem hd_L_remove : yL_remove.cls ≠ "java/lang/invoke/MethodHandle" ∧ yL_remove.cls ≠ "java/lang/invoke/VarHandle" ∧ (parseMethodDescriptor yL_remove.desc).map (fun d => d.parameters.length) = some 3 := by decide +kernel
set_option maxHeartbeats 4000000 in
set_option maxRecDepth 100000 in
theorem h_remove_ok {l : Launch} {ω : Om} {M : MM} {a O : Nat} {fs : List Value} (hx : M a = some (.inr (4, fs))) {p0 : Int32} {g : Nat → Int64} {PQ0 : Option Value → MM → Prop} (hM : Ct l ω yX4_remove wsX4_remove rmX4_remove [.ref a, .int p0] M PQ0 2 12) (hpq : ∀ v M9, PQ0 v M9 → ∃ x : Int32, v = some (.int x) ∧ M9 O = some (.inl (ω.2.2 2, 1, .inr (.inl g)))) : CtN l ω yL_remove wsL_remove rmL_remove [.ref a, .int p0, .ref O] M (fun v M9 => ∃ (x : Int32) (M8 : MM) (g8 : Nat → Int64), PQ0 (some (.int x)) M8 ∧ v = some (.int (nI 0)) ∧ g8 0 = x.toInt64 ∧ M9 = mup M8 O (.inl (ω.2.2 2, 1, .inr (.inl g8)))) 2 12 := by
  refine CtN.ofV (cc := cL_remove) (maxL := 4) (ret := (some .int)) [some (.ref a), some (.int p0), some (.ref O), none] (by decide) rfl (Nat.le_of_ble_eq_true rfl) rfl (Lc.av (av := [.ref a, .int p0, .ref O]) (k := 1) rfl) ?_
  intro σ F hl hr hname hNc
  have F : Fx ω σ cL_remove 4 wsL_remove RL rmL_remove := F
  subst hl
  refine v_aload_n F dL_remove_0 rfl rfl ?_
  refine v_iconst (v := nI 0) F dL_remove_1 (by decide) ?_
  refine v_aload_n F dL_remove_2 rfl rfl ?_
  refine v_iload_n F dL_remove_3 rfl ?_
  refine v_callV F 1 [_] rfl rfl rfl (hM) gL_remove_X4_remove rfl hd_X4_remove ⟨⟨rfl, rfl⟩, ⟨(Nat.le_of_ble_eq_true rfl), (Nat.le_of_ble_eq_true rfl)⟩, ⟨(Nat.le_of_ble_eq_true rfl), (Nat.le_of_ble_eq_true rfl)⟩, (Nat.le_of_ble_eq_true rfl)⟩ hx rfl dL_remove_4 (fun v4 M4 q4 => ?_)
  obtain ⟨x, rfl, hO⟩ := hpq _ _ q4
  have q42 := q4
  refine v_i2l F dL_remove_7 ?_
  refine v_last F dL_remove_8 hO (vp_in_nI (by decide) (by decide)) ?_
  refine v_goto F 15 dL_remove_9 (by decide) ?_
  refine v_iconst (v := nI 0) F dL_remove_15 (by decide) ?_
  exact v_iret F hr dL_remove_16 (Nat.le_of_ble_eq_true rfl) (Nat.le_of_ble_eq_true rfl) ⟨x, M4, _, q42, rfl, by first | rfl | (rw [if_pos (by assumption)]; rfl) | (rw [if_neg (by simp [*])]; rfl) | (simp [*]; rfl), rfl⟩
set_option maxHeartbeats 4000000 in
set_option maxRecDepth 100000 in
theorem h_remove_x1 {l : Launch} {ω : Om} {M : MM} {a O : Nat} {fs : List Value} (hx : M a = some (.inr (4, fs))) {p0 : Int32} (hM : CtX l ω yX4_remove wsX4_remove rmX4_remove [.ref a, .int p0] M (fun v M9 => False) (fun E => E = "java/lang/IndexOutOfBoundsException") 2 12) : CtN l ω yL_remove wsL_remove rmL_remove [.ref a, .int p0, .ref O] M (fun v M9 => v = some (.int (nI 1)) ∧ M9 = M) 2 12 := by
  refine CtN.ofV (cc := cL_remove) (maxL := 4) (ret := (some .int)) [some (.ref a), some (.int p0), some (.ref O), none] (by decide) rfl (Nat.le_of_ble_eq_true rfl) rfl (Lc.av (av := [.ref a, .int p0, .ref O]) (k := 1) rfl) ?_
  intro σ F hl hr hname hNc
  have F : Fx ω σ cL_remove 4 wsL_remove RL rmL_remove := F
  subst hl
  refine v_aload_n F dL_remove_0 rfl rfl ?_
  refine v_iconst (v := nI 0) F dL_remove_1 (by decide) ?_
  refine v_aload_n F dL_remove_2 rfl rfl ?_
  refine v_iload_n F dL_remove_3 rfl ?_
  refine v_callVC F 1 [_] rfl rfl rfl (hM) gL_remove_X4_remove rfl hd_X4_remove ⟨⟨rfl, rfl⟩, ⟨(Nat.le_of_ble_eq_true rfl), (Nat.le_of_ble_eq_true rfl)⟩, ⟨(Nat.le_of_ble_eq_true rfl), (Nat.le_of_ble_eq_true rfl)⟩, (Nat.le_of_ble_eq_true rfl)⟩ hx rfl dL_remove_4 (fun E hE => ⟨12, by subst hE; exact CatchOk.c1 F hname (by decide) (by decide) (by decide +kernel) (by decide +kernel), fun q9 => ?_⟩) (fun v9 M9 hq => hq.elim)
  refine v_astore_n F dL_remove_12 rfl (Nat.le_of_ble_eq_true rfl) (ok2_d rfl) ?_
  refine v_iconst (v := nI 1) F dL_remove_13 (by decide) ?_
  exact v_iret F hr dL_remove_14 (Nat.le_of_ble_eq_true rfl) (Nat.le_of_ble_eq_true rfl) ⟨rfl, rfl⟩
def rmL_tie : Room := { frames := 74, cells := 3, slots := 18, locals := 1692 }
theorem hd_L_tie : yL_tie.cls ≠ "java/lang/invoke/MethodHandle" ∧ yL_tie.cls ≠ "java/lang/invoke/VarHandle" ∧ (parseMethodDescriptor yL_tie.desc).map (fun d => d.parameters.length) = some 4 := by decide +kernel
set_option maxHeartbeats 4000000 in
set_option maxRecDepth 100000 in
theorem h_tie_ok {l : Launch} {ω : Om} {M : MM} {a O : Nat} {fs : List Value} (hx : M a = some (.inr (4, fs))) {p0 p1 : Int32} {g : Nat → Int64} {PQ0 : Option Value → MM → Prop} (hM : Ct l ω yX4_tie wsX4_tie rmX4_tie [.ref a, .int p0, .int p1] M PQ0 3 18) (hpq : ∀ v M9, PQ0 v M9 → ∃ x : Int32, v = some (.int x) ∧ M9 O = some (.inl (ω.2.2 2, 1, .inr (.inl g)))) : CtN l ω yL_tie wsL_tie rmL_tie [.ref a, .int p0, .int p1, .ref O] M (fun v M9 => ∃ (x : Int32) (M8 : MM) (g8 : Nat → Int64), PQ0 (some (.int x)) M8 ∧ v = some (.int (nI 0)) ∧ g8 0 = x.toInt64 ∧ M9 = mup M8 O (.inl (ω.2.2 2, 1, .inr (.inl g8)))) 3 18 := by
  refine CtN.ofV (cc := cL_tie) (maxL := 5) (ret := (some .int)) [some (.ref a), some (.int p0), some (.int p1), some (.ref O), none] (by decide) rfl (Nat.le_of_ble_eq_true rfl) rfl (Lc.av (av := [.ref a, .int p0, .int p1, .ref O]) (k := 1) rfl) ?_
  intro σ F hl hr hname hNc
  have F : Fx ω σ cL_tie 5 wsL_tie RL rmL_tie := F
  subst hl
  refine v_aload_n F dL_tie_0 rfl rfl ?_
  refine v_iconst (v := nI 0) F dL_tie_1 (by decide) ?_
  refine v_aload_n F dL_tie_2 rfl rfl ?_
  refine v_iload_n F dL_tie_3 rfl ?_
  refine v_iload_n F dL_tie_4 rfl ?_
  refine v_callV F 2 [_, _] rfl rfl rfl (hM) gL_tie_X4_tie rfl hd_X4_tie ⟨⟨rfl, rfl⟩, ⟨(Nat.le_of_ble_eq_true rfl), (Nat.le_of_ble_eq_true rfl)⟩, ⟨(Nat.le_of_ble_eq_true rfl), (Nat.le_of_ble_eq_true rfl)⟩, (Nat.le_of_ble_eq_true rfl)⟩ hx rfl dL_tie_5 (fun v5 M5 q5 => ?_)
  obtain ⟨x, rfl, hO⟩ := hpq _ _ q5
  have q52 := q5
  refine v_i2l F dL_tie_8 ?_
  refine v_last F dL_tie_9 hO (vp_in_nI (by decide) (by decide)) ?_
  refine v_goto F 25 dL_tie_10 (by decide) ?_
  refine v_iconst (v := nI 0) F dL_tie_25 (by decide) ?_
  exact v_iret F hr dL_tie_26 (Nat.le_of_ble_eq_true rfl) (Nat.le_of_ble_eq_true rfl) ⟨x, M5, _, q52, rfl, by first | rfl | (rw [if_pos (by assumption)]; rfl) | (rw [if_neg (by simp [*])]; rfl) | (simp [*]; rfl), rfl⟩
set_option maxHeartbeats 4000000 in
set_option maxRecDepth 100000 in
theorem h_tie_x1 {l : Launch} {ω : Om} {M : MM} {a O : Nat} {fs : List Value} (hx : M a = some (.inr (4, fs))) {p0 p1 : Int32} (hM : CtX l ω yX4_tie wsX4_tie rmX4_tie [.ref a, .int p0, .int p1] M (fun v M9 => False) (fun E => E = "java/lang/IndexOutOfBoundsException") 3 18) : CtN l ω yL_tie wsL_tie rmL_tie [.ref a, .int p0, .int p1, .ref O] M (fun v M9 => v = some (.int (nI 1)) ∧ M9 = M) 3 18 := by
  refine CtN.ofV (cc := cL_tie) (maxL := 5) (ret := (some .int)) [some (.ref a), some (.int p0), some (.int p1), some (.ref O), none] (by decide) rfl (Nat.le_of_ble_eq_true rfl) rfl (Lc.av (av := [.ref a, .int p0, .int p1, .ref O]) (k := 1) rfl) ?_
  intro σ F hl hr hname hNc
  have F : Fx ω σ cL_tie 5 wsL_tie RL rmL_tie := F
  subst hl
  refine v_aload_n F dL_tie_0 rfl rfl ?_
  refine v_iconst (v := nI 0) F dL_tie_1 (by decide) ?_
  refine v_aload_n F dL_tie_2 rfl rfl ?_
  refine v_iload_n F dL_tie_3 rfl ?_
  refine v_iload_n F dL_tie_4 rfl ?_
  refine v_callVC F 2 [_, _] rfl rfl rfl (hM) gL_tie_X4_tie rfl hd_X4_tie ⟨⟨rfl, rfl⟩, ⟨(Nat.le_of_ble_eq_true rfl), (Nat.le_of_ble_eq_true rfl)⟩, ⟨(Nat.le_of_ble_eq_true rfl), (Nat.le_of_ble_eq_true rfl)⟩, (Nat.le_of_ble_eq_true rfl)⟩ hx rfl dL_tie_5 (fun E hE => ⟨13, by subst hE; exact CatchOk.c1 F hname (by decide) (by decide) (by decide +kernel) (by decide +kernel), fun q9 => ?_⟩) (fun v9 M9 hq => hq.elim)
  refine v_astore F dL_tie_13 rfl (Nat.le_of_ble_eq_true rfl) (ok2_d rfl) ?_
  refine v_iconst (v := nI 1) F dL_tie_15 (by decide) ?_
  exact v_iret F hr dL_tie_16 (Nat.le_of_ble_eq_true rfl) (Nat.le_of_ble_eq_true rfl) ⟨rfl, rfl⟩
set_option maxHeartbeats 4000000 in
set_option maxRecDepth 100000 in
theorem h_tie_x2 {l : Launch} {ω : Om} {M : MM} {a O : Nat} {fs : List Value} (hx : M a = some (.inr (4, fs))) {p0 p1 : Int32} (hM : CtX l ω yX4_tie wsX4_tie rmX4_tie [.ref a, .int p0, .int p1] M (fun v M9 => False) (fun E => E = "java/lang/IllegalArgumentException") 3 18) : CtN l ω yL_tie wsL_tie rmL_tie [.ref a, .int p0, .int p1, .ref O] M (fun v M9 => v = some (.int (nI 2)) ∧ M9 = M) 3 18 := by
  refine CtN.ofV (cc := cL_tie) (maxL := 5) (ret := (some .int)) [some (.ref a), some (.int p0), some (.int p1), some (.ref O), none] (by decide) rfl (Nat.le_of_ble_eq_true rfl) rfl (Lc.av (av := [.ref a, .int p0, .int p1, .ref O]) (k := 1) rfl) ?_
  intro σ F hl hr hname hNc
  have F : Fx ω σ cL_tie 5 wsL_tie RL rmL_tie := F
  subst hl
  refine v_aload_n F dL_tie_0 rfl rfl ?_
  refine v_iconst (v := nI 0) F dL_tie_1 (by decide) ?_
  refine v_aload_n F dL_tie_2 rfl rfl ?_
  refine v_iload_n F dL_tie_3 rfl ?_
  refine v_iload_n F dL_tie_4 rfl ?_
  refine v_callVC F 2 [_, _] rfl rfl rfl (hM) gL_tie_X4_tie rfl hd_X4_tie ⟨⟨rfl, rfl⟩, ⟨(Nat.le_of_ble_eq_true rfl), (Nat.le_of_ble_eq_true rfl)⟩, ⟨(Nat.le_of_ble_eq_true rfl), (Nat.le_of_ble_eq_true rfl)⟩, (Nat.le_of_ble_eq_true rfl)⟩ hx rfl dL_tie_5 (fun E hE => ⟨17, by subst hE; exact CatchOk.c2 (nm := "java/lang/IndexOutOfBoundsException") F hname (by decide) (by decide) (by decide) (by decide +kernel) (by decide +kernel) hNc.1 (by decide +kernel), fun q9 => ?_⟩) (fun v9 M9 hq => hq.elim)
  refine v_astore F dL_tie_17 rfl (Nat.le_of_ble_eq_true rfl) (ok2_d rfl) ?_
  refine v_iconst (v := nI 2) F dL_tie_19 (by decide) ?_
  exact v_iret F hr dL_tie_20 (Nat.le_of_ble_eq_true rfl) (Nat.le_of_ble_eq_true rfl) ⟨rfl, rfl⟩
set_option maxHeartbeats 4000000 in
set_option maxRecDepth 100000 in
theorem h_tie_x3 {l : Launch} {ω : Om} {M : MM} {a O : Nat} {fs : List Value} (hx : M a = some (.inr (4, fs))) {p0 p1 : Int32} (hM : CtX l ω yX4_tie wsX4_tie rmX4_tie [.ref a, .int p0, .int p1] M (fun v M9 => False) (fun E => E = "java/lang/IllegalStateException") 3 18) : CtN l ω yL_tie wsL_tie rmL_tie [.ref a, .int p0, .int p1, .ref O] M (fun v M9 => v = some (.int (nI 3)) ∧ M9 = M) 3 18 := by
  refine CtN.ofV (cc := cL_tie) (maxL := 5) (ret := (some .int)) [some (.ref a), some (.int p0), some (.int p1), some (.ref O), none] (by decide) rfl (Nat.le_of_ble_eq_true rfl) rfl (Lc.av (av := [.ref a, .int p0, .int p1, .ref O]) (k := 1) rfl) ?_
  intro σ F hl hr hname hNc
  have F : Fx ω σ cL_tie 5 wsL_tie RL rmL_tie := F
  subst hl
  refine v_aload_n F dL_tie_0 rfl rfl ?_
  refine v_iconst (v := nI 0) F dL_tie_1 (by decide) ?_
  refine v_aload_n F dL_tie_2 rfl rfl ?_
  refine v_iload_n F dL_tie_3 rfl ?_
  refine v_iload_n F dL_tie_4 rfl ?_
  refine v_callVC F 2 [_, _] rfl rfl rfl (hM) gL_tie_X4_tie rfl hd_X4_tie ⟨⟨rfl, rfl⟩, ⟨(Nat.le_of_ble_eq_true rfl), (Nat.le_of_ble_eq_true rfl)⟩, ⟨(Nat.le_of_ble_eq_true rfl), (Nat.le_of_ble_eq_true rfl)⟩, (Nat.le_of_ble_eq_true rfl)⟩ hx rfl dL_tie_5 (fun E hE => ⟨21, by subst hE; exact CatchOk.c3 (nm := "java/lang/IndexOutOfBoundsException") (nm2 := "java/lang/IllegalArgumentException") F hname (by decide) (by decide) (by decide) (by decide) (by decide +kernel) (by decide +kernel) (by decide +kernel) hNc.2.1 hNc.2.2 (by decide +kernel), fun q9 => ?_⟩) (fun v9 M9 hq => hq.elim)
  refine v_astore F dL_tie_21 rfl (Nat.le_of_ble_eq_true rfl) (ok2_d rfl) ?_
  refine v_iconst (v := nI 3) F dL_tie_23 (by decide) ?_
  exact v_iret F hr dL_tie_24 (Nat.le_of_ble_eq_true rfl) (Nat.le_of_ble_eq_true rfl) ⟨rfl, rfl⟩
def rmL_untie : Room := { frames := 74, cells := 3, slots := 18, locals := 1690 }
theorem hd_L_untie : yL_untie.cls ≠ "java/lang/invoke/MethodHandle" ∧ yL_untie.cls ≠ "java/lang/invoke/VarHandle" ∧ (parseMethodDescriptor yL_untie.desc).map (fun d => d.parameters.length) = some 3 := by decide +kernel
set_option maxHeartbeats 4000000 in
set_option maxRecDepth 100000 in
theorem h_untie_ok {l : Launch} {ω : Om} {M : MM} {a O : Nat} {fs : List Value} (hx : M a = some (.inr (4, fs))) {p0 : Int32} {g : Nat → Int64} {PQ0 : Option Value → MM → Prop} (hM : Ct l ω yX4_untie wsX4_untie rmX4_untie [.ref a, .int p0] M PQ0 3 18) (hpq : ∀ v M9, PQ0 v M9 → ∃ x : Int32, v = some (.int x) ∧ M9 O = some (.inl (ω.2.2 2, 1, .inr (.inl g)))) : CtN l ω yL_untie wsL_untie rmL_untie [.ref a, .int p0, .ref O] M (fun v M9 => ∃ (x : Int32) (M8 : MM) (g8 : Nat → Int64), PQ0 (some (.int x)) M8 ∧ v = some (.int (nI 0)) ∧ g8 0 = x.toInt64 ∧ M9 = mup M8 O (.inl (ω.2.2 2, 1, .inr (.inl g8)))) 3 18 := by
  refine CtN.ofV (cc := cL_untie) (maxL := 4) (ret := (some .int)) [some (.ref a), some (.int p0), some (.ref O), none] (by decide) rfl (Nat.le_of_ble_eq_true rfl) rfl (Lc.av (av := [.ref a, .int p0, .ref O]) (k := 1) rfl) ?_
  intro σ F hl hr hname hNc
  have F : Fx ω σ cL_untie 4 wsL_untie RL rmL_untie := F
  subst hl
  refine v_aload_n F dL_untie_0 rfl rfl ?_
  refine v_iconst (v := nI 0) F dL_untie_1 (by decide) ?_
  refine v_aload_n F dL_untie_2 rfl rfl ?_
  refine v_iload_n F dL_untie_3 rfl ?_
  refine v_callV F 1 [_] rfl rfl rfl (hM) gL_untie_X4_untie rfl hd_X4_untie ⟨⟨rfl, rfl⟩, ⟨(Nat.le_of_ble_eq_true rfl), (Nat.le_of_ble_eq_true rfl)⟩, ⟨(Nat.le_of_ble_eq_true rfl), (Nat.le_of_ble_eq_true rfl)⟩, (Nat.le_of_ble_eq_true rfl)⟩ hx rfl dL_untie_4 (fun v4 M4 q4 => ?_)
  obtain ⟨x, rfl, hO⟩ := hpq _ _ q4
  have q42 := q4
  refine v_i2l F dL_untie_7 ?_
  refine v_last F dL_untie_8 hO (vp_in_nI (by decide) (by decide)) ?_
  refine v_goto F 18 dL_untie_9 (by decide) ?_
  refine v_iconst (v := nI 0) F dL_untie_18 (by decide) ?_
  exact v_iret F hr dL_untie_19 (Nat.le_of_ble_eq_true rfl) (Nat.le_of_ble_eq_true rfl) ⟨x, M4, _, q42, rfl, by first | rfl | (rw [if_pos (by assumption)]; rfl) | (rw [if_neg (by simp [*])]; rfl) | (simp [*]; rfl), rfl⟩
set_option maxHeartbeats 4000000 in
set_option maxRecDepth 100000 in
theorem h_untie_x1 {l : Launch} {ω : Om} {M : MM} {a O : Nat} {fs : List Value} (hx : M a = some (.inr (4, fs))) {p0 : Int32} (hM : CtX l ω yX4_untie wsX4_untie rmX4_untie [.ref a, .int p0] M (fun v M9 => False) (fun E => E = "java/lang/IndexOutOfBoundsException") 3 18) : CtN l ω yL_untie wsL_untie rmL_untie [.ref a, .int p0, .ref O] M (fun v M9 => v = some (.int (nI 1)) ∧ M9 = M) 3 18 := by
  refine CtN.ofV (cc := cL_untie) (maxL := 4) (ret := (some .int)) [some (.ref a), some (.int p0), some (.ref O), none] (by decide) rfl (Nat.le_of_ble_eq_true rfl) rfl (Lc.av (av := [.ref a, .int p0, .ref O]) (k := 1) rfl) ?_
  intro σ F hl hr hname hNc
  have F : Fx ω σ cL_untie 4 wsL_untie RL rmL_untie := F
  subst hl
  refine v_aload_n F dL_untie_0 rfl rfl ?_
  refine v_iconst (v := nI 0) F dL_untie_1 (by decide) ?_
  refine v_aload_n F dL_untie_2 rfl rfl ?_
  refine v_iload_n F dL_untie_3 rfl ?_
  refine v_callVC F 1 [_] rfl rfl rfl (hM) gL_untie_X4_untie rfl hd_X4_untie ⟨⟨rfl, rfl⟩, ⟨(Nat.le_of_ble_eq_true rfl), (Nat.le_of_ble_eq_true rfl)⟩, ⟨(Nat.le_of_ble_eq_true rfl), (Nat.le_of_ble_eq_true rfl)⟩, (Nat.le_of_ble_eq_true rfl)⟩ hx rfl dL_untie_4 (fun E hE => ⟨12, by subst hE; exact CatchOk.c1 F hname (by decide) (by decide) (by decide +kernel) (by decide +kernel), fun q9 => ?_⟩) (fun v9 M9 hq => hq.elim)
  refine v_astore_n F dL_untie_12 rfl (Nat.le_of_ble_eq_true rfl) (ok2_d rfl) ?_
  refine v_iconst (v := nI 1) F dL_untie_13 (by decide) ?_
  exact v_iret F hr dL_untie_14 (Nat.le_of_ble_eq_true rfl) (Nat.le_of_ble_eq_true rfl) ⟨rfl, rfl⟩
set_option maxHeartbeats 4000000 in
set_option maxRecDepth 100000 in
theorem h_untie_x2 {l : Launch} {ω : Om} {M : MM} {a O : Nat} {fs : List Value} (hx : M a = some (.inr (4, fs))) {p0 : Int32} (hM : CtX l ω yX4_untie wsX4_untie rmX4_untie [.ref a, .int p0] M (fun v M9 => False) (fun E => E = "java/lang/IllegalStateException") 3 18) : CtN l ω yL_untie wsL_untie rmL_untie [.ref a, .int p0, .ref O] M (fun v M9 => v = some (.int (nI 2)) ∧ M9 = M) 3 18 := by
  refine CtN.ofV (cc := cL_untie) (maxL := 4) (ret := (some .int)) [some (.ref a), some (.int p0), some (.ref O), none] (by decide) rfl (Nat.le_of_ble_eq_true rfl) rfl (Lc.av (av := [.ref a, .int p0, .ref O]) (k := 1) rfl) ?_
  intro σ F hl hr hname hNc
  have F : Fx ω σ cL_untie 4 wsL_untie RL rmL_untie := F
  subst hl
  refine v_aload_n F dL_untie_0 rfl rfl ?_
  refine v_iconst (v := nI 0) F dL_untie_1 (by decide) ?_
  refine v_aload_n F dL_untie_2 rfl rfl ?_
  refine v_iload_n F dL_untie_3 rfl ?_
  refine v_callVC F 1 [_] rfl rfl rfl (hM) gL_untie_X4_untie rfl hd_X4_untie ⟨⟨rfl, rfl⟩, ⟨(Nat.le_of_ble_eq_true rfl), (Nat.le_of_ble_eq_true rfl)⟩, ⟨(Nat.le_of_ble_eq_true rfl), (Nat.le_of_ble_eq_true rfl)⟩, (Nat.le_of_ble_eq_true rfl)⟩ hx rfl dL_untie_4 (fun E hE => ⟨15, by subst hE; exact CatchOk.c2 (nm := "java/lang/IndexOutOfBoundsException") F hname (by decide) (by decide) (by decide) (by decide +kernel) (by decide +kernel) hNc.2.1 (by decide +kernel), fun q9 => ?_⟩) (fun v9 M9 hq => hq.elim)
  refine v_astore_n F dL_untie_15 rfl (Nat.le_of_ble_eq_true rfl) (ok2_d rfl) ?_
  refine v_iconst (v := nI 2) F dL_untie_16 (by decide) ?_
  exact v_iret F hr dL_untie_17 (Nat.le_of_ble_eq_true rfl) (Nat.le_of_ble_eq_true rfl) ⟨rfl, rfl⟩
def rmL_order : Room := { frames := 8, cells := 2, slots := 12, locals := 135 }
theorem hd_L_order : yL_order.cls ≠ "java/lang/invoke/MethodHandle" ∧ yL_order.cls ≠ "java/lang/invoke/VarHandle" ∧ (parseMethodDescriptor yL_order.desc).map (fun d => d.parameters.length) = some 4 := by decide +kernel
set_option maxHeartbeats 4000000 in
set_option maxRecDepth 100000 in
theorem h_order_ok {l : Launch} {ω : Om} {M : MM} {a O : Nat} {fs : List Value} (hx : M a = some (.inr (4, fs))) {p0 p1 : Int32} {g : Nat → Int64} {PQ0 : Option Value → MM → Prop} (hM : Ct l ω yX4_order wsX4_order rmX4_order [.ref a, .int p0, .int p1] M PQ0 2 12) (hpq : ∀ v M9, PQ0 v M9 → ∃ x : Int32, v = some (.int x) ∧ M9 O = some (.inl (ω.2.2 2, 1, .inr (.inl g)))) : CtN l ω yL_order wsL_order rmL_order [.ref a, .int p0, .int p1, .ref O] M (fun v M9 => ∃ (x : Int32) (M8 : MM) (g8 : Nat → Int64), PQ0 (some (.int x)) M8 ∧ v = some (.int (nI 0)) ∧ g8 0 = x.toInt64 ∧ M9 = mup M8 O (.inl (ω.2.2 2, 1, .inr (.inl g8)))) 2 12 := by
  refine CtN.ofV (cc := cL_order) (maxL := 5) (ret := (some .int)) [some (.ref a), some (.int p0), some (.int p1), some (.ref O), none] (by decide) rfl (Nat.le_of_ble_eq_true rfl) rfl (Lc.av (av := [.ref a, .int p0, .int p1, .ref O]) (k := 1) rfl) ?_
  intro σ F hl hr hname hNc
  have F : Fx ω σ cL_order 5 wsL_order RL rmL_order := F
  subst hl
  refine v_aload_n F dL_order_0 rfl rfl ?_
  refine v_iconst (v := nI 0) F dL_order_1 (by decide) ?_
  refine v_aload_n F dL_order_2 rfl rfl ?_
  refine v_iload_n F dL_order_3 rfl ?_
  refine v_iload_n F dL_order_4 rfl ?_
  refine v_callV F 2 [_, _] rfl rfl rfl (hM) gL_order_X4_order rfl hd_X4_order ⟨⟨rfl, rfl⟩, ⟨(Nat.le_of_ble_eq_true rfl), (Nat.le_of_ble_eq_true rfl)⟩, ⟨(Nat.le_of_ble_eq_true rfl), (Nat.le_of_ble_eq_true rfl)⟩, (Nat.le_of_ble_eq_true rfl)⟩ hx rfl dL_order_5 (fun v5 M5 q5 => ?_)
  obtain ⟨x, rfl, hO⟩ := hpq _ _ q5
  have q52 := q5
  refine v_i2l F dL_order_8 ?_
  refine v_last F dL_order_9 hO (vp_in_nI (by decide) (by decide)) ?_
  refine v_goto F 17 dL_order_10 (by decide) ?_
  refine v_iconst (v := nI 0) F dL_order_17 (by decide) ?_
  exact v_iret F hr dL_order_18 (Nat.le_of_ble_eq_true rfl) (Nat.le_of_ble_eq_true rfl) ⟨x, M5, _, q52, rfl, by first | rfl | (rw [if_pos (by assumption)]; rfl) | (rw [if_neg (by simp [*])]; rfl) | (simp [*]; rfl), rfl⟩
set_option maxHeartbeats 4000000 in
set_option maxRecDepth 100000 in
theorem h_order_x1 {l : Launch} {ω : Om} {M : MM} {a O : Nat} {fs : List Value} (hx : M a = some (.inr (4, fs))) {p0 p1 : Int32} (hM : CtX l ω yX4_order wsX4_order rmX4_order [.ref a, .int p0, .int p1] M (fun v M9 => False) (fun E => E = "java/lang/IndexOutOfBoundsException") 2 12) : CtN l ω yL_order wsL_order rmL_order [.ref a, .int p0, .int p1, .ref O] M (fun v M9 => v = some (.int (nI 1)) ∧ M9 = M) 2 12 := by
  refine CtN.ofV (cc := cL_order) (maxL := 5) (ret := (some .int)) [some (.ref a), some (.int p0), some (.int p1), some (.ref O), none] (by decide) rfl (Nat.le_of_ble_eq_true rfl) rfl (Lc.av (av := [.ref a, .int p0, .int p1, .ref O]) (k := 1) rfl) ?_
  intro σ F hl hr hname hNc
  have F : Fx ω σ cL_order 5 wsL_order RL rmL_order := F
  subst hl
  refine v_aload_n F dL_order_0 rfl rfl ?_
  refine v_iconst (v := nI 0) F dL_order_1 (by decide) ?_
  refine v_aload_n F dL_order_2 rfl rfl ?_
  refine v_iload_n F dL_order_3 rfl ?_
  refine v_iload_n F dL_order_4 rfl ?_
  refine v_callVC F 2 [_, _] rfl rfl rfl (hM) gL_order_X4_order rfl hd_X4_order ⟨⟨rfl, rfl⟩, ⟨(Nat.le_of_ble_eq_true rfl), (Nat.le_of_ble_eq_true rfl)⟩, ⟨(Nat.le_of_ble_eq_true rfl), (Nat.le_of_ble_eq_true rfl)⟩, (Nat.le_of_ble_eq_true rfl)⟩ hx rfl dL_order_5 (fun E hE => ⟨13, by subst hE; exact CatchOk.c1 F hname (by decide) (by decide) (by decide +kernel) (by decide +kernel), fun q9 => ?_⟩) (fun v9 M9 hq => hq.elim)
  refine v_astore F dL_order_13 rfl (Nat.le_of_ble_eq_true rfl) (ok2_d rfl) ?_
  refine v_iconst (v := nI 1) F dL_order_15 (by decide) ?_
  exact v_iret F hr dL_order_16 (Nat.le_of_ble_eq_true rfl) (Nat.le_of_ble_eq_true rfl) ⟨rfl, rfl⟩
def rmL_orderAnew : Room := { frames := 8, cells := 2, slots := 12, locals := 134 }
theorem hd_L_orderAnew : yL_orderAnew.cls ≠ "java/lang/invoke/MethodHandle" ∧ yL_orderAnew.cls ≠ "java/lang/invoke/VarHandle" ∧ (parseMethodDescriptor yL_orderAnew.desc).map (fun d => d.parameters.length) = some 4 := by decide +kernel
set_option maxHeartbeats 4000000 in
set_option maxRecDepth 100000 in
theorem h_orderAnew_ok {l : Launch} {ω : Om} {M : MM} {a O : Nat} {fs : List Value} (hx : M a = some (.inr (4, fs))) {p0 p1 : Int32} {g : Nat → Int64} {PQ0 : Option Value → MM → Prop} (hM : Ct l ω yX4_orderAnew wsX4_orderAnew rmX4_orderAnew [.ref a, .int p0, .int p1] M PQ0 2 12) (hpq : ∀ v M9, PQ0 v M9 → ∃ x : Int32, v = some (.int x) ∧ M9 O = some (.inl (ω.2.2 2, 1, .inr (.inl g)))) : CtN l ω yL_orderAnew wsL_orderAnew rmL_orderAnew [.ref a, .int p0, .int p1, .ref O] M (fun v M9 => ∃ (x : Int32) (M8 : MM) (g8 : Nat → Int64), PQ0 (some (.int x)) M8 ∧ v = some (.int (nI 0)) ∧ g8 0 = x.toInt64 ∧ M9 = mup M8 O (.inl (ω.2.2 2, 1, .inr (.inl g8)))) 2 12 := by
  refine CtN.ofV (cc := cL_orderAnew) (maxL := 5) (ret := (some .int)) [some (.ref a), some (.int p0), some (.int p1), some (.ref O), none] (by decide) rfl (Nat.le_of_ble_eq_true rfl) rfl (Lc.av (av := [.ref a, .int p0, .int p1, .ref O]) (k := 1) rfl) ?_
  intro σ F hl hr hname hNc
  have F : Fx ω σ cL_orderAnew 5 wsL_orderAnew RL rmL_orderAnew := F
  subst hl
  refine v_aload_n F dL_orderAnew_0 rfl rfl ?_
  refine v_iconst (v := nI 0) F dL_orderAnew_1 (by decide) ?_
  refine v_aload_n F dL_orderAnew_2 rfl rfl ?_
  refine v_iload_n F dL_orderAnew_3 rfl ?_
  refine v_iload_n F dL_orderAnew_4 rfl ?_
  refine v_callV F 2 [_, _] rfl rfl rfl (hM) gL_orderAnew_X4_orderAnew rfl hd_X4_orderAnew ⟨⟨rfl, rfl⟩, ⟨(Nat.le_of_ble_eq_true rfl), (Nat.le_of_ble_eq_true rfl)⟩, ⟨(Nat.le_of_ble_eq_true rfl), (Nat.le_of_ble_eq_true rfl)⟩, (Nat.le_of_ble_eq_true rfl)⟩ hx rfl dL_orderAnew_5 (fun v5 M5 q5 => ?_)
  obtain ⟨x, rfl, hO⟩ := hpq _ _ q5
  have q52 := q5
  refine v_i2l F dL_orderAnew_8 ?_
  refine v_last F dL_orderAnew_9 hO (vp_in_nI (by decide) (by decide)) ?_
  refine v_goto F 17 dL_orderAnew_10 (by decide) ?_
  refine v_iconst (v := nI 0) F dL_orderAnew_17 (by decide) ?_
  exact v_iret F hr dL_orderAnew_18 (Nat.le_of_ble_eq_true rfl) (Nat.le_of_ble_eq_true rfl) ⟨x, M5, _, q52, rfl, by first | rfl | (rw [if_pos (by assumption)]; rfl) | (rw [if_neg (by simp [*])]; rfl) | (simp [*]; rfl), rfl⟩
set_option maxHeartbeats 4000000 in
set_option maxRecDepth 100000 in
theorem h_orderAnew_x1 {l : Launch} {ω : Om} {M : MM} {a O : Nat} {fs : List Value} (hx : M a = some (.inr (4, fs))) {p0 p1 : Int32} (hM : CtX l ω yX4_orderAnew wsX4_orderAnew rmX4_orderAnew [.ref a, .int p0, .int p1] M (fun v M9 => False) (fun E => E = "java/lang/IndexOutOfBoundsException") 2 12) : CtN l ω yL_orderAnew wsL_orderAnew rmL_orderAnew [.ref a, .int p0, .int p1, .ref O] M (fun v M9 => v = some (.int (nI 1)) ∧ M9 = M) 2 12 := by
  refine CtN.ofV (cc := cL_orderAnew) (maxL := 5) (ret := (some .int)) [some (.ref a), some (.int p0), some (.int p1), some (.ref O), none] (by decide) rfl (Nat.le_of_ble_eq_true rfl) rfl (Lc.av (av := [.ref a, .int p0, .int p1, .ref O]) (k := 1) rfl) ?_
  intro σ F hl hr hname hNc
  have F : Fx ω σ cL_orderAnew 5 wsL_orderAnew RL rmL_orderAnew := F
  subst hl
  refine v_aload_n F dL_orderAnew_0 rfl rfl ?_
  refine v_iconst (v := nI 0) F dL_orderAnew_1 (by decide) ?_
  refine v_aload_n F dL_orderAnew_2 rfl rfl ?_
  refine v_iload_n F dL_orderAnew_3 rfl ?_
  refine v_iload_n F dL_orderAnew_4 rfl ?_
  refine v_callVC F 2 [_, _] rfl rfl rfl (hM) gL_orderAnew_X4_orderAnew rfl hd_X4_orderAnew ⟨⟨rfl, rfl⟩, ⟨(Nat.le_of_ble_eq_true rfl), (Nat.le_of_ble_eq_true rfl)⟩, ⟨(Nat.le_of_ble_eq_true rfl), (Nat.le_of_ble_eq_true rfl)⟩, (Nat.le_of_ble_eq_true rfl)⟩ hx rfl dL_orderAnew_5 (fun E hE => ⟨13, by subst hE; exact CatchOk.c1 F hname (by decide) (by decide) (by decide +kernel) (by decide +kernel), fun q9 => ?_⟩) (fun v9 M9 hq => hq.elim)
  refine v_astore F dL_orderAnew_13 rfl (Nat.le_of_ble_eq_true rfl) (ok2_d rfl) ?_
  refine v_iconst (v := nI 1) F dL_orderAnew_15 (by decide) ?_
  exact v_iret F hr dL_orderAnew_16 (Nat.le_of_ble_eq_true rfl) (Nat.le_of_ble_eq_true rfl) ⟨rfl, rfl⟩
def rmL_placeOf : Room := { frames := 8, cells := 2, slots := 12, locals := 134 }
theorem hd_L_placeOf : yL_placeOf.cls ≠ "java/lang/invoke/MethodHandle" ∧ yL_placeOf.cls ≠ "java/lang/invoke/VarHandle" ∧ (parseMethodDescriptor yL_placeOf.desc).map (fun d => d.parameters.length) = some 3 := by decide +kernel
set_option maxHeartbeats 4000000 in
set_option maxRecDepth 100000 in
theorem h_placeOf_ok {l : Launch} {ω : Om} {M : MM} {a O : Nat} {fs : List Value} (hx : M a = some (.inr (4, fs))) {p0 : Int32} {g : Nat → Int64} {PQ0 : Option Value → MM → Prop} (hM : Ct l ω yX4_placeOf wsX4_placeOf rmX4_placeOf [.ref a, .int p0] M PQ0 2 12) (hpq : ∀ v M9, PQ0 v M9 → ∃ x : Int32, v = some (.int x) ∧ M9 O = some (.inl (ω.2.2 2, 1, .inr (.inl g)))) : CtN l ω yL_placeOf wsL_placeOf rmL_placeOf [.ref a, .int p0, .ref O] M (fun v M9 => ∃ (x : Int32) (M8 : MM) (g8 : Nat → Int64), PQ0 (some (.int x)) M8 ∧ v = some (.int (nI 0)) ∧ g8 0 = x.toInt64 ∧ M9 = mup M8 O (.inl (ω.2.2 2, 1, .inr (.inl g8)))) 2 12 := by
  refine CtN.ofV (cc := cL_placeOf) (maxL := 4) (ret := (some .int)) [some (.ref a), some (.int p0), some (.ref O), none] (by decide) rfl (Nat.le_of_ble_eq_true rfl) rfl (Lc.av (av := [.ref a, .int p0, .ref O]) (k := 1) rfl) ?_
  intro σ F hl hr hname hNc
  have F : Fx ω σ cL_placeOf 4 wsL_placeOf RL rmL_placeOf := F
  subst hl
  refine v_aload_n F dL_placeOf_0 rfl rfl ?_
  refine v_iconst (v := nI 0) F dL_placeOf_1 (by decide) ?_
  refine v_aload_n F dL_placeOf_2 rfl rfl ?_
  refine v_iload_n F dL_placeOf_3 rfl ?_
  refine v_callV F 1 [_] rfl rfl rfl (hM) gL_placeOf_X4_placeOf rfl hd_X4_placeOf ⟨⟨rfl, rfl⟩, ⟨(Nat.le_of_ble_eq_true rfl), (Nat.le_of_ble_eq_true rfl)⟩, ⟨(Nat.le_of_ble_eq_true rfl), (Nat.le_of_ble_eq_true rfl)⟩, (Nat.le_of_ble_eq_true rfl)⟩ hx rfl dL_placeOf_4 (fun v4 M4 q4 => ?_)
  obtain ⟨x, rfl, hO⟩ := hpq _ _ q4
  have q42 := q4
  refine v_i2l F dL_placeOf_7 ?_
  refine v_last F dL_placeOf_8 hO (vp_in_nI (by decide) (by decide)) ?_
  refine v_goto F 15 dL_placeOf_9 (by decide) ?_
  refine v_iconst (v := nI 0) F dL_placeOf_15 (by decide) ?_
  exact v_iret F hr dL_placeOf_16 (Nat.le_of_ble_eq_true rfl) (Nat.le_of_ble_eq_true rfl) ⟨x, M4, _, q42, rfl, by first | rfl | (rw [if_pos (by assumption)]; rfl) | (rw [if_neg (by simp [*])]; rfl) | (simp [*]; rfl), rfl⟩
set_option maxHeartbeats 4000000 in
set_option maxRecDepth 100000 in
theorem h_placeOf_x1 {l : Launch} {ω : Om} {M : MM} {a O : Nat} {fs : List Value} (hx : M a = some (.inr (4, fs))) {p0 : Int32} (hM : CtX l ω yX4_placeOf wsX4_placeOf rmX4_placeOf [.ref a, .int p0] M (fun v M9 => False) (fun E => E = "java/lang/IndexOutOfBoundsException") 2 12) : CtN l ω yL_placeOf wsL_placeOf rmL_placeOf [.ref a, .int p0, .ref O] M (fun v M9 => v = some (.int (nI 1)) ∧ M9 = M) 2 12 := by
  refine CtN.ofV (cc := cL_placeOf) (maxL := 4) (ret := (some .int)) [some (.ref a), some (.int p0), some (.ref O), none] (by decide) rfl (Nat.le_of_ble_eq_true rfl) rfl (Lc.av (av := [.ref a, .int p0, .ref O]) (k := 1) rfl) ?_
  intro σ F hl hr hname hNc
  have F : Fx ω σ cL_placeOf 4 wsL_placeOf RL rmL_placeOf := F
  subst hl
  refine v_aload_n F dL_placeOf_0 rfl rfl ?_
  refine v_iconst (v := nI 0) F dL_placeOf_1 (by decide) ?_
  refine v_aload_n F dL_placeOf_2 rfl rfl ?_
  refine v_iload_n F dL_placeOf_3 rfl ?_
  refine v_callVC F 1 [_] rfl rfl rfl (hM) gL_placeOf_X4_placeOf rfl hd_X4_placeOf ⟨⟨rfl, rfl⟩, ⟨(Nat.le_of_ble_eq_true rfl), (Nat.le_of_ble_eq_true rfl)⟩, ⟨(Nat.le_of_ble_eq_true rfl), (Nat.le_of_ble_eq_true rfl)⟩, (Nat.le_of_ble_eq_true rfl)⟩ hx rfl dL_placeOf_4 (fun E hE => ⟨12, by subst hE; exact CatchOk.c1 F hname (by decide) (by decide) (by decide +kernel) (by decide +kernel), fun q9 => ?_⟩) (fun v9 M9 hq => hq.elim)
  refine v_astore_n F dL_placeOf_12 rfl (Nat.le_of_ble_eq_true rfl) (ok2_d rfl) ?_
  refine v_iconst (v := nI 1) F dL_placeOf_13 (by decide) ?_
  exact v_iret F hr dL_placeOf_14 (Nat.le_of_ble_eq_true rfl) (Nat.le_of_ble_eq_true rfl) ⟨rfl, rfl⟩
def rmL_boxes : Room := { frames := 8, cells := 1, slots := 6, locals := 133 }
theorem hd_L_boxes : yL_boxes.cls ≠ "java/lang/invoke/MethodHandle" ∧ yL_boxes.cls ≠ "java/lang/invoke/VarHandle" ∧ (parseMethodDescriptor yL_boxes.desc).map (fun d => d.parameters.length) = some 3 := by decide +kernel
set_option maxHeartbeats 4000000 in
set_option maxRecDepth 100000 in
theorem h_boxes_ok {l : Launch} {ω : Om} {M : MM} {a O : Nat} {fs : List Value} (hx : M a = some (.inr (4, fs))) {p0 : Int32} {g : Nat → Int64} {PQ0 : Option Value → MM → Prop} (hM : Ct l ω yX4_boxes wsX4_boxes rmX4_boxes [.ref a, .int p0] M PQ0 1 6) (hpq : ∀ v M9, PQ0 v M9 → ∃ x : Int32, v = some (.int x) ∧ M9 O = some (.inl (ω.2.2 2, 1, .inr (.inl g)))) : CtN l ω yL_boxes wsL_boxes rmL_boxes [.ref a, .int p0, .ref O] M (fun v M9 => ∃ (x : Int32) (M8 : MM) (g8 : Nat → Int64), PQ0 (some (.int x)) M8 ∧ v = some (.int (nI 0)) ∧ g8 0 = x.toInt64 ∧ M9 = mup M8 O (.inl (ω.2.2 2, 1, .inr (.inl g8)))) 1 6 := by
  refine CtN.ofV (cc := cL_boxes) (maxL := 4) (ret := (some .int)) [some (.ref a), some (.int p0), some (.ref O), none] (by decide) rfl (Nat.le_of_ble_eq_true rfl) rfl (Lc.av (av := [.ref a, .int p0, .ref O]) (k := 1) rfl) ?_
  intro σ F hl hr hname hNc
  have F : Fx ω σ cL_boxes 4 wsL_boxes RL rmL_boxes := F
  subst hl
  refine v_aload_n F dL_boxes_0 rfl rfl ?_
  refine v_iconst (v := nI 0) F dL_boxes_1 (by decide) ?_
  refine v_aload_n F dL_boxes_2 rfl rfl ?_
  refine v_iload_n F dL_boxes_3 rfl ?_
  refine v_callV F 1 [_] rfl rfl rfl (hM) gL_boxes_X4_boxes rfl hd_X4_boxes ⟨⟨rfl, rfl⟩, ⟨(Nat.le_of_ble_eq_true rfl), (Nat.le_of_ble_eq_true rfl)⟩, ⟨(Nat.le_of_ble_eq_true rfl), (Nat.le_of_ble_eq_true rfl)⟩, (Nat.le_of_ble_eq_true rfl)⟩ hx rfl dL_boxes_4 (fun v4 M4 q4 => ?_)
  obtain ⟨x, rfl, hO⟩ := hpq _ _ q4
  have q42 := q4
  refine v_i2l F dL_boxes_7 ?_
  refine v_last F dL_boxes_8 hO (vp_in_nI (by decide) (by decide)) ?_
  refine v_goto F 15 dL_boxes_9 (by decide) ?_
  refine v_iconst (v := nI 0) F dL_boxes_15 (by decide) ?_
  exact v_iret F hr dL_boxes_16 (Nat.le_of_ble_eq_true rfl) (Nat.le_of_ble_eq_true rfl) ⟨x, M4, _, q42, rfl, by first | rfl | (rw [if_pos (by assumption)]; rfl) | (rw [if_neg (by simp [*])]; rfl) | (simp [*]; rfl), rfl⟩
set_option maxHeartbeats 4000000 in
set_option maxRecDepth 100000 in
theorem h_boxes_x1 {l : Launch} {ω : Om} {M : MM} {a O : Nat} {fs : List Value} (hx : M a = some (.inr (4, fs))) {p0 : Int32} (hM : CtX l ω yX4_boxes wsX4_boxes rmX4_boxes [.ref a, .int p0] M (fun v M9 => False) (fun E => E = "java/lang/IndexOutOfBoundsException") 1 6) : CtN l ω yL_boxes wsL_boxes rmL_boxes [.ref a, .int p0, .ref O] M (fun v M9 => v = some (.int (nI 1)) ∧ M9 = M) 1 6 := by
  refine CtN.ofV (cc := cL_boxes) (maxL := 4) (ret := (some .int)) [some (.ref a), some (.int p0), some (.ref O), none] (by decide) rfl (Nat.le_of_ble_eq_true rfl) rfl (Lc.av (av := [.ref a, .int p0, .ref O]) (k := 1) rfl) ?_
  intro σ F hl hr hname hNc
  have F : Fx ω σ cL_boxes 4 wsL_boxes RL rmL_boxes := F
  subst hl
  refine v_aload_n F dL_boxes_0 rfl rfl ?_
  refine v_iconst (v := nI 0) F dL_boxes_1 (by decide) ?_
  refine v_aload_n F dL_boxes_2 rfl rfl ?_
  refine v_iload_n F dL_boxes_3 rfl ?_
  refine v_callVC F 1 [_] rfl rfl rfl (hM) gL_boxes_X4_boxes rfl hd_X4_boxes ⟨⟨rfl, rfl⟩, ⟨(Nat.le_of_ble_eq_true rfl), (Nat.le_of_ble_eq_true rfl)⟩, ⟨(Nat.le_of_ble_eq_true rfl), (Nat.le_of_ble_eq_true rfl)⟩, (Nat.le_of_ble_eq_true rfl)⟩ hx rfl dL_boxes_4 (fun E hE => ⟨12, by subst hE; exact CatchOk.c1 F hname (by decide) (by decide) (by decide +kernel) (by decide +kernel), fun q9 => ?_⟩) (fun v9 M9 hq => hq.elim)
  refine v_astore_n F dL_boxes_12 rfl (Nat.le_of_ble_eq_true rfl) (ok2_d rfl) ?_
  refine v_iconst (v := nI 1) F dL_boxes_13 (by decide) ?_
  exact v_iret F hr dL_boxes_14 (Nat.le_of_ble_eq_true rfl) (Nat.le_of_ble_eq_true rfl) ⟨rfl, rfl⟩
def rmL_about : Room := { frames := 7, cells := 1, slots := 6, locals := 113 }
theorem hd_L_about : yL_about.cls ≠ "java/lang/invoke/MethodHandle" ∧ yL_about.cls ≠ "java/lang/invoke/VarHandle" ∧ (parseMethodDescriptor yL_about.desc).map (fun d => d.parameters.length) = some 4 := by decide +kernel
set_option maxHeartbeats 4000000 in
set_option maxRecDepth 100000 in
theorem h_about_ok {l : Launch} {ω : Om} {M : MM} {a O : Nat} {fs : List Value} (hx : M a = some (.inr (4, fs))) {p0 p1 : Int32} {g : Nat → Int64} {PQ0 : Option Value → MM → Prop} (hM : Ct l ω yX4_about wsX4_about rmX4_about [.ref a, .int p0, .int p1] M PQ0 1 6) (hpq : ∀ v M9, PQ0 v M9 → ∃ x : Int32, v = some (.int x) ∧ M9 O = some (.inl (ω.2.2 2, 1, .inr (.inl g)))) : CtN l ω yL_about wsL_about rmL_about [.ref a, .int p0, .int p1, .ref O] M (fun v M9 => ∃ (x : Int32) (M8 : MM) (g8 : Nat → Int64), PQ0 (some (.int x)) M8 ∧ v = some (.int (nI 0)) ∧ g8 0 = x.toInt64 ∧ M9 = mup M8 O (.inl (ω.2.2 2, 1, .inr (.inl g8)))) 1 6 := by
  refine CtN.ofV (cc := cL_about) (maxL := 5) (ret := (some .int)) [some (.ref a), some (.int p0), some (.int p1), some (.ref O), none] (by decide) rfl (Nat.le_of_ble_eq_true rfl) rfl (Lc.av (av := [.ref a, .int p0, .int p1, .ref O]) (k := 1) rfl) ?_
  intro σ F hl hr hname hNc
  have F : Fx ω σ cL_about 5 wsL_about RL rmL_about := F
  subst hl
  refine v_aload_n F dL_about_0 rfl rfl ?_
  refine v_iconst (v := nI 0) F dL_about_1 (by decide) ?_
  refine v_aload_n F dL_about_2 rfl rfl ?_
  refine v_iload_n F dL_about_3 rfl ?_
  refine v_iload_n F dL_about_4 rfl ?_
  refine v_callV F 2 [_, _] rfl rfl rfl (hM) gL_about_X4_about rfl hd_X4_about ⟨⟨rfl, rfl⟩, ⟨(Nat.le_of_ble_eq_true rfl), (Nat.le_of_ble_eq_true rfl)⟩, ⟨(Nat.le_of_ble_eq_true rfl), (Nat.le_of_ble_eq_true rfl)⟩, (Nat.le_of_ble_eq_true rfl)⟩ hx rfl dL_about_5 (fun v5 M5 q5 => ?_)
  obtain ⟨x, rfl, hO⟩ := hpq _ _ q5
  have q52 := q5
  refine v_i2l F dL_about_8 ?_
  refine v_last F dL_about_9 hO (vp_in_nI (by decide) (by decide)) ?_
  refine v_goto F 21 dL_about_10 (by decide) ?_
  refine v_iconst (v := nI 0) F dL_about_21 (by decide) ?_
  exact v_iret F hr dL_about_22 (Nat.le_of_ble_eq_true rfl) (Nat.le_of_ble_eq_true rfl) ⟨x, M5, _, q52, rfl, by first | rfl | (rw [if_pos (by assumption)]; rfl) | (rw [if_neg (by simp [*])]; rfl) | (simp [*]; rfl), rfl⟩
set_option maxHeartbeats 4000000 in
set_option maxRecDepth 100000 in
theorem h_about_x1 {l : Launch} {ω : Om} {M : MM} {a O : Nat} {fs : List Value} (hx : M a = some (.inr (4, fs))) {p0 p1 : Int32} (hM : CtX l ω yX4_about wsX4_about rmX4_about [.ref a, .int p0, .int p1] M (fun v M9 => False) (fun E => E = "java/lang/IndexOutOfBoundsException") 1 6) : CtN l ω yL_about wsL_about rmL_about [.ref a, .int p0, .int p1, .ref O] M (fun v M9 => v = some (.int (nI 1)) ∧ M9 = M) 1 6 := by
  refine CtN.ofV (cc := cL_about) (maxL := 5) (ret := (some .int)) [some (.ref a), some (.int p0), some (.int p1), some (.ref O), none] (by decide) rfl (Nat.le_of_ble_eq_true rfl) rfl (Lc.av (av := [.ref a, .int p0, .int p1, .ref O]) (k := 1) rfl) ?_
  intro σ F hl hr hname hNc
  have F : Fx ω σ cL_about 5 wsL_about RL rmL_about := F
  subst hl
  refine v_aload_n F dL_about_0 rfl rfl ?_
  refine v_iconst (v := nI 0) F dL_about_1 (by decide) ?_
  refine v_aload_n F dL_about_2 rfl rfl ?_
  refine v_iload_n F dL_about_3 rfl ?_
  refine v_iload_n F dL_about_4 rfl ?_
  refine v_callVC F 2 [_, _] rfl rfl rfl (hM) gL_about_X4_about rfl hd_X4_about ⟨⟨rfl, rfl⟩, ⟨(Nat.le_of_ble_eq_true rfl), (Nat.le_of_ble_eq_true rfl)⟩, ⟨(Nat.le_of_ble_eq_true rfl), (Nat.le_of_ble_eq_true rfl)⟩, (Nat.le_of_ble_eq_true rfl)⟩ hx rfl dL_about_5 (fun E hE => ⟨13, by subst hE; exact CatchOk.c1 F hname (by decide) (by decide) (by decide +kernel) (by decide +kernel), fun q9 => ?_⟩) (fun v9 M9 hq => hq.elim)
  refine v_astore F dL_about_13 rfl (Nat.le_of_ble_eq_true rfl) (ok2_d rfl) ?_
  refine v_iconst (v := nI 1) F dL_about_15 (by decide) ?_
  exact v_iret F hr dL_about_16 (Nat.le_of_ble_eq_true rfl) (Nat.le_of_ble_eq_true rfl) ⟨rfl, rfl⟩
set_option maxHeartbeats 4000000 in
set_option maxRecDepth 100000 in
theorem h_about_x2 {l : Launch} {ω : Om} {M : MM} {a O : Nat} {fs : List Value} (hx : M a = some (.inr (4, fs))) {p0 p1 : Int32} (hM : CtX l ω yX4_about wsX4_about rmX4_about [.ref a, .int p0, .int p1] M (fun v M9 => False) (fun E => E = "java/lang/IllegalArgumentException") 1 6) : CtN l ω yL_about wsL_about rmL_about [.ref a, .int p0, .int p1, .ref O] M (fun v M9 => v = some (.int (nI 2)) ∧ M9 = M) 1 6 := by
  refine CtN.ofV (cc := cL_about) (maxL := 5) (ret := (some .int)) [some (.ref a), some (.int p0), some (.int p1), some (.ref O), none] (by decide) rfl (Nat.le_of_ble_eq_true rfl) rfl (Lc.av (av := [.ref a, .int p0, .int p1, .ref O]) (k := 1) rfl) ?_
  intro σ F hl hr hname hNc
  have F : Fx ω σ cL_about 5 wsL_about RL rmL_about := F
  subst hl
  refine v_aload_n F dL_about_0 rfl rfl ?_
  refine v_iconst (v := nI 0) F dL_about_1 (by decide) ?_
  refine v_aload_n F dL_about_2 rfl rfl ?_
  refine v_iload_n F dL_about_3 rfl ?_
  refine v_iload_n F dL_about_4 rfl ?_
  refine v_callVC F 2 [_, _] rfl rfl rfl (hM) gL_about_X4_about rfl hd_X4_about ⟨⟨rfl, rfl⟩, ⟨(Nat.le_of_ble_eq_true rfl), (Nat.le_of_ble_eq_true rfl)⟩, ⟨(Nat.le_of_ble_eq_true rfl), (Nat.le_of_ble_eq_true rfl)⟩, (Nat.le_of_ble_eq_true rfl)⟩ hx rfl dL_about_5 (fun E hE => ⟨17, by subst hE; exact CatchOk.c2 (nm := "java/lang/IndexOutOfBoundsException") F hname (by decide) (by decide) (by decide) (by decide +kernel) (by decide +kernel) hNc.1 (by decide +kernel), fun q9 => ?_⟩) (fun v9 M9 hq => hq.elim)
  refine v_astore F dL_about_17 rfl (Nat.le_of_ble_eq_true rfl) (ok2_d rfl) ?_
  refine v_iconst (v := nI 2) F dL_about_19 (by decide) ?_
  exact v_iret F hr dL_about_20 (Nat.le_of_ble_eq_true rfl) (Nat.le_of_ble_eq_true rfl) ⟨rfl, rfl⟩
def rmL_way : Room := { frames := 8, cells := 1, slots := 6, locals := 138 }
theorem hd_L_way : yL_way.cls ≠ "java/lang/invoke/MethodHandle" ∧ yL_way.cls ≠ "java/lang/invoke/VarHandle" ∧ (parseMethodDescriptor yL_way.desc).map (fun d => d.parameters.length) = some 3 := by decide +kernel
set_option maxHeartbeats 4000000 in
set_option maxRecDepth 100000 in
theorem h_way_ok {l : Launch} {ω : Om} {M : MM} {a O : Nat} {fs : List Value} (hx : M a = some (.inr (4, fs))) {p0 : Int32} {g : Nat → Int64} {PQ0 : Option Value → MM → Prop} (hM : Ct l ω yX4_way wsX4_way rmX4_way [.ref a, .int p0] M PQ0 1 6) (hpq : ∀ v M9, PQ0 v M9 → ∃ x : Int32, v = some (.int x) ∧ M9 O = some (.inl (ω.2.2 2, 1, .inr (.inl g)))) : CtN l ω yL_way wsL_way rmL_way [.ref a, .int p0, .ref O] M (fun v M9 => ∃ (x : Int32) (M8 : MM) (g8 : Nat → Int64), PQ0 (some (.int x)) M8 ∧ v = some (.int (nI 0)) ∧ g8 0 = x.toInt64 ∧ M9 = mup M8 O (.inl (ω.2.2 2, 1, .inr (.inl g8)))) 1 6 := by
  refine CtN.ofV (cc := cL_way) (maxL := 4) (ret := (some .int)) [some (.ref a), some (.int p0), some (.ref O), none] (by decide) rfl (Nat.le_of_ble_eq_true rfl) rfl (Lc.av (av := [.ref a, .int p0, .ref O]) (k := 1) rfl) ?_
  intro σ F hl hr hname hNc
  have F : Fx ω σ cL_way 4 wsL_way RL rmL_way := F
  subst hl
  refine v_aload_n F dL_way_0 rfl rfl ?_
  refine v_iconst (v := nI 0) F dL_way_1 (by decide) ?_
  refine v_aload_n F dL_way_2 rfl rfl ?_
  refine v_iload_n F dL_way_3 rfl ?_
  refine v_callV F 1 [_] rfl rfl rfl (hM) gL_way_X4_way rfl hd_X4_way ⟨⟨rfl, rfl⟩, ⟨(Nat.le_of_ble_eq_true rfl), (Nat.le_of_ble_eq_true rfl)⟩, ⟨(Nat.le_of_ble_eq_true rfl), (Nat.le_of_ble_eq_true rfl)⟩, (Nat.le_of_ble_eq_true rfl)⟩ hx rfl dL_way_4 (fun v4 M4 q4 => ?_)
  obtain ⟨x, rfl, hO⟩ := hpq _ _ q4
  have q42 := q4
  refine v_i2l F dL_way_7 ?_
  refine v_last F dL_way_8 hO (vp_in_nI (by decide) (by decide)) ?_
  refine v_goto F 15 dL_way_9 (by decide) ?_
  refine v_iconst (v := nI 0) F dL_way_15 (by decide) ?_
  exact v_iret F hr dL_way_16 (Nat.le_of_ble_eq_true rfl) (Nat.le_of_ble_eq_true rfl) ⟨x, M4, _, q42, rfl, by first | rfl | (rw [if_pos (by assumption)]; rfl) | (rw [if_neg (by simp [*])]; rfl) | (simp [*]; rfl), rfl⟩
set_option maxHeartbeats 4000000 in
set_option maxRecDepth 100000 in
theorem h_way_x1 {l : Launch} {ω : Om} {M : MM} {a O : Nat} {fs : List Value} (hx : M a = some (.inr (4, fs))) {p0 : Int32} (hM : CtX l ω yX4_way wsX4_way rmX4_way [.ref a, .int p0] M (fun v M9 => False) (fun E => E = "java/lang/IndexOutOfBoundsException") 1 6) : CtN l ω yL_way wsL_way rmL_way [.ref a, .int p0, .ref O] M (fun v M9 => v = some (.int (nI 1)) ∧ M9 = M) 1 6 := by
  refine CtN.ofV (cc := cL_way) (maxL := 4) (ret := (some .int)) [some (.ref a), some (.int p0), some (.ref O), none] (by decide) rfl (Nat.le_of_ble_eq_true rfl) rfl (Lc.av (av := [.ref a, .int p0, .ref O]) (k := 1) rfl) ?_
  intro σ F hl hr hname hNc
  have F : Fx ω σ cL_way 4 wsL_way RL rmL_way := F
  subst hl
  refine v_aload_n F dL_way_0 rfl rfl ?_
  refine v_iconst (v := nI 0) F dL_way_1 (by decide) ?_
  refine v_aload_n F dL_way_2 rfl rfl ?_
  refine v_iload_n F dL_way_3 rfl ?_
  refine v_callVC F 1 [_] rfl rfl rfl (hM) gL_way_X4_way rfl hd_X4_way ⟨⟨rfl, rfl⟩, ⟨(Nat.le_of_ble_eq_true rfl), (Nat.le_of_ble_eq_true rfl)⟩, ⟨(Nat.le_of_ble_eq_true rfl), (Nat.le_of_ble_eq_true rfl)⟩, (Nat.le_of_ble_eq_true rfl)⟩ hx rfl dL_way_4 (fun E hE => ⟨12, by subst hE; exact CatchOk.c1 F hname (by decide) (by decide) (by decide +kernel) (by decide +kernel), fun q9 => ?_⟩) (fun v9 M9 hq => hq.elim)
  refine v_astore_n F dL_way_12 rfl (Nat.le_of_ble_eq_true rfl) (ok2_d rfl) ?_
  refine v_iconst (v := nI 1) F dL_way_13 (by decide) ?_
  exact v_iret F hr dL_way_14 (Nat.le_of_ble_eq_true rfl) (Nat.le_of_ble_eq_true rfl) ⟨rfl, rfl⟩
def rmL_faults : Room := { frames := 8, cells := 2, slots := 12, locals := 135 }
theorem hd_L_faults : yL_faults.cls ≠ "java/lang/invoke/MethodHandle" ∧ yL_faults.cls ≠ "java/lang/invoke/VarHandle" ∧ (parseMethodDescriptor yL_faults.desc).map (fun d => d.parameters.length) = some 3 := by decide +kernel
set_option maxHeartbeats 4000000 in
set_option maxRecDepth 100000 in
theorem h_faults_ok {l : Launch} {ω : Om} {M : MM} {a O : Nat} {fs : List Value} (hx : M a = some (.inr (4, fs))) {p0 : Int32} {g : Nat → Int64} {PQ0 : Option Value → MM → Prop} (hM : Ct l ω yX4_faults wsX4_faults rmX4_faults [.ref a, .int p0] M PQ0 2 12) (hpq : ∀ v M9, PQ0 v M9 → ∃ x : Int32, v = some (.int x) ∧ M9 O = some (.inl (ω.2.2 2, 1, .inr (.inl g)))) : CtN l ω yL_faults wsL_faults rmL_faults [.ref a, .int p0, .ref O] M (fun v M9 => ∃ (x : Int32) (M8 : MM) (g8 : Nat → Int64), PQ0 (some (.int x)) M8 ∧ v = some (.int (nI 0)) ∧ g8 0 = x.toInt64 ∧ M9 = mup M8 O (.inl (ω.2.2 2, 1, .inr (.inl g8)))) 2 12 := by
  refine CtN.ofV (cc := cL_faults) (maxL := 4) (ret := (some .int)) [some (.ref a), some (.int p0), some (.ref O), none] (by decide) rfl (Nat.le_of_ble_eq_true rfl) rfl (Lc.av (av := [.ref a, .int p0, .ref O]) (k := 1) rfl) ?_
  intro σ F hl hr hname hNc
  have F : Fx ω σ cL_faults 4 wsL_faults RL rmL_faults := F
  subst hl
  refine v_aload_n F dL_faults_0 rfl rfl ?_
  refine v_iconst (v := nI 0) F dL_faults_1 (by decide) ?_
  refine v_aload_n F dL_faults_2 rfl rfl ?_
  refine v_iload_n F dL_faults_3 rfl ?_
  refine v_callV F 1 [_] rfl rfl rfl (hM) gL_faults_X4_faults rfl hd_X4_faults ⟨⟨rfl, rfl⟩, ⟨(Nat.le_of_ble_eq_true rfl), (Nat.le_of_ble_eq_true rfl)⟩, ⟨(Nat.le_of_ble_eq_true rfl), (Nat.le_of_ble_eq_true rfl)⟩, (Nat.le_of_ble_eq_true rfl)⟩ hx rfl dL_faults_4 (fun v4 M4 q4 => ?_)
  obtain ⟨x, rfl, hO⟩ := hpq _ _ q4
  have q42 := q4
  refine v_i2l F dL_faults_7 ?_
  refine v_last F dL_faults_8 hO (vp_in_nI (by decide) (by decide)) ?_
  refine v_goto F 15 dL_faults_9 (by decide) ?_
  refine v_iconst (v := nI 0) F dL_faults_15 (by decide) ?_
  exact v_iret F hr dL_faults_16 (Nat.le_of_ble_eq_true rfl) (Nat.le_of_ble_eq_true rfl) ⟨x, M4, _, q42, rfl, by first | rfl | (rw [if_pos (by assumption)]; rfl) | (rw [if_neg (by simp [*])]; rfl) | (simp [*]; rfl), rfl⟩
set_option maxHeartbeats 4000000 in
set_option maxRecDepth 100000 in
theorem h_faults_x1 {l : Launch} {ω : Om} {M : MM} {a O : Nat} {fs : List Value} (hx : M a = some (.inr (4, fs))) {p0 : Int32} (hM : CtX l ω yX4_faults wsX4_faults rmX4_faults [.ref a, .int p0] M (fun v M9 => False) (fun E => E = "java/lang/IndexOutOfBoundsException") 2 12) : CtN l ω yL_faults wsL_faults rmL_faults [.ref a, .int p0, .ref O] M (fun v M9 => v = some (.int (nI 1)) ∧ M9 = M) 2 12 := by
  refine CtN.ofV (cc := cL_faults) (maxL := 4) (ret := (some .int)) [some (.ref a), some (.int p0), some (.ref O), none] (by decide) rfl (Nat.le_of_ble_eq_true rfl) rfl (Lc.av (av := [.ref a, .int p0, .ref O]) (k := 1) rfl) ?_
  intro σ F hl hr hname hNc
  have F : Fx ω σ cL_faults 4 wsL_faults RL rmL_faults := F
  subst hl
  refine v_aload_n F dL_faults_0 rfl rfl ?_
  refine v_iconst (v := nI 0) F dL_faults_1 (by decide) ?_
  refine v_aload_n F dL_faults_2 rfl rfl ?_
  refine v_iload_n F dL_faults_3 rfl ?_
  refine v_callVC F 1 [_] rfl rfl rfl (hM) gL_faults_X4_faults rfl hd_X4_faults ⟨⟨rfl, rfl⟩, ⟨(Nat.le_of_ble_eq_true rfl), (Nat.le_of_ble_eq_true rfl)⟩, ⟨(Nat.le_of_ble_eq_true rfl), (Nat.le_of_ble_eq_true rfl)⟩, (Nat.le_of_ble_eq_true rfl)⟩ hx rfl dL_faults_4 (fun E hE => ⟨12, by subst hE; exact CatchOk.c1 F hname (by decide) (by decide) (by decide +kernel) (by decide +kernel), fun q9 => ?_⟩) (fun v9 M9 hq => hq.elim)
  refine v_astore_n F dL_faults_12 rfl (Nat.le_of_ble_eq_true rfl) (ok2_d rfl) ?_
  refine v_iconst (v := nI 1) F dL_faults_13 (by decide) ?_
  exact v_iret F hr dL_faults_14 (Nat.le_of_ble_eq_true rfl) (Nat.le_of_ble_eq_true rfl) ⟨rfl, rfl⟩
def rmL_faulty : Room := { frames := 8, cells := 1, slots := 6, locals := 136 }
theorem hd_L_faulty : yL_faulty.cls ≠ "java/lang/invoke/MethodHandle" ∧ yL_faulty.cls ≠ "java/lang/invoke/VarHandle" ∧ (parseMethodDescriptor yL_faulty.desc).map (fun d => d.parameters.length) = some 3 := by decide +kernel
set_option maxHeartbeats 4000000 in
set_option maxRecDepth 100000 in
theorem h_faulty_ok {l : Launch} {ω : Om} {M : MM} {a O : Nat} {fs : List Value} (hx : M a = some (.inr (4, fs))) {p0 : Int32} {g : Nat → Int64} {PQ0 : Option Value → MM → Prop} (hM : Ct l ω yX4_faulty wsX4_faulty rmX4_faulty [.ref a, .int p0] M PQ0 1 6) (hpq : ∀ v M9, PQ0 v M9 → ∃ x : Int32, v = some (.int x) ∧ M9 O = some (.inl (ω.2.2 2, 1, .inr (.inl g)))) : CtN l ω yL_faulty wsL_faulty rmL_faulty [.ref a, .int p0, .ref O] M (fun v M9 => ∃ (x : Int32) (M8 : MM) (g8 : Nat → Int64), PQ0 (some (.int x)) M8 ∧ v = some (.int (nI 0)) ∧ g8 0 = x.toInt64 ∧ M9 = mup M8 O (.inl (ω.2.2 2, 1, .inr (.inl g8)))) 1 6 := by
  refine CtN.ofV (cc := cL_faulty) (maxL := 4) (ret := (some .int)) [some (.ref a), some (.int p0), some (.ref O), none] (by decide) rfl (Nat.le_of_ble_eq_true rfl) rfl (Lc.av (av := [.ref a, .int p0, .ref O]) (k := 1) rfl) ?_
  intro σ F hl hr hname hNc
  have F : Fx ω σ cL_faulty 4 wsL_faulty RL rmL_faulty := F
  subst hl
  refine v_aload_n F dL_faulty_0 rfl rfl ?_
  refine v_iconst (v := nI 0) F dL_faulty_1 (by decide) ?_
  refine v_aload_n F dL_faulty_2 rfl rfl ?_
  refine v_iload_n F dL_faulty_3 rfl ?_
  refine v_callV F 1 [_] rfl rfl rfl (hM) gL_faulty_X4_faulty rfl hd_X4_faulty ⟨⟨rfl, rfl⟩, ⟨(Nat.le_of_ble_eq_true rfl), (Nat.le_of_ble_eq_true rfl)⟩, ⟨(Nat.le_of_ble_eq_true rfl), (Nat.le_of_ble_eq_true rfl)⟩, (Nat.le_of_ble_eq_true rfl)⟩ hx rfl dL_faulty_4 (fun v4 M4 q4 => ?_)
  obtain ⟨x, rfl, hO⟩ := hpq _ _ q4
  have q42 := q4
  refine v_i2l F dL_faulty_7 ?_
  refine v_last F dL_faulty_8 hO (vp_in_nI (by decide) (by decide)) ?_
  refine v_goto F 15 dL_faulty_9 (by decide) ?_
  refine v_iconst (v := nI 0) F dL_faulty_15 (by decide) ?_
  exact v_iret F hr dL_faulty_16 (Nat.le_of_ble_eq_true rfl) (Nat.le_of_ble_eq_true rfl) ⟨x, M4, _, q42, rfl, by first | rfl | (rw [if_pos (by assumption)]; rfl) | (rw [if_neg (by simp [*])]; rfl) | (simp [*]; rfl), rfl⟩
set_option maxHeartbeats 4000000 in
set_option maxRecDepth 100000 in
theorem h_faulty_x1 {l : Launch} {ω : Om} {M : MM} {a O : Nat} {fs : List Value} (hx : M a = some (.inr (4, fs))) {p0 : Int32} (hM : CtX l ω yX4_faulty wsX4_faulty rmX4_faulty [.ref a, .int p0] M (fun v M9 => False) (fun E => E = "java/lang/IndexOutOfBoundsException") 1 6) : CtN l ω yL_faulty wsL_faulty rmL_faulty [.ref a, .int p0, .ref O] M (fun v M9 => v = some (.int (nI 1)) ∧ M9 = M) 1 6 := by
  refine CtN.ofV (cc := cL_faulty) (maxL := 4) (ret := (some .int)) [some (.ref a), some (.int p0), some (.ref O), none] (by decide) rfl (Nat.le_of_ble_eq_true rfl) rfl (Lc.av (av := [.ref a, .int p0, .ref O]) (k := 1) rfl) ?_
  intro σ F hl hr hname hNc
  have F : Fx ω σ cL_faulty 4 wsL_faulty RL rmL_faulty := F
  subst hl
  refine v_aload_n F dL_faulty_0 rfl rfl ?_
  refine v_iconst (v := nI 0) F dL_faulty_1 (by decide) ?_
  refine v_aload_n F dL_faulty_2 rfl rfl ?_
  refine v_iload_n F dL_faulty_3 rfl ?_
  refine v_callVC F 1 [_] rfl rfl rfl (hM) gL_faulty_X4_faulty rfl hd_X4_faulty ⟨⟨rfl, rfl⟩, ⟨(Nat.le_of_ble_eq_true rfl), (Nat.le_of_ble_eq_true rfl)⟩, ⟨(Nat.le_of_ble_eq_true rfl), (Nat.le_of_ble_eq_true rfl)⟩, (Nat.le_of_ble_eq_true rfl)⟩ hx rfl dL_faulty_4 (fun E hE => ⟨12, by subst hE; exact CatchOk.c1 F hname (by decide) (by decide) (by decide +kernel) (by decide +kernel), fun q9 => ?_⟩) (fun v9 M9 hq => hq.elim)
  refine v_astore_n F dL_faulty_12 rfl (Nat.le_of_ble_eq_true rfl) (ok2_d rfl) ?_
  refine v_iconst (v := nI 1) F dL_faulty_13 (by decide) ?_
  exact v_iret F hr dL_faulty_14 (Nat.le_of_ble_eq_true rfl) (Nat.le_of_ble_eq_true rfl) ⟨rfl, rfl⟩
def rmL_approve : Room := { frames := 8, cells := 3, slots := 15, locals := 136 }
theorem hd_L_approve : yL_approve.cls ≠ "java/lang/invoke/MethodHandle" ∧ yL_approve.cls ≠ "java/lang/invoke/VarHandle" ∧ (parseMethodDescriptor yL_approve.desc).map (fun d => d.parameters.length) = some 4 := by decide +kernel
set_option maxHeartbeats 4000000 in
set_option maxRecDepth 100000 in
theorem h_approve_ok {l : Launch} {ω : Om} {M : MM} {a O : Nat} {fs : List Value} (hx : M a = some (.inr (4, fs))) {p0 p1 : Int32} {g : Nat → Int64} {PQ0 : Option Value → MM → Prop} (hM : Ct l ω yX4_approve wsX4_approve rmX4_approve [.ref a, .int p0, .int p1] M PQ0 3 15) (hpq : ∀ v M9, PQ0 v M9 → ∃ x : Int32, v = some (.int x) ∧ M9 O = some (.inl (ω.2.2 2, 1, .inr (.inl g)))) : CtN l ω yL_approve wsL_approve rmL_approve [.ref a, .int p0, .int p1, .ref O] M (fun v M9 => ∃ (x : Int32) (M8 : MM) (g8 : Nat → Int64), PQ0 (some (.int x)) M8 ∧ v = some (.int (nI 0)) ∧ g8 0 = x.toInt64 ∧ M9 = mup M8 O (.inl (ω.2.2 2, 1, .inr (.inl g8)))) 3 15 := by
  refine CtN.ofV (cc := cL_approve) (maxL := 5) (ret := (some .int)) [some (.ref a), some (.int p0), some (.int p1), some (.ref O), none] (by decide) rfl (Nat.le_of_ble_eq_true rfl) rfl (Lc.av (av := [.ref a, .int p0, .int p1, .ref O]) (k := 1) rfl) ?_
  intro σ F hl hr hname hNc
  have F : Fx ω σ cL_approve 5 wsL_approve RL rmL_approve := F
  subst hl
  refine v_aload_n F dL_approve_0 rfl rfl ?_
  refine v_iconst (v := nI 0) F dL_approve_1 (by decide) ?_
  refine v_aload_n F dL_approve_2 rfl rfl ?_
  refine v_iload_n F dL_approve_3 rfl ?_
  refine v_iload_n F dL_approve_4 rfl ?_
  refine v_callV F 2 [_, _] rfl rfl rfl (hM) gL_approve_X4_approve rfl hd_X4_approve ⟨⟨rfl, rfl⟩, ⟨(Nat.le_of_ble_eq_true rfl), (Nat.le_of_ble_eq_true rfl)⟩, ⟨(Nat.le_of_ble_eq_true rfl), (Nat.le_of_ble_eq_true rfl)⟩, (Nat.le_of_ble_eq_true rfl)⟩ hx rfl dL_approve_5 (fun v5 M5 q5 => ?_)
  obtain ⟨x, rfl, hO⟩ := hpq _ _ q5
  have q52 := q5
  refine v_i2l F dL_approve_8 ?_
  refine v_last F dL_approve_9 hO (vp_in_nI (by decide) (by decide)) ?_
  refine v_goto F 21 dL_approve_10 (by decide) ?_
  refine v_iconst (v := nI 0) F dL_approve_21 (by decide) ?_
  exact v_iret F hr dL_approve_22 (Nat.le_of_ble_eq_true rfl) (Nat.le_of_ble_eq_true rfl) ⟨x, M5, _, q52, rfl, by first | rfl | (rw [if_pos (by assumption)]; rfl) | (rw [if_neg (by simp [*])]; rfl) | (simp [*]; rfl), rfl⟩
set_option maxHeartbeats 4000000 in
set_option maxRecDepth 100000 in
theorem h_approve_x1 {l : Launch} {ω : Om} {M : MM} {a O : Nat} {fs : List Value} (hx : M a = some (.inr (4, fs))) {p0 p1 : Int32} (hM : CtX l ω yX4_approve wsX4_approve rmX4_approve [.ref a, .int p0, .int p1] M (fun v M9 => False) (fun E => E = "java/lang/IndexOutOfBoundsException") 3 15) : CtN l ω yL_approve wsL_approve rmL_approve [.ref a, .int p0, .int p1, .ref O] M (fun v M9 => v = some (.int (nI 1)) ∧ M9 = M) 3 15 := by
  refine CtN.ofV (cc := cL_approve) (maxL := 5) (ret := (some .int)) [some (.ref a), some (.int p0), some (.int p1), some (.ref O), none] (by decide) rfl (Nat.le_of_ble_eq_true rfl) rfl (Lc.av (av := [.ref a, .int p0, .int p1, .ref O]) (k := 1) rfl) ?_
  intro σ F hl hr hname hNc
  have F : Fx ω σ cL_approve 5 wsL_approve RL rmL_approve := F
  subst hl
  refine v_aload_n F dL_approve_0 rfl rfl ?_
  refine v_iconst (v := nI 0) F dL_approve_1 (by decide) ?_
  refine v_aload_n F dL_approve_2 rfl rfl ?_
  refine v_iload_n F dL_approve_3 rfl ?_
  refine v_iload_n F dL_approve_4 rfl ?_
  refine v_callVC F 2 [_, _] rfl rfl rfl (hM) gL_approve_X4_approve rfl hd_X4_approve ⟨⟨rfl, rfl⟩, ⟨(Nat.le_of_ble_eq_true rfl), (Nat.le_of_ble_eq_true rfl)⟩, ⟨(Nat.le_of_ble_eq_true rfl), (Nat.le_of_ble_eq_true rfl)⟩, (Nat.le_of_ble_eq_true rfl)⟩ hx rfl dL_approve_5 (fun E hE => ⟨13, by subst hE; exact CatchOk.c1 F hname (by decide) (by decide) (by decide +kernel) (by decide +kernel), fun q9 => ?_⟩) (fun v9 M9 hq => hq.elim)
  refine v_astore F dL_approve_13 rfl (Nat.le_of_ble_eq_true rfl) (ok2_d rfl) ?_
  refine v_iconst (v := nI 1) F dL_approve_15 (by decide) ?_
  exact v_iret F hr dL_approve_16 (Nat.le_of_ble_eq_true rfl) (Nat.le_of_ble_eq_true rfl) ⟨rfl, rfl⟩
set_option maxHeartbeats 4000000 in
set_option maxRecDepth 100000 in
theorem h_approve_x2 {l : Launch} {ω : Om} {M : MM} {a O : Nat} {fs : List Value} (hx : M a = some (.inr (4, fs))) {p0 p1 : Int32} (hM : CtX l ω yX4_approve wsX4_approve rmX4_approve [.ref a, .int p0, .int p1] M (fun v M9 => False) (fun E => E = "java/lang/IllegalStateException") 3 15) : CtN l ω yL_approve wsL_approve rmL_approve [.ref a, .int p0, .int p1, .ref O] M (fun v M9 => v = some (.int (nI 2)) ∧ M9 = M) 3 15 := by
  refine CtN.ofV (cc := cL_approve) (maxL := 5) (ret := (some .int)) [some (.ref a), some (.int p0), some (.int p1), some (.ref O), none] (by decide) rfl (Nat.le_of_ble_eq_true rfl) rfl (Lc.av (av := [.ref a, .int p0, .int p1, .ref O]) (k := 1) rfl) ?_
  intro σ F hl hr hname hNc
  have F : Fx ω σ cL_approve 5 wsL_approve RL rmL_approve := F
  subst hl
  refine v_aload_n F dL_approve_0 rfl rfl ?_
  refine v_iconst (v := nI 0) F dL_approve_1 (by decide) ?_
  refine v_aload_n F dL_approve_2 rfl rfl ?_
  refine v_iload_n F dL_approve_3 rfl ?_
  refine v_iload_n F dL_approve_4 rfl ?_
  refine v_callVC F 2 [_, _] rfl rfl rfl (hM) gL_approve_X4_approve rfl hd_X4_approve ⟨⟨rfl, rfl⟩, ⟨(Nat.le_of_ble_eq_true rfl), (Nat.le_of_ble_eq_true rfl)⟩, ⟨(Nat.le_of_ble_eq_true rfl), (Nat.le_of_ble_eq_true rfl)⟩, (Nat.le_of_ble_eq_true rfl)⟩ hx rfl dL_approve_5 (fun E hE => ⟨17, by subst hE; exact CatchOk.c2 (nm := "java/lang/IndexOutOfBoundsException") F hname (by decide) (by decide) (by decide) (by decide +kernel) (by decide +kernel) hNc.2.1 (by decide +kernel), fun q9 => ?_⟩) (fun v9 M9 hq => hq.elim)
  refine v_astore F dL_approve_17 rfl (Nat.le_of_ble_eq_true rfl) (ok2_d rfl) ?_
  refine v_iconst (v := nI 2) F dL_approve_19 (by decide) ?_
  exact v_iret F hr dL_approve_20 (Nat.le_of_ble_eq_true rfl) (Nat.le_of_ble_eq_true rfl) ⟨rfl, rfl⟩
def rmL_stands : Room := { frames := 7, cells := 1, slots := 6, locals := 112 }
theorem hd_L_stands : yL_stands.cls ≠ "java/lang/invoke/MethodHandle" ∧ yL_stands.cls ≠ "java/lang/invoke/VarHandle" ∧ (parseMethodDescriptor yL_stands.desc).map (fun d => d.parameters.length) = some 3 := by decide +kernel
set_option maxHeartbeats 4000000 in
set_option maxRecDepth 100000 in
theorem h_stands_ok {l : Launch} {ω : Om} {M : MM} {a O : Nat} {fs : List Value} (hx : M a = some (.inr (4, fs))) {p0 : Int32} {g : Nat → Int64} {PQ0 : Option Value → MM → Prop} (hM : Ct l ω yX4_stands wsX4_stands rmX4_stands [.ref a, .int p0] M PQ0 1 6) (hpq : ∀ v M9, PQ0 v M9 → ∃ b : Bool, v = some (.int (bI b)) ∧ M9 O = some (.inl (ω.2.2 2, 1, .inr (.inl g)))) : CtN l ω yL_stands wsL_stands rmL_stands [.ref a, .int p0, .ref O] M (fun v M9 => ∃ (b : Bool) (M8 : MM) (g8 : Nat → Int64), PQ0 (some (.int (bI b))) M8 ∧ v = some (.int (nI 0)) ∧ g8 0 = (if b then 1 else 0) ∧ M9 = mup M8 O (.inl (ω.2.2 2, 1, .inr (.inl g8)))) 1 6 := by
  refine CtN.ofV (cc := cL_stands) (maxL := 4) (ret := (some .int)) [some (.ref a), some (.int p0), some (.ref O), none] (by decide) rfl (Nat.le_of_ble_eq_true rfl) rfl (Lc.av (av := [.ref a, .int p0, .ref O]) (k := 1) rfl) ?_
  intro σ F hl hr hname hNc
  have F : Fx ω σ cL_stands 4 wsL_stands RL rmL_stands := F
  subst hl
  refine v_aload_n F dL_stands_0 rfl rfl ?_
  refine v_iconst (v := nI 0) F dL_stands_1 (by decide) ?_
  refine v_aload_n F dL_stands_2 rfl rfl ?_
  refine v_iload_n F dL_stands_3 rfl ?_
  refine v_callV F 1 [_] rfl rfl rfl (hM) gL_stands_X4_stands rfl hd_X4_stands ⟨⟨rfl, rfl⟩, ⟨(Nat.le_of_ble_eq_true rfl), (Nat.le_of_ble_eq_true rfl)⟩, ⟨(Nat.le_of_ble_eq_true rfl), (Nat.le_of_ble_eq_true rfl)⟩, (Nat.le_of_ble_eq_true rfl)⟩ hx rfl dL_stands_4 (fun v4 M4 q4 => ?_)
  obtain ⟨b, rfl, hO⟩ := hpq _ _ q4
  have q42 := q4
  refine v_if_eq_b F 14 dL_stands_7 (by decide) (fun c7 => ?_) (fun c7 => ?_)
  · refine v_lconst F dL_stands_14 rfl ?_
    refine v_last F dL_stands_15 hO (vp_in_nI (by decide) (by decide)) ?_
    refine v_goto F 22 dL_stands_16 (by decide) ?_
    refine v_iconst (v := nI 0) F dL_stands_22 (by decide) ?_
    exact v_iret F hr dL_stands_23 (Nat.le_of_ble_eq_true rfl) (Nat.le_of_ble_eq_true rfl) ⟨b, M4, _, q42, rfl, by first | rfl | (rw [if_pos (by assumption)]; rfl) | (rw [if_neg (by simp [*])]; rfl) | (simp [*]; rfl), rfl⟩
  · refine v_lconst F dL_stands_10 rfl ?_
    refine v_goto F 15 dL_stands_11 (by decide) ?_
    refine v_last F dL_stands_15 hO (vp_in_nI (by decide) (by decide)) ?_
    refine v_goto F 22 dL_stands_16 (by decide) ?_
    refine v_iconst (v := nI 0) F dL_stands_22 (by decide) ?_
    exact v_iret F hr dL_stands_23 (Nat.le_of_ble_eq_true rfl) (Nat.le_of_ble_eq_true rfl) ⟨b, M4, _, q42, rfl, by first | rfl | (rw [if_pos (by assumption)]; rfl) | (rw [if_neg (by simp [*])]; rfl) | (simp [*]; rfl), rfl⟩
set_option maxHeartbeats 4000000 in
set_option maxRecDepth 100000 in
theorem h_stands_x1 {l : Launch} {ω : Om} {M : MM} {a O : Nat} {fs : List Value} (hx : M a = some (.inr (4, fs))) {p0 : Int32} (hM : CtX l ω yX4_stands wsX4_stands rmX4_stands [.ref a, .int p0] M (fun v M9 => False) (fun E => E = "java/lang/IndexOutOfBoundsException") 1 6) : CtN l ω yL_stands wsL_stands rmL_stands [.ref a, .int p0, .ref O] M (fun v M9 => v = some (.int (nI 1)) ∧ M9 = M) 1 6 := by
  refine CtN.ofV (cc := cL_stands) (maxL := 4) (ret := (some .int)) [some (.ref a), some (.int p0), some (.ref O), none] (by decide) rfl (Nat.le_of_ble_eq_true rfl) rfl (Lc.av (av := [.ref a, .int p0, .ref O]) (k := 1) rfl) ?_
  intro σ F hl hr hname hNc
  have F : Fx ω σ cL_stands 4 wsL_stands RL rmL_stands := F
  subst hl
  refine v_aload_n F dL_stands_0 rfl rfl ?_
  refine v_iconst (v := nI 0) F dL_stands_1 (by decide) ?_
  refine v_aload_n F dL_stands_2 rfl rfl ?_
  refine v_iload_n F dL_stands_3 rfl ?_
  refine v_callVC F 1 [_] rfl rfl rfl (hM) gL_stands_X4_stands rfl hd_X4_stands ⟨⟨rfl, rfl⟩, ⟨(Nat.le_of_ble_eq_true rfl), (Nat.le_of_ble_eq_true rfl)⟩, ⟨(Nat.le_of_ble_eq_true rfl), (Nat.le_of_ble_eq_true rfl)⟩, (Nat.le_of_ble_eq_true rfl)⟩ hx rfl dL_stands_4 (fun E hE => ⟨19, by subst hE; exact CatchOk.c1 F hname (by decide) (by decide) (by decide +kernel) (by decide +kernel), fun q9 => ?_⟩) (fun v9 M9 hq => hq.elim)
  refine v_astore_n F dL_stands_19 rfl (Nat.le_of_ble_eq_true rfl) (ok2_d rfl) ?_
  refine v_iconst (v := nI 1) F dL_stands_20 (by decide) ?_
  exact v_iret F hr dL_stands_21 (Nat.le_of_ble_eq_true rfl) (Nat.le_of_ble_eq_true rfl) ⟨rfl, rfl⟩
def rmL_approvers : Room := { frames := 8, cells := 1, slots := 6, locals := 136 }
theorem hd_L_approvers : yL_approvers.cls ≠ "java/lang/invoke/MethodHandle" ∧ yL_approvers.cls ≠ "java/lang/invoke/VarHandle" ∧ (parseMethodDescriptor yL_approvers.desc).map (fun d => d.parameters.length) = some 3 := by decide +kernel
set_option maxHeartbeats 4000000 in
set_option maxRecDepth 100000 in
theorem h_approvers_ok {l : Launch} {ω : Om} {M : MM} {a O : Nat} {fs : List Value} (hx : M a = some (.inr (4, fs))) {p0 : Int32} {g : Nat → Int64} {PQ0 : Option Value → MM → Prop} (hM : Ct l ω yX4_approvers wsX4_approvers rmX4_approvers [.ref a, .int p0] M PQ0 1 6) (hpq : ∀ v M9, PQ0 v M9 → ∃ x : Int32, v = some (.int x) ∧ M9 O = some (.inl (ω.2.2 2, 1, .inr (.inl g)))) : CtN l ω yL_approvers wsL_approvers rmL_approvers [.ref a, .int p0, .ref O] M (fun v M9 => ∃ (x : Int32) (M8 : MM) (g8 : Nat → Int64), PQ0 (some (.int x)) M8 ∧ v = some (.int (nI 0)) ∧ g8 0 = x.toInt64 ∧ M9 = mup M8 O (.inl (ω.2.2 2, 1, .inr (.inl g8)))) 1 6 := by
  refine CtN.ofV (cc := cL_approvers) (maxL := 4) (ret := (some .int)) [some (.ref a), some (.int p0), some (.ref O), none] (by decide) rfl (Nat.le_of_ble_eq_true rfl) rfl (Lc.av (av := [.ref a, .int p0, .ref O]) (k := 1) rfl) ?_
  intro σ F hl hr hname hNc
  have F : Fx ω σ cL_approvers 4 wsL_approvers RL rmL_approvers := F
  subst hl
  refine v_aload_n F dL_approvers_0 rfl rfl ?_
  refine v_iconst (v := nI 0) F dL_approvers_1 (by decide) ?_
  refine v_aload_n F dL_approvers_2 rfl rfl ?_
  refine v_iload_n F dL_approvers_3 rfl ?_
  refine v_callV F 1 [_] rfl rfl rfl (hM) gL_approvers_X4_approvers rfl hd_X4_approvers ⟨⟨rfl, rfl⟩, ⟨(Nat.le_of_ble_eq_true rfl), (Nat.le_of_ble_eq_true rfl)⟩, ⟨(Nat.le_of_ble_eq_true rfl), (Nat.le_of_ble_eq_true rfl)⟩, (Nat.le_of_ble_eq_true rfl)⟩ hx rfl dL_approvers_4 (fun v4 M4 q4 => ?_)
  obtain ⟨x, rfl, hO⟩ := hpq _ _ q4
  have q42 := q4
  refine v_i2l F dL_approvers_7 ?_
  refine v_last F dL_approvers_8 hO (vp_in_nI (by decide) (by decide)) ?_
  refine v_goto F 15 dL_approvers_9 (by decide) ?_
  refine v_iconst (v := nI 0) F dL_approvers_15 (by decide) ?_
  exact v_iret F hr dL_approvers_16 (Nat.le_of_ble_eq_true rfl) (Nat.le_of_ble_eq_true rfl) ⟨x, M4, _, q42, rfl, by first | rfl | (rw [if_pos (by assumption)]; rfl) | (rw [if_neg (by simp [*])]; rfl) | (simp [*]; rfl), rfl⟩
set_option maxHeartbeats 4000000 in
set_option maxRecDepth 100000 in
theorem h_approvers_x1 {l : Launch} {ω : Om} {M : MM} {a O : Nat} {fs : List Value} (hx : M a = some (.inr (4, fs))) {p0 : Int32} (hM : CtX l ω yX4_approvers wsX4_approvers rmX4_approvers [.ref a, .int p0] M (fun v M9 => False) (fun E => E = "java/lang/IndexOutOfBoundsException") 1 6) : CtN l ω yL_approvers wsL_approvers rmL_approvers [.ref a, .int p0, .ref O] M (fun v M9 => v = some (.int (nI 1)) ∧ M9 = M) 1 6 := by
  refine CtN.ofV (cc := cL_approvers) (maxL := 4) (ret := (some .int)) [some (.ref a), some (.int p0), some (.ref O), none] (by decide) rfl (Nat.le_of_ble_eq_true rfl) rfl (Lc.av (av := [.ref a, .int p0, .ref O]) (k := 1) rfl) ?_
  intro σ F hl hr hname hNc
  have F : Fx ω σ cL_approvers 4 wsL_approvers RL rmL_approvers := F
  subst hl
  refine v_aload_n F dL_approvers_0 rfl rfl ?_
  refine v_iconst (v := nI 0) F dL_approvers_1 (by decide) ?_
  refine v_aload_n F dL_approvers_2 rfl rfl ?_
  refine v_iload_n F dL_approvers_3 rfl ?_
  refine v_callVC F 1 [_] rfl rfl rfl (hM) gL_approvers_X4_approvers rfl hd_X4_approvers ⟨⟨rfl, rfl⟩, ⟨(Nat.le_of_ble_eq_true rfl), (Nat.le_of_ble_eq_true rfl)⟩, ⟨(Nat.le_of_ble_eq_true rfl), (Nat.le_of_ble_eq_true rfl)⟩, (Nat.le_of_ble_eq_true rfl)⟩ hx rfl dL_approvers_4 (fun E hE => ⟨12, by subst hE; exact CatchOk.c1 F hname (by decide) (by decide) (by decide +kernel) (by decide +kernel), fun q9 => ?_⟩) (fun v9 M9 hq => hq.elim)
  refine v_astore_n F dL_approvers_12 rfl (Nat.le_of_ble_eq_true rfl) (ok2_d rfl) ?_
  refine v_iconst (v := nI 1) F dL_approvers_13 (by decide) ?_
  exact v_iret F hr dL_approvers_14 (Nat.le_of_ble_eq_true rfl) (Nat.le_of_ble_eq_true rfl) ⟨rfl, rfl⟩
def rmL_breaks : Room := { frames := 73, cells := 3, slots := 18, locals := 1672 }
theorem hd_L_breaks : yL_breaks.cls ≠ "java/lang/invoke/MethodHandle" ∧ yL_breaks.cls ≠ "java/lang/invoke/VarHandle" ∧ (parseMethodDescriptor yL_breaks.desc).map (fun d => d.parameters.length) = some 5 := by decide +kernel
set_option maxHeartbeats 4000000 in
set_option maxRecDepth 100000 in
theorem h_breaks_ok {l : Launch} {ω : Om} {M : MM} {a O : Nat} {fs : List Value} (hx : M a = some (.inr (4, fs))) {p0 p1 p2 : Int32} {g : Nat → Int64} {PQ0 : Option Value → MM → Prop} (hM : Ct l ω yX4_breaks wsX4_breaks rmX4_breaks [.ref a, .int p0, .int p1, .int p2] M PQ0 3 18) (hpq : ∀ v M9, PQ0 v M9 → ∃ x : Int32, v = some (.int x) ∧ M9 O = some (.inl (ω.2.2 2, 1, .inr (.inl g)))) : CtN l ω yL_breaks wsL_breaks rmL_breaks [.ref a, .int p0, .int p1, .int p2, .ref O] M (fun v M9 => ∃ (x : Int32) (M8 : MM) (g8 : Nat → Int64), PQ0 (some (.int x)) M8 ∧ v = some (.int (nI 0)) ∧ g8 0 = x.toInt64 ∧ M9 = mup M8 O (.inl (ω.2.2 2, 1, .inr (.inl g8)))) 3 18 := by
  refine CtN.ofV (cc := cL_breaks) (maxL := 6) (ret := (some .int)) [some (.ref a), some (.int p0), some (.int p1), some (.int p2), some (.ref O), none] (by decide) rfl (Nat.le_of_ble_eq_true rfl) rfl (Lc.av (av := [.ref a, .int p0, .int p1, .int p2, .ref O]) (k := 1) rfl) ?_
  intro σ F hl hr hname hNc
  have F : Fx ω σ cL_breaks 6 wsL_breaks RL rmL_breaks := F
  subst hl
  refine v_aload F dL_breaks_0 rfl rfl ?_
  refine v_iconst (v := nI 0) F dL_breaks_2 (by decide) ?_
  refine v_aload_n F dL_breaks_3 rfl rfl ?_
  refine v_iload_n F dL_breaks_4 rfl ?_
  refine v_iload_n F dL_breaks_5 rfl ?_
  refine v_iload_n F dL_breaks_6 rfl ?_
  refine v_callV F 3 [_, _, _] rfl rfl rfl (hM) gL_breaks_X4_breaks rfl hd_X4_breaks ⟨⟨rfl, rfl⟩, ⟨(Nat.le_of_ble_eq_true rfl), (Nat.le_of_ble_eq_true rfl)⟩, ⟨(Nat.le_of_ble_eq_true rfl), (Nat.le_of_ble_eq_true rfl)⟩, (Nat.le_of_ble_eq_true rfl)⟩ hx rfl dL_breaks_7 (fun v7 M7 q7 => ?_)
  obtain ⟨x, rfl, hO⟩ := hpq _ _ q7
  have q72 := q7
  refine v_i2l F dL_breaks_10 ?_
  refine v_last F dL_breaks_11 hO (vp_in_nI (by decide) (by decide)) ?_
  refine v_goto F 23 dL_breaks_12 (by decide) ?_
  refine v_iconst (v := nI 0) F dL_breaks_23 (by decide) ?_
  exact v_iret F hr dL_breaks_24 (Nat.le_of_ble_eq_true rfl) (Nat.le_of_ble_eq_true rfl) ⟨x, M7, _, q72, rfl, by first | rfl | (rw [if_pos (by assumption)]; rfl) | (rw [if_neg (by simp [*])]; rfl) | (simp [*]; rfl), rfl⟩
set_option maxHeartbeats 4000000 in
set_option maxRecDepth 100000 in
theorem h_breaks_x1 {l : Launch} {ω : Om} {M : MM} {a O : Nat} {fs : List Value} (hx : M a = some (.inr (4, fs))) {p0 p1 p2 : Int32} (hM : CtX l ω yX4_breaks wsX4_breaks rmX4_breaks [.ref a, .int p0, .int p1, .int p2] M (fun v M9 => False) (fun E => E = "java/lang/IndexOutOfBoundsException") 3 18) : CtN l ω yL_breaks wsL_breaks rmL_breaks [.ref a, .int p0, .int p1, .int p2, .ref O] M (fun v M9 => v = some (.int (nI 1)) ∧ M9 = M) 3 18 := by
  refine CtN.ofV (cc := cL_breaks) (maxL := 6) (ret := (some .int)) [some (.ref a), some (.int p0), some (.int p1), some (.int p2), some (.ref O), none] (by decide) rfl (Nat.le_of_ble_eq_true rfl) rfl (Lc.av (av := [.ref a, .int p0, .int p1, .int p2, .ref O]) (k := 1) rfl) ?_
  intro σ F hl hr hname hNc
  have F : Fx ω σ cL_breaks 6 wsL_breaks RL rmL_breaks := F
  subst hl
  refine v_aload F dL_breaks_0 rfl rfl ?_
  refine v_iconst (v := nI 0) F dL_breaks_2 (by decide) ?_
  refine v_aload_n F dL_breaks_3 rfl rfl ?_
  refine v_iload_n F dL_breaks_4 rfl ?_
  refine v_iload_n F dL_breaks_5 rfl ?_
  refine v_iload_n F dL_breaks_6 rfl ?_
  refine v_callVC F 3 [_, _, _] rfl rfl rfl (hM) gL_breaks_X4_breaks rfl hd_X4_breaks ⟨⟨rfl, rfl⟩, ⟨(Nat.le_of_ble_eq_true rfl), (Nat.le_of_ble_eq_true rfl)⟩, ⟨(Nat.le_of_ble_eq_true rfl), (Nat.le_of_ble_eq_true rfl)⟩, (Nat.le_of_ble_eq_true rfl)⟩ hx rfl dL_breaks_7 (fun E hE => ⟨15, by subst hE; exact CatchOk.c1 F hname (by decide) (by decide) (by decide +kernel) (by decide +kernel), fun q9 => ?_⟩) (fun v9 M9 hq => hq.elim)
  refine v_astore F dL_breaks_15 rfl (Nat.le_of_ble_eq_true rfl) (ok2_d rfl) ?_
  refine v_iconst (v := nI 1) F dL_breaks_17 (by decide) ?_
  exact v_iret F hr dL_breaks_18 (Nat.le_of_ble_eq_true rfl) (Nat.le_of_ble_eq_true rfl) ⟨rfl, rfl⟩
set_option maxHeartbeats 4000000 in
set_option maxRecDepth 100000 in
theorem h_breaks_x2 {l : Launch} {ω : Om} {M : MM} {a O : Nat} {fs : List Value} (hx : M a = some (.inr (4, fs))) {p0 p1 p2 : Int32} (hM : CtX l ω yX4_breaks wsX4_breaks rmX4_breaks [.ref a, .int p0, .int p1, .int p2] M (fun v M9 => False) (fun E => E = "java/lang/IllegalArgumentException") 3 18) : CtN l ω yL_breaks wsL_breaks rmL_breaks [.ref a, .int p0, .int p1, .int p2, .ref O] M (fun v M9 => v = some (.int (nI 2)) ∧ M9 = M) 3 18 := by
  refine CtN.ofV (cc := cL_breaks) (maxL := 6) (ret := (some .int)) [some (.ref a), some (.int p0), some (.int p1), some (.int p2), some (.ref O), none] (by decide) rfl (Nat.le_of_ble_eq_true rfl) rfl (Lc.av (av := [.ref a, .int p0, .int p1, .int p2, .ref O]) (k := 1) rfl) ?_
  intro σ F hl hr hname hNc
  have F : Fx ω σ cL_breaks 6 wsL_breaks RL rmL_breaks := F
  subst hl
  refine v_aload F dL_breaks_0 rfl rfl ?_
  refine v_iconst (v := nI 0) F dL_breaks_2 (by decide) ?_
  refine v_aload_n F dL_breaks_3 rfl rfl ?_
  refine v_iload_n F dL_breaks_4 rfl ?_
  refine v_iload_n F dL_breaks_5 rfl ?_
  refine v_iload_n F dL_breaks_6 rfl ?_
  refine v_callVC F 3 [_, _, _] rfl rfl rfl (hM) gL_breaks_X4_breaks rfl hd_X4_breaks ⟨⟨rfl, rfl⟩, ⟨(Nat.le_of_ble_eq_true rfl), (Nat.le_of_ble_eq_true rfl)⟩, ⟨(Nat.le_of_ble_eq_true rfl), (Nat.le_of_ble_eq_true rfl)⟩, (Nat.le_of_ble_eq_true rfl)⟩ hx rfl dL_breaks_7 (fun E hE => ⟨19, by subst hE; exact CatchOk.c2 (nm := "java/lang/IndexOutOfBoundsException") F hname (by decide) (by decide) (by decide) (by decide +kernel) (by decide +kernel) hNc.1 (by decide +kernel), fun q9 => ?_⟩) (fun v9 M9 hq => hq.elim)
  refine v_astore F dL_breaks_19 rfl (Nat.le_of_ble_eq_true rfl) (ok2_d rfl) ?_
  refine v_iconst (v := nI 2) F dL_breaks_21 (by decide) ?_
  exact v_iret F hr dL_breaks_22 (Nat.le_of_ble_eq_true rfl) (Nat.le_of_ble_eq_true rfl) ⟨rfl, rfl⟩
