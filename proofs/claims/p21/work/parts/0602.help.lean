/-! the law: its helpers -/
def rmL_box : Room := { frames := 74, cells := 5, slots := 34, locals := 1695 }
theorem hd_L_box : yL_box.cls ≠ "java/lang/invoke/MethodHandle" ∧ yL_box.cls ≠ "java/lang/invoke/VarHandle" ∧ (parseMethodDescriptor yL_box.desc).map (fun d => d.parameters.length) = some 7 := by decide +kernel
set_option maxHeartbeats 4000000 in
set_option maxRecDepth 100000 in
theorem h_box_ok {l : Launch} {ω : Om} {M : MM} {a : Nat} {fs : List Value} (hx : M a = some (.inr (4, fs))) {p0 p1 p2 p3 p4 p5 : Int32} {PQ0 : Option Value → MM → Prop} (hM : Ct l ω yX4_box wsX4_box rmX4_box [.ref a, .int p0, .int p1, .int p2, .int p3, .int p4, .int p5] M PQ0 5 34) (hpq : ∀ v M9, PQ0 v M9 → ∃ x : Int32, v = some (.int x)) : CtN l ω yL_box wsL_box rmL_box [.ref a, .int p0, .int p1, .int p2, .int p3, .int p4, .int p5] M (fun v M9 => PQ0 v M9) 5 34 := by
  refine CtN.ofV (cc := cL_box) (maxL := 8) (ret := (some .int)) [some (.ref a), some (.int p0), some (.int p1), some (.int p2), some (.int p3), some (.int p4), some (.int p5), none] (by decide) rfl (Nat.le_of_ble_eq_true rfl) rfl (Lc.av (av := [.ref a, .int p0, .int p1, .int p2, .int p3, .int p4, .int p5]) (k := 1) rfl) ?_
  intro σ F hl hr hname hNc
  have F : Fx ω σ cL_box 8 wsL_box RL rmL_box := F
  subst hl
  refine v_aload_n F dL_box_0 rfl rfl ?_
  refine v_iload_n F dL_box_1 rfl ?_
  refine v_iload_n F dL_box_2 rfl ?_
  refine v_iload_n F dL_box_3 rfl ?_
  refine v_iload F dL_box_4 rfl ?_
  refine v_iload F dL_box_6 rfl ?_
  refine v_iload F dL_box_8 rfl ?_
  refine v_callV F 6 [_, _, _, _, _, _] rfl rfl rfl (hM) gL_box_X4_box rfl hd_X4_box ⟨⟨rfl, rfl⟩, ⟨(Nat.le_of_ble_eq_true rfl), (Nat.le_of_ble_eq_true rfl)⟩, ⟨(Nat.le_of_ble_eq_true rfl), (Nat.le_of_ble_eq_true rfl)⟩, (Nat.le_of_ble_eq_true rfl)⟩ hx rfl dL_box_10 (fun v10 M10 q10 => ?_)
  obtain ⟨x, rfl⟩ := hpq _ _ q10
  exact v_iret F hr dL_box_13 (Nat.le_of_ble_eq_true rfl) (Nat.le_of_ble_eq_true rfl) q10
set_option maxHeartbeats 4000000 in
set_option maxRecDepth 100000 in
theorem h_box_xi {l : Launch} {ω : Om} {M : MM} {a : Nat} {fs : List Value} (hx : M a = some (.inr (4, fs))) {p0 p1 p2 p3 p4 p5 : Int32} (hM : CtX l ω yX4_box wsX4_box rmX4_box [.ref a, .int p0, .int p1, .int p2, .int p3, .int p4, .int p5] M (fun v M9 => False) (fun E => E = "java/lang/IndexOutOfBoundsException") 5 34) : CtN l ω yL_box wsL_box rmL_box [.ref a, .int p0, .int p1, .int p2, .int p3, .int p4, .int p5] M (fun v M9 => v = some (.int (-1000001)) ∧ M9 = M) 5 34 := by
  refine CtN.ofV (cc := cL_box) (maxL := 8) (ret := (some .int)) [some (.ref a), some (.int p0), some (.int p1), some (.int p2), some (.int p3), some (.int p4), some (.int p5), none] (by decide) rfl (Nat.le_of_ble_eq_true rfl) rfl (Lc.av (av := [.ref a, .int p0, .int p1, .int p2, .int p3, .int p4, .int p5]) (k := 1) rfl) ?_
  intro σ F hl hr hname hNc
  have F : Fx ω σ cL_box 8 wsL_box RL rmL_box := F
  subst hl
  refine v_aload_n F dL_box_0 rfl rfl ?_
  refine v_iload_n F dL_box_1 rfl ?_
  refine v_iload_n F dL_box_2 rfl ?_
  refine v_iload_n F dL_box_3 rfl ?_
  refine v_iload F dL_box_4 rfl ?_
  refine v_iload F dL_box_6 rfl ?_
  refine v_iload F dL_box_8 rfl ?_
  refine v_callVC F 6 [_, _, _, _, _, _] rfl rfl rfl (hM) gL_box_X4_box rfl hd_X4_box ⟨⟨rfl, rfl⟩, ⟨(Nat.le_of_ble_eq_true rfl), (Nat.le_of_ble_eq_true rfl)⟩, ⟨(Nat.le_of_ble_eq_true rfl), (Nat.le_of_ble_eq_true rfl)⟩, (Nat.le_of_ble_eq_true rfl)⟩ hx rfl dL_box_10 (fun E hE => ⟨14, by subst hE; exact CatchOk.c1 F hname (by decide) (by decide) (by decide +kernel) (by decide +kernel), fun q9 => ?_⟩) (fun v9 M9 hq => hq.elim)
  refine v_astore F dL_box_14 rfl (Nat.le_of_ble_eq_true rfl) (ok2_d rfl) ?_
  refine v_ldc (v := (-1000001)) F (by decide +kernel) dL_box_16 ?_
  exact v_iret F hr dL_box_18 (Nat.le_of_ble_eq_true rfl) (Nat.le_of_ble_eq_true rfl) ⟨rfl, rfl⟩
set_option maxHeartbeats 4000000 in
set_option maxRecDepth 100000 in
theorem h_box_xa {l : Launch} {ω : Om} {M : MM} {a : Nat} {fs : List Value} (hx : M a = some (.inr (4, fs))) {p0 p1 p2 p3 p4 p5 : Int32} (hM : CtX l ω yX4_box wsX4_box rmX4_box [.ref a, .int p0, .int p1, .int p2, .int p3, .int p4, .int p5] M (fun v M9 => False) (fun E => E = "java/lang/IllegalArgumentException") 5 34) : CtN l ω yL_box wsL_box rmL_box [.ref a, .int p0, .int p1, .int p2, .int p3, .int p4, .int p5] M (fun v M9 => v = some (.int (-1000002)) ∧ M9 = M) 5 34 := by
  refine CtN.ofV (cc := cL_box) (maxL := 8) (ret := (some .int)) [some (.ref a), some (.int p0), some (.int p1), some (.int p2), some (.int p3), some (.int p4), some (.int p5), none] (by decide) rfl (Nat.le_of_ble_eq_true rfl) rfl (Lc.av (av := [.ref a, .int p0, .int p1, .int p2, .int p3, .int p4, .int p5]) (k := 1) rfl) ?_
  intro σ F hl hr hname hNc
  have F : Fx ω σ cL_box 8 wsL_box RL rmL_box := F
  subst hl
  refine v_aload_n F dL_box_0 rfl rfl ?_
  refine v_iload_n F dL_box_1 rfl ?_
  refine v_iload_n F dL_box_2 rfl ?_
  refine v_iload_n F dL_box_3 rfl ?_
  refine v_iload F dL_box_4 rfl ?_
  refine v_iload F dL_box_6 rfl ?_
  refine v_iload F dL_box_8 rfl ?_
  refine v_callVC F 6 [_, _, _, _, _, _] rfl rfl rfl (hM) gL_box_X4_box rfl hd_X4_box ⟨⟨rfl, rfl⟩, ⟨(Nat.le_of_ble_eq_true rfl), (Nat.le_of_ble_eq_true rfl)⟩, ⟨(Nat.le_of_ble_eq_true rfl), (Nat.le_of_ble_eq_true rfl)⟩, (Nat.le_of_ble_eq_true rfl)⟩ hx rfl dL_box_10 (fun E hE => ⟨19, by subst hE; exact CatchOk.c2 (nm := "java/lang/IndexOutOfBoundsException") F hname (by decide) (by decide) (by decide) (by decide +kernel) (by decide +kernel) hNc.1 (by decide +kernel), fun q9 => ?_⟩) (fun v9 M9 hq => hq.elim)
  refine v_astore F dL_box_19 rfl (Nat.le_of_ble_eq_true rfl) (ok2_d rfl) ?_
  refine v_ldc (v := (-1000002)) F (by decide +kernel) dL_box_21 ?_
  exact v_iret F hr dL_box_23 (Nat.le_of_ble_eq_true rfl) (Nat.le_of_ble_eq_true rfl) ⟨rfl, rfl⟩
set_option maxHeartbeats 4000000 in
set_option maxRecDepth 100000 in
theorem h_box_xs {l : Launch} {ω : Om} {M : MM} {a : Nat} {fs : List Value} (hx : M a = some (.inr (4, fs))) {p0 p1 p2 p3 p4 p5 : Int32} (hM : CtX l ω yX4_box wsX4_box rmX4_box [.ref a, .int p0, .int p1, .int p2, .int p3, .int p4, .int p5] M (fun v M9 => False) (fun E => E = "java/lang/IllegalStateException") 5 34) : CtN l ω yL_box wsL_box rmL_box [.ref a, .int p0, .int p1, .int p2, .int p3, .int p4, .int p5] M (fun v M9 => v = some (.int (-1000003)) ∧ M9 = M) 5 34 := by
  refine CtN.ofV (cc := cL_box) (maxL := 8) (ret := (some .int)) [some (.ref a), some (.int p0), some (.int p1), some (.int p2), some (.int p3), some (.int p4), some (.int p5), none] (by decide) rfl (Nat.le_of_ble_eq_true rfl) rfl (Lc.av (av := [.ref a, .int p0, .int p1, .int p2, .int p3, .int p4, .int p5]) (k := 1) rfl) ?_
  intro σ F hl hr hname hNc
  have F : Fx ω σ cL_box 8 wsL_box RL rmL_box := F
  subst hl
  refine v_aload_n F dL_box_0 rfl rfl ?_
  refine v_iload_n F dL_box_1 rfl ?_
  refine v_iload_n F dL_box_2 rfl ?_
  refine v_iload_n F dL_box_3 rfl ?_
  refine v_iload F dL_box_4 rfl ?_
  refine v_iload F dL_box_6 rfl ?_
  refine v_iload F dL_box_8 rfl ?_
  refine v_callVC F 6 [_, _, _, _, _, _] rfl rfl rfl (hM) gL_box_X4_box rfl hd_X4_box ⟨⟨rfl, rfl⟩, ⟨(Nat.le_of_ble_eq_true rfl), (Nat.le_of_ble_eq_true rfl)⟩, ⟨(Nat.le_of_ble_eq_true rfl), (Nat.le_of_ble_eq_true rfl)⟩, (Nat.le_of_ble_eq_true rfl)⟩ hx rfl dL_box_10 (fun E hE => ⟨24, by subst hE; exact CatchOk.c3 (nm := "java/lang/IndexOutOfBoundsException") (nm2 := "java/lang/IllegalArgumentException") F hname (by decide) (by decide) (by decide) (by decide) (by decide +kernel) (by decide +kernel) (by decide +kernel) hNc.2.1 hNc.2.2 (by decide +kernel), fun q9 => ?_⟩) (fun v9 M9 hq => hq.elim)
  refine v_astore F dL_box_24 rfl (Nat.le_of_ble_eq_true rfl) (ok2_d rfl) ?_
  refine v_ldc (v := (-1000003)) F (by decide +kernel) dL_box_26 ?_
  exact v_iret F hr dL_box_28 (Nat.le_of_ble_eq_true rfl) (Nat.le_of_ble_eq_true rfl) ⟨rfl, rfl⟩
def rmL_move : Room := { frames := 74, cells := 3, slots := 18, locals := 1692 }
theorem hd_L_move : yL_move.cls ≠ "java/lang/invoke/MethodHandle" ∧ yL_move.cls ≠ "java/lang/invoke/VarHandle" ∧ (parseMethodDescriptor yL_move.desc).map (fun d => d.parameters.length) = some 4 := by decide +kernel
set_option maxHeartbeats 4000000 in
set_option maxRecDepth 100000 in
theorem h_move_ok {l : Launch} {ω : Om} {M : MM} {a : Nat} {fs : List Value} (hx : M a = some (.inr (4, fs))) {p0 p1 p2 : Int32} {PQ0 : Option Value → MM → Prop} (hM : Ct l ω yX4_move wsX4_move rmX4_move [.ref a, .int p0, .int p1, .int p2] M PQ0 3 18) (hpq : ∀ v M9, PQ0 v M9 → ∃ x : Int32, v = some (.int x)) : CtN l ω yL_move wsL_move rmL_move [.ref a, .int p0, .int p1, .int p2] M (fun v M9 => PQ0 v M9) 3 18 := by
  refine CtN.ofV (cc := cL_move) (maxL := 5) (ret := (some .int)) [some (.ref a), some (.int p0), some (.int p1), some (.int p2), none] (by decide) rfl (Nat.le_of_ble_eq_true rfl) rfl (Lc.av (av := [.ref a, .int p0, .int p1, .int p2]) (k := 1) rfl) ?_
  intro σ F hl hr hname hNc
  have F : Fx ω σ cL_move 5 wsL_move RL rmL_move := F
  subst hl
  refine v_aload_n F dL_move_0 rfl rfl ?_
  refine v_iload_n F dL_move_1 rfl ?_
  refine v_iload_n F dL_move_2 rfl ?_
  refine v_iload_n F dL_move_3 rfl ?_
  refine v_callV F 3 [_, _, _] rfl rfl rfl (hM) gL_move_X4_move rfl hd_X4_move ⟨⟨rfl, rfl⟩, ⟨(Nat.le_of_ble_eq_true rfl), (Nat.le_of_ble_eq_true rfl)⟩, ⟨(Nat.le_of_ble_eq_true rfl), (Nat.le_of_ble_eq_true rfl)⟩, (Nat.le_of_ble_eq_true rfl)⟩ hx rfl dL_move_4 (fun v4 M4 q4 => ?_)
  obtain ⟨x, rfl⟩ := hpq _ _ q4
  exact v_iret F hr dL_move_7 (Nat.le_of_ble_eq_true rfl) (Nat.le_of_ble_eq_true rfl) q4
set_option maxHeartbeats 4000000 in
set_option maxRecDepth 100000 in
theorem h_move_xi {l : Launch} {ω : Om} {M : MM} {a : Nat} {fs : List Value} (hx : M a = some (.inr (4, fs))) {p0 p1 p2 : Int32} (hM : CtX l ω yX4_move wsX4_move rmX4_move [.ref a, .int p0, .int p1, .int p2] M (fun v M9 => False) (fun E => E = "java/lang/IndexOutOfBoundsException") 3 18) : CtN l ω yL_move wsL_move rmL_move [.ref a, .int p0, .int p1, .int p2] M (fun v M9 => v = some (.int (-1000001)) ∧ M9 = M) 3 18 := by
  refine CtN.ofV (cc := cL_move) (maxL := 5) (ret := (some .int)) [some (.ref a), some (.int p0), some (.int p1), some (.int p2), none] (by decide) rfl (Nat.le_of_ble_eq_true rfl) rfl (Lc.av (av := [.ref a, .int p0, .int p1, .int p2]) (k := 1) rfl) ?_
  intro σ F hl hr hname hNc
  have F : Fx ω σ cL_move 5 wsL_move RL rmL_move := F
  subst hl
  refine v_aload_n F dL_move_0 rfl rfl ?_
  refine v_iload_n F dL_move_1 rfl ?_
  refine v_iload_n F dL_move_2 rfl ?_
  refine v_iload_n F dL_move_3 rfl ?_
  refine v_callVC F 3 [_, _, _] rfl rfl rfl (hM) gL_move_X4_move rfl hd_X4_move ⟨⟨rfl, rfl⟩, ⟨(Nat.le_of_ble_eq_true rfl), (Nat.le_of_ble_eq_true rfl)⟩, ⟨(Nat.le_of_ble_eq_true rfl), (Nat.le_of_ble_eq_true rfl)⟩, (Nat.le_of_ble_eq_true rfl)⟩ hx rfl dL_move_4 (fun E hE => ⟨8, by subst hE; exact CatchOk.c1 F hname (by decide) (by decide) (by decide +kernel) (by decide +kernel), fun q9 => ?_⟩) (fun v9 M9 hq => hq.elim)
  refine v_astore F dL_move_8 rfl (Nat.le_of_ble_eq_true rfl) (ok2_d rfl) ?_
  refine v_ldc (v := (-1000001)) F (by decide +kernel) dL_move_10 ?_
  exact v_iret F hr dL_move_12 (Nat.le_of_ble_eq_true rfl) (Nat.le_of_ble_eq_true rfl) ⟨rfl, rfl⟩
set_option maxHeartbeats 4000000 in
set_option maxRecDepth 100000 in
theorem h_move_xa {l : Launch} {ω : Om} {M : MM} {a : Nat} {fs : List Value} (hx : M a = some (.inr (4, fs))) {p0 p1 p2 : Int32} (hM : CtX l ω yX4_move wsX4_move rmX4_move [.ref a, .int p0, .int p1, .int p2] M (fun v M9 => False) (fun E => E = "java/lang/IllegalArgumentException") 3 18) : CtN l ω yL_move wsL_move rmL_move [.ref a, .int p0, .int p1, .int p2] M (fun v M9 => v = some (.int (-1000002)) ∧ M9 = M) 3 18 := by
  refine CtN.ofV (cc := cL_move) (maxL := 5) (ret := (some .int)) [some (.ref a), some (.int p0), some (.int p1), some (.int p2), none] (by decide) rfl (Nat.le_of_ble_eq_true rfl) rfl (Lc.av (av := [.ref a, .int p0, .int p1, .int p2]) (k := 1) rfl) ?_
  intro σ F hl hr hname hNc
  have F : Fx ω σ cL_move 5 wsL_move RL rmL_move := F
  subst hl
  refine v_aload_n F dL_move_0 rfl rfl ?_
  refine v_iload_n F dL_move_1 rfl ?_
  refine v_iload_n F dL_move_2 rfl ?_
  refine v_iload_n F dL_move_3 rfl ?_
  refine v_callVC F 3 [_, _, _] rfl rfl rfl (hM) gL_move_X4_move rfl hd_X4_move ⟨⟨rfl, rfl⟩, ⟨(Nat.le_of_ble_eq_true rfl), (Nat.le_of_ble_eq_true rfl)⟩, ⟨(Nat.le_of_ble_eq_true rfl), (Nat.le_of_ble_eq_true rfl)⟩, (Nat.le_of_ble_eq_true rfl)⟩ hx rfl dL_move_4 (fun E hE => ⟨13, by subst hE; exact CatchOk.c2 (nm := "java/lang/IndexOutOfBoundsException") F hname (by decide) (by decide) (by decide) (by decide +kernel) (by decide +kernel) hNc.1 (by decide +kernel), fun q9 => ?_⟩) (fun v9 M9 hq => hq.elim)
  refine v_astore F dL_move_13 rfl (Nat.le_of_ble_eq_true rfl) (ok2_d rfl) ?_
  refine v_ldc (v := (-1000002)) F (by decide +kernel) dL_move_15 ?_
  exact v_iret F hr dL_move_17 (Nat.le_of_ble_eq_true rfl) (Nat.le_of_ble_eq_true rfl) ⟨rfl, rfl⟩
def rmL_resize : Room := { frames := 74, cells := 3, slots := 18, locals := 1692 }
theorem hd_L_resize : yL_resize.cls ≠ "java/lang/invoke/MethodHandle" ∧ yL_resize.cls ≠ "java/lang/invoke/VarHandle" ∧ (parseMethodDescriptor yL_resize.desc).map (fun d => d.parameters.length) = some 4 := by decide +kernel
set_option maxHeartbeats 4000000 in
set_option maxRecDepth 100000 in
theorem h_resize_ok {l : Launch} {ω : Om} {M : MM} {a : Nat} {fs : List Value} (hx : M a = some (.inr (4, fs))) {p0 p1 p2 : Int32} {PQ0 : Option Value → MM → Prop} (hM : Ct l ω yX4_resize wsX4_resize rmX4_resize [.ref a, .int p0, .int p1, .int p2] M PQ0 3 18) (hpq : ∀ v M9, PQ0 v M9 → ∃ x : Int32, v = some (.int x)) : CtN l ω yL_resize wsL_resize rmL_resize [.ref a, .int p0, .int p1, .int p2] M (fun v M9 => PQ0 v M9) 3 18 := by
  refine CtN.ofV (cc := cL_resize) (maxL := 5) (ret := (some .int)) [some (.ref a), some (.int p0), some (.int p1), some (.int p2), none] (by decide) rfl (Nat.le_of_ble_eq_true rfl) rfl (Lc.av (av := [.ref a, .int p0, .int p1, .int p2]) (k := 1) rfl) ?_
  intro σ F hl hr hname hNc
  have F : Fx ω σ cL_resize 5 wsL_resize RL rmL_resize := F
  subst hl
  refine v_aload_n F dL_resize_0 rfl rfl ?_
  refine v_iload_n F dL_resize_1 rfl ?_
  refine v_iload_n F dL_resize_2 rfl ?_
  refine v_iload_n F dL_resize_3 rfl ?_
  refine v_callV F 3 [_, _, _] rfl rfl rfl (hM) gL_resize_X4_resize rfl hd_X4_resize ⟨⟨rfl, rfl⟩, ⟨(Nat.le_of_ble_eq_true rfl), (Nat.le_of_ble_eq_true rfl)⟩, ⟨(Nat.le_of_ble_eq_true rfl), (Nat.le_of_ble_eq_true rfl)⟩, (Nat.le_of_ble_eq_true rfl)⟩ hx rfl dL_resize_4 (fun v4 M4 q4 => ?_)
  obtain ⟨x, rfl⟩ := hpq _ _ q4
  exact v_iret F hr dL_resize_7 (Nat.le_of_ble_eq_true rfl) (Nat.le_of_ble_eq_true rfl) q4
set_option maxHeartbeats 4000000 in
set_option maxRecDepth 100000 in
theorem h_resize_xi {l : Launch} {ω : Om} {M : MM} {a : Nat} {fs : List Value} (hx : M a = some (.inr (4, fs))) {p0 p1 p2 : Int32} (hM : CtX l ω yX4_resize wsX4_resize rmX4_resize [.ref a, .int p0, .int p1, .int p2] M (fun v M9 => False) (fun E => E = "java/lang/IndexOutOfBoundsException") 3 18) : CtN l ω yL_resize wsL_resize rmL_resize [.ref a, .int p0, .int p1, .int p2] M (fun v M9 => v = some (.int (-1000001)) ∧ M9 = M) 3 18 := by
  refine CtN.ofV (cc := cL_resize) (maxL := 5) (ret := (some .int)) [some (.ref a), some (.int p0), some (.int p1), some (.int p2), none] (by decide) rfl (Nat.le_of_ble_eq_true rfl) rfl (Lc.av (av := [.ref a, .int p0, .int p1, .int p2]) (k := 1) rfl) ?_
  intro σ F hl hr hname hNc
  have F : Fx ω σ cL_resize 5 wsL_resize RL rmL_resize := F
  subst hl
  refine v_aload_n F dL_resize_0 rfl rfl ?_
  refine v_iload_n F dL_resize_1 rfl ?_
  refine v_iload_n F dL_resize_2 rfl ?_
  refine v_iload_n F dL_resize_3 rfl ?_
  refine v_callVC F 3 [_, _, _] rfl rfl rfl (hM) gL_resize_X4_resize rfl hd_X4_resize ⟨⟨rfl, rfl⟩, ⟨(Nat.le_of_ble_eq_true rfl), (Nat.le_of_ble_eq_true rfl)⟩, ⟨(Nat.le_of_ble_eq_true rfl), (Nat.le_of_ble_eq_true rfl)⟩, (Nat.le_of_ble_eq_true rfl)⟩ hx rfl dL_resize_4 (fun E hE => ⟨8, by subst hE; exact CatchOk.c1 F hname (by decide) (by decide) (by decide +kernel) (by decide +kernel), fun q9 => ?_⟩) (fun v9 M9 hq => hq.elim)
  refine v_astore F dL_resize_8 rfl (Nat.le_of_ble_eq_true rfl) (ok2_d rfl) ?_
  refine v_ldc (v := (-1000001)) F (by decide +kernel) dL_resize_10 ?_
  exact v_iret F hr dL_resize_12 (Nat.le_of_ble_eq_true rfl) (Nat.le_of_ble_eq_true rfl) ⟨rfl, rfl⟩
set_option maxHeartbeats 4000000 in
set_option maxRecDepth 100000 in
theorem h_resize_xa {l : Launch} {ω : Om} {M : MM} {a : Nat} {fs : List Value} (hx : M a = some (.inr (4, fs))) {p0 p1 p2 : Int32} (hM : CtX l ω yX4_resize wsX4_resize rmX4_resize [.ref a, .int p0, .int p1, .int p2] M (fun v M9 => False) (fun E => E = "java/lang/IllegalArgumentException") 3 18) : CtN l ω yL_resize wsL_resize rmL_resize [.ref a, .int p0, .int p1, .int p2] M (fun v M9 => v = some (.int (-1000002)) ∧ M9 = M) 3 18 := by
  refine CtN.ofV (cc := cL_resize) (maxL := 5) (ret := (some .int)) [some (.ref a), some (.int p0), some (.int p1), some (.int p2), none] (by decide) rfl (Nat.le_of_ble_eq_true rfl) rfl (Lc.av (av := [.ref a, .int p0, .int p1, .int p2]) (k := 1) rfl) ?_
  intro σ F hl hr hname hNc
  have F : Fx ω σ cL_resize 5 wsL_resize RL rmL_resize := F
  subst hl
  refine v_aload_n F dL_resize_0 rfl rfl ?_
  refine v_iload_n F dL_resize_1 rfl ?_
  refine v_iload_n F dL_resize_2 rfl ?_
  refine v_iload_n F dL_resize_3 rfl ?_
  refine v_callVC F 3 [_, _, _] rfl rfl rfl (hM) gL_resize_X4_resize rfl hd_X4_resize ⟨⟨rfl, rfl⟩, ⟨(Nat.le_of_ble_eq_true rfl), (Nat.le_of_ble_eq_true rfl)⟩, ⟨(Nat.le_of_ble_eq_true rfl), (Nat.le_of_ble_eq_true rfl)⟩, (Nat.le_of_ble_eq_true rfl)⟩ hx rfl dL_resize_4 (fun E hE => ⟨13, by subst hE; exact CatchOk.c2 (nm := "java/lang/IndexOutOfBoundsException") F hname (by decide) (by decide) (by decide) (by decide +kernel) (by decide +kernel) hNc.1 (by decide +kernel), fun q9 => ?_⟩) (fun v9 M9 hq => hq.elim)
  refine v_astore F dL_resize_13 rfl (Nat.le_of_ble_eq_true rfl) (ok2_d rfl) ?_
  refine v_ldc (v := (-1000002)) F (by decide +kernel) dL_resize_15 ?_
  exact v_iret F hr dL_resize_17 (Nat.le_of_ble_eq_true rfl) (Nat.le_of_ble_eq_true rfl) ⟨rfl, rfl⟩
def rmL_remove : Room := { frames := 74, cells := 2, slots := 12, locals := 1690 }
theorem hd_L_remove : yL_remove.cls ≠ "java/lang/invoke/MethodHandle" ∧ yL_remove.cls ≠ "java/lang/invoke/VarHandle" ∧ (parseMethodDescriptor yL_remove.desc).map (fun d => d.parameters.length) = some 2 := by decide +kernel
set_option maxHeartbeats 4000000 in
set_option maxRecDepth 100000 in
theorem h_remove_ok {l : Launch} {ω : Om} {M : MM} {a : Nat} {fs : List Value} (hx : M a = some (.inr (4, fs))) {p0 : Int32} {PQ0 : Option Value → MM → Prop} (hM : Ct l ω yX4_remove wsX4_remove rmX4_remove [.ref a, .int p0] M PQ0 2 12) (hpq : ∀ v M9, PQ0 v M9 → ∃ x : Int32, v = some (.int x)) : CtN l ω yL_remove wsL_remove rmL_remove [.ref a, .int p0] M (fun v M9 => PQ0 v M9) 2 12 := by
  refine CtN.ofV (cc := cL_remove) (maxL := 3) (ret := (some .int)) [some (.ref a), some (.int p0), none] (by decide) rfl (Nat.le_of_ble_eq_true rfl) rfl (Lc.av (av := [.ref a, .int p0]) (k := 1) rfl) ?_
  intro σ F hl hr hname hNc
  have F : Fx ω σ cL_remove 3 wsL_remove RL rmL_remove := F
  subst hl
  refine v_aload_n F dL_remove_0 rfl rfl ?_
  refine v_iload_n F dL_remove_1 rfl ?_
  refine v_callV F 1 [_] rfl rfl rfl (hM) gL_remove_X4_remove rfl hd_X4_remove ⟨⟨rfl, rfl⟩, ⟨(Nat.le_of_ble_eq_true rfl), (Nat.le_of_ble_eq_true rfl)⟩, ⟨(Nat.le_of_ble_eq_true rfl), (Nat.le_of_ble_eq_true rfl)⟩, (Nat.le_of_ble_eq_true rfl)⟩ hx rfl dL_remove_2 (fun v2 M2 q2 => ?_)
  obtain ⟨x, rfl⟩ := hpq _ _ q2
  exact v_iret F hr dL_remove_5 (Nat.le_of_ble_eq_true rfl) (Nat.le_of_ble_eq_true rfl) q2
set_option maxHeartbeats 4000000 in
set_option maxRecDepth 100000 in
theorem h_remove_xi {l : Launch} {ω : Om} {M : MM} {a : Nat} {fs : List Value} (hx : M a = some (.inr (4, fs))) {p0 : Int32} (hM : CtX l ω yX4_remove wsX4_remove rmX4_remove [.ref a, .int p0] M (fun v M9 => False) (fun E => E = "java/lang/IndexOutOfBoundsException") 2 12) : CtN l ω yL_remove wsL_remove rmL_remove [.ref a, .int p0] M (fun v M9 => v = some (.int (-1000001)) ∧ M9 = M) 2 12 := by
  refine CtN.ofV (cc := cL_remove) (maxL := 3) (ret := (some .int)) [some (.ref a), some (.int p0), none] (by decide) rfl (Nat.le_of_ble_eq_true rfl) rfl (Lc.av (av := [.ref a, .int p0]) (k := 1) rfl) ?_
  intro σ F hl hr hname hNc
  have F : Fx ω σ cL_remove 3 wsL_remove RL rmL_remove := F
  subst hl
  refine v_aload_n F dL_remove_0 rfl rfl ?_
  refine v_iload_n F dL_remove_1 rfl ?_
  refine v_callVC F 1 [_] rfl rfl rfl (hM) gL_remove_X4_remove rfl hd_X4_remove ⟨⟨rfl, rfl⟩, ⟨(Nat.le_of_ble_eq_true rfl), (Nat.le_of_ble_eq_true rfl)⟩, ⟨(Nat.le_of_ble_eq_true rfl), (Nat.le_of_ble_eq_true rfl)⟩, (Nat.le_of_ble_eq_true rfl)⟩ hx rfl dL_remove_2 (fun E hE => ⟨6, by subst hE; exact CatchOk.c1 F hname (by decide) (by decide) (by decide +kernel) (by decide +kernel), fun q9 => ?_⟩) (fun v9 M9 hq => hq.elim)
  refine v_astore_n F dL_remove_6 rfl (Nat.le_of_ble_eq_true rfl) (ok2_d rfl) ?_
  refine v_ldc (v := (-1000001)) F (by decide +kernel) dL_remove_7 ?_
  exact v_iret F hr dL_remove_9 (Nat.le_of_ble_eq_true rfl) (Nat.le_of_ble_eq_true rfl) ⟨rfl, rfl⟩
def rmL_tie : Room := { frames := 74, cells := 3, slots := 18, locals := 1692 }
theorem hd_L_tie : yL_tie.cls ≠ "java/lang/invoke/MethodHandle" ∧ yL_tie.cls ≠ "java/lang/invoke/VarHandle" ∧ (parseMethodDescriptor yL_tie.desc).map (fun d => d.parameters.length) = some 3 := by decide +kernel
set_option maxHeartbeats 4000000 in
set_option maxRecDepth 100000 in
theorem h_tie_ok {l : Launch} {ω : Om} {M : MM} {a : Nat} {fs : List Value} (hx : M a = some (.inr (4, fs))) {p0 p1 : Int32} {PQ0 : Option Value → MM → Prop} (hM : Ct l ω yX4_tie wsX4_tie rmX4_tie [.ref a, .int p0, .int p1] M PQ0 3 18) (hpq : ∀ v M9, PQ0 v M9 → ∃ x : Int32, v = some (.int x)) : CtN l ω yL_tie wsL_tie rmL_tie [.ref a, .int p0, .int p1] M (fun v M9 => PQ0 v M9) 3 18 := by
  refine CtN.ofV (cc := cL_tie) (maxL := 4) (ret := (some .int)) [some (.ref a), some (.int p0), some (.int p1), none] (by decide) rfl (Nat.le_of_ble_eq_true rfl) rfl (Lc.av (av := [.ref a, .int p0, .int p1]) (k := 1) rfl) ?_
  intro σ F hl hr hname hNc
  have F : Fx ω σ cL_tie 4 wsL_tie RL rmL_tie := F
  subst hl
  refine v_aload_n F dL_tie_0 rfl rfl ?_
  refine v_iload_n F dL_tie_1 rfl ?_
  refine v_iload_n F dL_tie_2 rfl ?_
  refine v_callV F 2 [_, _] rfl rfl rfl (hM) gL_tie_X4_tie rfl hd_X4_tie ⟨⟨rfl, rfl⟩, ⟨(Nat.le_of_ble_eq_true rfl), (Nat.le_of_ble_eq_true rfl)⟩, ⟨(Nat.le_of_ble_eq_true rfl), (Nat.le_of_ble_eq_true rfl)⟩, (Nat.le_of_ble_eq_true rfl)⟩ hx rfl dL_tie_3 (fun v3 M3 q3 => ?_)
  obtain ⟨x, rfl⟩ := hpq _ _ q3
  exact v_iret F hr dL_tie_6 (Nat.le_of_ble_eq_true rfl) (Nat.le_of_ble_eq_true rfl) q3
set_option maxHeartbeats 4000000 in
set_option maxRecDepth 100000 in
theorem h_tie_xi {l : Launch} {ω : Om} {M : MM} {a : Nat} {fs : List Value} (hx : M a = some (.inr (4, fs))) {p0 p1 : Int32} (hM : CtX l ω yX4_tie wsX4_tie rmX4_tie [.ref a, .int p0, .int p1] M (fun v M9 => False) (fun E => E = "java/lang/IndexOutOfBoundsException") 3 18) : CtN l ω yL_tie wsL_tie rmL_tie [.ref a, .int p0, .int p1] M (fun v M9 => v = some (.int (-1000001)) ∧ M9 = M) 3 18 := by
  refine CtN.ofV (cc := cL_tie) (maxL := 4) (ret := (some .int)) [some (.ref a), some (.int p0), some (.int p1), none] (by decide) rfl (Nat.le_of_ble_eq_true rfl) rfl (Lc.av (av := [.ref a, .int p0, .int p1]) (k := 1) rfl) ?_
  intro σ F hl hr hname hNc
  have F : Fx ω σ cL_tie 4 wsL_tie RL rmL_tie := F
  subst hl
  refine v_aload_n F dL_tie_0 rfl rfl ?_
  refine v_iload_n F dL_tie_1 rfl ?_
  refine v_iload_n F dL_tie_2 rfl ?_
  refine v_callVC F 2 [_, _] rfl rfl rfl (hM) gL_tie_X4_tie rfl hd_X4_tie ⟨⟨rfl, rfl⟩, ⟨(Nat.le_of_ble_eq_true rfl), (Nat.le_of_ble_eq_true rfl)⟩, ⟨(Nat.le_of_ble_eq_true rfl), (Nat.le_of_ble_eq_true rfl)⟩, (Nat.le_of_ble_eq_true rfl)⟩ hx rfl dL_tie_3 (fun E hE => ⟨7, by subst hE; exact CatchOk.c1 F hname (by decide) (by decide) (by decide +kernel) (by decide +kernel), fun q9 => ?_⟩) (fun v9 M9 hq => hq.elim)
  refine v_astore_n F dL_tie_7 rfl (Nat.le_of_ble_eq_true rfl) (ok2_d rfl) ?_
  refine v_ldc (v := (-1000001)) F (by decide +kernel) dL_tie_8 ?_
  exact v_iret F hr dL_tie_10 (Nat.le_of_ble_eq_true rfl) (Nat.le_of_ble_eq_true rfl) ⟨rfl, rfl⟩
set_option maxHeartbeats 4000000 in
set_option maxRecDepth 100000 in
theorem h_tie_xa {l : Launch} {ω : Om} {M : MM} {a : Nat} {fs : List Value} (hx : M a = some (.inr (4, fs))) {p0 p1 : Int32} (hM : CtX l ω yX4_tie wsX4_tie rmX4_tie [.ref a, .int p0, .int p1] M (fun v M9 => False) (fun E => E = "java/lang/IllegalArgumentException") 3 18) : CtN l ω yL_tie wsL_tie rmL_tie [.ref a, .int p0, .int p1] M (fun v M9 => v = some (.int (-1000002)) ∧ M9 = M) 3 18 := by
  refine CtN.ofV (cc := cL_tie) (maxL := 4) (ret := (some .int)) [some (.ref a), some (.int p0), some (.int p1), none] (by decide) rfl (Nat.le_of_ble_eq_true rfl) rfl (Lc.av (av := [.ref a, .int p0, .int p1]) (k := 1) rfl) ?_
  intro σ F hl hr hname hNc
  have F : Fx ω σ cL_tie 4 wsL_tie RL rmL_tie := F
  subst hl
  refine v_aload_n F dL_tie_0 rfl rfl ?_
  refine v_iload_n F dL_tie_1 rfl ?_
  refine v_iload_n F dL_tie_2 rfl ?_
  refine v_callVC F 2 [_, _] rfl rfl rfl (hM) gL_tie_X4_tie rfl hd_X4_tie ⟨⟨rfl, rfl⟩, ⟨(Nat.le_of_ble_eq_true rfl), (Nat.le_of_ble_eq_true rfl)⟩, ⟨(Nat.le_of_ble_eq_true rfl), (Nat.le_of_ble_eq_true rfl)⟩, (Nat.le_of_ble_eq_true rfl)⟩ hx rfl dL_tie_3 (fun E hE => ⟨11, by subst hE; exact CatchOk.c2 (nm := "java/lang/IndexOutOfBoundsException") F hname (by decide) (by decide) (by decide) (by decide +kernel) (by decide +kernel) hNc.1 (by decide +kernel), fun q9 => ?_⟩) (fun v9 M9 hq => hq.elim)
  refine v_astore_n F dL_tie_11 rfl (Nat.le_of_ble_eq_true rfl) (ok2_d rfl) ?_
  refine v_ldc (v := (-1000002)) F (by decide +kernel) dL_tie_12 ?_
  exact v_iret F hr dL_tie_14 (Nat.le_of_ble_eq_true rfl) (Nat.le_of_ble_eq_true rfl) ⟨rfl, rfl⟩
set_option maxHeartbeats 4000000 in
set_option maxRecDepth 100000 in
theorem h_tie_xs {l : Launch} {ω : Om} {M : MM} {a : Nat} {fs : List Value} (hx : M a = some (.inr (4, fs))) {p0 p1 : Int32} (hM : CtX l ω yX4_tie wsX4_tie rmX4_tie [.ref a, .int p0, .int p1] M (fun v M9 => False) (fun E => E = "java/lang/IllegalStateException") 3 18) : CtN l ω yL_tie wsL_tie rmL_tie [.ref a, .int p0, .int p1] M (fun v M9 => v = some (.int (-1000003)) ∧ M9 = M) 3 18 := by
  refine CtN.ofV (cc := cL_tie) (maxL := 4) (ret := (some .int)) [some (.ref a), some (.int p0), some (.int p1), none] (by decide) rfl (Nat.le_of_ble_eq_true rfl) rfl (Lc.av (av := [.ref a, .int p0, .int p1]) (k := 1) rfl) ?_
  intro σ F hl hr hname hNc
  have F : Fx ω σ cL_tie 4 wsL_tie RL rmL_tie := F
  subst hl
  refine v_aload_n F dL_tie_0 rfl rfl ?_
  refine v_iload_n F dL_tie_1 rfl ?_
  refine v_iload_n F dL_tie_2 rfl ?_
  refine v_callVC F 2 [_, _] rfl rfl rfl (hM) gL_tie_X4_tie rfl hd_X4_tie ⟨⟨rfl, rfl⟩, ⟨(Nat.le_of_ble_eq_true rfl), (Nat.le_of_ble_eq_true rfl)⟩, ⟨(Nat.le_of_ble_eq_true rfl), (Nat.le_of_ble_eq_true rfl)⟩, (Nat.le_of_ble_eq_true rfl)⟩ hx rfl dL_tie_3 (fun E hE => ⟨15, by subst hE; exact CatchOk.c3 (nm := "java/lang/IndexOutOfBoundsException") (nm2 := "java/lang/IllegalArgumentException") F hname (by decide) (by decide) (by decide) (by decide) (by decide +kernel) (by decide +kernel) (by decide +kernel) hNc.2.1 hNc.2.2 (by decide +kernel), fun q9 => ?_⟩) (fun v9 M9 hq => hq.elim)
  refine v_astore_n F dL_tie_15 rfl (Nat.le_of_ble_eq_true rfl) (ok2_d rfl) ?_
  refine v_ldc (v := (-1000003)) F (by decide +kernel) dL_tie_16 ?_
  exact v_iret F hr dL_tie_18 (Nat.le_of_ble_eq_true rfl) (Nat.le_of_ble_eq_true rfl) ⟨rfl, rfl⟩
def rmL_untie : Room := { frames := 74, cells := 3, slots := 18, locals := 1690 }
theorem hd_L_untie : yL_untie.cls ≠ "java/lang/invoke/MethodHandle" ∧ yL_untie.cls ≠ "java/lang/invoke/VarHandle" ∧ (parseMethodDescriptor yL_untie.desc).map (fun d => d.parameters.length) = some 2 := by decide +kernel
set_option maxHeartbeats 4000000 in
set_option maxRecDepth 100000 in
theorem h_untie_ok {l : Launch} {ω : Om} {M : MM} {a : Nat} {fs : List Value} (hx : M a = some (.inr (4, fs))) {p0 : Int32} {PQ0 : Option Value → MM → Prop} (hM : Ct l ω yX4_untie wsX4_untie rmX4_untie [.ref a, .int p0] M PQ0 3 18) (hpq : ∀ v M9, PQ0 v M9 → ∃ x : Int32, v = some (.int x)) : CtN l ω yL_untie wsL_untie rmL_untie [.ref a, .int p0] M (fun v M9 => PQ0 v M9) 3 18 := by
  refine CtN.ofV (cc := cL_untie) (maxL := 3) (ret := (some .int)) [some (.ref a), some (.int p0), none] (by decide) rfl (Nat.le_of_ble_eq_true rfl) rfl (Lc.av (av := [.ref a, .int p0]) (k := 1) rfl) ?_
  intro σ F hl hr hname hNc
  have F : Fx ω σ cL_untie 3 wsL_untie RL rmL_untie := F
  subst hl
  refine v_aload_n F dL_untie_0 rfl rfl ?_
  refine v_iload_n F dL_untie_1 rfl ?_
  refine v_callV F 1 [_] rfl rfl rfl (hM) gL_untie_X4_untie rfl hd_X4_untie ⟨⟨rfl, rfl⟩, ⟨(Nat.le_of_ble_eq_true rfl), (Nat.le_of_ble_eq_true rfl)⟩, ⟨(Nat.le_of_ble_eq_true rfl), (Nat.le_of_ble_eq_true rfl)⟩, (Nat.le_of_ble_eq_true rfl)⟩ hx rfl dL_untie_2 (fun v2 M2 q2 => ?_)
  obtain ⟨x, rfl⟩ := hpq _ _ q2
  exact v_iret F hr dL_untie_5 (Nat.le_of_ble_eq_true rfl) (Nat.le_of_ble_eq_true rfl) q2
set_option maxHeartbeats 4000000 in
set_option maxRecDepth 100000 in
theorem h_untie_xi {l : Launch} {ω : Om} {M : MM} {a : Nat} {fs : List Value} (hx : M a = some (.inr (4, fs))) {p0 : Int32} (hM : CtX l ω yX4_untie wsX4_untie rmX4_untie [.ref a, .int p0] M (fun v M9 => False) (fun E => E = "java/lang/IndexOutOfBoundsException") 3 18) : CtN l ω yL_untie wsL_untie rmL_untie [.ref a, .int p0] M (fun v M9 => v = some (.int (-1000001)) ∧ M9 = M) 3 18 := by
  refine CtN.ofV (cc := cL_untie) (maxL := 3) (ret := (some .int)) [some (.ref a), some (.int p0), none] (by decide) rfl (Nat.le_of_ble_eq_true rfl) rfl (Lc.av (av := [.ref a, .int p0]) (k := 1) rfl) ?_
  intro σ F hl hr hname hNc
  have F : Fx ω σ cL_untie 3 wsL_untie RL rmL_untie := F
  subst hl
  refine v_aload_n F dL_untie_0 rfl rfl ?_
  refine v_iload_n F dL_untie_1 rfl ?_
  refine v_callVC F 1 [_] rfl rfl rfl (hM) gL_untie_X4_untie rfl hd_X4_untie ⟨⟨rfl, rfl⟩, ⟨(Nat.le_of_ble_eq_true rfl), (Nat.le_of_ble_eq_true rfl)⟩, ⟨(Nat.le_of_ble_eq_true rfl), (Nat.le_of_ble_eq_true rfl)⟩, (Nat.le_of_ble_eq_true rfl)⟩ hx rfl dL_untie_2 (fun E hE => ⟨6, by subst hE; exact CatchOk.c1 F hname (by decide) (by decide) (by decide +kernel) (by decide +kernel), fun q9 => ?_⟩) (fun v9 M9 hq => hq.elim)
  refine v_astore_n F dL_untie_6 rfl (Nat.le_of_ble_eq_true rfl) (ok2_d rfl) ?_
  refine v_ldc (v := (-1000001)) F (by decide +kernel) dL_untie_7 ?_
  exact v_iret F hr dL_untie_9 (Nat.le_of_ble_eq_true rfl) (Nat.le_of_ble_eq_true rfl) ⟨rfl, rfl⟩
set_option maxHeartbeats 4000000 in
set_option maxRecDepth 100000 in
theorem h_untie_xs {l : Launch} {ω : Om} {M : MM} {a : Nat} {fs : List Value} (hx : M a = some (.inr (4, fs))) {p0 : Int32} (hM : CtX l ω yX4_untie wsX4_untie rmX4_untie [.ref a, .int p0] M (fun v M9 => False) (fun E => E = "java/lang/IllegalStateException") 3 18) : CtN l ω yL_untie wsL_untie rmL_untie [.ref a, .int p0] M (fun v M9 => v = some (.int (-1000003)) ∧ M9 = M) 3 18 := by
  refine CtN.ofV (cc := cL_untie) (maxL := 3) (ret := (some .int)) [some (.ref a), some (.int p0), none] (by decide) rfl (Nat.le_of_ble_eq_true rfl) rfl (Lc.av (av := [.ref a, .int p0]) (k := 1) rfl) ?_
  intro σ F hl hr hname hNc
  have F : Fx ω σ cL_untie 3 wsL_untie RL rmL_untie := F
  subst hl
  refine v_aload_n F dL_untie_0 rfl rfl ?_
  refine v_iload_n F dL_untie_1 rfl ?_
  refine v_callVC F 1 [_] rfl rfl rfl (hM) gL_untie_X4_untie rfl hd_X4_untie ⟨⟨rfl, rfl⟩, ⟨(Nat.le_of_ble_eq_true rfl), (Nat.le_of_ble_eq_true rfl)⟩, ⟨(Nat.le_of_ble_eq_true rfl), (Nat.le_of_ble_eq_true rfl)⟩, (Nat.le_of_ble_eq_true rfl)⟩ hx rfl dL_untie_2 (fun E hE => ⟨10, by subst hE; exact CatchOk.c2 (nm := "java/lang/IndexOutOfBoundsException") F hname (by decide) (by decide) (by decide) (by decide +kernel) (by decide +kernel) hNc.2.1 (by decide +kernel), fun q9 => ?_⟩) (fun v9 M9 hq => hq.elim)
  refine v_astore_n F dL_untie_10 rfl (Nat.le_of_ble_eq_true rfl) (ok2_d rfl) ?_
  refine v_ldc (v := (-1000003)) F (by decide +kernel) dL_untie_11 ?_
  exact v_iret F hr dL_untie_13 (Nat.le_of_ble_eq_true rfl) (Nat.le_of_ble_eq_true rfl) ⟨rfl, rfl⟩
def rmL_order : Room := { frames := 8, cells := 2, slots := 12, locals := 135 }
theorem hd_L_order : yL_order.cls ≠ "java/lang/invoke/MethodHandle" ∧ yL_order.cls ≠ "java/lang/invoke/VarHandle" ∧ (parseMethodDescriptor yL_order.desc).map (fun d => d.parameters.length) = some 3 := by decide +kernel
set_option maxHeartbeats 4000000 in
set_option maxRecDepth 100000 in
theorem h_order_ok {l : Launch} {ω : Om} {M : MM} {a : Nat} {fs : List Value} (hx : M a = some (.inr (4, fs))) {p0 p1 : Int32} {PQ0 : Option Value → MM → Prop} (hM : Ct l ω yX4_order wsX4_order rmX4_order [.ref a, .int p0, .int p1] M PQ0 2 12) (hpq : ∀ v M9, PQ0 v M9 → ∃ x : Int32, v = some (.int x)) : CtN l ω yL_order wsL_order rmL_order [.ref a, .int p0, .int p1] M (fun v M9 => PQ0 v M9) 2 12 := by
  refine CtN.ofV (cc := cL_order) (maxL := 4) (ret := (some .int)) [some (.ref a), some (.int p0), some (.int p1), none] (by decide) rfl (Nat.le_of_ble_eq_true rfl) rfl (Lc.av (av := [.ref a, .int p0, .int p1]) (k := 1) rfl) ?_
  intro σ F hl hr hname hNc
  have F : Fx ω σ cL_order 4 wsL_order RL rmL_order := F
  subst hl
  refine v_aload_n F dL_order_0 rfl rfl ?_
  refine v_iload_n F dL_order_1 rfl ?_
  refine v_iload_n F dL_order_2 rfl ?_
  refine v_callV F 2 [_, _] rfl rfl rfl (hM) gL_order_X4_order rfl hd_X4_order ⟨⟨rfl, rfl⟩, ⟨(Nat.le_of_ble_eq_true rfl), (Nat.le_of_ble_eq_true rfl)⟩, ⟨(Nat.le_of_ble_eq_true rfl), (Nat.le_of_ble_eq_true rfl)⟩, (Nat.le_of_ble_eq_true rfl)⟩ hx rfl dL_order_3 (fun v3 M3 q3 => ?_)
  obtain ⟨x, rfl⟩ := hpq _ _ q3
  exact v_iret F hr dL_order_6 (Nat.le_of_ble_eq_true rfl) (Nat.le_of_ble_eq_true rfl) q3
set_option maxHeartbeats 4000000 in
set_option maxRecDepth 100000 in
theorem h_order_xi {l : Launch} {ω : Om} {M : MM} {a : Nat} {fs : List Value} (hx : M a = some (.inr (4, fs))) {p0 p1 : Int32} (hM : CtX l ω yX4_order wsX4_order rmX4_order [.ref a, .int p0, .int p1] M (fun v M9 => False) (fun E => E = "java/lang/IndexOutOfBoundsException") 2 12) : CtN l ω yL_order wsL_order rmL_order [.ref a, .int p0, .int p1] M (fun v M9 => v = some (.int (-1000001)) ∧ M9 = M) 2 12 := by
  refine CtN.ofV (cc := cL_order) (maxL := 4) (ret := (some .int)) [some (.ref a), some (.int p0), some (.int p1), none] (by decide) rfl (Nat.le_of_ble_eq_true rfl) rfl (Lc.av (av := [.ref a, .int p0, .int p1]) (k := 1) rfl) ?_
  intro σ F hl hr hname hNc
  have F : Fx ω σ cL_order 4 wsL_order RL rmL_order := F
  subst hl
  refine v_aload_n F dL_order_0 rfl rfl ?_
  refine v_iload_n F dL_order_1 rfl ?_
  refine v_iload_n F dL_order_2 rfl ?_
  refine v_callVC F 2 [_, _] rfl rfl rfl (hM) gL_order_X4_order rfl hd_X4_order ⟨⟨rfl, rfl⟩, ⟨(Nat.le_of_ble_eq_true rfl), (Nat.le_of_ble_eq_true rfl)⟩, ⟨(Nat.le_of_ble_eq_true rfl), (Nat.le_of_ble_eq_true rfl)⟩, (Nat.le_of_ble_eq_true rfl)⟩ hx rfl dL_order_3 (fun E hE => ⟨7, by subst hE; exact CatchOk.c1 F hname (by decide) (by decide) (by decide +kernel) (by decide +kernel), fun q9 => ?_⟩) (fun v9 M9 hq => hq.elim)
  refine v_astore_n F dL_order_7 rfl (Nat.le_of_ble_eq_true rfl) (ok2_d rfl) ?_
  refine v_ldc (v := (-1000001)) F (by decide +kernel) dL_order_8 ?_
  exact v_iret F hr dL_order_10 (Nat.le_of_ble_eq_true rfl) (Nat.le_of_ble_eq_true rfl) ⟨rfl, rfl⟩
def rmL_orderAnew : Room := { frames := 8, cells := 2, slots := 12, locals := 134 }
theorem hd_L_orderAnew : yL_orderAnew.cls ≠ "java/lang/invoke/MethodHandle" ∧ yL_orderAnew.cls ≠ "java/lang/invoke/VarHandle" ∧ (parseMethodDescriptor yL_orderAnew.desc).map (fun d => d.parameters.length) = some 3 := by decide +kernel
set_option maxHeartbeats 4000000 in
set_option maxRecDepth 100000 in
theorem h_orderAnew_ok {l : Launch} {ω : Om} {M : MM} {a : Nat} {fs : List Value} (hx : M a = some (.inr (4, fs))) {p0 p1 : Int32} {PQ0 : Option Value → MM → Prop} (hM : Ct l ω yX4_orderAnew wsX4_orderAnew rmX4_orderAnew [.ref a, .int p0, .int p1] M PQ0 2 12) (hpq : ∀ v M9, PQ0 v M9 → ∃ x : Int32, v = some (.int x)) : CtN l ω yL_orderAnew wsL_orderAnew rmL_orderAnew [.ref a, .int p0, .int p1] M (fun v M9 => PQ0 v M9) 2 12 := by
  refine CtN.ofV (cc := cL_orderAnew) (maxL := 4) (ret := (some .int)) [some (.ref a), some (.int p0), some (.int p1), none] (by decide) rfl (Nat.le_of_ble_eq_true rfl) rfl (Lc.av (av := [.ref a, .int p0, .int p1]) (k := 1) rfl) ?_
  intro σ F hl hr hname hNc
  have F : Fx ω σ cL_orderAnew 4 wsL_orderAnew RL rmL_orderAnew := F
  subst hl
  refine v_aload_n F dL_orderAnew_0 rfl rfl ?_
  refine v_iload_n F dL_orderAnew_1 rfl ?_
  refine v_iload_n F dL_orderAnew_2 rfl ?_
  refine v_callV F 2 [_, _] rfl rfl rfl (hM) gL_orderAnew_X4_orderAnew rfl hd_X4_orderAnew ⟨⟨rfl, rfl⟩, ⟨(Nat.le_of_ble_eq_true rfl), (Nat.le_of_ble_eq_true rfl)⟩, ⟨(Nat.le_of_ble_eq_true rfl), (Nat.le_of_ble_eq_true rfl)⟩, (Nat.le_of_ble_eq_true rfl)⟩ hx rfl dL_orderAnew_3 (fun v3 M3 q3 => ?_)
  obtain ⟨x, rfl⟩ := hpq _ _ q3
  exact v_iret F hr dL_orderAnew_6 (Nat.le_of_ble_eq_true rfl) (Nat.le_of_ble_eq_true rfl) q3
set_option maxHeartbeats 4000000 in
set_option maxRecDepth 100000 in
theorem h_orderAnew_xi {l : Launch} {ω : Om} {M : MM} {a : Nat} {fs : List Value} (hx : M a = some (.inr (4, fs))) {p0 p1 : Int32} (hM : CtX l ω yX4_orderAnew wsX4_orderAnew rmX4_orderAnew [.ref a, .int p0, .int p1] M (fun v M9 => False) (fun E => E = "java/lang/IndexOutOfBoundsException") 2 12) : CtN l ω yL_orderAnew wsL_orderAnew rmL_orderAnew [.ref a, .int p0, .int p1] M (fun v M9 => v = some (.int (-1000001)) ∧ M9 = M) 2 12 := by
  refine CtN.ofV (cc := cL_orderAnew) (maxL := 4) (ret := (some .int)) [some (.ref a), some (.int p0), some (.int p1), none] (by decide) rfl (Nat.le_of_ble_eq_true rfl) rfl (Lc.av (av := [.ref a, .int p0, .int p1]) (k := 1) rfl) ?_
  intro σ F hl hr hname hNc
  have F : Fx ω σ cL_orderAnew 4 wsL_orderAnew RL rmL_orderAnew := F
  subst hl
  refine v_aload_n F dL_orderAnew_0 rfl rfl ?_
  refine v_iload_n F dL_orderAnew_1 rfl ?_
  refine v_iload_n F dL_orderAnew_2 rfl ?_
  refine v_callVC F 2 [_, _] rfl rfl rfl (hM) gL_orderAnew_X4_orderAnew rfl hd_X4_orderAnew ⟨⟨rfl, rfl⟩, ⟨(Nat.le_of_ble_eq_true rfl), (Nat.le_of_ble_eq_true rfl)⟩, ⟨(Nat.le_of_ble_eq_true rfl), (Nat.le_of_ble_eq_true rfl)⟩, (Nat.le_of_ble_eq_true rfl)⟩ hx rfl dL_orderAnew_3 (fun E hE => ⟨7, by subst hE; exact CatchOk.c1 F hname (by decide) (by decide) (by decide +kernel) (by decide +kernel), fun q9 => ?_⟩) (fun v9 M9 hq => hq.elim)
  refine v_astore_n F dL_orderAnew_7 rfl (Nat.le_of_ble_eq_true rfl) (ok2_d rfl) ?_
  refine v_ldc (v := (-1000001)) F (by decide +kernel) dL_orderAnew_8 ?_
  exact v_iret F hr dL_orderAnew_10 (Nat.le_of_ble_eq_true rfl) (Nat.le_of_ble_eq_true rfl) ⟨rfl, rfl⟩
def rmL_placeOf : Room := { frames := 8, cells := 2, slots := 12, locals := 134 }
theorem hd_L_placeOf : yL_placeOf.cls ≠ "java/lang/invoke/MethodHandle" ∧ yL_placeOf.cls ≠ "java/lang/invoke/VarHandle" ∧ (parseMethodDescriptor yL_placeOf.desc).map (fun d => d.parameters.length) = some 2 := by decide +kernel
set_option maxHeartbeats 4000000 in
set_option maxRecDepth 100000 in
theorem h_placeOf_ok {l : Launch} {ω : Om} {M : MM} {a : Nat} {fs : List Value} (hx : M a = some (.inr (4, fs))) {p0 : Int32} {PQ0 : Option Value → MM → Prop} (hM : Ct l ω yX4_placeOf wsX4_placeOf rmX4_placeOf [.ref a, .int p0] M PQ0 2 12) (hpq : ∀ v M9, PQ0 v M9 → ∃ x : Int32, v = some (.int x)) : CtN l ω yL_placeOf wsL_placeOf rmL_placeOf [.ref a, .int p0] M (fun v M9 => PQ0 v M9) 2 12 := by
  refine CtN.ofV (cc := cL_placeOf) (maxL := 3) (ret := (some .int)) [some (.ref a), some (.int p0), none] (by decide) rfl (Nat.le_of_ble_eq_true rfl) rfl (Lc.av (av := [.ref a, .int p0]) (k := 1) rfl) ?_
  intro σ F hl hr hname hNc
  have F : Fx ω σ cL_placeOf 3 wsL_placeOf RL rmL_placeOf := F
  subst hl
  refine v_aload_n F dL_placeOf_0 rfl rfl ?_
  refine v_iload_n F dL_placeOf_1 rfl ?_
  refine v_callV F 1 [_] rfl rfl rfl (hM) gL_placeOf_X4_placeOf rfl hd_X4_placeOf ⟨⟨rfl, rfl⟩, ⟨(Nat.le_of_ble_eq_true rfl), (Nat.le_of_ble_eq_true rfl)⟩, ⟨(Nat.le_of_ble_eq_true rfl), (Nat.le_of_ble_eq_true rfl)⟩, (Nat.le_of_ble_eq_true rfl)⟩ hx rfl dL_placeOf_2 (fun v2 M2 q2 => ?_)
  obtain ⟨x, rfl⟩ := hpq _ _ q2
  exact v_iret F hr dL_placeOf_5 (Nat.le_of_ble_eq_true rfl) (Nat.le_of_ble_eq_true rfl) q2
set_option maxHeartbeats 4000000 in
set_option maxRecDepth 100000 in
theorem h_placeOf_xi {l : Launch} {ω : Om} {M : MM} {a : Nat} {fs : List Value} (hx : M a = some (.inr (4, fs))) {p0 : Int32} (hM : CtX l ω yX4_placeOf wsX4_placeOf rmX4_placeOf [.ref a, .int p0] M (fun v M9 => False) (fun E => E = "java/lang/IndexOutOfBoundsException") 2 12) : CtN l ω yL_placeOf wsL_placeOf rmL_placeOf [.ref a, .int p0] M (fun v M9 => v = some (.int (-1000001)) ∧ M9 = M) 2 12 := by
  refine CtN.ofV (cc := cL_placeOf) (maxL := 3) (ret := (some .int)) [some (.ref a), some (.int p0), none] (by decide) rfl (Nat.le_of_ble_eq_true rfl) rfl (Lc.av (av := [.ref a, .int p0]) (k := 1) rfl) ?_
  intro σ F hl hr hname hNc
  have F : Fx ω σ cL_placeOf 3 wsL_placeOf RL rmL_placeOf := F
  subst hl
  refine v_aload_n F dL_placeOf_0 rfl rfl ?_
  refine v_iload_n F dL_placeOf_1 rfl ?_
  refine v_callVC F 1 [_] rfl rfl rfl (hM) gL_placeOf_X4_placeOf rfl hd_X4_placeOf ⟨⟨rfl, rfl⟩, ⟨(Nat.le_of_ble_eq_true rfl), (Nat.le_of_ble_eq_true rfl)⟩, ⟨(Nat.le_of_ble_eq_true rfl), (Nat.le_of_ble_eq_true rfl)⟩, (Nat.le_of_ble_eq_true rfl)⟩ hx rfl dL_placeOf_2 (fun E hE => ⟨6, by subst hE; exact CatchOk.c1 F hname (by decide) (by decide) (by decide +kernel) (by decide +kernel), fun q9 => ?_⟩) (fun v9 M9 hq => hq.elim)
  refine v_astore_n F dL_placeOf_6 rfl (Nat.le_of_ble_eq_true rfl) (ok2_d rfl) ?_
  refine v_ldc (v := (-1000001)) F (by decide +kernel) dL_placeOf_7 ?_
  exact v_iret F hr dL_placeOf_9 (Nat.le_of_ble_eq_true rfl) (Nat.le_of_ble_eq_true rfl) ⟨rfl, rfl⟩
def rmL_boxes : Room := { frames := 8, cells := 1, slots := 6, locals := 133 }
theorem hd_L_boxes : yL_boxes.cls ≠ "java/lang/invoke/MethodHandle" ∧ yL_boxes.cls ≠ "java/lang/invoke/VarHandle" ∧ (parseMethodDescriptor yL_boxes.desc).map (fun d => d.parameters.length) = some 2 := by decide +kernel
set_option maxHeartbeats 4000000 in
set_option maxRecDepth 100000 in
theorem h_boxes_ok {l : Launch} {ω : Om} {M : MM} {a : Nat} {fs : List Value} (hx : M a = some (.inr (4, fs))) {p0 : Int32} {PQ0 : Option Value → MM → Prop} (hM : Ct l ω yX4_boxes wsX4_boxes rmX4_boxes [.ref a, .int p0] M PQ0 1 6) (hpq : ∀ v M9, PQ0 v M9 → ∃ x : Int32, v = some (.int x)) : CtN l ω yL_boxes wsL_boxes rmL_boxes [.ref a, .int p0] M (fun v M9 => PQ0 v M9) 1 6 := by
  refine CtN.ofV (cc := cL_boxes) (maxL := 3) (ret := (some .int)) [some (.ref a), some (.int p0), none] (by decide) rfl (Nat.le_of_ble_eq_true rfl) rfl (Lc.av (av := [.ref a, .int p0]) (k := 1) rfl) ?_
  intro σ F hl hr hname hNc
  have F : Fx ω σ cL_boxes 3 wsL_boxes RL rmL_boxes := F
  subst hl
  refine v_aload_n F dL_boxes_0 rfl rfl ?_
  refine v_iload_n F dL_boxes_1 rfl ?_
  refine v_callV F 1 [_] rfl rfl rfl (hM) gL_boxes_X4_boxes rfl hd_X4_boxes ⟨⟨rfl, rfl⟩, ⟨(Nat.le_of_ble_eq_true rfl), (Nat.le_of_ble_eq_true rfl)⟩, ⟨(Nat.le_of_ble_eq_true rfl), (Nat.le_of_ble_eq_true rfl)⟩, (Nat.le_of_ble_eq_true rfl)⟩ hx rfl dL_boxes_2 (fun v2 M2 q2 => ?_)
  obtain ⟨x, rfl⟩ := hpq _ _ q2
  exact v_iret F hr dL_boxes_5 (Nat.le_of_ble_eq_true rfl) (Nat.le_of_ble_eq_true rfl) q2
set_option maxHeartbeats 4000000 in
set_option maxRecDepth 100000 in
theorem h_boxes_xi {l : Launch} {ω : Om} {M : MM} {a : Nat} {fs : List Value} (hx : M a = some (.inr (4, fs))) {p0 : Int32} (hM : CtX l ω yX4_boxes wsX4_boxes rmX4_boxes [.ref a, .int p0] M (fun v M9 => False) (fun E => E = "java/lang/IndexOutOfBoundsException") 1 6) : CtN l ω yL_boxes wsL_boxes rmL_boxes [.ref a, .int p0] M (fun v M9 => v = some (.int (-1000001)) ∧ M9 = M) 1 6 := by
  refine CtN.ofV (cc := cL_boxes) (maxL := 3) (ret := (some .int)) [some (.ref a), some (.int p0), none] (by decide) rfl (Nat.le_of_ble_eq_true rfl) rfl (Lc.av (av := [.ref a, .int p0]) (k := 1) rfl) ?_
  intro σ F hl hr hname hNc
  have F : Fx ω σ cL_boxes 3 wsL_boxes RL rmL_boxes := F
  subst hl
  refine v_aload_n F dL_boxes_0 rfl rfl ?_
  refine v_iload_n F dL_boxes_1 rfl ?_
  refine v_callVC F 1 [_] rfl rfl rfl (hM) gL_boxes_X4_boxes rfl hd_X4_boxes ⟨⟨rfl, rfl⟩, ⟨(Nat.le_of_ble_eq_true rfl), (Nat.le_of_ble_eq_true rfl)⟩, ⟨(Nat.le_of_ble_eq_true rfl), (Nat.le_of_ble_eq_true rfl)⟩, (Nat.le_of_ble_eq_true rfl)⟩ hx rfl dL_boxes_2 (fun E hE => ⟨6, by subst hE; exact CatchOk.c1 F hname (by decide) (by decide) (by decide +kernel) (by decide +kernel), fun q9 => ?_⟩) (fun v9 M9 hq => hq.elim)
  refine v_astore_n F dL_boxes_6 rfl (Nat.le_of_ble_eq_true rfl) (ok2_d rfl) ?_
  refine v_ldc (v := (-1000001)) F (by decide +kernel) dL_boxes_7 ?_
  exact v_iret F hr dL_boxes_9 (Nat.le_of_ble_eq_true rfl) (Nat.le_of_ble_eq_true rfl) ⟨rfl, rfl⟩
def rmL_about : Room := { frames := 7, cells := 1, slots := 6, locals := 113 }
theorem hd_L_about : yL_about.cls ≠ "java/lang/invoke/MethodHandle" ∧ yL_about.cls ≠ "java/lang/invoke/VarHandle" ∧ (parseMethodDescriptor yL_about.desc).map (fun d => d.parameters.length) = some 3 := by decide +kernel
set_option maxHeartbeats 4000000 in
set_option maxRecDepth 100000 in
theorem h_about_ok {l : Launch} {ω : Om} {M : MM} {a : Nat} {fs : List Value} (hx : M a = some (.inr (4, fs))) {p0 p1 : Int32} {PQ0 : Option Value → MM → Prop} (hM : Ct l ω yX4_about wsX4_about rmX4_about [.ref a, .int p0, .int p1] M PQ0 1 6) (hpq : ∀ v M9, PQ0 v M9 → ∃ x : Int32, v = some (.int x)) : CtN l ω yL_about wsL_about rmL_about [.ref a, .int p0, .int p1] M (fun v M9 => PQ0 v M9) 1 6 := by
  refine CtN.ofV (cc := cL_about) (maxL := 4) (ret := (some .int)) [some (.ref a), some (.int p0), some (.int p1), none] (by decide) rfl (Nat.le_of_ble_eq_true rfl) rfl (Lc.av (av := [.ref a, .int p0, .int p1]) (k := 1) rfl) ?_
  intro σ F hl hr hname hNc
  have F : Fx ω σ cL_about 4 wsL_about RL rmL_about := F
  subst hl
  refine v_aload_n F dL_about_0 rfl rfl ?_
  refine v_iload_n F dL_about_1 rfl ?_
  refine v_iload_n F dL_about_2 rfl ?_
  refine v_callV F 2 [_, _] rfl rfl rfl (hM) gL_about_X4_about rfl hd_X4_about ⟨⟨rfl, rfl⟩, ⟨(Nat.le_of_ble_eq_true rfl), (Nat.le_of_ble_eq_true rfl)⟩, ⟨(Nat.le_of_ble_eq_true rfl), (Nat.le_of_ble_eq_true rfl)⟩, (Nat.le_of_ble_eq_true rfl)⟩ hx rfl dL_about_3 (fun v3 M3 q3 => ?_)
  obtain ⟨x, rfl⟩ := hpq _ _ q3
  exact v_iret F hr dL_about_6 (Nat.le_of_ble_eq_true rfl) (Nat.le_of_ble_eq_true rfl) q3
set_option maxHeartbeats 4000000 in
set_option maxRecDepth 100000 in
theorem h_about_xi {l : Launch} {ω : Om} {M : MM} {a : Nat} {fs : List Value} (hx : M a = some (.inr (4, fs))) {p0 p1 : Int32} (hM : CtX l ω yX4_about wsX4_about rmX4_about [.ref a, .int p0, .int p1] M (fun v M9 => False) (fun E => E = "java/lang/IndexOutOfBoundsException") 1 6) : CtN l ω yL_about wsL_about rmL_about [.ref a, .int p0, .int p1] M (fun v M9 => v = some (.int (-1000001)) ∧ M9 = M) 1 6 := by
  refine CtN.ofV (cc := cL_about) (maxL := 4) (ret := (some .int)) [some (.ref a), some (.int p0), some (.int p1), none] (by decide) rfl (Nat.le_of_ble_eq_true rfl) rfl (Lc.av (av := [.ref a, .int p0, .int p1]) (k := 1) rfl) ?_
  intro σ F hl hr hname hNc
  have F : Fx ω σ cL_about 4 wsL_about RL rmL_about := F
  subst hl
  refine v_aload_n F dL_about_0 rfl rfl ?_
  refine v_iload_n F dL_about_1 rfl ?_
  refine v_iload_n F dL_about_2 rfl ?_
  refine v_callVC F 2 [_, _] rfl rfl rfl (hM) gL_about_X4_about rfl hd_X4_about ⟨⟨rfl, rfl⟩, ⟨(Nat.le_of_ble_eq_true rfl), (Nat.le_of_ble_eq_true rfl)⟩, ⟨(Nat.le_of_ble_eq_true rfl), (Nat.le_of_ble_eq_true rfl)⟩, (Nat.le_of_ble_eq_true rfl)⟩ hx rfl dL_about_3 (fun E hE => ⟨7, by subst hE; exact CatchOk.c1 F hname (by decide) (by decide) (by decide +kernel) (by decide +kernel), fun q9 => ?_⟩) (fun v9 M9 hq => hq.elim)
  refine v_astore_n F dL_about_7 rfl (Nat.le_of_ble_eq_true rfl) (ok2_d rfl) ?_
  refine v_ldc (v := (-1000001)) F (by decide +kernel) dL_about_8 ?_
  exact v_iret F hr dL_about_10 (Nat.le_of_ble_eq_true rfl) (Nat.le_of_ble_eq_true rfl) ⟨rfl, rfl⟩
set_option maxHeartbeats 4000000 in
set_option maxRecDepth 100000 in
theorem h_about_xa {l : Launch} {ω : Om} {M : MM} {a : Nat} {fs : List Value} (hx : M a = some (.inr (4, fs))) {p0 p1 : Int32} (hM : CtX l ω yX4_about wsX4_about rmX4_about [.ref a, .int p0, .int p1] M (fun v M9 => False) (fun E => E = "java/lang/IllegalArgumentException") 1 6) : CtN l ω yL_about wsL_about rmL_about [.ref a, .int p0, .int p1] M (fun v M9 => v = some (.int (-1000002)) ∧ M9 = M) 1 6 := by
  refine CtN.ofV (cc := cL_about) (maxL := 4) (ret := (some .int)) [some (.ref a), some (.int p0), some (.int p1), none] (by decide) rfl (Nat.le_of_ble_eq_true rfl) rfl (Lc.av (av := [.ref a, .int p0, .int p1]) (k := 1) rfl) ?_
  intro σ F hl hr hname hNc
  have F : Fx ω σ cL_about 4 wsL_about RL rmL_about := F
  subst hl
  refine v_aload_n F dL_about_0 rfl rfl ?_
  refine v_iload_n F dL_about_1 rfl ?_
  refine v_iload_n F dL_about_2 rfl ?_
  refine v_callVC F 2 [_, _] rfl rfl rfl (hM) gL_about_X4_about rfl hd_X4_about ⟨⟨rfl, rfl⟩, ⟨(Nat.le_of_ble_eq_true rfl), (Nat.le_of_ble_eq_true rfl)⟩, ⟨(Nat.le_of_ble_eq_true rfl), (Nat.le_of_ble_eq_true rfl)⟩, (Nat.le_of_ble_eq_true rfl)⟩ hx rfl dL_about_3 (fun E hE => ⟨11, by subst hE; exact CatchOk.c2 (nm := "java/lang/IndexOutOfBoundsException") F hname (by decide) (by decide) (by decide) (by decide +kernel) (by decide +kernel) hNc.1 (by decide +kernel), fun q9 => ?_⟩) (fun v9 M9 hq => hq.elim)
  refine v_astore_n F dL_about_11 rfl (Nat.le_of_ble_eq_true rfl) (ok2_d rfl) ?_
  refine v_ldc (v := (-1000002)) F (by decide +kernel) dL_about_12 ?_
  exact v_iret F hr dL_about_14 (Nat.le_of_ble_eq_true rfl) (Nat.le_of_ble_eq_true rfl) ⟨rfl, rfl⟩
def rmL_way : Room := { frames := 8, cells := 1, slots := 6, locals := 138 }
theorem hd_L_way : yL_way.cls ≠ "java/lang/invoke/MethodHandle" ∧ yL_way.cls ≠ "java/lang/invoke/VarHandle" ∧ (parseMethodDescriptor yL_way.desc).map (fun d => d.parameters.length) = some 2 := by decide +kernel
set_option maxHeartbeats 4000000 in
set_option maxRecDepth 100000 in
theorem h_way_ok {l : Launch} {ω : Om} {M : MM} {a : Nat} {fs : List Value} (hx : M a = some (.inr (4, fs))) {p0 : Int32} {PQ0 : Option Value → MM → Prop} (hM : Ct l ω yX4_way wsX4_way rmX4_way [.ref a, .int p0] M PQ0 1 6) (hpq : ∀ v M9, PQ0 v M9 → ∃ x : Int32, v = some (.int x)) : CtN l ω yL_way wsL_way rmL_way [.ref a, .int p0] M (fun v M9 => PQ0 v M9) 1 6 := by
  refine CtN.ofV (cc := cL_way) (maxL := 3) (ret := (some .int)) [some (.ref a), some (.int p0), none] (by decide) rfl (Nat.le_of_ble_eq_true rfl) rfl (Lc.av (av := [.ref a, .int p0]) (k := 1) rfl) ?_
  intro σ F hl hr hname hNc
  have F : Fx ω σ cL_way 3 wsL_way RL rmL_way := F
  subst hl
  refine v_aload_n F dL_way_0 rfl rfl ?_
  refine v_iload_n F dL_way_1 rfl ?_
  refine v_callV F 1 [_] rfl rfl rfl (hM) gL_way_X4_way rfl hd_X4_way ⟨⟨rfl, rfl⟩, ⟨(Nat.le_of_ble_eq_true rfl), (Nat.le_of_ble_eq_true rfl)⟩, ⟨(Nat.le_of_ble_eq_true rfl), (Nat.le_of_ble_eq_true rfl)⟩, (Nat.le_of_ble_eq_true rfl)⟩ hx rfl dL_way_2 (fun v2 M2 q2 => ?_)
  obtain ⟨x, rfl⟩ := hpq _ _ q2
  exact v_iret F hr dL_way_5 (Nat.le_of_ble_eq_true rfl) (Nat.le_of_ble_eq_true rfl) q2
set_option maxHeartbeats 4000000 in
set_option maxRecDepth 100000 in
theorem h_way_xi {l : Launch} {ω : Om} {M : MM} {a : Nat} {fs : List Value} (hx : M a = some (.inr (4, fs))) {p0 : Int32} (hM : CtX l ω yX4_way wsX4_way rmX4_way [.ref a, .int p0] M (fun v M9 => False) (fun E => E = "java/lang/IndexOutOfBoundsException") 1 6) : CtN l ω yL_way wsL_way rmL_way [.ref a, .int p0] M (fun v M9 => v = some (.int (-1000001)) ∧ M9 = M) 1 6 := by
  refine CtN.ofV (cc := cL_way) (maxL := 3) (ret := (some .int)) [some (.ref a), some (.int p0), none] (by decide) rfl (Nat.le_of_ble_eq_true rfl) rfl (Lc.av (av := [.ref a, .int p0]) (k := 1) rfl) ?_
  intro σ F hl hr hname hNc
  have F : Fx ω σ cL_way 3 wsL_way RL rmL_way := F
  subst hl
  refine v_aload_n F dL_way_0 rfl rfl ?_
  refine v_iload_n F dL_way_1 rfl ?_
  refine v_callVC F 1 [_] rfl rfl rfl (hM) gL_way_X4_way rfl hd_X4_way ⟨⟨rfl, rfl⟩, ⟨(Nat.le_of_ble_eq_true rfl), (Nat.le_of_ble_eq_true rfl)⟩, ⟨(Nat.le_of_ble_eq_true rfl), (Nat.le_of_ble_eq_true rfl)⟩, (Nat.le_of_ble_eq_true rfl)⟩ hx rfl dL_way_2 (fun E hE => ⟨6, by subst hE; exact CatchOk.c1 F hname (by decide) (by decide) (by decide +kernel) (by decide +kernel), fun q9 => ?_⟩) (fun v9 M9 hq => hq.elim)
  refine v_astore_n F dL_way_6 rfl (Nat.le_of_ble_eq_true rfl) (ok2_d rfl) ?_
  refine v_ldc (v := (-1000001)) F (by decide +kernel) dL_way_7 ?_
  exact v_iret F hr dL_way_9 (Nat.le_of_ble_eq_true rfl) (Nat.le_of_ble_eq_true rfl) ⟨rfl, rfl⟩
def rmL_faults : Room := { frames := 8, cells := 2, slots := 12, locals := 135 }
theorem hd_L_faults : yL_faults.cls ≠ "java/lang/invoke/MethodHandle" ∧ yL_faults.cls ≠ "java/lang/invoke/VarHandle" ∧ (parseMethodDescriptor yL_faults.desc).map (fun d => d.parameters.length) = some 2 := by decide +kernel
set_option maxHeartbeats 4000000 in
set_option maxRecDepth 100000 in
theorem h_faults_ok {l : Launch} {ω : Om} {M : MM} {a : Nat} {fs : List Value} (hx : M a = some (.inr (4, fs))) {p0 : Int32} {PQ0 : Option Value → MM → Prop} (hM : Ct l ω yX4_faults wsX4_faults rmX4_faults [.ref a, .int p0] M PQ0 2 12) (hpq : ∀ v M9, PQ0 v M9 → ∃ x : Int32, v = some (.int x)) : CtN l ω yL_faults wsL_faults rmL_faults [.ref a, .int p0] M (fun v M9 => PQ0 v M9) 2 12 := by
  refine CtN.ofV (cc := cL_faults) (maxL := 3) (ret := (some .int)) [some (.ref a), some (.int p0), none] (by decide) rfl (Nat.le_of_ble_eq_true rfl) rfl (Lc.av (av := [.ref a, .int p0]) (k := 1) rfl) ?_
  intro σ F hl hr hname hNc
  have F : Fx ω σ cL_faults 3 wsL_faults RL rmL_faults := F
  subst hl
  refine v_aload_n F dL_faults_0 rfl rfl ?_
  refine v_iload_n F dL_faults_1 rfl ?_
  refine v_callV F 1 [_] rfl rfl rfl (hM) gL_faults_X4_faults rfl hd_X4_faults ⟨⟨rfl, rfl⟩, ⟨(Nat.le_of_ble_eq_true rfl), (Nat.le_of_ble_eq_true rfl)⟩, ⟨(Nat.le_of_ble_eq_true rfl), (Nat.le_of_ble_eq_true rfl)⟩, (Nat.le_of_ble_eq_true rfl)⟩ hx rfl dL_faults_2 (fun v2 M2 q2 => ?_)
  obtain ⟨x, rfl⟩ := hpq _ _ q2
  exact v_iret F hr dL_faults_5 (Nat.le_of_ble_eq_true rfl) (Nat.le_of_ble_eq_true rfl) q2
set_option maxHeartbeats 4000000 in
set_option maxRecDepth 100000 in
theorem h_faults_xi {l : Launch} {ω : Om} {M : MM} {a : Nat} {fs : List Value} (hx : M a = some (.inr (4, fs))) {p0 : Int32} (hM : CtX l ω yX4_faults wsX4_faults rmX4_faults [.ref a, .int p0] M (fun v M9 => False) (fun E => E = "java/lang/IndexOutOfBoundsException") 2 12) : CtN l ω yL_faults wsL_faults rmL_faults [.ref a, .int p0] M (fun v M9 => v = some (.int (-1000001)) ∧ M9 = M) 2 12 := by
  refine CtN.ofV (cc := cL_faults) (maxL := 3) (ret := (some .int)) [some (.ref a), some (.int p0), none] (by decide) rfl (Nat.le_of_ble_eq_true rfl) rfl (Lc.av (av := [.ref a, .int p0]) (k := 1) rfl) ?_
  intro σ F hl hr hname hNc
  have F : Fx ω σ cL_faults 3 wsL_faults RL rmL_faults := F
  subst hl
  refine v_aload_n F dL_faults_0 rfl rfl ?_
  refine v_iload_n F dL_faults_1 rfl ?_
  refine v_callVC F 1 [_] rfl rfl rfl (hM) gL_faults_X4_faults rfl hd_X4_faults ⟨⟨rfl, rfl⟩, ⟨(Nat.le_of_ble_eq_true rfl), (Nat.le_of_ble_eq_true rfl)⟩, ⟨(Nat.le_of_ble_eq_true rfl), (Nat.le_of_ble_eq_true rfl)⟩, (Nat.le_of_ble_eq_true rfl)⟩ hx rfl dL_faults_2 (fun E hE => ⟨6, by subst hE; exact CatchOk.c1 F hname (by decide) (by decide) (by decide +kernel) (by decide +kernel), fun q9 => ?_⟩) (fun v9 M9 hq => hq.elim)
  refine v_astore_n F dL_faults_6 rfl (Nat.le_of_ble_eq_true rfl) (ok2_d rfl) ?_
  refine v_ldc (v := (-1000001)) F (by decide +kernel) dL_faults_7 ?_
  exact v_iret F hr dL_faults_9 (Nat.le_of_ble_eq_true rfl) (Nat.le_of_ble_eq_true rfl) ⟨rfl, rfl⟩
def rmL_faulty : Room := { frames := 8, cells := 1, slots := 6, locals := 136 }
theorem hd_L_faulty : yL_faulty.cls ≠ "java/lang/invoke/MethodHandle" ∧ yL_faulty.cls ≠ "java/lang/invoke/VarHandle" ∧ (parseMethodDescriptor yL_faulty.desc).map (fun d => d.parameters.length) = some 2 := by decide +kernel
set_option maxHeartbeats 4000000 in
set_option maxRecDepth 100000 in
theorem h_faulty_ok {l : Launch} {ω : Om} {M : MM} {a : Nat} {fs : List Value} (hx : M a = some (.inr (4, fs))) {p0 : Int32} {PQ0 : Option Value → MM → Prop} (hM : Ct l ω yX4_faulty wsX4_faulty rmX4_faulty [.ref a, .int p0] M PQ0 1 6) (hpq : ∀ v M9, PQ0 v M9 → ∃ x : Int32, v = some (.int x)) : CtN l ω yL_faulty wsL_faulty rmL_faulty [.ref a, .int p0] M (fun v M9 => PQ0 v M9) 1 6 := by
  refine CtN.ofV (cc := cL_faulty) (maxL := 3) (ret := (some .int)) [some (.ref a), some (.int p0), none] (by decide) rfl (Nat.le_of_ble_eq_true rfl) rfl (Lc.av (av := [.ref a, .int p0]) (k := 1) rfl) ?_
  intro σ F hl hr hname hNc
  have F : Fx ω σ cL_faulty 3 wsL_faulty RL rmL_faulty := F
  subst hl
  refine v_aload_n F dL_faulty_0 rfl rfl ?_
  refine v_iload_n F dL_faulty_1 rfl ?_
  refine v_callV F 1 [_] rfl rfl rfl (hM) gL_faulty_X4_faulty rfl hd_X4_faulty ⟨⟨rfl, rfl⟩, ⟨(Nat.le_of_ble_eq_true rfl), (Nat.le_of_ble_eq_true rfl)⟩, ⟨(Nat.le_of_ble_eq_true rfl), (Nat.le_of_ble_eq_true rfl)⟩, (Nat.le_of_ble_eq_true rfl)⟩ hx rfl dL_faulty_2 (fun v2 M2 q2 => ?_)
  obtain ⟨x, rfl⟩ := hpq _ _ q2
  exact v_iret F hr dL_faulty_5 (Nat.le_of_ble_eq_true rfl) (Nat.le_of_ble_eq_true rfl) q2
set_option maxHeartbeats 4000000 in
set_option maxRecDepth 100000 in
theorem h_faulty_xi {l : Launch} {ω : Om} {M : MM} {a : Nat} {fs : List Value} (hx : M a = some (.inr (4, fs))) {p0 : Int32} (hM : CtX l ω yX4_faulty wsX4_faulty rmX4_faulty [.ref a, .int p0] M (fun v M9 => False) (fun E => E = "java/lang/IndexOutOfBoundsException") 1 6) : CtN l ω yL_faulty wsL_faulty rmL_faulty [.ref a, .int p0] M (fun v M9 => v = some (.int (-1000001)) ∧ M9 = M) 1 6 := by
  refine CtN.ofV (cc := cL_faulty) (maxL := 3) (ret := (some .int)) [some (.ref a), some (.int p0), none] (by decide) rfl (Nat.le_of_ble_eq_true rfl) rfl (Lc.av (av := [.ref a, .int p0]) (k := 1) rfl) ?_
  intro σ F hl hr hname hNc
  have F : Fx ω σ cL_faulty 3 wsL_faulty RL rmL_faulty := F
  subst hl
  refine v_aload_n F dL_faulty_0 rfl rfl ?_
  refine v_iload_n F dL_faulty_1 rfl ?_
  refine v_callVC F 1 [_] rfl rfl rfl (hM) gL_faulty_X4_faulty rfl hd_X4_faulty ⟨⟨rfl, rfl⟩, ⟨(Nat.le_of_ble_eq_true rfl), (Nat.le_of_ble_eq_true rfl)⟩, ⟨(Nat.le_of_ble_eq_true rfl), (Nat.le_of_ble_eq_true rfl)⟩, (Nat.le_of_ble_eq_true rfl)⟩ hx rfl dL_faulty_2 (fun E hE => ⟨6, by subst hE; exact CatchOk.c1 F hname (by decide) (by decide) (by decide +kernel) (by decide +kernel), fun q9 => ?_⟩) (fun v9 M9 hq => hq.elim)
  refine v_astore_n F dL_faulty_6 rfl (Nat.le_of_ble_eq_true rfl) (ok2_d rfl) ?_
  refine v_ldc (v := (-1000001)) F (by decide +kernel) dL_faulty_7 ?_
  exact v_iret F hr dL_faulty_9 (Nat.le_of_ble_eq_true rfl) (Nat.le_of_ble_eq_true rfl) ⟨rfl, rfl⟩
def rmL_approve : Room := { frames := 8, cells := 3, slots := 15, locals := 136 }
theorem hd_L_approve : yL_approve.cls ≠ "java/lang/invoke/MethodHandle" ∧ yL_approve.cls ≠ "java/lang/invoke/VarHandle" ∧ (parseMethodDescriptor yL_approve.desc).map (fun d => d.parameters.length) = some 3 := by decide +kernel
set_option maxHeartbeats 4000000 in
set_option maxRecDepth 100000 in
theorem h_approve_ok {l : Launch} {ω : Om} {M : MM} {a : Nat} {fs : List Value} (hx : M a = some (.inr (4, fs))) {p0 p1 : Int32} {PQ0 : Option Value → MM → Prop} (hM : Ct l ω yX4_approve wsX4_approve rmX4_approve [.ref a, .int p0, .int p1] M PQ0 3 15) (hpq : ∀ v M9, PQ0 v M9 → ∃ x : Int32, v = some (.int x)) : CtN l ω yL_approve wsL_approve rmL_approve [.ref a, .int p0, .int p1] M (fun v M9 => PQ0 v M9) 3 15 := by
  refine CtN.ofV (cc := cL_approve) (maxL := 4) (ret := (some .int)) [some (.ref a), some (.int p0), some (.int p1), none] (by decide) rfl (Nat.le_of_ble_eq_true rfl) rfl (Lc.av (av := [.ref a, .int p0, .int p1]) (k := 1) rfl) ?_
  intro σ F hl hr hname hNc
  have F : Fx ω σ cL_approve 4 wsL_approve RL rmL_approve := F
  subst hl
  refine v_aload_n F dL_approve_0 rfl rfl ?_
  refine v_iload_n F dL_approve_1 rfl ?_
  refine v_iload_n F dL_approve_2 rfl ?_
  refine v_callV F 2 [_, _] rfl rfl rfl (hM) gL_approve_X4_approve rfl hd_X4_approve ⟨⟨rfl, rfl⟩, ⟨(Nat.le_of_ble_eq_true rfl), (Nat.le_of_ble_eq_true rfl)⟩, ⟨(Nat.le_of_ble_eq_true rfl), (Nat.le_of_ble_eq_true rfl)⟩, (Nat.le_of_ble_eq_true rfl)⟩ hx rfl dL_approve_3 (fun v3 M3 q3 => ?_)
  obtain ⟨x, rfl⟩ := hpq _ _ q3
  exact v_iret F hr dL_approve_6 (Nat.le_of_ble_eq_true rfl) (Nat.le_of_ble_eq_true rfl) q3
set_option maxHeartbeats 4000000 in
set_option maxRecDepth 100000 in
theorem h_approve_xi {l : Launch} {ω : Om} {M : MM} {a : Nat} {fs : List Value} (hx : M a = some (.inr (4, fs))) {p0 p1 : Int32} (hM : CtX l ω yX4_approve wsX4_approve rmX4_approve [.ref a, .int p0, .int p1] M (fun v M9 => False) (fun E => E = "java/lang/IndexOutOfBoundsException") 3 15) : CtN l ω yL_approve wsL_approve rmL_approve [.ref a, .int p0, .int p1] M (fun v M9 => v = some (.int (-1000001)) ∧ M9 = M) 3 15 := by
  refine CtN.ofV (cc := cL_approve) (maxL := 4) (ret := (some .int)) [some (.ref a), some (.int p0), some (.int p1), none] (by decide) rfl (Nat.le_of_ble_eq_true rfl) rfl (Lc.av (av := [.ref a, .int p0, .int p1]) (k := 1) rfl) ?_
  intro σ F hl hr hname hNc
  have F : Fx ω σ cL_approve 4 wsL_approve RL rmL_approve := F
  subst hl
  refine v_aload_n F dL_approve_0 rfl rfl ?_
  refine v_iload_n F dL_approve_1 rfl ?_
  refine v_iload_n F dL_approve_2 rfl ?_
  refine v_callVC F 2 [_, _] rfl rfl rfl (hM) gL_approve_X4_approve rfl hd_X4_approve ⟨⟨rfl, rfl⟩, ⟨(Nat.le_of_ble_eq_true rfl), (Nat.le_of_ble_eq_true rfl)⟩, ⟨(Nat.le_of_ble_eq_true rfl), (Nat.le_of_ble_eq_true rfl)⟩, (Nat.le_of_ble_eq_true rfl)⟩ hx rfl dL_approve_3 (fun E hE => ⟨7, by subst hE; exact CatchOk.c1 F hname (by decide) (by decide) (by decide +kernel) (by decide +kernel), fun q9 => ?_⟩) (fun v9 M9 hq => hq.elim)
  refine v_astore_n F dL_approve_7 rfl (Nat.le_of_ble_eq_true rfl) (ok2_d rfl) ?_
  refine v_ldc (v := (-1000001)) F (by decide +kernel) dL_approve_8 ?_
  exact v_iret F hr dL_approve_10 (Nat.le_of_ble_eq_true rfl) (Nat.le_of_ble_eq_true rfl) ⟨rfl, rfl⟩
set_option maxHeartbeats 4000000 in
set_option maxRecDepth 100000 in
theorem h_approve_xs {l : Launch} {ω : Om} {M : MM} {a : Nat} {fs : List Value} (hx : M a = some (.inr (4, fs))) {p0 p1 : Int32} (hM : CtX l ω yX4_approve wsX4_approve rmX4_approve [.ref a, .int p0, .int p1] M (fun v M9 => False) (fun E => E = "java/lang/IllegalStateException") 3 15) : CtN l ω yL_approve wsL_approve rmL_approve [.ref a, .int p0, .int p1] M (fun v M9 => v = some (.int (-1000003)) ∧ M9 = M) 3 15 := by
  refine CtN.ofV (cc := cL_approve) (maxL := 4) (ret := (some .int)) [some (.ref a), some (.int p0), some (.int p1), none] (by decide) rfl (Nat.le_of_ble_eq_true rfl) rfl (Lc.av (av := [.ref a, .int p0, .int p1]) (k := 1) rfl) ?_
  intro σ F hl hr hname hNc
  have F : Fx ω σ cL_approve 4 wsL_approve RL rmL_approve := F
  subst hl
  refine v_aload_n F dL_approve_0 rfl rfl ?_
  refine v_iload_n F dL_approve_1 rfl ?_
  refine v_iload_n F dL_approve_2 rfl ?_
  refine v_callVC F 2 [_, _] rfl rfl rfl (hM) gL_approve_X4_approve rfl hd_X4_approve ⟨⟨rfl, rfl⟩, ⟨(Nat.le_of_ble_eq_true rfl), (Nat.le_of_ble_eq_true rfl)⟩, ⟨(Nat.le_of_ble_eq_true rfl), (Nat.le_of_ble_eq_true rfl)⟩, (Nat.le_of_ble_eq_true rfl)⟩ hx rfl dL_approve_3 (fun E hE => ⟨11, by subst hE; exact CatchOk.c2 (nm := "java/lang/IndexOutOfBoundsException") F hname (by decide) (by decide) (by decide) (by decide +kernel) (by decide +kernel) hNc.2.1 (by decide +kernel), fun q9 => ?_⟩) (fun v9 M9 hq => hq.elim)
  refine v_astore_n F dL_approve_11 rfl (Nat.le_of_ble_eq_true rfl) (ok2_d rfl) ?_
  refine v_ldc (v := (-1000003)) F (by decide +kernel) dL_approve_12 ?_
  exact v_iret F hr dL_approve_14 (Nat.le_of_ble_eq_true rfl) (Nat.le_of_ble_eq_true rfl) ⟨rfl, rfl⟩
def rmL_stands : Room := { frames := 7, cells := 1, slots := 6, locals := 112 }
theorem hd_L_stands : yL_stands.cls ≠ "java/lang/invoke/MethodHandle" ∧ yL_stands.cls ≠ "java/lang/invoke/VarHandle" ∧ (parseMethodDescriptor yL_stands.desc).map (fun d => d.parameters.length) = some 2 := by decide +kernel
set_option maxHeartbeats 4000000 in
set_option maxRecDepth 100000 in
theorem h_stands_ok {l : Launch} {ω : Om} {M : MM} {a : Nat} {fs : List Value} (hx : M a = some (.inr (4, fs))) {p0 : Int32} {PQ0 : Option Value → MM → Prop} (hM : Ct l ω yX4_stands wsX4_stands rmX4_stands [.ref a, .int p0] M PQ0 1 6) (hpq : ∀ v M9, PQ0 v M9 → ∃ b : Bool, v = some (.int (bI b))) : CtN l ω yL_stands wsL_stands rmL_stands [.ref a, .int p0] M (fun v M9 => PQ0 v M9) 1 6 := by
  refine CtN.ofV (cc := cL_stands) (maxL := 3) (ret := (some .int)) [some (.ref a), some (.int p0), none] (by decide) rfl (Nat.le_of_ble_eq_true rfl) rfl (Lc.av (av := [.ref a, .int p0]) (k := 1) rfl) ?_
  intro σ F hl hr hname hNc
  have F : Fx ω σ cL_stands 3 wsL_stands RL rmL_stands := F
  subst hl
  refine v_aload_n F dL_stands_0 rfl rfl ?_
  refine v_iload_n F dL_stands_1 rfl ?_
  refine v_callV F 1 [_] rfl rfl rfl (hM) gL_stands_X4_stands rfl hd_X4_stands ⟨⟨rfl, rfl⟩, ⟨(Nat.le_of_ble_eq_true rfl), (Nat.le_of_ble_eq_true rfl)⟩, ⟨(Nat.le_of_ble_eq_true rfl), (Nat.le_of_ble_eq_true rfl)⟩, (Nat.le_of_ble_eq_true rfl)⟩ hx rfl dL_stands_2 (fun v2 M2 q2 => ?_)
  obtain ⟨b, rfl⟩ := hpq _ _ q2
  refine v_if_eq_b F 12 dL_stands_5 (by decide) (fun c5 => ?_) (fun c5 => ?_)
  · refine v_iconst (v := nI 0) F dL_stands_12 (by decide) ?_
    exact v_iret F hr dL_stands_13 (Nat.le_of_ble_eq_true rfl) (Nat.le_of_ble_eq_true rfl) (by subst c5; exact q2)
  · refine v_iconst (v := nI 1) F dL_stands_8 (by decide) ?_
    refine v_goto F 13 dL_stands_9 (by decide) ?_
    exact v_iret F hr dL_stands_13 (Nat.le_of_ble_eq_true rfl) (Nat.le_of_ble_eq_true rfl) (by subst c5; exact q2)
set_option maxHeartbeats 4000000 in
set_option maxRecDepth 100000 in
theorem h_stands_xi {l : Launch} {ω : Om} {M : MM} {a : Nat} {fs : List Value} (hx : M a = some (.inr (4, fs))) {p0 : Int32} (hM : CtX l ω yX4_stands wsX4_stands rmX4_stands [.ref a, .int p0] M (fun v M9 => False) (fun E => E = "java/lang/IndexOutOfBoundsException") 1 6) : CtN l ω yL_stands wsL_stands rmL_stands [.ref a, .int p0] M (fun v M9 => v = some (.int (-1000001)) ∧ M9 = M) 1 6 := by
  refine CtN.ofV (cc := cL_stands) (maxL := 3) (ret := (some .int)) [some (.ref a), some (.int p0), none] (by decide) rfl (Nat.le_of_ble_eq_true rfl) rfl (Lc.av (av := [.ref a, .int p0]) (k := 1) rfl) ?_
  intro σ F hl hr hname hNc
  have F : Fx ω σ cL_stands 3 wsL_stands RL rmL_stands := F
  subst hl
  refine v_aload_n F dL_stands_0 rfl rfl ?_
  refine v_iload_n F dL_stands_1 rfl ?_
  refine v_callVC F 1 [_] rfl rfl rfl (hM) gL_stands_X4_stands rfl hd_X4_stands ⟨⟨rfl, rfl⟩, ⟨(Nat.le_of_ble_eq_true rfl), (Nat.le_of_ble_eq_true rfl)⟩, ⟨(Nat.le_of_ble_eq_true rfl), (Nat.le_of_ble_eq_true rfl)⟩, (Nat.le_of_ble_eq_true rfl)⟩ hx rfl dL_stands_2 (fun E hE => ⟨14, by subst hE; exact CatchOk.c1 F hname (by decide) (by decide) (by decide +kernel) (by decide +kernel), fun q9 => ?_⟩) (fun v9 M9 hq => hq.elim)
  refine v_astore_n F dL_stands_14 rfl (Nat.le_of_ble_eq_true rfl) (ok2_d rfl) ?_
  refine v_ldc (v := (-1000001)) F (by decide +kernel) dL_stands_15 ?_
  exact v_iret F hr dL_stands_17 (Nat.le_of_ble_eq_true rfl) (Nat.le_of_ble_eq_true rfl) ⟨rfl, rfl⟩
def rmL_approvers : Room := { frames := 8, cells := 1, slots := 6, locals := 136 }
theorem hd_L_approvers : yL_approvers.cls ≠ "java/lang/invoke/MethodHandle" ∧ yL_approvers.cls ≠ "java/lang/invoke/VarHandle" ∧ (parseMethodDescriptor yL_approvers.desc).map (fun d => d.parameters.length) = some 2 := by decide +kernel
set_option maxHeartbeats 4000000 in
set_option maxRecDepth 100000 in
theorem h_approvers_ok {l : Launch} {ω : Om} {M : MM} {a : Nat} {fs : List Value} (hx : M a = some (.inr (4, fs))) {p0 : Int32} {PQ0 : Option Value → MM → Prop} (hM : Ct l ω yX4_approvers wsX4_approvers rmX4_approvers [.ref a, .int p0] M PQ0 1 6) (hpq : ∀ v M9, PQ0 v M9 → ∃ x : Int32, v = some (.int x)) : CtN l ω yL_approvers wsL_approvers rmL_approvers [.ref a, .int p0] M (fun v M9 => PQ0 v M9) 1 6 := by
  refine CtN.ofV (cc := cL_approvers) (maxL := 3) (ret := (some .int)) [some (.ref a), some (.int p0), none] (by decide) rfl (Nat.le_of_ble_eq_true rfl) rfl (Lc.av (av := [.ref a, .int p0]) (k := 1) rfl) ?_
  intro σ F hl hr hname hNc
  have F : Fx ω σ cL_approvers 3 wsL_approvers RL rmL_approvers := F
  subst hl
  refine v_aload_n F dL_approvers_0 rfl rfl ?_
  refine v_iload_n F dL_approvers_1 rfl ?_
  refine v_callV F 1 [_] rfl rfl rfl (hM) gL_approvers_X4_approvers rfl hd_X4_approvers ⟨⟨rfl, rfl⟩, ⟨(Nat.le_of_ble_eq_true rfl), (Nat.le_of_ble_eq_true rfl)⟩, ⟨(Nat.le_of_ble_eq_true rfl), (Nat.le_of_ble_eq_true rfl)⟩, (Nat.le_of_ble_eq_true rfl)⟩ hx rfl dL_approvers_2 (fun v2 M2 q2 => ?_)
  obtain ⟨x, rfl⟩ := hpq _ _ q2
  exact v_iret F hr dL_approvers_5 (Nat.le_of_ble_eq_true rfl) (Nat.le_of_ble_eq_true rfl) q2
set_option maxHeartbeats 4000000 in
set_option maxRecDepth 100000 in
theorem h_approvers_xi {l : Launch} {ω : Om} {M : MM} {a : Nat} {fs : List Value} (hx : M a = some (.inr (4, fs))) {p0 : Int32} (hM : CtX l ω yX4_approvers wsX4_approvers rmX4_approvers [.ref a, .int p0] M (fun v M9 => False) (fun E => E = "java/lang/IndexOutOfBoundsException") 1 6) : CtN l ω yL_approvers wsL_approvers rmL_approvers [.ref a, .int p0] M (fun v M9 => v = some (.int (-1000001)) ∧ M9 = M) 1 6 := by
  refine CtN.ofV (cc := cL_approvers) (maxL := 3) (ret := (some .int)) [some (.ref a), some (.int p0), none] (by decide) rfl (Nat.le_of_ble_eq_true rfl) rfl (Lc.av (av := [.ref a, .int p0]) (k := 1) rfl) ?_
  intro σ F hl hr hname hNc
  have F : Fx ω σ cL_approvers 3 wsL_approvers RL rmL_approvers := F
  subst hl
  refine v_aload_n F dL_approvers_0 rfl rfl ?_
  refine v_iload_n F dL_approvers_1 rfl ?_
  refine v_callVC F 1 [_] rfl rfl rfl (hM) gL_approvers_X4_approvers rfl hd_X4_approvers ⟨⟨rfl, rfl⟩, ⟨(Nat.le_of_ble_eq_true rfl), (Nat.le_of_ble_eq_true rfl)⟩, ⟨(Nat.le_of_ble_eq_true rfl), (Nat.le_of_ble_eq_true rfl)⟩, (Nat.le_of_ble_eq_true rfl)⟩ hx rfl dL_approvers_2 (fun E hE => ⟨6, by subst hE; exact CatchOk.c1 F hname (by decide) (by decide) (by decide +kernel) (by decide +kernel), fun q9 => ?_⟩) (fun v9 M9 hq => hq.elim)
  refine v_astore_n F dL_approvers_6 rfl (Nat.le_of_ble_eq_true rfl) (ok2_d rfl) ?_
  refine v_ldc (v := (-1000001)) F (by decide +kernel) dL_approvers_7 ?_
  exact v_iret F hr dL_approvers_9 (Nat.le_of_ble_eq_true rfl) (Nat.le_of_ble_eq_true rfl) ⟨rfl, rfl⟩
def rmL_breaks : Room := { frames := 73, cells := 3, slots := 18, locals := 1672 }
theorem hd_L_breaks : yL_breaks.cls ≠ "java/lang/invoke/MethodHandle" ∧ yL_breaks.cls ≠ "java/lang/invoke/VarHandle" ∧ (parseMethodDescriptor yL_breaks.desc).map (fun d => d.parameters.length) = some 4 := by decide +kernel
set_option maxHeartbeats 4000000 in
set_option maxRecDepth 100000 in
theorem h_breaks_ok {l : Launch} {ω : Om} {M : MM} {a : Nat} {fs : List Value} (hx : M a = some (.inr (4, fs))) {p0 p1 p2 : Int32} {PQ0 : Option Value → MM → Prop} (hM : Ct l ω yX4_breaks wsX4_breaks rmX4_breaks [.ref a, .int p0, .int p1, .int p2] M PQ0 3 18) (hpq : ∀ v M9, PQ0 v M9 → ∃ x : Int32, v = some (.int x)) : CtN l ω yL_breaks wsL_breaks rmL_breaks [.ref a, .int p0, .int p1, .int p2] M (fun v M9 => PQ0 v M9) 3 18 := by
  refine CtN.ofV (cc := cL_breaks) (maxL := 5) (ret := (some .int)) [some (.ref a), some (.int p0), some (.int p1), some (.int p2), none] (by decide) rfl (Nat.le_of_ble_eq_true rfl) rfl (Lc.av (av := [.ref a, .int p0, .int p1, .int p2]) (k := 1) rfl) ?_
  intro σ F hl hr hname hNc
  have F : Fx ω σ cL_breaks 5 wsL_breaks RL rmL_breaks := F
  subst hl
  refine v_aload_n F dL_breaks_0 rfl rfl ?_
  refine v_iload_n F dL_breaks_1 rfl ?_
  refine v_iload_n F dL_breaks_2 rfl ?_
  refine v_iload_n F dL_breaks_3 rfl ?_
  refine v_callV F 3 [_, _, _] rfl rfl rfl (hM) gL_breaks_X4_breaks rfl hd_X4_breaks ⟨⟨rfl, rfl⟩, ⟨(Nat.le_of_ble_eq_true rfl), (Nat.le_of_ble_eq_true rfl)⟩, ⟨(Nat.le_of_ble_eq_true rfl), (Nat.le_of_ble_eq_true rfl)⟩, (Nat.le_of_ble_eq_true rfl)⟩ hx rfl dL_breaks_4 (fun v4 M4 q4 => ?_)
  obtain ⟨x, rfl⟩ := hpq _ _ q4
  exact v_iret F hr dL_breaks_7 (Nat.le_of_ble_eq_true rfl) (Nat.le_of_ble_eq_true rfl) q4
set_option maxHeartbeats 4000000 in
set_option maxRecDepth 100000 in
theorem h_breaks_xi {l : Launch} {ω : Om} {M : MM} {a : Nat} {fs : List Value} (hx : M a = some (.inr (4, fs))) {p0 p1 p2 : Int32} (hM : CtX l ω yX4_breaks wsX4_breaks rmX4_breaks [.ref a, .int p0, .int p1, .int p2] M (fun v M9 => False) (fun E => E = "java/lang/IndexOutOfBoundsException") 3 18) : CtN l ω yL_breaks wsL_breaks rmL_breaks [.ref a, .int p0, .int p1, .int p2] M (fun v M9 => v = some (.int (-1000001)) ∧ M9 = M) 3 18 := by
  refine CtN.ofV (cc := cL_breaks) (maxL := 5) (ret := (some .int)) [some (.ref a), some (.int p0), some (.int p1), some (.int p2), none] (by decide) rfl (Nat.le_of_ble_eq_true rfl) rfl (Lc.av (av := [.ref a, .int p0, .int p1, .int p2]) (k := 1) rfl) ?_
  intro σ F hl hr hname hNc
  have F : Fx ω σ cL_breaks 5 wsL_breaks RL rmL_breaks := F
  subst hl
  refine v_aload_n F dL_breaks_0 rfl rfl ?_
  refine v_iload_n F dL_breaks_1 rfl ?_
  refine v_iload_n F dL_breaks_2 rfl ?_
  refine v_iload_n F dL_breaks_3 rfl ?_
  refine v_callVC F 3 [_, _, _] rfl rfl rfl (hM) gL_breaks_X4_breaks rfl hd_X4_breaks ⟨⟨rfl, rfl⟩, ⟨(Nat.le_of_ble_eq_true rfl), (Nat.le_of_ble_eq_true rfl)⟩, ⟨(Nat.le_of_ble_eq_true rfl), (Nat.le_of_ble_eq_true rfl)⟩, (Nat.le_of_ble_eq_true rfl)⟩ hx rfl dL_breaks_4 (fun E hE => ⟨8, by subst hE; exact CatchOk.c1 F hname (by decide) (by decide) (by decide +kernel) (by decide +kernel), fun q9 => ?_⟩) (fun v9 M9 hq => hq.elim)
  refine v_astore F dL_breaks_8 rfl (Nat.le_of_ble_eq_true rfl) (ok2_d rfl) ?_
  refine v_ldc (v := (-1000001)) F (by decide +kernel) dL_breaks_10 ?_
  exact v_iret F hr dL_breaks_12 (Nat.le_of_ble_eq_true rfl) (Nat.le_of_ble_eq_true rfl) ⟨rfl, rfl⟩
set_option maxHeartbeats 4000000 in
set_option maxRecDepth 100000 in
theorem h_breaks_xa {l : Launch} {ω : Om} {M : MM} {a : Nat} {fs : List Value} (hx : M a = some (.inr (4, fs))) {p0 p1 p2 : Int32} (hM : CtX l ω yX4_breaks wsX4_breaks rmX4_breaks [.ref a, .int p0, .int p1, .int p2] M (fun v M9 => False) (fun E => E = "java/lang/IllegalArgumentException") 3 18) : CtN l ω yL_breaks wsL_breaks rmL_breaks [.ref a, .int p0, .int p1, .int p2] M (fun v M9 => v = some (.int (-1000002)) ∧ M9 = M) 3 18 := by
  refine CtN.ofV (cc := cL_breaks) (maxL := 5) (ret := (some .int)) [some (.ref a), some (.int p0), some (.int p1), some (.int p2), none] (by decide) rfl (Nat.le_of_ble_eq_true rfl) rfl (Lc.av (av := [.ref a, .int p0, .int p1, .int p2]) (k := 1) rfl) ?_
  intro σ F hl hr hname hNc
  have F : Fx ω σ cL_breaks 5 wsL_breaks RL rmL_breaks := F
  subst hl
  refine v_aload_n F dL_breaks_0 rfl rfl ?_
  refine v_iload_n F dL_breaks_1 rfl ?_
  refine v_iload_n F dL_breaks_2 rfl ?_
  refine v_iload_n F dL_breaks_3 rfl ?_
  refine v_callVC F 3 [_, _, _] rfl rfl rfl (hM) gL_breaks_X4_breaks rfl hd_X4_breaks ⟨⟨rfl, rfl⟩, ⟨(Nat.le_of_ble_eq_true rfl), (Nat.le_of_ble_eq_true rfl)⟩, ⟨(Nat.le_of_ble_eq_true rfl), (Nat.le_of_ble_eq_true rfl)⟩, (Nat.le_of_ble_eq_true rfl)⟩ hx rfl dL_breaks_4 (fun E hE => ⟨13, by subst hE; exact CatchOk.c2 (nm := "java/lang/IndexOutOfBoundsException") F hname (by decide) (by decide) (by decide) (by decide +kernel) (by decide +kernel) hNc.1 (by decide +kernel), fun q9 => ?_⟩) (fun v9 M9 hq => hq.elim)
  refine v_astore F dL_breaks_13 rfl (Nat.le_of_ble_eq_true rfl) (ok2_d rfl) ?_
  refine v_ldc (v := (-1000002)) F (by decide +kernel) dL_breaks_15 ?_
  exact v_iret F hr dL_breaks_17 (Nat.le_of_ble_eq_true rfl) (Nat.le_of_ble_eq_true rfl) ⟨rfl, rfl⟩
def rmL_low : Room := { frames := 0, cells := 0, slots := 0, locals := 0 }
theorem hd_L_low : yL_low.cls ≠ "java/lang/invoke/MethodHandle" ∧ yL_low.cls ≠ "java/lang/invoke/VarHandle" ∧ (parseMethodDescriptor yL_low.desc).map (fun d => d.parameters.length) = some 2 := by decide +kernel
set_option maxHeartbeats 4000000 in
set_option maxRecDepth 100000 in
theorem h_low {l : Launch} {ω : Om} {M : MM} {x : Int32} {n : Nat} (h0 : 0 < n) (hn : n < 2 ^ 31) : Ct l ω yL_low wsL_low rmL_low [.int x, .int (nI n)] M (fun v M9 => ∃ j, j < n ∧ v = some (.int (nI j)) ∧ M9 = M) 0 0 := by
  refine Ct.ofV (cc := cL_low) (maxL := 2) (ret := (some .int)) [some (.int x), some (.int (nI n))] (by decide) rfl (Nat.le_of_ble_eq_true rfl) rfl (Lc.av (av := [.int x, .int (nI n)]) (k := 0) rfl) ?_
  intro σ F hl hr hname
  have F : Fx ω σ cL_low 2 wsL_low RL rmL_low := F
  obtain ⟨j, hj, e3⟩ := pk_andE x (m := 2147483647) 31 (by decide)
  refine v_iload_n F dL_low_0 rfl ?_
  refine v_ldc (v := (2147483647)) F (by decide +kernel) dL_low_1 ?_
  refine v_iand F dL_low_3 ?_
  refine V.toI (e3) ?_
  refine v_iload_n F dL_low_4 rfl ?_
  refine v_irem_n F dL_low_5 hj h0 hn ?_
  exact v_iret F hr dL_low_6 (Nat.le_of_ble_eq_true rfl) (Nat.le_of_ble_eq_true rfl) ⟨j % n, Nat.mod_lt _ h0, rfl, rfl⟩
def rmL_at : Room := { frames := 0, cells := 0, slots := 0, locals := 0 }
theorem hd_L_at : yL_at.cls ≠ "java/lang/invoke/MethodHandle" ∧ yL_at.cls ≠ "java/lang/invoke/VarHandle" ∧ (parseMethodDescriptor yL_at.desc).map (fun d => d.parameters.length) = some 2 := by decide +kernel
set_option maxHeartbeats 4000000 in
set_option maxRecDepth 100000 in
theorem h_at {l : Launch} {ω : Om} {M : MM} {b n i : Nat} {xs : Nat → Int32} (hzb : b < ω.2.1) (hn : n < 2 ^ 31) (hi : i < 2 ^ 31) : CtS l ω yL_at wsL_at rmL_at [.ref b, .int (nI i)] M b n xs (fun v M9 => ∃ x : Int32, v = some (.int x) ∧ M9 = M) 0 0 := by
  refine CtS.ofV (cc := cL_at) (maxL := 2) (ret := (some .int)) [some (.ref b), some (.int (nI i))] (by decide) rfl (Nat.le_of_ble_eq_true rfl) rfl (Lc.av (av := [.ref b, .int (nI i)]) (k := 0) rfl) ?_
  intro σ F hl hr hX
  have F : Fx ω σ cL_at 2 wsL_at RL rmL_at := F
  refine v_iload_n F dL_at_0 rfl ?_
  refine v_aload_n F dL_at_1 rfl rfl ?_
  refine v_slenE F hX hzb dL_at_2 ?_
  refine v_icmp_ge_n F 12 dL_at_3 (by decide) (by first | exact hi | exact hn) (by first | exact hi | exact hn) (fun c3 => ?_) (fun c3 => ?_)
  · refine v_ldc (v := (1608635333)) F (by decide +kernel) dL_at_12 ?_
    refine v_iload_n F dL_at_14 rfl ?_
    refine v_iconst (v := nI 1) F dL_at_15 (by decide) ?_
    refine v_iadd_n F dL_at_16 ?_
    refine v_imul F dL_at_17 ?_
    refine v_ldc (v := (867825633)) F (by decide +kernel) dL_at_18 ?_
    refine v_iadd F dL_at_20 ?_
    exact v_iret F hr dL_at_21 (Nat.le_of_ble_eq_true rfl) (Nat.le_of_ble_eq_true rfl) ⟨_, rfl, rfl⟩
  · refine v_aload_n F dL_at_6 rfl rfl ?_
    refine v_iload_n F dL_at_7 rfl ?_
    refine v_sldE F hX hzb (vp_in_nI (by omega) hn) dL_at_8 ?_
    refine v_goto F 21 dL_at_9 (by decide) ?_
    exact v_iret F hr dL_at_21 (Nat.le_of_ble_eq_true rfl) (Nat.le_of_ble_eq_true rfl) ⟨_, rfl, rfl⟩
