/-! the reference: places, ways, approvals asked for -/
/-- the last place of a box in a list, and 1; 0 where it is nowhere -/
def plR (u : List Nat) (j : Nat) : Nat → Nat := fl (fun c q => if u.getD q 0 = j then q + 1 else c) 0
theorem msk_k {P : FF} {p k : Nat} : ∀ d, msk P p k (k + d) = msk P p k k := by
  intro d
  induction d with
  | zero => rfl
  | succ d ih =>
    rw [show k + (d + 1) = (k + d) + 1 by omega]
    unfold msk at ih ⊢
    rw [fl_s, if_neg (by omega)]
    exact ih
def rmX5_between : Room := { frames := 0, cells := 0, slots := 0, locals := 0 }
theorem hd_X5_between : yX5_between.cls ≠ "java/lang/invoke/MethodHandle" ∧ yX5_between.cls ≠ "java/lang/invoke/VarHandle" ∧ (parseMethodDescriptor yX5_between.desc).map (fun d => d.parameters.length) = some 2 := by decide +kernel
set_option maxHeartbeats 4000000 in
set_option maxRecDepth 100000 in
theorem c_X5_between {l : Launch} {ω : Om} {M : MM} {a b : Nat} (ha : a < 2 ^ 31) (hb : b < 2 ^ 31) : Ct l ω yX5_between wsX5_between rmX5_between [.int (nI a), .int (nI b)] M (fun v M9 => v = some (.int (nI (di a b))) ∧ M9 = M) 0 0 := by
  refine Ct.ofV (cc := cX5_between) (maxL := 2) (ret := (some .int)) [some (.int (nI a)), some (.int (nI b))] (by decide) rfl (Nat.le_of_ble_eq_true rfl) rfl (Lc.av (av := [.int (nI a), .int (nI b)]) (k := 0) rfl) ?_
  intro σ F hl hr hname
  have F : Fx ω σ cX5_between 2 wsX5_between RX5 rmX5_between := F
  refine v_iload_n F dX5_between_0 rfl ?_
  refine v_iload_n F dX5_between_1 rfl ?_
  refine v_icmp_ge_n F 11 dX5_between_2 (by decide) (by omega) (by omega) (fun c2 => ?_) (fun c2 => ?_)
  · refine v_iload_n F dX5_between_11 rfl ?_
    refine v_iload_n F dX5_between_12 rfl ?_
    refine v_isub_n F dX5_between_13 (by omega) ?_
    exact v_iret F hr dX5_between_14 (Nat.le_of_ble_eq_true rfl) (Nat.le_of_ble_eq_true rfl) ⟨by unfold di; first | rw [if_pos (by omega)] | rw [if_neg (by omega)], rfl⟩
  · refine v_iload_n F dX5_between_5 rfl ?_
    refine v_iload_n F dX5_between_6 rfl ?_
    refine v_isub_n F dX5_between_7 (by omega) ?_
    refine v_goto F 14 dX5_between_8 (by decide) ?_
    exact v_iret F hr dX5_between_14 (Nat.le_of_ble_eq_true rfl) (Nat.le_of_ble_eq_true rfl) ⟨by unfold di; first | rw [if_pos (by omega)] | rw [if_neg (by omega)], rfl⟩
def rmX5_place : Room := { frames := 4, cells := 0, slots := 0, locals := 97 }
theorem hd_X5_place : yX5_place.cls = (RX5, TX5, 21).1 ∧ yX5_place.cls ≠ "java/lang/invoke/MethodHandle" ∧ yX5_place.cls ≠ "java/lang/invoke/VarHandle" ∧ (parseMethodDescriptor yX5_place.desc).map (fun d => d.parameters.length) = some 1 := by decide +kernel
theorem fo_X5_place_7 : FO wsX5_place RX5 7 5 1 := ⟨_, _, _, rfl, by decide, by decide +kernel, by decide +kernel⟩
theorem fo_X5_place_47 : FO wsX5_place RX5 47 5 15 := ⟨_, _, _, rfl, by decide, by decide +kernel, by decide +kernel⟩
theorem fo_X5_place_82 : FO wsX5_place RX5 82 5 14 := ⟨_, _, _, rfl, by decide, by decide +kernel, by decide +kernel⟩
set_option maxHeartbeats 4000000 in
set_option maxRecDepth 100000 in
theorem c_place {l : Launch} {ω : Om} {M : MM} {Y : Nat → Nat} {C : Nat → Nat → Int32} {T : Nat → Nat} (hI : MI ω Y C T M) {B : FF} {n : Nat} (hT0 : T 0 = n) (hCB : CB C B n) (hB : WB B n) {W : Nat → Prop} (hWf : ∀ f, W (Y f)) (ρ : Nat → Nat) (hρ0 : ∀ i, ρ i < 24) (hρ : ∀ i y, i < n → B i 7 = y + 1 → ρ y < ρ i) {j : Nat} (hj : j < n) (hp : B j 0 < 5) (hFn : Fnd B n (B j 0)) (hoB : ∀ x, x ∈ ordF B n (B j 0) → x < 128) : Ct l ω yX5_place wsX5_place rmX5_place [.ref (Y 0), .int (nI j)] M (fun v M9 => v = some (.int (oI (plR (ordF B n (B j 0)) j (ordF B n (B j 0)).length))) ∧ ∃ C9 T9, MI ω Y C9 T9 M9 ∧ Fr W M M9 ∧ Sm2 C C9 T T9 ∧ T9 14 = (ordF B n (B j 0)).length ∧ Pf (C9 15) (ordF B n (B j 0))) 0 0 := by
  refine Ct.ofV (cc := cX5_place) (maxL := 4) (ret := (some .int)) [some (.ref (Y 0)), some (.int (nI j)), none, none] (by decide) rfl (Nat.le_of_ble_eq_true rfl) rfl (Lc.av (av := [.ref (Y 0), .int (nI j)]) (k := 2) rfl) ?_
  intro σ F hl hr hname
  have F : Fx ω σ cX5_place 4 wsX5_place RX5 rmX5_place := F
  have hn : n ≤ 24 := hB.1
  have hW : ∀ i j, B i j < 128 := hB.2.1
  have ho24 := hFn.2.2.2.2
  refine v_aload_n F dX5_place_0 rfl rfl ?_
  refine v_aload_n F dX5_place_1 rfl rfl ?_
  refine v_get F 5 1 fo_X5_place_7 dX5_place_2 hI.x rfl ?_
  refine v_iload_n F dX5_place_5 rfl ?_
  refine v_iald_n F dX5_place_6 (hI.r (f := 1) (sz := 24) (bl := 0) (by simp [isRow]) (by decide) (by decide)) (by first | omega | exact Nat.lt_trans (gd_lt (i := i) hoB (by omega)) (by decide)) (by decide) ?_
  refine V.toI ((hCB j hj).1) ?_
  refine v_callV F 1 [_] rfl rfl rfl (c_finds hI hT0 hCB hB hWf ρ hρ0 hρ hp hFn) gX5_place_X5_finds rfl hd_X5_finds ⟨⟨rfl, rfl⟩, ⟨(Nat.le_of_ble_eq_true rfl), (Nat.le_of_ble_eq_true rfl)⟩, ⟨(Nat.le_of_ble_eq_true rfl), (Nat.le_of_ble_eq_true rfl)⟩, (Nat.le_of_ble_eq_true rfl)⟩ hI.x rfl dX5_place_7 (fun v7 M7 q7 => ?_)
  obtain ⟨rfl, C9, T9, hI9, hF9, hs9, hl9, hp9⟩ := q7
  refine v_iconst (v := (-1)) F dX5_place_10 (by decide) ?_
  refine v_istore_n F dX5_place_11 (Nat.le_of_ble_eq_true rfl) (ok2_d rfl) ?_
  refine v_iconst (v := nI 0) F dX5_place_12 (by decide) ?_
  refine v_istore_n F dX5_place_13 (Nat.le_of_ble_eq_true rfl) (ok2_d rfl) ?_
  have lp : ∀ i, i ≤ (ordF B n (B j 0)).length → ∀ c, c = plR (ordF B n (B j 0)) j i → V ω σ M7 [some (.ref (Y 0)), some (.int (nI j)), some (.int (oI c)), some (.int (nI i))] 0 0 (BQ ω σ (fun v M9 => v = some (.int (oI (plR (ordF B n (B j 0)) j (ordF B n (B j 0)).length))) ∧ ∃ C9 T9, MI ω Y C9 T9 M9 ∧ Fr W M M9 ∧ Sm2 C C9 T T9 ∧ T9 14 = (ordF B n (B j 0)).length ∧ Pf (C9 15) (ordF B n (B j 0))) 0 0) 14 [] := by
    refine loop_up (ordF B n (B j 0)).length _ (fun i hi ih => ?_)
    intro c hc
    refine v_iload_n F dX5_place_14 rfl ?_
    refine v_aload_n F dX5_place_15 rfl rfl ?_
    refine v_get F 5 14 fo_X5_place_82 dX5_place_16 hI9.x rfl ?_
    refine V.toI (show nI (T9 14) = nI (ordF B n (B j 0)).length by rw [hl9]) ?_
    refine v_icmp_ge_n F 44 dX5_place_19 (by decide) (by first | omega | exact Nat.lt_trans (gd_lt (i := i) hoB (by omega)) (by decide)) (by first | omega | exact Nat.lt_trans (gd_lt (i := i) hoB (by omega)) (by decide)) (fun c19 => ?_) (fun c19 => ?_)
    · refine v_iload_n F dX5_place_44 rfl ?_
      exact v_iret F hr dX5_place_45 (Nat.le_of_ble_eq_true rfl) (Nat.le_of_ble_eq_true rfl) ⟨by rw [hc, show i = (ordF B n (B j 0)).length by omega], C9, T9, hI9, hF9, hs9, hl9, hp9⟩
    · refine v_aload_n F dX5_place_22 rfl rfl ?_
      refine v_get F 5 15 fo_X5_place_47 dX5_place_23 hI9.x rfl ?_
      refine v_iload_n F dX5_place_26 rfl ?_
      refine v_iald_n F dX5_place_27 (hI9.r (f := 15) (sz := 24) (bl := 0) (by simp [isRow]) (by decide) (by decide)) (by first | omega | exact Nat.lt_trans (gd_lt (i := i) hoB (by omega)) (by decide)) (by decide) ?_
      refine V.toI (hp9 i (by omega)) ?_
      refine v_iload_n F dX5_place_28 rfl ?_
      refine v_icmp_ne_n F 36 dX5_place_29 (by decide) (by first | omega | exact Nat.lt_trans (gd_lt (i := i) hoB (by omega)) (by decide)) (by first | omega | exact Nat.lt_trans (gd_lt (i := i) hoB (by omega)) (by decide)) (fun c29 => ?_) (fun c29 => ?_)
      · refine v_iload_n F dX5_place_36 rfl ?_
        refine v_istore_n F dX5_place_37 (Nat.le_of_ble_eq_true rfl) (ok2_d rfl) ?_
        refine v_iinc1 F dX5_place_38 rfl (ok2_d rfl) ?_
        refine v_goto F 14 dX5_place_41 (by decide) ?_
        first | exact ih (by omega) (i + 1) (by unfold plR; rw [fl_s, if_pos c29]) | exact ih (by omega) c (by unfold plR; rw [fl_s, if_neg c29]; exact hc)
      · refine v_iload_n F dX5_place_32 rfl ?_
        refine v_goto F 37 dX5_place_33 (by decide) ?_
        refine v_istore_n F dX5_place_37 (Nat.le_of_ble_eq_true rfl) (ok2_d rfl) ?_
        refine v_iinc1 F dX5_place_38 rfl (ok2_d rfl) ?_
        refine v_goto F 14 dX5_place_41 (by decide) ?_
        first | exact ih (by omega) (i + 1) (by unfold plR; rw [fl_s, if_pos c29]) | exact ih (by omega) c (by unfold plR; rw [fl_s, if_neg c29]; exact hc)
  exact lp 0 (Nat.zero_le _) 0 rfl
def rmX5_placeOf : Room := { frames := 5, cells := 0, slots := 0, locals := 120 }
theorem hd_X5_placeOf : yX5_placeOf.cls = (RX5, TX5, 21).1 ∧ yX5_placeOf.cls ≠ "java/lang/invoke/MethodHandle" ∧ yX5_placeOf.cls ≠ "java/lang/invoke/VarHandle" ∧ (parseMethodDescriptor yX5_placeOf.desc).map (fun d => d.parameters.length) = some 1 := by decide +kernel
set_option maxHeartbeats 4000000 in
set_option maxRecDepth 100000 in
theorem c_MplaceOf {l : Launch} {ω : Om} {M : MM} {Y : Nat → Nat} {B P : FF} {n k t : Nat} (hS : MS ω Y B P n k t M) {W : Nat → Prop} (hWf : ∀ f, W (Y f)) {j : Nat} (hj : j < n) (hg : B j 8 = 0) (hp : B j 0 < 5) (hK : Ok B n (B j 0)) : Ct l ω yX5_placeOf wsX5_placeOf rmX5_placeOf [.ref (Y 0), .int (nI j)] M (fun v M9 => v = some (.int (oI (plR (ordF B n (B j 0)) j (ordF B n (B j 0)).length))) ∧ MS ω Y B P n k 0 M9 ∧ Fr W M M9) 0 0 := by
  refine Ct.ofV (cc := cX5_placeOf) (maxL := 2) (ret := (some .int)) [some (.ref (Y 0)), some (.int (nI j))] (by decide) rfl (Nat.le_of_ble_eq_true rfl) rfl (Lc.av (av := [.ref (Y 0), .int (nI j)]) (k := 0) rfl) ?_
  intro σ F hl hr hname
  have F : Fx ω σ cX5_placeOf 2 wsX5_placeOf RX5 rmX5_placeOf := F
  obtain ⟨C, T, hI, hT0, hT10, hT20, hCB, hCP, h9, h13, hB, hk, hWP⟩ := hS
  have hn : n ≤ 24 := hB.1
  have hW : ∀ i j, B i j < 128 := hB.2.1
  obtain ⟨hFn, hox, ρ, hρ0, hρ⟩ := id hK
  have hoB : ∀ x, x ∈ ordF B n (B j 0) → x < 128 := fun x hx => by have := hox x hx; omega
  refine v_aload_n F dX5_placeOf_0 rfl rfl ?_
  refine v_aload_n F dX5_placeOf_1 rfl rfl ?_
  refine v_iload_n F dX5_placeOf_2 rfl ?_
  refine v_callV F 1 [_] rfl rfl rfl (c_isBox_in hI hT0 hCB hB hj) gX5_placeOf_X5_isBox rfl hd_X5_isBox ⟨⟨rfl, rfl⟩, ⟨(Nat.le_of_ble_eq_true rfl), (Nat.le_of_ble_eq_true rfl)⟩, ⟨(Nat.le_of_ble_eq_true rfl), (Nat.le_of_ble_eq_true rfl)⟩, (Nat.le_of_ble_eq_true rfl)⟩ hI.x rfl dX5_placeOf_3 (fun v3 M3 q3 => ?_)
  obtain ⟨rfl, e3⟩ := q3
  replace e3 := e3.symm
  subst e3
  refine v_iconst (v := nI 1) F dX5_placeOf_6 (by decide) ?_
  refine V.toI (show nI 1 = bI true from rfl) ?_
  refine v_iconst (v := nI 1) F dX5_placeOf_7 (by decide) ?_
  refine V.toI (show nI 1 = bI true from rfl) ?_
  refine v_callV F 3 [_, _, _] rfl rfl rfl (c_X5_goes hI hWf) gX5_placeOf_X5_goes rfl hd_X5_goes ⟨⟨rfl, rfl⟩, ⟨(Nat.le_of_ble_eq_true rfl), (Nat.le_of_ble_eq_true rfl)⟩, ⟨(Nat.le_of_ble_eq_true rfl), (Nat.le_of_ble_eq_true rfl)⟩, (Nat.le_of_ble_eq_true rfl)⟩ hI.x rfl dX5_placeOf_8 (fun v8 M8 q8 => ?_)
  obtain ⟨rfl, hI1, hF1⟩ := q8
  rw [show thr (decide (B j 8 = 0)) true true = 0 by simp [thr, hg]] at hI1
  refine v_if_eq_b F 22 dX5_placeOf_11 (by decide) (fun c11 => ?_) (fun c11 => ?_)
  · exact absurd c11 (by simp [hg])
  · refine v_aload_n F dX5_placeOf_14 rfl rfl ?_
    refine v_iload_n F dX5_placeOf_15 rfl ?_
    refine v_callV F 1 [_] rfl rfl rfl (c_place hI1 ((uT_n (by decide)).trans hT0) hCB hB hWf ρ hρ0 hρ hj hp hFn hoB) gX5_placeOf_X5_place rfl hd_X5_place ⟨⟨rfl, rfl⟩, ⟨(Nat.le_of_ble_eq_true rfl), (Nat.le_of_ble_eq_true rfl)⟩, ⟨(Nat.le_of_ble_eq_true rfl), (Nat.le_of_ble_eq_true rfl)⟩, (Nat.le_of_ble_eq_true rfl)⟩ hI1.x rfl dX5_placeOf_16 (fun v16 M16 q16 => ?_)
    obtain ⟨rfl, C9, T9, hI9, hF9, hs9, hl9, hp9⟩ := q16
    refine v_goto F 23 dX5_placeOf_19 (by decide) ?_
    exact v_iret F hr dX5_placeOf_23 (Nat.le_of_ble_eq_true rfl) (Nat.le_of_ble_eq_true rfl) ⟨rfl, MS.q (t0 := 0) hI9 hs9 hT0 hT10 hCB hCP h9 h13 hB hk hWP, hF1.tr hF9⟩
set_option maxHeartbeats 4000000 in
set_option maxRecDepth 100000 in
theorem c_MplaceOf_gone {l : Launch} {ω : Om} {M : MM} {Y : Nat → Nat} {B P : FF} {n k t : Nat} (hS : MS ω Y B P n k t M) {W : Nat → Prop} (hWf : ∀ f, W (Y f)) {j : Nat} (hj : j < n) (hg : B j 8 ≠ 0) : Ct l ω yX5_placeOf wsX5_placeOf rmX5_placeOf [.ref (Y 0), .int (nI j)] M (fun v M9 => v = some (.int (nI 0)) ∧ MS ω Y B P n k 1 M9 ∧ Fr W M M9) 0 0 := by
  refine Ct.ofV (cc := cX5_placeOf) (maxL := 2) (ret := (some .int)) [some (.ref (Y 0)), some (.int (nI j))] (by decide) rfl (Nat.le_of_ble_eq_true rfl) rfl (Lc.av (av := [.ref (Y 0), .int (nI j)]) (k := 0) rfl) ?_
  intro σ F hl hr hname
  have F : Fx ω σ cX5_placeOf 2 wsX5_placeOf RX5 rmX5_placeOf := F
  obtain ⟨C, T, hI, hT0, hT10, hT20, hCB, hCP, h9, h13, hB, hk, hWP⟩ := hS
  have hn : n ≤ 24 := hB.1
  have hW : ∀ i j, B i j < 128 := hB.2.1
  refine v_aload_n F dX5_placeOf_0 rfl rfl ?_
  refine v_aload_n F dX5_placeOf_1 rfl rfl ?_
  refine v_iload_n F dX5_placeOf_2 rfl ?_
  refine v_callV F 1 [_] rfl rfl rfl (c_isBox_in hI hT0 hCB hB hj) gX5_placeOf_X5_isBox rfl hd_X5_isBox ⟨⟨rfl, rfl⟩, ⟨(Nat.le_of_ble_eq_true rfl), (Nat.le_of_ble_eq_true rfl)⟩, ⟨(Nat.le_of_ble_eq_true rfl), (Nat.le_of_ble_eq_true rfl)⟩, (Nat.le_of_ble_eq_true rfl)⟩ hI.x rfl dX5_placeOf_3 (fun v3 M3 q3 => ?_)
  obtain ⟨rfl, e3⟩ := q3
  replace e3 := e3.symm
  subst e3
  refine v_iconst (v := nI 1) F dX5_placeOf_6 (by decide) ?_
  refine V.toI (show nI 1 = bI true from rfl) ?_
  refine v_iconst (v := nI 1) F dX5_placeOf_7 (by decide) ?_
  refine V.toI (show nI 1 = bI true from rfl) ?_
  refine v_callV F 3 [_, _, _] rfl rfl rfl (c_X5_goes hI hWf) gX5_placeOf_X5_goes rfl hd_X5_goes ⟨⟨rfl, rfl⟩, ⟨(Nat.le_of_ble_eq_true rfl), (Nat.le_of_ble_eq_true rfl)⟩, ⟨(Nat.le_of_ble_eq_true rfl), (Nat.le_of_ble_eq_true rfl)⟩, (Nat.le_of_ble_eq_true rfl)⟩ hI.x rfl dX5_placeOf_8 (fun v8 M8 q8 => ?_)
  obtain ⟨rfl, hI1, hF1⟩ := q8
  rw [show thr (decide (B j 8 = 0)) true true = 1 by simp [thr, hg]] at hI1
  refine v_if_eq_b F 22 dX5_placeOf_11 (by decide) (fun c11 => ?_) (fun c11 => ?_)
  · refine v_iconst (v := nI 0) F dX5_placeOf_22 (by decide) ?_
    exact v_iret F hr dX5_placeOf_23 (Nat.le_of_ble_eq_true rfl) (Nat.le_of_ble_eq_true rfl) ⟨rfl, MS.q (t0 := 0) hI1 Sm2.rf hT0 hT10 hCB hCP h9 h13 hB hk hWP, hF1⟩
  · exact absurd c11 (by simp [hg])
set_option maxHeartbeats 4000000 in
set_option maxRecDepth 100000 in
theorem c_MplaceOf_out {l : Launch} {ω : Om} {M : MM} {Y : Nat → Nat} {B P : FF} {n k t : Nat} (hS : MS ω Y B P n k t M) {W : Nat → Prop} (hWf : ∀ f, W (Y f)) {j : Int32} (hj : j < 0 ∨ nI n ≤ j) : Ct l ω yX5_placeOf wsX5_placeOf rmX5_placeOf [.ref (Y 0), .int j] M (fun v M9 => v = some (.int (nI 0)) ∧ MS ω Y B P n k 1 M9 ∧ Fr W M M9) 0 0 := by
  refine Ct.ofV (cc := cX5_placeOf) (maxL := 2) (ret := (some .int)) [some (.ref (Y 0)), some (.int j)] (by decide) rfl (Nat.le_of_ble_eq_true rfl) rfl (Lc.av (av := [.ref (Y 0), .int j]) (k := 0) rfl) ?_
  intro σ F hl hr hname
  have F : Fx ω σ cX5_placeOf 2 wsX5_placeOf RX5 rmX5_placeOf := F
  obtain ⟨C, T, hI, hT0, hT10, hT20, hCB, hCP, h9, h13, hB, hk, hWP⟩ := hS
  have hn : n ≤ 24 := hB.1
  have hW : ∀ i j, B i j < 128 := hB.2.1
  refine v_aload_n F dX5_placeOf_0 rfl rfl ?_
  refine v_aload_n F dX5_placeOf_1 rfl rfl ?_
  refine v_iload_n F dX5_placeOf_2 rfl ?_
  refine v_callV F 1 [_] rfl rfl rfl (c_isBox_out hI hT0 hCB hB hj) gX5_placeOf_X5_isBox rfl hd_X5_isBox ⟨⟨rfl, rfl⟩, ⟨(Nat.le_of_ble_eq_true rfl), (Nat.le_of_ble_eq_true rfl)⟩, ⟨(Nat.le_of_ble_eq_true rfl), (Nat.le_of_ble_eq_true rfl)⟩, (Nat.le_of_ble_eq_true rfl)⟩ hI.x rfl dX5_placeOf_3 (fun v3 M3 q3 => ?_)
  obtain ⟨rfl, e3⟩ := q3
  replace e3 := e3.symm
  subst e3
  refine v_iconst (v := nI 1) F dX5_placeOf_6 (by decide) ?_
  refine V.toI (show nI 1 = bI true from rfl) ?_
  refine v_iconst (v := nI 1) F dX5_placeOf_7 (by decide) ?_
  refine V.toI (show nI 1 = bI true from rfl) ?_
  refine v_callV F 3 [_, _, _] rfl rfl rfl (c_X5_goes hI hWf) gX5_placeOf_X5_goes rfl hd_X5_goes ⟨⟨rfl, rfl⟩, ⟨(Nat.le_of_ble_eq_true rfl), (Nat.le_of_ble_eq_true rfl)⟩, ⟨(Nat.le_of_ble_eq_true rfl), (Nat.le_of_ble_eq_true rfl)⟩, (Nat.le_of_ble_eq_true rfl)⟩ hI.x rfl dX5_placeOf_8 (fun v8 M8 q8 => ?_)
  obtain ⟨rfl, hI1, hF1⟩ := q8
  refine v_if_eq_b F 22 dX5_placeOf_11 (by decide) (fun c11 => ?_) (fun c11 => ?_)
  · refine v_iconst (v := nI 0) F dX5_placeOf_22 (by decide) ?_
    exact v_iret F hr dX5_placeOf_23 (Nat.le_of_ble_eq_true rfl) (Nat.le_of_ble_eq_true rfl) ⟨rfl, MS.q (t0 := 0) hI1 Sm2.rf hT0 hT10 hCB hCP h9 h13 hB hk hWP, hF1⟩
  · exact absurd c11 (by decide)
def rmX5_way : Room := { frames := 4, cells := 0, slots := 0, locals := 97 }
theorem hd_X5_way : yX5_way.cls = (RX5, TX5, 21).1 ∧ yX5_way.cls ≠ "java/lang/invoke/MethodHandle" ∧ yX5_way.cls ≠ "java/lang/invoke/VarHandle" ∧ (parseMethodDescriptor yX5_way.desc).map (fun d => d.parameters.length) = some 1 := by decide +kernel
theorem fo_X5_way_13 : FO wsX5_way RX5 13 5 2 := ⟨_, _, _, rfl, by decide, by decide +kernel, by decide +kernel⟩
theorem fo_X5_way_16 : FO wsX5_way RX5 16 5 3 := ⟨_, _, _, rfl, by decide, by decide +kernel, by decide +kernel⟩
theorem fo_X5_way_19 : FO wsX5_way RX5 19 5 4 := ⟨_, _, _, rfl, by decide, by decide +kernel, by decide +kernel⟩
theorem fo_X5_way_22 : FO wsX5_way RX5 22 5 5 := ⟨_, _, _, rfl, by decide, by decide +kernel, by decide +kernel⟩
theorem fo_X5_way_47 : FO wsX5_way RX5 47 5 15 := ⟨_, _, _, rfl, by decide, by decide +kernel, by decide +kernel⟩
theorem fo_X5_way_82 : FO wsX5_way RX5 82 5 14 := ⟨_, _, _, rfl, by decide, by decide +kernel, by decide +kernel⟩
set_option maxHeartbeats 4000000 in
set_option maxRecDepth 100000 in
theorem c_Mway {l : Launch} {ω : Om} {M : MM} {Y : Nat → Nat} {B P : FF} {n k t : Nat} (hS : MS ω Y B P n k t M) {W : Nat → Prop} (hWf : ∀ f, W (Y f)) {p : Nat} (hp : p < 5) (hK : Ok B n p) : Ct l ω yX5_way wsX5_way rmX5_way [.ref (Y 0), .int (nI p)] M (fun v M9 => v = some (.int (nI (wyF B (ordF B n p) ((ordF B n p).length - 1)))) ∧ MS ω Y B P n k 0 M9 ∧ Fr W M M9) 0 0 := by
  refine Ct.ofV (cc := cX5_way) (maxL := 6) (ret := (some .int)) [some (.ref (Y 0)), some (.int (nI p)), none, none, none, none] (by decide) rfl (Nat.le_of_ble_eq_true rfl) rfl (Lc.av (av := [.ref (Y 0), .int (nI p)]) (k := 4) rfl) ?_
  intro σ F hl hr hname
  have F : Fx ω σ cX5_way 6 wsX5_way RX5 rmX5_way := F
  obtain ⟨C, T, hI, hT0, hT10, hT20, hCB, hCP, h9, h13, hB, hk, hWP⟩ := hS
  have hn : n ≤ 24 := hB.1
  have hW : ∀ i j, B i j < 128 := hB.2.1
  obtain ⟨hFn, hox, ρ, hρ0, hρ⟩ := id hK
  have hoB : ∀ x, x ∈ ordF B n p → x < 128 := fun x hx => by have := hox x hx; omega
  have ho24 := hFn.2.2.2.2
  refine v_aload_n F dX5_way_0 rfl rfl ?_
  refine v_iload_n F dX5_way_1 rfl ?_
  refine v_callS F 1 [_] rfl rfl rfl (c_isPage_t hp) gX5_way_X5_isPage rfl hd_X5_isPage ⟨⟨rfl, rfl⟩, ⟨(Nat.le_of_ble_eq_true rfl), (Nat.le_of_ble_eq_true rfl)⟩, ⟨(Nat.le_of_ble_eq_true rfl), (Nat.le_of_ble_eq_true rfl)⟩, (Nat.le_of_ble_eq_true rfl)⟩ dX5_way_2 (fun v2 M2 q2 => ?_)
  obtain ⟨rfl, e2⟩ := q2
  replace e2 := e2.symm
  subst e2
  refine v_iconst (v := nI 1) F dX5_way_5 (by decide) ?_
  refine V.toI (show nI 1 = bI true from rfl) ?_
  refine v_iconst (v := nI 1) F dX5_way_6 (by decide) ?_
  refine V.toI (show nI 1 = bI true from rfl) ?_
  refine v_callV F 3 [_, _, _] rfl rfl rfl (c_X5_goes hI hWf) gX5_way_X5_goes rfl hd_X5_goes ⟨⟨rfl, rfl⟩, ⟨(Nat.le_of_ble_eq_true rfl), (Nat.le_of_ble_eq_true rfl)⟩, ⟨(Nat.le_of_ble_eq_true rfl), (Nat.le_of_ble_eq_true rfl)⟩, (Nat.le_of_ble_eq_true rfl)⟩ hI.x rfl dX5_way_7 (fun v7 M7 q7 => ?_)
  obtain ⟨rfl, hI1, hF1⟩ := q7
  refine v_if_ne_b F 15 dX5_way_10 (by decide) (fun c10 => ?_) (fun c10 => ?_)
  · refine v_aload_n F dX5_way_15 rfl rfl ?_
    refine v_iload_n F dX5_way_16 rfl ?_
    refine v_callV F 1 [_] rfl rfl rfl (c_finds hI1 ((uT_n (by decide)).trans hT0) hCB hB hWf ρ hρ0 hρ hp hFn) gX5_way_X5_finds rfl hd_X5_finds ⟨⟨rfl, rfl⟩, ⟨(Nat.le_of_ble_eq_true rfl), (Nat.le_of_ble_eq_true rfl)⟩, ⟨(Nat.le_of_ble_eq_true rfl), (Nat.le_of_ble_eq_true rfl)⟩, (Nat.le_of_ble_eq_true rfl)⟩ hI1.x rfl dX5_way_17 (fun v17 M17 q17 => ?_)
    obtain ⟨rfl, C9, T9, hI9, hF9, hs9, hl9, hp9⟩ := q17
    have hCB9 := hCB.sm hs9.b
    refine v_iconst (v := nI 0) F dX5_way_20 (by decide) ?_
    refine v_istore_n F dX5_way_21 (Nat.le_of_ble_eq_true rfl) (ok2_d rfl) ?_
    refine v_iconst (v := nI 1) F dX5_way_22 (by decide) ?_
    refine v_istore_n F dX5_way_23 (Nat.le_of_ble_eq_true rfl) (ok2_d rfl) ?_
    have lp : ∀ i, i ≤ (ordF B n p).length - 1 → ∀ c w4 w5, c = wyF B (ordF B n p) i → V ω σ M17 [some (.ref (Y 0)), some (.int (nI p)), some (.int (nI c)), some (.int (nI (i + 1))), w4, w5] 0 0 (BQ ω σ (fun v M9 => v = some (.int (nI (wyF B (ordF B n p) ((ordF B n p).length - 1)))) ∧ MS ω Y B P n k 0 M9 ∧ Fr W M M9) 0 0) 24 [] := by
      refine loop_up ((ordF B n p).length - 1) _ (fun i hi ih => ?_)
      intro c w4 w5 hc
      refine v_iload_n F dX5_way_24 rfl ?_
      refine v_aload_n F dX5_way_25 rfl rfl ?_
      refine v_get F 5 14 fo_X5_way_82 dX5_way_26 hI9.x rfl ?_
      refine V.toI (show nI (T9 14) = nI (ordF B n p).length by rw [hl9]) ?_
      refine v_icmp_ge_n F 134 dX5_way_29 (by decide) (by first | omega | exact Nat.lt_trans (hW _ _) (by decide)) (by first | omega | exact Nat.lt_trans (hW _ _) (by decide)) (fun c29 => ?_) (fun c29 => ?_)
      · refine v_iload_n F dX5_way_134 rfl ?_
        exact v_iret F hr dX5_way_135 (Nat.le_of_ble_eq_true rfl) (Nat.le_of_ble_eq_true rfl) ⟨by rw [hc, show i = (ordF B n p).length - 1 by omega], MS.q (t0 := 0) hI9 hs9 hT0 hT10 hCB hCP h9 h13 hB hk hWP, hF1.tr hF9⟩
      · refine v_aload_n F dX5_way_32 rfl rfl ?_
        refine v_get F 5 15 fo_X5_way_47 dX5_way_33 hI9.x rfl ?_
        refine v_iload_n F dX5_way_36 rfl ?_
        refine v_iconst (v := nI 1) F dX5_way_37 (by decide) ?_
        refine v_isub_n F dX5_way_38 (by first | omega | exact Nat.lt_trans (hW _ _) (by decide)) ?_
        refine V.toI (show nI (i + 1 - 1) = nI i from rfl) ?_
        refine v_iald_n F dX5_way_39 (hI9.r (f := 15) (sz := 24) (bl := 0) (by simp [isRow]) (by decide) (by decide)) (by first | omega | exact Nat.lt_trans (hW _ _) (by decide)) (by decide) ?_
        refine V.toI (hp9 i (by omega)) ?_
        refine v_istore F dX5_way_40 (Nat.le_of_ble_eq_true rfl) (ok2_d rfl) ?_
        refine v_aload_n F dX5_way_42 rfl rfl ?_
        refine v_get F 5 15 fo_X5_way_47 dX5_way_43 hI9.x rfl ?_
        refine v_iload_n F dX5_way_46 rfl ?_
        refine v_iald_n F dX5_way_47 (hI9.r (f := 15) (sz := 24) (bl := 0) (by simp [isRow]) (by decide) (by decide)) (by first | omega | exact Nat.lt_trans (hW _ _) (by decide)) (by decide) ?_
        refine V.toI (hp9 (i + 1) (by omega)) ?_
        refine v_istore F dX5_way_48 (Nat.le_of_ble_eq_true rfl) (ok2_d rfl) ?_
        have hA1 : (ordF B n p).getD i 0 < 24 := Nat.lt_of_lt_of_le (gd_lt (i := i) hox (by omega)) hn
        have hA2 : (ordF B n p).getD (i + 1) 0 < 24 := Nat.lt_of_lt_of_le (gd_lt (i := i + 1) hox (by omega)) hn
        refine v_iload_n F dX5_way_50 rfl ?_
        refine v_aload_n F dX5_way_51 rfl rfl ?_
        refine v_get F 5 2 fo_X5_way_13 dX5_way_52 hI9.x rfl ?_
        refine v_iload F dX5_way_55 rfl ?_
        refine v_iald_n F dX5_way_57 (hI9.r (f := 2) (sz := 24) (bl := 0) (by simp [isRow]) (by decide) (by decide)) (by first | omega | exact Nat.lt_trans (hW _ _) (by decide)) (by decide) ?_
        refine V.toI ((hCB9 _ (gd_lt (i := i) hox (by omega))).2.1) ?_
        refine v_aload_n F dX5_way_58 rfl rfl ?_
        refine v_get F 5 4 fo_X5_way_19 dX5_way_59 hI9.x rfl ?_
        refine v_iload F dX5_way_62 rfl ?_
        refine v_iald_n F dX5_way_64 (hI9.r (f := 4) (sz := 24) (bl := 0) (by simp [isRow]) (by decide) (by decide)) (by first | omega | exact Nat.lt_trans (hW _ _) (by decide)) (by decide) ?_
        refine V.toI ((hCB9 _ (gd_lt (i := i) hox (by omega))).2.2.2.1) ?_
        refine v_iconst (v := nI 2) F dX5_way_65 (by decide) ?_
        refine v_idiv_n F dX5_way_66 (by first | omega | exact Nat.lt_trans (hW _ _) (by decide)) (by decide) (by decide) ?_
        refine v_iadd_n F dX5_way_67 ?_
        refine v_aload_n F dX5_way_68 rfl rfl ?_
        refine v_get F 5 2 fo_X5_way_13 dX5_way_69 hI9.x rfl ?_
        refine v_iload F dX5_way_72 rfl ?_
        refine v_iald_n F dX5_way_74 (hI9.r (f := 2) (sz := 24) (bl := 0) (by simp [isRow]) (by decide) (by decide)) (by first | omega | exact Nat.lt_trans (hW _ _) (by decide)) (by decide) ?_
        refine V.toI ((hCB9 _ (gd_lt (i := i + 1) hox (by omega))).2.1) ?_
        refine v_aload_n F dX5_way_75 rfl rfl ?_
        refine v_get F 5 4 fo_X5_way_19 dX5_way_76 hI9.x rfl ?_
        refine v_iload F dX5_way_79 rfl ?_
        refine v_iald_n F dX5_way_81 (hI9.r (f := 4) (sz := 24) (bl := 0) (by simp [isRow]) (by decide) (by decide)) (by first | omega | exact Nat.lt_trans (hW _ _) (by decide)) (by decide) ?_
        refine V.toI ((hCB9 _ (gd_lt (i := i + 1) hox (by omega))).2.2.2.1) ?_
        refine v_iconst (v := nI 2) F dX5_way_82 (by decide) ?_
        refine v_idiv_n F dX5_way_83 (by first | omega | exact Nat.lt_trans (hW _ _) (by decide)) (by decide) (by decide) ?_
        refine v_iadd_n F dX5_way_84 ?_
        refine v_callS F 2 [_, _] rfl rfl rfl (c_X5_between (a := mA B ((ordF B n p).getD i 0)) (b := mA B ((ordF B n p).getD (i + 1) 0)) (Nat.lt_trans (mA_lt hW _) (by decide)) (Nat.lt_trans (mA_lt hW _) (by decide))) gX5_way_X5_between rfl hd_X5_between ⟨⟨rfl, rfl⟩, ⟨(Nat.le_of_ble_eq_true rfl), (Nat.le_of_ble_eq_true rfl)⟩, ⟨(Nat.le_of_ble_eq_true rfl), (Nat.le_of_ble_eq_true rfl)⟩, (Nat.le_of_ble_eq_true rfl)⟩ dX5_way_85 (fun v85 M85 q85 => ?_)
        obtain ⟨rfl, e85⟩ := q85
        replace e85 := e85.symm
        subst e85
        refine v_aload_n F dX5_way_88 rfl rfl ?_
        refine v_get F 5 3 fo_X5_way_16 dX5_way_89 hI9.x rfl ?_
        refine v_iload F dX5_way_92 rfl ?_
        refine v_iald_n F dX5_way_94 (hI9.r (f := 3) (sz := 24) (bl := 0) (by simp [isRow]) (by decide) (by decide)) (by first | omega | exact Nat.lt_trans (hW _ _) (by decide)) (by decide) ?_
        refine V.toI ((hCB9 _ (gd_lt (i := i) hox (by omega))).2.2.1) ?_
        refine v_aload_n F dX5_way_95 rfl rfl ?_
        refine v_get F 5 5 fo_X5_way_22 dX5_way_96 hI9.x rfl ?_
        refine v_iload F dX5_way_99 rfl ?_
        refine v_iald_n F dX5_way_101 (hI9.r (f := 5) (sz := 24) (bl := 0) (by simp [isRow]) (by decide) (by decide)) (by first | omega | exact Nat.lt_trans (hW _ _) (by decide)) (by decide) ?_
        refine V.toI ((hCB9 _ (gd_lt (i := i) hox (by omega))).2.2.2.2.1) ?_
        refine v_iconst (v := nI 2) F dX5_way_102 (by decide) ?_
        refine v_idiv_n F dX5_way_103 (by first | omega | exact Nat.lt_trans (hW _ _) (by decide)) (by decide) (by decide) ?_
        refine v_iadd_n F dX5_way_104 ?_
        refine v_aload_n F dX5_way_105 rfl rfl ?_
        refine v_get F 5 3 fo_X5_way_16 dX5_way_106 hI9.x rfl ?_
        refine v_iload F dX5_way_109 rfl ?_
        refine v_iald_n F dX5_way_111 (hI9.r (f := 3) (sz := 24) (bl := 0) (by simp [isRow]) (by decide) (by decide)) (by first | omega | exact Nat.lt_trans (hW _ _) (by decide)) (by decide) ?_
        refine V.toI ((hCB9 _ (gd_lt (i := i + 1) hox (by omega))).2.2.1) ?_
        refine v_aload_n F dX5_way_112 rfl rfl ?_
        refine v_get F 5 5 fo_X5_way_22 dX5_way_113 hI9.x rfl ?_
        refine v_iload F dX5_way_116 rfl ?_
        refine v_iald_n F dX5_way_118 (hI9.r (f := 5) (sz := 24) (bl := 0) (by simp [isRow]) (by decide) (by decide)) (by first | omega | exact Nat.lt_trans (hW _ _) (by decide)) (by decide) ?_
        refine V.toI ((hCB9 _ (gd_lt (i := i + 1) hox (by omega))).2.2.2.2.1) ?_
        refine v_iconst (v := nI 2) F dX5_way_119 (by decide) ?_
        refine v_idiv_n F dX5_way_120 (by first | omega | exact Nat.lt_trans (hW _ _) (by decide)) (by decide) (by decide) ?_
        refine v_iadd_n F dX5_way_121 ?_
        refine v_callS F 2 [_, _] rfl rfl rfl (c_X5_between (a := mD B ((ordF B n p).getD i 0)) (b := mD B ((ordF B n p).getD (i + 1) 0)) (Nat.lt_trans (mD_lt hW _) (by decide)) (Nat.lt_trans (mD_lt hW _) (by decide))) gX5_way_X5_between rfl hd_X5_between ⟨⟨rfl, rfl⟩, ⟨(Nat.le_of_ble_eq_true rfl), (Nat.le_of_ble_eq_true rfl)⟩, ⟨(Nat.le_of_ble_eq_true rfl), (Nat.le_of_ble_eq_true rfl)⟩, (Nat.le_of_ble_eq_true rfl)⟩ dX5_way_122 (fun v122 M122 q122 => ?_)
        obtain ⟨rfl, e122⟩ := q122
        replace e122 := e122.symm
        subst e122
        refine v_iadd_n F dX5_way_125 ?_
        refine v_iadd_n F dX5_way_126 ?_
        refine v_istore_n F dX5_way_127 (Nat.le_of_ble_eq_true rfl) (ok2_d rfl) ?_
        refine v_iinc1 F dX5_way_128 rfl (ok2_d rfl) ?_
        refine v_goto F 24 dX5_way_131 (by decide) ?_
        exact ih (by omega) _ _ _ (by unfold wyF; rw [fl_s, ← wyF, ← hc, Nat.add_assoc])
    exact lp 0 (Nat.zero_le _) 0 _ _ rfl
  · exact absurd c10 (by decide)
set_option maxHeartbeats 4000000 in
set_option maxRecDepth 100000 in
theorem c_Mway_x {l : Launch} {ω : Om} {M : MM} {Y : Nat → Nat} {B P : FF} {n k t : Nat} (hS : MS ω Y B P n k t M) {W : Nat → Prop} (hWf : ∀ f, W (Y f)) {y : Int32} (hy : y < 0 ∨ nI 5 ≤ y) : Ct l ω yX5_way wsX5_way rmX5_way [.ref (Y 0), .int y] M (fun v M9 => v = some (.int (nI 0)) ∧ MS ω Y B P n k 1 M9 ∧ Fr W M M9) 0 0 := by
  refine Ct.ofV (cc := cX5_way) (maxL := 6) (ret := (some .int)) [some (.ref (Y 0)), some (.int y), none, none, none, none] (by decide) rfl (Nat.le_of_ble_eq_true rfl) rfl (Lc.av (av := [.ref (Y 0), .int y]) (k := 4) rfl) ?_
  intro σ F hl hr hname
  have F : Fx ω σ cX5_way 6 wsX5_way RX5 rmX5_way := F
  obtain ⟨C, T, hI, hT0, hT10, hT20, hCB, hCP, h9, h13, hB, hk, hWP⟩ := hS
  have hn : n ≤ 24 := hB.1
  have hW : ∀ i j, B i j < 128 := hB.2.1
  refine v_aload_n F dX5_way_0 rfl rfl ?_
  refine v_iload_n F dX5_way_1 rfl ?_
  refine v_callS F 1 [_] rfl rfl rfl (c_isPage_f hy) gX5_way_X5_isPage rfl hd_X5_isPage ⟨⟨rfl, rfl⟩, ⟨(Nat.le_of_ble_eq_true rfl), (Nat.le_of_ble_eq_true rfl)⟩, ⟨(Nat.le_of_ble_eq_true rfl), (Nat.le_of_ble_eq_true rfl)⟩, (Nat.le_of_ble_eq_true rfl)⟩ dX5_way_2 (fun v2 M2 q2 => ?_)
  obtain ⟨rfl, e2⟩ := q2
  replace e2 := e2.symm
  subst e2
  refine v_iconst (v := nI 1) F dX5_way_5 (by decide) ?_
  refine V.toI (show nI 1 = bI true from rfl) ?_
  refine v_iconst (v := nI 1) F dX5_way_6 (by decide) ?_
  refine V.toI (show nI 1 = bI true from rfl) ?_
  refine v_callV F 3 [_, _, _] rfl rfl rfl (c_X5_goes hI hWf) gX5_way_X5_goes rfl hd_X5_goes ⟨⟨rfl, rfl⟩, ⟨(Nat.le_of_ble_eq_true rfl), (Nat.le_of_ble_eq_true rfl)⟩, ⟨(Nat.le_of_ble_eq_true rfl), (Nat.le_of_ble_eq_true rfl)⟩, (Nat.le_of_ble_eq_true rfl)⟩ hI.x rfl dX5_way_7 (fun v7 M7 q7 => ?_)
  obtain ⟨rfl, hI1, hF1⟩ := q7
  refine v_if_ne_b F 15 dX5_way_10 (by decide) (fun c10 => ?_) (fun c10 => ?_)
  · exact absurd c10 (by decide)
  · refine v_iconst (v := nI 0) F dX5_way_13 (by decide) ?_
    exact v_iret F hr dX5_way_14 (Nat.le_of_ble_eq_true rfl) (Nat.le_of_ble_eq_true rfl) ⟨rfl, MS.q (t0 := 0) hI1 Sm2.rf hT0 hT10 hCB hCP h9 h13 hB hk hWP, hF1⟩
def rmX5_approvers : Room := { frames := 2, cells := 0, slots := 0, locals := 42 }
theorem hd_X5_approvers : yX5_approvers.cls = (RX5, TX5, 21).1 ∧ yX5_approvers.cls ≠ "java/lang/invoke/MethodHandle" ∧ yX5_approvers.cls ≠ "java/lang/invoke/VarHandle" ∧ (parseMethodDescriptor yX5_approvers.desc).map (fun d => d.parameters.length) = some 1 := by decide +kernel
theorem fo_X5_approvers_38 : FO wsX5_approvers RX5 38 5 11 := ⟨_, _, _, rfl, by decide, by decide +kernel, by decide +kernel⟩
theorem fo_X5_approvers_41 : FO wsX5_approvers RX5 41 5 12 := ⟨_, _, _, rfl, by decide, by decide +kernel, by decide +kernel⟩
theorem fo_X5_approvers_44 : FO wsX5_approvers RX5 44 5 13 := ⟨_, _, _, rfl, by decide, by decide +kernel, by decide +kernel⟩
theorem fo_X5_approvers_110 : FO wsX5_approvers RX5 110 5 10 := ⟨_, _, _, rfl, by decide, by decide +kernel, by decide +kernel⟩
set_option maxHeartbeats 4000000 in
set_option maxRecDepth 100000 in
theorem c_Mapprovers {l : Launch} {ω : Om} {M : MM} {Y : Nat → Nat} {B P : FF} {n k t : Nat} (hS : MS ω Y B P n k t M) {W : Nat → Prop} (hWf : ∀ f, W (Y f)) {p : Nat} (hp : p < 5) (hw6 : ∀ i, i < k → P i 0 < 6) : Ct l ω yX5_approvers wsX5_approvers rmX5_approvers [.ref (Y 0), .int (nI p)] M (fun v M9 => v = some (.int (nI (msk P p k 20))) ∧ MS ω Y B P n k 0 M9 ∧ Fr W M M9) 0 0 := by
  refine Ct.ofV (cc := cX5_approvers) (maxL := 4) (ret := (some .int)) [some (.ref (Y 0)), some (.int (nI p)), none, none] (by decide) rfl (Nat.le_of_ble_eq_true rfl) rfl (Lc.av (av := [.ref (Y 0), .int (nI p)]) (k := 2) rfl) ?_
  intro σ F hl hr hname
  have F : Fx ω σ cX5_approvers 4 wsX5_approvers RX5 rmX5_approvers := F
  obtain ⟨C, T, hI, hT0, hT10, hT20, hCB, hCP, h9, h13, hB, hk, hWP⟩ := hS
  have hn : n ≤ 24 := hB.1
  have hW : ∀ i j, B i j < 128 := hB.2.1
  refine v_aload_n F dX5_approvers_0 rfl rfl ?_
  refine v_iload_n F dX5_approvers_1 rfl ?_
  refine v_callS F 1 [_] rfl rfl rfl (c_isPage_t hp) gX5_approvers_X5_isPage rfl hd_X5_isPage ⟨⟨rfl, rfl⟩, ⟨(Nat.le_of_ble_eq_true rfl), (Nat.le_of_ble_eq_true rfl)⟩, ⟨(Nat.le_of_ble_eq_true rfl), (Nat.le_of_ble_eq_true rfl)⟩, (Nat.le_of_ble_eq_true rfl)⟩ dX5_approvers_2 (fun v2 M2 q2 => ?_)
  obtain ⟨rfl, e2⟩ := q2
  replace e2 := e2.symm
  subst e2
  refine v_iconst (v := nI 1) F dX5_approvers_5 (by decide) ?_
  refine V.toI (show nI 1 = bI true from rfl) ?_
  refine v_iconst (v := nI 1) F dX5_approvers_6 (by decide) ?_
  refine V.toI (show nI 1 = bI true from rfl) ?_
  refine v_callV F 3 [_, _, _] rfl rfl rfl (c_X5_goes hI hWf) gX5_approvers_X5_goes rfl hd_X5_goes ⟨⟨rfl, rfl⟩, ⟨(Nat.le_of_ble_eq_true rfl), (Nat.le_of_ble_eq_true rfl)⟩, ⟨(Nat.le_of_ble_eq_true rfl), (Nat.le_of_ble_eq_true rfl)⟩, (Nat.le_of_ble_eq_true rfl)⟩ hI.x rfl dX5_approvers_7 (fun v7 M7 q7 => ?_)
  obtain ⟨rfl, hI1, hF1⟩ := q7
  refine v_if_ne_b F 15 dX5_approvers_10 (by decide) (fun c10 => ?_) (fun c10 => ?_)
  · refine v_iconst (v := nI 0) F dX5_approvers_15 (by decide) ?_
    refine v_istore_n F dX5_approvers_16 (Nat.le_of_ble_eq_true rfl) (ok2_d rfl) ?_
    refine v_iconst (v := nI 0) F dX5_approvers_17 (by decide) ?_
    refine v_istore_n F dX5_approvers_18 (Nat.le_of_ble_eq_true rfl) (ok2_d rfl) ?_
    have lp : ∀ i, i ≤ k → ∀ m, m = msk P p k i → V ω σ M7 [some (.ref (Y 0)), some (.int (nI p)), some (.int (nI m)), some (.int (nI i))] 0 0 (BQ ω σ (fun v M9 => v = some (.int (nI (msk P p k 20))) ∧ MS ω Y B P n k 0 M9 ∧ Fr W M M9) 0 0) 19 [] := by
      refine loop_up k _ (fun i hi ih => ?_)
      intro m hm
      refine v_iload_n F dX5_approvers_19 rfl ?_
      refine v_aload_n F dX5_approvers_20 rfl rfl ?_
      refine v_get F 5 10 fo_X5_approvers_110 dX5_approvers_21 hI1.x rfl ?_
      refine V.toI (show nI (uT T 20 _ 10) = nI k by rw [uT_n (by decide), hT10]) ?_
      refine v_icmp_ge_n F 67 dX5_approvers_24 (by decide) (by first | omega | exact Nat.lt_trans (hWP _ _) (by decide)) (by first | omega | exact Nat.lt_trans (hWP _ _) (by decide)) (fun c24 => ?_) (fun c24 => ?_)
      · refine v_iload_n F dX5_approvers_67 rfl ?_
        exact v_iret F hr dX5_approvers_68 (Nat.le_of_ble_eq_true rfl) (Nat.le_of_ble_eq_true rfl) ⟨by rw [hm, show i = k by omega, ← msk_k (P := P) (p := p) (20 - k), show k + (20 - k) = 20 by omega], MS.q (t0 := 0) hI1 Sm2.rf hT0 hT10 hCB hCP h9 h13 hB hk hWP, hF1⟩
      · have hi2 : i < k := by omega
        have hw := hw6 i hi2
        refine v_iload_n F dX5_approvers_27 rfl ?_
        refine v_aload_n F dX5_approvers_28 rfl rfl ?_
        refine v_get F 5 12 fo_X5_approvers_41 dX5_approvers_29 hI1.x rfl ?_
        refine v_iload_n F dX5_approvers_32 rfl ?_
        refine v_iald_n F dX5_approvers_33 (hI1.r (f := 12) (sz := 20) (bl := 0) (by simp [isRow]) (by decide) (by decide)) (by first | omega | exact Nat.lt_trans (hWP _ _) (by decide)) (by decide) ?_
        refine V.toI ((hCP i hi2).2.1) ?_
        refine v_iload_n F dX5_approvers_34 rfl ?_
        refine v_icmp_ne_n F 58 dX5_approvers_35 (by decide) (by first | omega | exact Nat.lt_trans (hWP _ _) (by decide)) (by first | omega | exact Nat.lt_trans (hWP _ _) (by decide)) (fun c35 => ?_) (fun c35 => ?_)
        · refine v_iconst (v := nI 0) F dX5_approvers_58 (by decide) ?_
          refine v_ior_n F dX5_approvers_59 ?_
          refine v_istore_n F dX5_approvers_60 (Nat.le_of_ble_eq_true rfl) (ok2_d rfl) ?_
          refine v_iinc1 F dX5_approvers_61 rfl (ok2_d rfl) ?_
          refine v_goto F 19 dX5_approvers_64 (by decide) ?_
          first | exact ih (by omega) _ (by unfold msk; rw [fl_s, if_pos ⟨hi2, by omega, c35⟩, ← msk, ← hm]) | exact ih (by omega) _ (by unfold msk; rw [fl_s, if_neg (fun h => by omega), ← msk, ← hm, Nat.or_zero])
        · refine v_aload_n F dX5_approvers_38 rfl rfl ?_
          refine v_get F 5 13 fo_X5_approvers_44 dX5_approvers_39 hI1.x rfl ?_
          refine v_iload_n F dX5_approvers_42 rfl ?_
          refine v_zald_n F dX5_approvers_43 (hI1.r (f := 13) (sz := 20) (bl := 1) (by simp [isRow]) (by decide) (by decide)) (by first | omega | exact Nat.lt_trans (hWP _ _) (by decide)) (by decide) ?_
          refine V.toI ((hCP i hi2).2.2) ?_
          refine v_if_ne_n F 58 dX5_approvers_44 (by decide) (by first | omega | exact Nat.lt_trans (hWP _ _) (by decide)) (fun c44 => ?_) (fun c44 => ?_)
          · refine v_iconst (v := nI 0) F dX5_approvers_58 (by decide) ?_
            refine v_ior_n F dX5_approvers_59 ?_
            refine v_istore_n F dX5_approvers_60 (Nat.le_of_ble_eq_true rfl) (ok2_d rfl) ?_
            refine v_iinc1 F dX5_approvers_61 rfl (ok2_d rfl) ?_
            refine v_goto F 19 dX5_approvers_64 (by decide) ?_
            first | exact ih (by omega) _ (by unfold msk; rw [fl_s, if_pos ⟨hi2, by omega, c35⟩, ← msk, ← hm]) | exact ih (by omega) _ (by unfold msk; rw [fl_s, if_neg (fun h => by omega), ← msk, ← hm, Nat.or_zero])
          · refine v_iconst (v := nI 1) F dX5_approvers_47 (by decide) ?_
            refine v_aload_n F dX5_approvers_48 rfl rfl ?_
            refine v_get F 5 11 fo_X5_approvers_38 dX5_approvers_49 hI1.x rfl ?_
            refine v_iload_n F dX5_approvers_52 rfl ?_
            refine v_iald_n F dX5_approvers_53 (hI1.r (f := 11) (sz := 20) (bl := 0) (by simp [isRow]) (by decide) (by decide)) (by first | omega | exact Nat.lt_trans (hWP _ _) (by decide)) (by decide) ?_
            refine V.toI ((hCP i hi2).1) ?_
            refine v_ishl_n F dX5_approvers_54 (by first | omega | exact Nat.lt_trans (hWP _ _) (by decide)) ?_
            refine v_goto F 59 dX5_approvers_55 (by decide) ?_
            refine v_ior_n F dX5_approvers_59 ?_
            refine v_istore_n F dX5_approvers_60 (Nat.le_of_ble_eq_true rfl) (ok2_d rfl) ?_
            refine v_iinc1 F dX5_approvers_61 rfl (ok2_d rfl) ?_
            refine v_goto F 19 dX5_approvers_64 (by decide) ?_
            first | exact ih (by omega) _ (by unfold msk; rw [fl_s, if_pos ⟨hi2, by omega, c35⟩, ← msk, ← hm]) | exact ih (by omega) _ (by unfold msk; rw [fl_s, if_neg (fun h => by omega), ← msk, ← hm, Nat.or_zero])
    exact lp 0 (Nat.zero_le _) 0 rfl
  · exact absurd c10 (by decide)
set_option maxHeartbeats 4000000 in
set_option maxRecDepth 100000 in
theorem c_Mapprovers_x {l : Launch} {ω : Om} {M : MM} {Y : Nat → Nat} {B P : FF} {n k t : Nat} (hS : MS ω Y B P n k t M) {W : Nat → Prop} (hWf : ∀ f, W (Y f)) {y : Int32} (hy : y < 0 ∨ nI 5 ≤ y) : Ct l ω yX5_approvers wsX5_approvers rmX5_approvers [.ref (Y 0), .int y] M (fun v M9 => v = some (.int (nI 0)) ∧ MS ω Y B P n k 1 M9 ∧ Fr W M M9) 0 0 := by
  refine Ct.ofV (cc := cX5_approvers) (maxL := 4) (ret := (some .int)) [some (.ref (Y 0)), some (.int y), none, none] (by decide) rfl (Nat.le_of_ble_eq_true rfl) rfl (Lc.av (av := [.ref (Y 0), .int y]) (k := 2) rfl) ?_
  intro σ F hl hr hname
  have F : Fx ω σ cX5_approvers 4 wsX5_approvers RX5 rmX5_approvers := F
  obtain ⟨C, T, hI, hT0, hT10, hT20, hCB, hCP, h9, h13, hB, hk, hWP⟩ := hS
  have hn : n ≤ 24 := hB.1
  have hW : ∀ i j, B i j < 128 := hB.2.1
  refine v_aload_n F dX5_approvers_0 rfl rfl ?_
  refine v_iload_n F dX5_approvers_1 rfl ?_
  refine v_callS F 1 [_] rfl rfl rfl (c_isPage_f hy) gX5_approvers_X5_isPage rfl hd_X5_isPage ⟨⟨rfl, rfl⟩, ⟨(Nat.le_of_ble_eq_true rfl), (Nat.le_of_ble_eq_true rfl)⟩, ⟨(Nat.le_of_ble_eq_true rfl), (Nat.le_of_ble_eq_true rfl)⟩, (Nat.le_of_ble_eq_true rfl)⟩ dX5_approvers_2 (fun v2 M2 q2 => ?_)
  obtain ⟨rfl, e2⟩ := q2
  replace e2 := e2.symm
  subst e2
  refine v_iconst (v := nI 1) F dX5_approvers_5 (by decide) ?_
  refine V.toI (show nI 1 = bI true from rfl) ?_
  refine v_iconst (v := nI 1) F dX5_approvers_6 (by decide) ?_
  refine V.toI (show nI 1 = bI true from rfl) ?_
  refine v_callV F 3 [_, _, _] rfl rfl rfl (c_X5_goes hI hWf) gX5_approvers_X5_goes rfl hd_X5_goes ⟨⟨rfl, rfl⟩, ⟨(Nat.le_of_ble_eq_true rfl), (Nat.le_of_ble_eq_true rfl)⟩, ⟨(Nat.le_of_ble_eq_true rfl), (Nat.le_of_ble_eq_true rfl)⟩, (Nat.le_of_ble_eq_true rfl)⟩ hI.x rfl dX5_approvers_7 (fun v7 M7 q7 => ?_)
  obtain ⟨rfl, hI1, hF1⟩ := q7
  refine v_if_ne_b F 15 dX5_approvers_10 (by decide) (fun c10 => ?_) (fun c10 => ?_)
  · exact absurd c10 (by decide)
  · refine v_iconst (v := nI 0) F dX5_approvers_13 (by decide) ?_
    exact v_iret F hr dX5_approvers_14 (Nat.le_of_ble_eq_true rfl) (Nat.le_of_ble_eq_true rfl) ⟨rfl, MS.q (t0 := 0) hI1 Sm2.rf hT0 hT10 hCB hCP h9 h13 hB hk hWP, hF1⟩
def rmX5_stands : Room := { frames := 1, cells := 0, slots := 0, locals := 23 }
theorem hd_X5_stands : yX5_stands.cls = (RX5, TX5, 21).1 ∧ yX5_stands.cls ≠ "java/lang/invoke/MethodHandle" ∧ yX5_stands.cls ≠ "java/lang/invoke/VarHandle" ∧ (parseMethodDescriptor yX5_stands.desc).map (fun d => d.parameters.length) = some 1 := by decide +kernel
theorem fo_X5_stands_44 : FO wsX5_stands RX5 44 5 13 := ⟨_, _, _, rfl, by decide, by decide +kernel, by decide +kernel⟩
theorem fo_X5_stands_110 : FO wsX5_stands RX5 110 5 10 := ⟨_, _, _, rfl, by decide, by decide +kernel, by decide +kernel⟩
set_option maxHeartbeats 4000000 in
set_option maxRecDepth 100000 in
theorem c_Mstands {l : Launch} {ω : Om} {M : MM} {Y : Nat → Nat} {B P : FF} {n k t : Nat} (hS : MS ω Y B P n k t M) {W : Nat → Prop} (hWf : ∀ f, W (Y f)) {i : Nat} (hi : i < k) : Ct l ω yX5_stands wsX5_stands rmX5_stands [.ref (Y 0), .int (nI i)] M (fun v M9 => v = some (.int (bI (decide (1 - P i 2 = 0)))) ∧ MS ω Y B P n k 0 M9 ∧ Fr W M M9) 0 0 := by
  refine Ct.ofV (cc := cX5_stands) (maxL := 2) (ret := (some .boolean)) [some (.ref (Y 0)), some (.int (nI i))] (by decide) rfl (Nat.le_of_ble_eq_true rfl) rfl (Lc.av (av := [.ref (Y 0), .int (nI i)]) (k := 0) rfl) ?_
  intro σ F hl hr hname
  have F : Fx ω σ cX5_stands 2 wsX5_stands RX5 rmX5_stands := F
  obtain ⟨C, T, hI, hT0, hT10, hT20, hCB, hCP, h9, h13, hB, hk, hWP⟩ := hS
  have hn : n ≤ 24 := hB.1
  have hW : ∀ i j, B i j < 128 := hB.2.1
  refine v_aload_n F dX5_stands_0 rfl rfl ?_
  refine v_iload_n F dX5_stands_1 rfl ?_
  refine v_iconst (v := nI 0) F dX5_stands_2 (by decide) ?_
  refine v_aload_n F dX5_stands_3 rfl rfl ?_
  refine v_get F 5 10 fo_X5_stands_110 dX5_stands_4 hI.x rfl ?_
  refine V.toI (show nI (T 10) = nI k by rw [hT10]) ?_
  refine v_iconst (v := nI 1) F dX5_stands_7 (by decide) ?_
  refine v_isub F dX5_stands_8 ?_
  refine v_callS F 3 [_, _, _] rfl rfl rfl (c_in_t (int24i (n := k) (by omega) hi).1 (int24i (n := k) (by omega) hi).2) gX5_stands_X5_in rfl hd_X5_in ⟨⟨rfl, rfl⟩, ⟨(Nat.le_of_ble_eq_true rfl), (Nat.le_of_ble_eq_true rfl)⟩, ⟨(Nat.le_of_ble_eq_true rfl), (Nat.le_of_ble_eq_true rfl)⟩, (Nat.le_of_ble_eq_true rfl)⟩ dX5_stands_9 (fun v9 M9 q9 => ?_)
  obtain ⟨rfl, e9⟩ := q9
  replace e9 := e9.symm
  subst e9
  refine v_iconst (v := nI 1) F dX5_stands_12 (by decide) ?_
  refine V.toI (show nI 1 = bI true from rfl) ?_
  refine v_iconst (v := nI 1) F dX5_stands_13 (by decide) ?_
  refine V.toI (show nI 1 = bI true from rfl) ?_
  refine v_callV F 3 [_, _, _] rfl rfl rfl (c_X5_goes hI hWf) gX5_stands_X5_goes rfl hd_X5_goes ⟨⟨rfl, rfl⟩, ⟨(Nat.le_of_ble_eq_true rfl), (Nat.le_of_ble_eq_true rfl)⟩, ⟨(Nat.le_of_ble_eq_true rfl), (Nat.le_of_ble_eq_true rfl)⟩, (Nat.le_of_ble_eq_true rfl)⟩ hI.x rfl dX5_stands_14 (fun v14 M14 q14 => ?_)
  obtain ⟨rfl, hI1, hF1⟩ := q14
  refine v_if_eq_b F 33 dX5_stands_17 (by decide) (fun c17 => ?_) (fun c17 => ?_)
  · exact absurd c17 (by decide)
  · refine v_aload_n F dX5_stands_20 rfl rfl ?_
    refine v_get F 5 13 fo_X5_stands_44 dX5_stands_21 hI1.x rfl ?_
    refine v_iload_n F dX5_stands_24 rfl ?_
    refine v_zald_n F dX5_stands_25 (hI1.r (f := 13) (sz := 20) (bl := 1) (by simp [isRow]) (by decide) (by decide)) (by first | omega | exact Nat.lt_trans (hWP _ _) (by decide)) (by decide) ?_
    refine V.toI ((hCP i hi).2.2) ?_
    refine v_if_ne_n F 33 dX5_stands_26 (by decide) (by first | omega | exact Nat.lt_trans (hWP _ _) (by decide)) (fun c26 => ?_) (fun c26 => ?_)
    · refine v_iconst (v := nI 0) F dX5_stands_33 (by decide) ?_
      exact v_zret F hr dX5_stands_34 rfl (Nat.le_of_ble_eq_true rfl) (Nat.le_of_ble_eq_true rfl) ⟨by first | (rw [decide_eq_true c26]; rfl) | (rw [decide_eq_false c26]; rfl), MS.q (t0 := 0) hI1 Sm2.rf hT0 hT10 hCB hCP h9 h13 hB hk hWP, hF1⟩
    · refine v_iconst (v := nI 1) F dX5_stands_29 (by decide) ?_
      refine v_goto F 34 dX5_stands_30 (by decide) ?_
      exact v_zret F hr dX5_stands_34 rfl (Nat.le_of_ble_eq_true rfl) (Nat.le_of_ble_eq_true rfl) ⟨by first | (rw [decide_eq_true c26]; rfl) | (rw [decide_eq_false c26]; rfl), MS.q (t0 := 0) hI1 Sm2.rf hT0 hT10 hCB hCP h9 h13 hB hk hWP, hF1⟩
set_option maxHeartbeats 4000000 in
set_option maxRecDepth 100000 in
theorem c_Mstands_x {l : Launch} {ω : Om} {M : MM} {Y : Nat → Nat} {B P : FF} {n k t : Nat} (hS : MS ω Y B P n k t M) {W : Nat → Prop} (hWf : ∀ f, W (Y f)) {y : Int32} (hy : y < 0 ∨ nI k ≤ y) : Ct l ω yX5_stands wsX5_stands rmX5_stands [.ref (Y 0), .int y] M (fun v M9 => v = some (.int (bI false)) ∧ MS ω Y B P n k 1 M9 ∧ Fr W M M9) 0 0 := by
  refine Ct.ofV (cc := cX5_stands) (maxL := 2) (ret := (some .boolean)) [some (.ref (Y 0)), some (.int y)] (by decide) rfl (Nat.le_of_ble_eq_true rfl) rfl (Lc.av (av := [.ref (Y 0), .int y]) (k := 0) rfl) ?_
  intro σ F hl hr hname
  have F : Fx ω σ cX5_stands 2 wsX5_stands RX5 rmX5_stands := F
  obtain ⟨C, T, hI, hT0, hT10, hT20, hCB, hCP, h9, h13, hB, hk, hWP⟩ := hS
  have hn : n ≤ 24 := hB.1
  have hW : ∀ i j, B i j < 128 := hB.2.1
  refine v_aload_n F dX5_stands_0 rfl rfl ?_
  refine v_iload_n F dX5_stands_1 rfl ?_
  refine v_iconst (v := nI 0) F dX5_stands_2 (by decide) ?_
  refine v_aload_n F dX5_stands_3 rfl rfl ?_
  refine v_get F 5 10 fo_X5_stands_110 dX5_stands_4 hI.x rfl ?_
  refine V.toI (show nI (T 10) = nI k by rw [hT10]) ?_
  refine v_iconst (v := nI 1) F dX5_stands_7 (by decide) ?_
  refine v_isub F dX5_stands_8 ?_
  refine v_callS F 3 [_, _, _] rfl rfl rfl (c_in_f (int24 (n := k) (by omega) hy)) gX5_stands_X5_in rfl hd_X5_in ⟨⟨rfl, rfl⟩, ⟨(Nat.le_of_ble_eq_true rfl), (Nat.le_of_ble_eq_true rfl)⟩, ⟨(Nat.le_of_ble_eq_true rfl), (Nat.le_of_ble_eq_true rfl)⟩, (Nat.le_of_ble_eq_true rfl)⟩ dX5_stands_9 (fun v9 M9 q9 => ?_)
  obtain ⟨rfl, e9⟩ := q9
  replace e9 := e9.symm
  subst e9
  refine v_iconst (v := nI 1) F dX5_stands_12 (by decide) ?_
  refine V.toI (show nI 1 = bI true from rfl) ?_
  refine v_iconst (v := nI 1) F dX5_stands_13 (by decide) ?_
  refine V.toI (show nI 1 = bI true from rfl) ?_
  refine v_callV F 3 [_, _, _] rfl rfl rfl (c_X5_goes hI hWf) gX5_stands_X5_goes rfl hd_X5_goes ⟨⟨rfl, rfl⟩, ⟨(Nat.le_of_ble_eq_true rfl), (Nat.le_of_ble_eq_true rfl)⟩, ⟨(Nat.le_of_ble_eq_true rfl), (Nat.le_of_ble_eq_true rfl)⟩, (Nat.le_of_ble_eq_true rfl)⟩ hI.x rfl dX5_stands_14 (fun v14 M14 q14 => ?_)
  obtain ⟨rfl, hI1, hF1⟩ := q14
  refine v_if_eq_b F 33 dX5_stands_17 (by decide) (fun c17 => ?_) (fun c17 => ?_)
  · refine v_iconst (v := nI 0) F dX5_stands_33 (by decide) ?_
    exact v_zret F hr dX5_stands_34 rfl (Nat.le_of_ble_eq_true rfl) (Nat.le_of_ble_eq_true rfl) ⟨rfl, MS.q (t0 := 0) hI1 Sm2.rf hT0 hT10 hCB hCP h9 h13 hB hk hWP, hF1⟩
  · exact absurd c17 (by decide)
