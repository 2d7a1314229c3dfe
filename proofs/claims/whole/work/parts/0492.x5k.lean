/-! the reference: checks of an order -/
def rmX5_isHead : Room := { frames := 0, cells := 0, slots := 0, locals := 0 }
theorem hd_X5_isHead : yX5_isHead.cls = (RX5, TX5, 21).1 ∧ yX5_isHead.cls ≠ "java/lang/invoke/MethodHandle" ∧ yX5_isHead.cls ≠ "java/lang/invoke/VarHandle" ∧ (parseMethodDescriptor yX5_isHead.desc).map (fun d => d.parameters.length) = some 1 := by decide +kernel
theorem fo_X5_isHead_25 : FO wsX5_isHead RX5 25 5 6 := ⟨_, _, _, rfl, by decide, by decide +kernel, by decide +kernel⟩
theorem fo_X5_isHead_47 : FO wsX5_isHead RX5 47 5 15 := ⟨_, _, _, rfl, by decide, by decide +kernel, by decide +kernel⟩
set_option maxHeartbeats 4000000 in
set_option maxRecDepth 100000 in
theorem c_MisHead {l : Launch} {ω : Om} {M : MM} {Y : Nat → Nat} {C : Nat → Nat → Int32} {T : Nat → Nat} (hI : MI ω Y C T M) {B : FF} {n : Nat} (hT0 : T 0 = n) (hCB : CB C B n) (hB : WB B n) {u : List Nat} (h14 : T 14 = u.length) (h15 : Pf (C 15) u) (hu24 : u.length ≤ 24) (hun : ∀ x, x ∈ u → x < n) {i : Nat} (hi : i < u.length) : Ct l ω yX5_isHead wsX5_isHead rmX5_isHead [.ref (Y 0), .int (nI i)] M (fun v M9 => v = some (.int (bI (decide (4 ≤ B (u.getD i 0) 5)))) ∧ M9 = M) 0 0 := by
  refine Ct.ofV (cc := cX5_isHead) (maxL := 2) (ret := (some .boolean)) [some (.ref (Y 0)), some (.int (nI i))] (by decide) rfl (Nat.le_of_ble_eq_true rfl) rfl (Lc.av (av := [.ref (Y 0), .int (nI i)]) (k := 0) rfl) ?_
  intro σ F hl hr hname
  have F : Fx ω σ cX5_isHead 2 wsX5_isHead RX5 rmX5_isHead := F
  have hn : n ≤ 24 := hB.1
  have hW : ∀ i j, B i j < 128 := hB.2.1
  have hx : u.getD i 0 < n := gd_lt hun hi
  have hx24 : u.getD i 0 < 24 := by omega
  refine v_aload_n F dX5_isHead_0 rfl rfl ?_
  refine v_get F 5 6 fo_X5_isHead_25 dX5_isHead_1 hI.x rfl ?_
  refine v_aload_n F dX5_isHead_4 rfl rfl ?_
  refine v_get F 5 15 fo_X5_isHead_47 dX5_isHead_5 hI.x rfl ?_
  refine v_iload_n F dX5_isHead_8 rfl ?_
  refine v_iald_n F dX5_isHead_9 (hI.r (f := 15) (sz := 24) (bl := 0) (by simp [isRow]) (by decide) (by decide)) (by first | omega | exact Nat.lt_trans (hW _ _) (by decide) | exact Nat.lt_of_lt_of_le (gd_lt (i := i) hun (by omega)) hn) (by decide) ?_
  refine V.toI (h15 i hi) ?_
  refine v_iald_n F dX5_isHead_10 (hI.r (f := 6) (sz := 24) (bl := 0) (by simp [isRow]) (by decide) (by decide)) (by first | omega | exact Nat.lt_trans (hW _ _) (by decide) | exact Nat.lt_of_lt_of_le (gd_lt (i := i) hun (by omega)) hn) (by decide) ?_
  refine V.toI ((hCB _ hx).2.2.2.2.2.1) ?_
  refine v_iconst (v := nI 4) F dX5_isHead_11 (by decide) ?_
  refine v_icmp_lt_n F 19 dX5_isHead_12 (by decide) (by first | omega | exact Nat.lt_trans (hW _ _) (by decide) | exact Nat.lt_of_lt_of_le (gd_lt (i := i) hun (by omega)) hn) (by first | omega | exact Nat.lt_trans (hW _ _) (by decide) | exact Nat.lt_of_lt_of_le (gd_lt (i := i) hun (by omega)) hn) (fun c12 => ?_) (fun c12 => ?_)
  · refine v_iconst (v := nI 0) F dX5_isHead_19 (by decide) ?_
    exact v_zret F hr dX5_isHead_20 rfl (Nat.le_of_ble_eq_true rfl) (Nat.le_of_ble_eq_true rfl) ⟨by first | (rw [decide_eq_true (by omega)]; rfl) | (rw [decide_eq_false (by omega)]; rfl), rfl⟩
  · refine v_iconst (v := nI 1) F dX5_isHead_15 (by decide) ?_
    refine v_goto F 20 dX5_isHead_16 (by decide) ?_
    exact v_zret F hr dX5_isHead_20 rfl (Nat.le_of_ble_eq_true rfl) (Nat.le_of_ble_eq_true rfl) ⟨by first | (rw [decide_eq_true (by omega)]; rfl) | (rw [decide_eq_false (by omega)]; rfl), rfl⟩
def rmX5_meet : Room := { frames := 0, cells := 0, slots := 0, locals := 0 }
theorem hd_X5_meet : yX5_meet.cls = (RX5, TX5, 21).1 ∧ yX5_meet.cls ≠ "java/lang/invoke/MethodHandle" ∧ yX5_meet.cls ≠ "java/lang/invoke/VarHandle" ∧ (parseMethodDescriptor yX5_meet.desc).map (fun d => d.parameters.length) = some 2 := by decide +kernel
theorem fo_X5_meet_13 : FO wsX5_meet RX5 13 5 2 := ⟨_, _, _, rfl, by decide, by decide +kernel, by decide +kernel⟩
theorem fo_X5_meet_16 : FO wsX5_meet RX5 16 5 3 := ⟨_, _, _, rfl, by decide, by decide +kernel, by decide +kernel⟩
theorem fo_X5_meet_19 : FO wsX5_meet RX5 19 5 4 := ⟨_, _, _, rfl, by decide, by decide +kernel, by decide +kernel⟩
theorem fo_X5_meet_22 : FO wsX5_meet RX5 22 5 5 := ⟨_, _, _, rfl, by decide, by decide +kernel, by decide +kernel⟩
set_option maxHeartbeats 4000000 in
set_option maxRecDepth 100000 in
theorem c_X5_meet {l : Launch} {ω : Om} {M : MM} {Y : Nat → Nat} {C : Nat → Nat → Int32} {T : Nat → Nat} (hI : MI ω Y C T M) {B : FF} {n : Nat} (hT0 : T 0 = n) (hCB : CB C B n) (hB : WB B n) {a b : Nat} (ha : a < n) (hb : b < n) : Ct l ω yX5_meet wsX5_meet rmX5_meet [.ref (Y 0), .int (nI a), .int (nI b)] M (fun v M9 => v = some (.int (bI (ovl B a b))) ∧ M9 = M) 0 0 := by
  refine Ct.ofV (cc := cX5_meet) (maxL := 3) (ret := (some .boolean)) [some (.ref (Y 0)), some (.int (nI a)), some (.int (nI b))] (by decide) rfl (Nat.le_of_ble_eq_true rfl) rfl (Lc.av (av := [.ref (Y 0), .int (nI a), .int (nI b)]) (k := 0) rfl) ?_
  intro σ F hl hr hname
  have F : Fx ω σ cX5_meet 3 wsX5_meet RX5 rmX5_meet := F
  have hn : n ≤ 24 := hB.1
  have hW : ∀ i j, B i j < 128 := hB.2.1
  have q1 := hW a 1
  have q2 := hW a 2
  have q3 := hW a 3
  have q4 := hW a 4
  have r1 := hW b 1
  have r2 := hW b 2
  have r3 := hW b 3
  have r4 := hW b 4
  refine v_aload_n F dX5_meet_0 rfl rfl ?_
  refine v_get F 5 2 fo_X5_meet_13 dX5_meet_1 hI.x rfl ?_
  refine v_iload_n F dX5_meet_4 rfl ?_
  refine v_iald_n F dX5_meet_5 (hI.r (f := 2) (sz := 24) (bl := 0) (by simp [isRow]) (by decide) (by decide)) (by omega) (by decide) ?_
  refine V.toI ((hCB a ha).2.1) ?_
  refine v_aload_n F dX5_meet_6 rfl rfl ?_
  refine v_get F 5 2 fo_X5_meet_13 dX5_meet_7 hI.x rfl ?_
  refine v_iload_n F dX5_meet_10 rfl ?_
  refine v_iald_n F dX5_meet_11 (hI.r (f := 2) (sz := 24) (bl := 0) (by simp [isRow]) (by decide) (by decide)) (by omega) (by decide) ?_
  refine V.toI ((hCB b hb).2.1) ?_
  refine v_aload_n F dX5_meet_12 rfl rfl ?_
  refine v_get F 5 4 fo_X5_meet_19 dX5_meet_13 hI.x rfl ?_
  refine v_iload_n F dX5_meet_16 rfl ?_
  refine v_iald_n F dX5_meet_17 (hI.r (f := 4) (sz := 24) (bl := 0) (by simp [isRow]) (by decide) (by decide)) (by omega) (by decide) ?_
  refine V.toI ((hCB b hb).2.2.2.1) ?_
  refine v_iadd_n F dX5_meet_18 ?_
  refine v_icmp_ge_n F 92 dX5_meet_19 (by decide) (by omega) (by omega) (fun c19 => ?_) (fun c19 => ?_)
  · refine v_iconst (v := nI 0) F dX5_meet_92 (by decide) ?_
    exact v_zret F hr dX5_meet_93 rfl (Nat.le_of_ble_eq_true rfl) (Nat.le_of_ble_eq_true rfl) ⟨by first | (rw [show ovl B a b = true by (unfold ovl; rw [decide_eq_true (by omega), decide_eq_true (by omega), decide_eq_true (by omega), decide_eq_true (by omega)]; rfl)]; rfl) | (rw [show ovl B a b = false by (rw [Bool.eq_false_iff]; intro h; unfold ovl at h; simp only [Bool.and_eq_true, decide_eq_true_eq] at h; omega)]; rfl), rfl⟩
  · refine v_aload_n F dX5_meet_22 rfl rfl ?_
    refine v_get F 5 2 fo_X5_meet_13 dX5_meet_23 hI.x rfl ?_
    refine v_iload_n F dX5_meet_26 rfl ?_
    refine v_iald_n F dX5_meet_27 (hI.r (f := 2) (sz := 24) (bl := 0) (by simp [isRow]) (by decide) (by decide)) (by omega) (by decide) ?_
    refine V.toI ((hCB b hb).2.1) ?_
    refine v_aload_n F dX5_meet_28 rfl rfl ?_
    refine v_get F 5 2 fo_X5_meet_13 dX5_meet_29 hI.x rfl ?_
    refine v_iload_n F dX5_meet_32 rfl ?_
    refine v_iald_n F dX5_meet_33 (hI.r (f := 2) (sz := 24) (bl := 0) (by simp [isRow]) (by decide) (by decide)) (by omega) (by decide) ?_
    refine V.toI ((hCB a ha).2.1) ?_
    refine v_aload_n F dX5_meet_34 rfl rfl ?_
    refine v_get F 5 4 fo_X5_meet_19 dX5_meet_35 hI.x rfl ?_
    refine v_iload_n F dX5_meet_38 rfl ?_
    refine v_iald_n F dX5_meet_39 (hI.r (f := 4) (sz := 24) (bl := 0) (by simp [isRow]) (by decide) (by decide)) (by omega) (by decide) ?_
    refine V.toI ((hCB a ha).2.2.2.1) ?_
    refine v_iadd_n F dX5_meet_40 ?_
    refine v_icmp_ge_n F 92 dX5_meet_41 (by decide) (by omega) (by omega) (fun c41 => ?_) (fun c41 => ?_)
    · refine v_iconst (v := nI 0) F dX5_meet_92 (by decide) ?_
      exact v_zret F hr dX5_meet_93 rfl (Nat.le_of_ble_eq_true rfl) (Nat.le_of_ble_eq_true rfl) ⟨by first | (rw [show ovl B a b = true by (unfold ovl; rw [decide_eq_true (by omega), decide_eq_true (by omega), decide_eq_true (by omega), decide_eq_true (by omega)]; rfl)]; rfl) | (rw [show ovl B a b = false by (rw [Bool.eq_false_iff]; intro h; unfold ovl at h; simp only [Bool.and_eq_true, decide_eq_true_eq] at h; omega)]; rfl), rfl⟩
    · refine v_aload_n F dX5_meet_44 rfl rfl ?_
      refine v_get F 5 3 fo_X5_meet_16 dX5_meet_45 hI.x rfl ?_
      refine v_iload_n F dX5_meet_48 rfl ?_
      refine v_iald_n F dX5_meet_49 (hI.r (f := 3) (sz := 24) (bl := 0) (by simp [isRow]) (by decide) (by decide)) (by omega) (by decide) ?_
      refine V.toI ((hCB a ha).2.2.1) ?_
      refine v_aload_n F dX5_meet_50 rfl rfl ?_
      refine v_get F 5 3 fo_X5_meet_16 dX5_meet_51 hI.x rfl ?_
      refine v_iload_n F dX5_meet_54 rfl ?_
      refine v_iald_n F dX5_meet_55 (hI.r (f := 3) (sz := 24) (bl := 0) (by simp [isRow]) (by decide) (by decide)) (by omega) (by decide) ?_
      refine V.toI ((hCB b hb).2.2.1) ?_
      refine v_aload_n F dX5_meet_56 rfl rfl ?_
      refine v_get F 5 5 fo_X5_meet_22 dX5_meet_57 hI.x rfl ?_
      refine v_iload_n F dX5_meet_60 rfl ?_
      refine v_iald_n F dX5_meet_61 (hI.r (f := 5) (sz := 24) (bl := 0) (by simp [isRow]) (by decide) (by decide)) (by omega) (by decide) ?_
      refine V.toI ((hCB b hb).2.2.2.2.1) ?_
      refine v_iadd_n F dX5_meet_62 ?_
      refine v_icmp_ge_n F 92 dX5_meet_63 (by decide) (by omega) (by omega) (fun c63 => ?_) (fun c63 => ?_)
      · refine v_iconst (v := nI 0) F dX5_meet_92 (by decide) ?_
        exact v_zret F hr dX5_meet_93 rfl (Nat.le_of_ble_eq_true rfl) (Nat.le_of_ble_eq_true rfl) ⟨by first | (rw [show ovl B a b = true by (unfold ovl; rw [decide_eq_true (by omega), decide_eq_true (by omega), decide_eq_true (by omega), decide_eq_true (by omega)]; rfl)]; rfl) | (rw [show ovl B a b = false by (rw [Bool.eq_false_iff]; intro h; unfold ovl at h; simp only [Bool.and_eq_true, decide_eq_true_eq] at h; omega)]; rfl), rfl⟩
      · refine v_aload_n F dX5_meet_66 rfl rfl ?_
        refine v_get F 5 3 fo_X5_meet_16 dX5_meet_67 hI.x rfl ?_
        refine v_iload_n F dX5_meet_70 rfl ?_
        refine v_iald_n F dX5_meet_71 (hI.r (f := 3) (sz := 24) (bl := 0) (by simp [isRow]) (by decide) (by decide)) (by omega) (by decide) ?_
        refine V.toI ((hCB b hb).2.2.1) ?_
        refine v_aload_n F dX5_meet_72 rfl rfl ?_
        refine v_get F 5 3 fo_X5_meet_16 dX5_meet_73 hI.x rfl ?_
        refine v_iload_n F dX5_meet_76 rfl ?_
        refine v_iald_n F dX5_meet_77 (hI.r (f := 3) (sz := 24) (bl := 0) (by simp [isRow]) (by decide) (by decide)) (by omega) (by decide) ?_
        refine V.toI ((hCB a ha).2.2.1) ?_
        refine v_aload_n F dX5_meet_78 rfl rfl ?_
        refine v_get F 5 5 fo_X5_meet_22 dX5_meet_79 hI.x rfl ?_
        refine v_iload_n F dX5_meet_82 rfl ?_
        refine v_iald_n F dX5_meet_83 (hI.r (f := 5) (sz := 24) (bl := 0) (by simp [isRow]) (by decide) (by decide)) (by omega) (by decide) ?_
        refine V.toI ((hCB a ha).2.2.2.2.1) ?_
        refine v_iadd_n F dX5_meet_84 ?_
        refine v_icmp_ge_n F 92 dX5_meet_85 (by decide) (by omega) (by omega) (fun c85 => ?_) (fun c85 => ?_)
        · refine v_iconst (v := nI 0) F dX5_meet_92 (by decide) ?_
          exact v_zret F hr dX5_meet_93 rfl (Nat.le_of_ble_eq_true rfl) (Nat.le_of_ble_eq_true rfl) ⟨by first | (rw [show ovl B a b = true by (unfold ovl; rw [decide_eq_true (by omega), decide_eq_true (by omega), decide_eq_true (by omega), decide_eq_true (by omega)]; rfl)]; rfl) | (rw [show ovl B a b = false by (rw [Bool.eq_false_iff]; intro h; unfold ovl at h; simp only [Bool.and_eq_true, decide_eq_true_eq] at h; omega)]; rfl), rfl⟩
        · refine v_iconst (v := nI 1) F dX5_meet_88 (by decide) ?_
          refine v_goto F 93 dX5_meet_89 (by decide) ?_
          exact v_zret F hr dX5_meet_93 rfl (Nat.le_of_ble_eq_true rfl) (Nat.le_of_ble_eq_true rfl) ⟨by first | (rw [show ovl B a b = true by (unfold ovl; rw [decide_eq_true (by omega), decide_eq_true (by omega), decide_eq_true (by omega), decide_eq_true (by omega)]; rfl)]; rfl) | (rw [show ovl B a b = false by (rw [Bool.eq_false_iff]; intro h; unfold ovl at h; simp only [Bool.and_eq_true, decide_eq_true_eq] at h; omega)]; rfl), rfl⟩
def rmX5_isKind : Room := { frames := 1, cells := 0, slots := 0, locals := 22 }
theorem hd_X5_isKind : yX5_isKind.cls = (RX5, TX5, 21).1 ∧ yX5_isKind.cls ≠ "java/lang/invoke/MethodHandle" ∧ yX5_isKind.cls ≠ "java/lang/invoke/VarHandle" ∧ (parseMethodDescriptor yX5_isKind.desc).map (fun d => d.parameters.length) = some 2 := by decide +kernel
theorem fo_X5_isKind_25 : FO wsX5_isKind RX5 25 5 6 := ⟨_, _, _, rfl, by decide, by decide +kernel, by decide +kernel⟩
theorem fo_X5_isKind_47 : FO wsX5_isKind RX5 47 5 15 := ⟨_, _, _, rfl, by decide, by decide +kernel, by decide +kernel⟩
theorem fo_X5_isKind_82 : FO wsX5_isKind RX5 82 5 14 := ⟨_, _, _, rfl, by decide, by decide +kernel, by decide +kernel⟩
set_option maxHeartbeats 4000000 in
set_option maxRecDepth 100000 in
theorem c_isKind_in {l : Launch} {ω : Om} {M : MM} {Y : Nat → Nat} {C : Nat → Nat → Int32} {T : Nat → Nat} (hI : MI ω Y C T M) {B : FF} {n : Nat} (hT0 : T 0 = n) (hCB : CB C B n) (hB : WB B n) {u : List Nat} (h14 : T 14 = u.length) (h15 : Pf (C 15) u) (hu24 : u.length ≤ 24) (hun : ∀ x, x ∈ u → x < n) {i s : Nat} (hi : i < u.length) (hs : s < 128) : Ct l ω yX5_isKind wsX5_isKind rmX5_isKind [.ref (Y 0), .int (nI i), .int (nI s)] M (fun v M9 => v = some (.int (bI (decide (B (u.getD i 0) 5 = s)))) ∧ M9 = M) 0 0 := by
  refine Ct.ofV (cc := cX5_isKind) (maxL := 3) (ret := (some .boolean)) [some (.ref (Y 0)), some (.int (nI i)), some (.int (nI s))] (by decide) rfl (Nat.le_of_ble_eq_true rfl) rfl (Lc.av (av := [.ref (Y 0), .int (nI i), .int (nI s)]) (k := 0) rfl) ?_
  intro σ F hl hr hname
  have F : Fx ω σ cX5_isKind 3 wsX5_isKind RX5 rmX5_isKind := F
  have hn : n ≤ 24 := hB.1
  have hW : ∀ i j, B i j < 128 := hB.2.1
  have hx : u.getD i 0 < n := gd_lt hun hi
  have hx24 : u.getD i 0 < 24 := by omega
  refine v_iload_n F dX5_isKind_0 rfl ?_
  refine v_iconst (v := nI 0) F dX5_isKind_1 (by decide) ?_
  refine v_aload_n F dX5_isKind_2 rfl rfl ?_
  refine v_get F 5 14 fo_X5_isKind_82 dX5_isKind_3 hI.x rfl ?_
  refine V.toI (show nI (T 14) = nI u.length by rw [h14]) ?_
  refine v_iconst (v := nI 1) F dX5_isKind_6 (by decide) ?_
  refine v_isub F dX5_isKind_7 ?_
  refine v_callS F 3 [_, _, _] rfl rfl rfl (c_in_t (int24i hu24 hi).1 (int24i hu24 hi).2) gX5_isKind_X5_in rfl hd_X5_in ⟨⟨rfl, rfl⟩, ⟨(Nat.le_of_ble_eq_true rfl), (Nat.le_of_ble_eq_true rfl)⟩, ⟨(Nat.le_of_ble_eq_true rfl), (Nat.le_of_ble_eq_true rfl)⟩, (Nat.le_of_ble_eq_true rfl)⟩ dX5_isKind_8 (fun v8 M8 q8 => ?_)
  obtain ⟨rfl, e8⟩ := q8
  replace e8 := e8.symm
  subst e8
  refine v_if_eq_b F 33 dX5_isKind_11 (by decide) (fun c11 => ?_) (fun c11 => ?_)
  · exact absurd c11 (by decide)
  · refine v_aload_n F dX5_isKind_14 rfl rfl ?_
    refine v_get F 5 6 fo_X5_isKind_25 dX5_isKind_15 hI.x rfl ?_
    refine v_aload_n F dX5_isKind_18 rfl rfl ?_
    refine v_get F 5 15 fo_X5_isKind_47 dX5_isKind_19 hI.x rfl ?_
    refine v_iload_n F dX5_isKind_22 rfl ?_
    refine v_iald_n F dX5_isKind_23 (hI.r (f := 15) (sz := 24) (bl := 0) (by simp [isRow]) (by decide) (by decide)) (by first | omega | exact Nat.lt_trans (hW _ _) (by decide) | exact Nat.lt_of_lt_of_le (gd_lt (i := i) hun (by omega)) hn) (by decide) ?_
    refine V.toI (h15 i hi) ?_
    refine v_iald_n F dX5_isKind_24 (hI.r (f := 6) (sz := 24) (bl := 0) (by simp [isRow]) (by decide) (by decide)) (by first | omega | exact Nat.lt_trans (hW _ _) (by decide) | exact Nat.lt_of_lt_of_le (gd_lt (i := i) hun (by omega)) hn) (by decide) ?_
    refine V.toI ((hCB _ hx).2.2.2.2.2.1) ?_
    refine v_iload_n F dX5_isKind_25 rfl ?_
    refine v_icmp_ne_n F 33 dX5_isKind_26 (by decide) (by first | omega | exact Nat.lt_trans (hW _ _) (by decide) | exact Nat.lt_of_lt_of_le (gd_lt (i := i) hun (by omega)) hn) (by first | omega | exact Nat.lt_trans (hW _ _) (by decide) | exact Nat.lt_of_lt_of_le (gd_lt (i := i) hun (by omega)) hn) (fun c26 => ?_) (fun c26 => ?_)
    · refine v_iconst (v := nI 0) F dX5_isKind_33 (by decide) ?_
      exact v_zret F hr dX5_isKind_34 rfl (Nat.le_of_ble_eq_true rfl) (Nat.le_of_ble_eq_true rfl) ⟨by first | (rw [decide_eq_true c26]; rfl) | (rw [decide_eq_false c26]; rfl), rfl⟩
    · refine v_iconst (v := nI 1) F dX5_isKind_29 (by decide) ?_
      refine v_goto F 34 dX5_isKind_30 (by decide) ?_
      exact v_zret F hr dX5_isKind_34 rfl (Nat.le_of_ble_eq_true rfl) (Nat.le_of_ble_eq_true rfl) ⟨by first | (rw [decide_eq_true c26]; rfl) | (rw [decide_eq_false c26]; rfl), rfl⟩
set_option maxHeartbeats 4000000 in
set_option maxRecDepth 100000 in
theorem c_isKind_out {l : Launch} {ω : Om} {M : MM} {Y : Nat → Nat} {C : Nat → Nat → Int32} {T : Nat → Nat} (hI : MI ω Y C T M) {B : FF} {n : Nat} (hT0 : T 0 = n) (hCB : CB C B n) (hB : WB B n) {u : List Nat} (h14 : T 14 = u.length) (h15 : Pf (C 15) u) (hu24 : u.length ≤ 24) (hun : ∀ x, x ∈ u → x < n) {y s : Int32} (hy : y < 0 ∨ nI u.length ≤ y) : Ct l ω yX5_isKind wsX5_isKind rmX5_isKind [.ref (Y 0), .int y, .int s] M (fun v M9 => v = some (.int (bI false)) ∧ M9 = M) 0 0 := by
  refine Ct.ofV (cc := cX5_isKind) (maxL := 3) (ret := (some .boolean)) [some (.ref (Y 0)), some (.int y), some (.int s)] (by decide) rfl (Nat.le_of_ble_eq_true rfl) rfl (Lc.av (av := [.ref (Y 0), .int y, .int s]) (k := 0) rfl) ?_
  intro σ F hl hr hname
  have F : Fx ω σ cX5_isKind 3 wsX5_isKind RX5 rmX5_isKind := F
  have hn : n ≤ 24 := hB.1
  have hW : ∀ i j, B i j < 128 := hB.2.1
  refine v_iload_n F dX5_isKind_0 rfl ?_
  refine v_iconst (v := nI 0) F dX5_isKind_1 (by decide) ?_
  refine v_aload_n F dX5_isKind_2 rfl rfl ?_
  refine v_get F 5 14 fo_X5_isKind_82 dX5_isKind_3 hI.x rfl ?_
  refine V.toI (show nI (T 14) = nI u.length by rw [h14]) ?_
  refine v_iconst (v := nI 1) F dX5_isKind_6 (by decide) ?_
  refine v_isub F dX5_isKind_7 ?_
  refine v_callS F 3 [_, _, _] rfl rfl rfl (c_in_f (int24 hu24 hy)) gX5_isKind_X5_in rfl hd_X5_in ⟨⟨rfl, rfl⟩, ⟨(Nat.le_of_ble_eq_true rfl), (Nat.le_of_ble_eq_true rfl)⟩, ⟨(Nat.le_of_ble_eq_true rfl), (Nat.le_of_ble_eq_true rfl)⟩, (Nat.le_of_ble_eq_true rfl)⟩ dX5_isKind_8 (fun v8 M8 q8 => ?_)
  obtain ⟨rfl, e8⟩ := q8
  replace e8 := e8.symm
  subst e8
  refine v_if_eq_b F 33 dX5_isKind_11 (by decide) (fun c11 => ?_) (fun c11 => ?_)
  · refine v_iconst (v := nI 0) F dX5_isKind_33 (by decide) ?_
    exact v_zret F hr dX5_isKind_34 rfl (Nat.le_of_ble_eq_true rfl) (Nat.le_of_ble_eq_true rfl) ⟨rfl, rfl⟩
  · exact absurd c11 (by decide)
def rmX5_skips : Room := { frames := 1, cells := 0, slots := 0, locals := 21 }
theorem hd_X5_skips : yX5_skips.cls = (RX5, TX5, 21).1 ∧ yX5_skips.cls ≠ "java/lang/invoke/MethodHandle" ∧ yX5_skips.cls ≠ "java/lang/invoke/VarHandle" ∧ (parseMethodDescriptor yX5_skips.desc).map (fun d => d.parameters.length) = some 1 := by decide +kernel
theorem fo_X5_skips_25 : FO wsX5_skips RX5 25 5 6 := ⟨_, _, _, rfl, by decide, by decide +kernel, by decide +kernel⟩
theorem fo_X5_skips_47 : FO wsX5_skips RX5 47 5 15 := ⟨_, _, _, rfl, by decide, by decide +kernel, by decide +kernel⟩
set_option maxHeartbeats 4000000 in
set_option maxRecDepth 100000 in
theorem c_Mskips {l : Launch} {ω : Om} {M : MM} {Y : Nat → Nat} {C : Nat → Nat → Int32} {T : Nat → Nat} (hI : MI ω Y C T M) {B : FF} {n : Nat} (hT0 : T 0 = n) (hCB : CB C B n) (hB : WB B n) {u : List Nat} (h14 : T 14 = u.length) (h15 : Pf (C 15) u) (hu24 : u.length ≤ 24) (hun : ∀ x, x ∈ u → x < n) {j : Nat} (hj : j < u.length) : Ct l ω yX5_skips wsX5_skips rmX5_skips [.ref (Y 0), .int (nI j)] M (fun v M9 => v = some (.int (bI (decide (4 ≤ B (u.getD j 0) 5 ∧ lvA B u j + 1 < B (u.getD j 0) 5 - 3)))) ∧ M9 = M) 0 0 := by
  refine Ct.ofV (cc := cX5_skips) (maxL := 4) (ret := (some .boolean)) [some (.ref (Y 0)), some (.int (nI j)), none, none] (by decide) rfl (Nat.le_of_ble_eq_true rfl) rfl (Lc.av (av := [.ref (Y 0), .int (nI j)]) (k := 2) rfl) ?_
  intro σ F hl hr hname
  have F : Fx ω σ cX5_skips 4 wsX5_skips RX5 rmX5_skips := F
  have hn : n ≤ 24 := hB.1
  have hW : ∀ i j, B i j < 128 := hB.2.1
  refine v_iconst (v := nI 0) F dX5_skips_0 (by decide) ?_
  refine v_istore_n F dX5_skips_1 (Nat.le_of_ble_eq_true rfl) (ok2_d rfl) ?_
  refine v_iconst (v := nI 0) F dX5_skips_2 (by decide) ?_
  refine v_istore_n F dX5_skips_3 (Nat.le_of_ble_eq_true rfl) (ok2_d rfl) ?_
  have lp : ∀ i, i ≤ j → ∀ c, c = lvA B u i → c < 128 → V ω σ M [some (.ref (Y 0)), some (.int (nI j)), some (.int (nI c)), some (.int (nI i))] 0 0 (BQ ω σ (fun v M9 => v = some (.int (bI (decide (4 ≤ B (u.getD j 0) 5 ∧ lvA B u j + 1 < B (u.getD j 0) 5 - 3)))) ∧ M9 = M) 0 0) 4 [] := by
    refine loop_up j _ (fun i hi ih => ?_)
    intro c hc hcb
    refine v_iload_n F dX5_skips_4 rfl ?_
    refine v_iload_n F dX5_skips_5 rfl ?_
    refine v_icmp_ge_n F 43 dX5_skips_6 (by decide) (by first | omega | exact Nat.lt_trans (hW _ _) (by decide) | exact Nat.lt_of_lt_of_le (gd_lt (i := i) hun (by omega)) hn) (by first | omega | exact Nat.lt_trans (hW _ _) (by decide) | exact Nat.lt_of_lt_of_le (gd_lt (i := i) hun (by omega)) hn) (fun c6 => ?_) (fun c6 => ?_)
    · have hij : i = j := by omega
      subst hij
      have hx : u.getD i 0 < n := gd_lt hun (by omega)
      have hx24 : u.getD i 0 < 24 := by omega
      have hkb := hW (u.getD i 0) 5
      refine v_aload_n F dX5_skips_43 rfl rfl ?_
      refine v_iload_n F dX5_skips_44 rfl ?_
      refine v_callV F 1 [_] rfl rfl rfl (c_MisHead hI hT0 hCB hB h14 h15 hu24 hun (i := i) (by omega)) gX5_skips_X5_isHead rfl hd_X5_isHead ⟨⟨rfl, rfl⟩, ⟨(Nat.le_of_ble_eq_true rfl), (Nat.le_of_ble_eq_true rfl)⟩, ⟨(Nat.le_of_ble_eq_true rfl), (Nat.le_of_ble_eq_true rfl)⟩, (Nat.le_of_ble_eq_true rfl)⟩ hI.x rfl dX5_skips_45 (fun v45 M45 q45 => ?_)
      obtain ⟨rfl, e45⟩ := q45
      replace e45 := e45.symm
      subst e45
      refine v_if_eq_b F 76 dX5_skips_48 (by decide) (fun c48 => ?_) (fun c48 => ?_)
      · have d48 := of_decide_eq_false c48
        refine v_iconst (v := nI 0) F dX5_skips_76 (by decide) ?_
        exact v_zret F hr dX5_skips_77 rfl (Nat.le_of_ble_eq_true rfl) (Nat.le_of_ble_eq_true rfl) ⟨by first | (rw [decide_eq_true (by constructor <;> omega)]; rfl) | (rw [decide_eq_false (fun h => by obtain ⟨h1, h2⟩ := h; omega)]; rfl), rfl⟩
      · have d48 := of_decide_eq_true c48
        refine v_aload_n F dX5_skips_51 rfl rfl ?_
        refine v_get F 5 6 fo_X5_skips_25 dX5_skips_52 hI.x rfl ?_
        refine v_aload_n F dX5_skips_55 rfl rfl ?_
        refine v_get F 5 15 fo_X5_skips_47 dX5_skips_56 hI.x rfl ?_
        refine v_iload_n F dX5_skips_59 rfl ?_
        refine v_iald_n F dX5_skips_60 (hI.r (f := 15) (sz := 24) (bl := 0) (by simp [isRow]) (by decide) (by decide)) (by first | omega | exact Nat.lt_trans (hW _ _) (by decide) | exact Nat.lt_of_lt_of_le (gd_lt (i := i) hun (by omega)) hn) (by decide) ?_
        refine V.toI (h15 i (by omega)) ?_
        refine v_iald_n F dX5_skips_61 (hI.r (f := 6) (sz := 24) (bl := 0) (by simp [isRow]) (by decide) (by decide)) (by first | omega | exact Nat.lt_trans (hW _ _) (by decide) | exact Nat.lt_of_lt_of_le (gd_lt (i := i) hun (by omega)) hn) (by decide) ?_
        refine V.toI ((hCB _ hx).2.2.2.2.2.1) ?_
        refine v_iconst (v := nI 4) F dX5_skips_62 (by decide) ?_
        refine v_isub_n F dX5_skips_63 (by first | omega | exact Nat.lt_trans (hW _ _) (by decide) | exact Nat.lt_of_lt_of_le (gd_lt (i := i) hun (by omega)) hn) ?_
        refine v_iconst (v := nI 1) F dX5_skips_64 (by decide) ?_
        refine v_iadd_n F dX5_skips_65 ?_
        refine v_iload_n F dX5_skips_66 rfl ?_
        refine v_iconst (v := nI 1) F dX5_skips_67 (by decide) ?_
        refine v_iadd_n F dX5_skips_68 ?_
        refine v_icmp_le_n F 76 dX5_skips_69 (by decide) (by first | omega | exact Nat.lt_trans (hW _ _) (by decide) | exact Nat.lt_of_lt_of_le (gd_lt (i := i) hun (by omega)) hn) (by first | omega | exact Nat.lt_trans (hW _ _) (by decide) | exact Nat.lt_of_lt_of_le (gd_lt (i := i) hun (by omega)) hn) (fun c69 => ?_) (fun c69 => ?_)
        · refine v_iconst (v := nI 0) F dX5_skips_76 (by decide) ?_
          exact v_zret F hr dX5_skips_77 rfl (Nat.le_of_ble_eq_true rfl) (Nat.le_of_ble_eq_true rfl) ⟨by first | (rw [decide_eq_true (by constructor <;> omega)]; rfl) | (rw [decide_eq_false (fun h => by obtain ⟨h1, h2⟩ := h; omega)]; rfl), rfl⟩
        · refine v_iconst (v := nI 1) F dX5_skips_72 (by decide) ?_
          refine v_goto F 77 dX5_skips_73 (by decide) ?_
          exact v_zret F hr dX5_skips_77 rfl (Nat.le_of_ble_eq_true rfl) (Nat.le_of_ble_eq_true rfl) ⟨by first | (rw [decide_eq_true (by constructor <;> omega)]; rfl) | (rw [decide_eq_false (fun h => by obtain ⟨h1, h2⟩ := h; omega)]; rfl), rfl⟩
    · have hx : u.getD i 0 < n := gd_lt hun (by omega)
      have hx24 : u.getD i 0 < 24 := by omega
      have hkb := hW (u.getD i 0) 5
      refine v_aload_n F dX5_skips_9 rfl rfl ?_
      refine v_iload_n F dX5_skips_10 rfl ?_
      refine v_callV F 1 [_] rfl rfl rfl (c_MisHead hI hT0 hCB hB h14 h15 hu24 hun (i := i) (by omega)) gX5_skips_X5_isHead rfl hd_X5_isHead ⟨⟨rfl, rfl⟩, ⟨(Nat.le_of_ble_eq_true rfl), (Nat.le_of_ble_eq_true rfl)⟩, ⟨(Nat.le_of_ble_eq_true rfl), (Nat.le_of_ble_eq_true rfl)⟩, (Nat.le_of_ble_eq_true rfl)⟩ hI.x rfl dX5_skips_11 (fun v11 M11 q11 => ?_)
      obtain ⟨rfl, e11⟩ := q11
      replace e11 := e11.symm
      subst e11
      refine v_if_eq_b F 35 dX5_skips_14 (by decide) (fun c14 => ?_) (fun c14 => ?_)
      · have d14 := of_decide_eq_false c14
        refine v_iload_n F dX5_skips_35 rfl ?_
        refine v_istore_n F dX5_skips_36 (Nat.le_of_ble_eq_true rfl) (ok2_d rfl) ?_
        refine v_iinc1 F dX5_skips_37 rfl (ok2_d rfl) ?_
        refine v_goto F 4 dX5_skips_40 (by decide) ?_
        first | exact ih (by omega) _ (by rw [lvA, if_pos d14]; omega) (by omega) | exact ih (by omega) _ (by rw [lvA, if_neg d14]; exact hc) hcb
      · have d14 := of_decide_eq_true c14
        refine v_aload_n F dX5_skips_17 rfl rfl ?_
        refine v_get F 5 6 fo_X5_skips_25 dX5_skips_18 hI.x rfl ?_
        refine v_aload_n F dX5_skips_21 rfl rfl ?_
        refine v_get F 5 15 fo_X5_skips_47 dX5_skips_22 hI.x rfl ?_
        refine v_iload_n F dX5_skips_25 rfl ?_
        refine v_iald_n F dX5_skips_26 (hI.r (f := 15) (sz := 24) (bl := 0) (by simp [isRow]) (by decide) (by decide)) (by first | omega | exact Nat.lt_trans (hW _ _) (by decide) | exact Nat.lt_of_lt_of_le (gd_lt (i := i) hun (by omega)) hn) (by decide) ?_
        refine V.toI (h15 i (by omega)) ?_
        refine v_iald_n F dX5_skips_27 (hI.r (f := 6) (sz := 24) (bl := 0) (by simp [isRow]) (by decide) (by decide)) (by first | omega | exact Nat.lt_trans (hW _ _) (by decide) | exact Nat.lt_of_lt_of_le (gd_lt (i := i) hun (by omega)) hn) (by decide) ?_
        refine V.toI ((hCB _ hx).2.2.2.2.2.1) ?_
        refine v_iconst (v := nI 4) F dX5_skips_28 (by decide) ?_
        refine v_isub_n F dX5_skips_29 (by first | omega | exact Nat.lt_trans (hW _ _) (by decide) | exact Nat.lt_of_lt_of_le (gd_lt (i := i) hun (by omega)) hn) ?_
        refine v_iconst (v := nI 1) F dX5_skips_30 (by decide) ?_
        refine v_iadd_n F dX5_skips_31 ?_
        refine v_goto F 36 dX5_skips_32 (by decide) ?_
        refine v_istore_n F dX5_skips_36 (Nat.le_of_ble_eq_true rfl) (ok2_d rfl) ?_
        refine v_iinc1 F dX5_skips_37 rfl (ok2_d rfl) ?_
        refine v_goto F 4 dX5_skips_40 (by decide) ?_
        first | exact ih (by omega) _ (by rw [lvA, if_pos d14]; omega) (by omega) | exact ih (by omega) _ (by rw [lvA, if_neg d14]; exact hc) hcb
  exact lp 0 (Nat.zero_le _) 0 rfl (by decide)
/-- whether one of a list overlaps the one at a place -/
def mtA (B : FF) (u : List Nat) (j : Nat) : Nat → Bool := fl (fun b q => b || (!decide (q = j) && ovl B (u.getD q 0) (u.getD j 0))) false
def rmX5_meetsAny : Room := { frames := 1, cells := 0, slots := 0, locals := 22 }
theorem hd_X5_meetsAny : yX5_meetsAny.cls = (RX5, TX5, 21).1 ∧ yX5_meetsAny.cls ≠ "java/lang/invoke/MethodHandle" ∧ yX5_meetsAny.cls ≠ "java/lang/invoke/VarHandle" ∧ (parseMethodDescriptor yX5_meetsAny.desc).map (fun d => d.parameters.length) = some 1 := by decide +kernel
theorem fo_X5_meetsAny_47 : FO wsX5_meetsAny RX5 47 5 15 := ⟨_, _, _, rfl, by decide, by decide +kernel, by decide +kernel⟩
theorem fo_X5_meetsAny_82 : FO wsX5_meetsAny RX5 82 5 14 := ⟨_, _, _, rfl, by decide, by decide +kernel, by decide +kernel⟩
set_option maxHeartbeats 4000000 in
set_option maxRecDepth 100000 in
theorem c_MmeetsAny {l : Launch} {ω : Om} {M : MM} {Y : Nat → Nat} {C : Nat → Nat → Int32} {T : Nat → Nat} (hI : MI ω Y C T M) {B : FF} {n : Nat} (hT0 : T 0 = n) (hCB : CB C B n) (hB : WB B n) {u : List Nat} (h14 : T 14 = u.length) (h15 : Pf (C 15) u) (hu24 : u.length ≤ 24) (hun : ∀ x, x ∈ u → x < n) {j : Nat} (hj : j < u.length) : Ct l ω yX5_meetsAny wsX5_meetsAny rmX5_meetsAny [.ref (Y 0), .int (nI j)] M (fun v M9 => v = some (.int (bI (mtA B u j u.length))) ∧ M9 = M) 0 0 := by
  refine Ct.ofV (cc := cX5_meetsAny) (maxL := 4) (ret := (some .boolean)) [some (.ref (Y 0)), some (.int (nI j)), none, none] (by decide) rfl (Nat.le_of_ble_eq_true rfl) rfl (Lc.av (av := [.ref (Y 0), .int (nI j)]) (k := 2) rfl) ?_
  intro σ F hl hr hname
  have F : Fx ω σ cX5_meetsAny 4 wsX5_meetsAny RX5 rmX5_meetsAny := F
  have hn : n ≤ 24 := hB.1
  have hW : ∀ i j, B i j < 128 := hB.2.1
  have hy : u.getD j 0 < n := gd_lt hun hj
  have hy24 : u.getD j 0 < 24 := by omega
  refine v_iconst (v := nI 0) F dX5_meetsAny_0 (by decide) ?_
  refine v_istore_n F dX5_meetsAny_1 (Nat.le_of_ble_eq_true rfl) (ok2_d rfl) ?_
  refine v_iconst (v := nI 0) F dX5_meetsAny_2 (by decide) ?_
  refine v_istore_n F dX5_meetsAny_3 (Nat.le_of_ble_eq_true rfl) (ok2_d rfl) ?_
  have lp : ∀ i, i ≤ u.length → ∀ b, b = mtA B u j i → V ω σ M [some (.ref (Y 0)), some (.int (nI j)), some (.int (bI b)), some (.int (nI i))] 0 0 (BQ ω σ (fun v M9 => v = some (.int (bI (mtA B u j u.length))) ∧ M9 = M) 0 0) 4 [] := by
    refine loop_up u.length _ (fun i hi ih => ?_)
    intro b hb
    refine v_iload_n F dX5_meetsAny_4 rfl ?_
    refine v_aload_n F dX5_meetsAny_5 rfl rfl ?_
    refine v_get F 5 14 fo_X5_meetsAny_82 dX5_meetsAny_6 hI.x rfl ?_
    refine V.toI (show nI (T 14) = nI u.length by rw [h14]) ?_
    refine v_icmp_ge_n F 52 dX5_meetsAny_9 (by decide) (by first | omega | exact Nat.lt_trans (hW _ _) (by decide) | exact Nat.lt_of_lt_of_le (gd_lt (i := i) hun (by omega)) hn) (by first | omega | exact Nat.lt_trans (hW _ _) (by decide) | exact Nat.lt_of_lt_of_le (gd_lt (i := i) hun (by omega)) hn) (fun c9 => ?_) (fun c9 => ?_)
    · refine v_iload_n F dX5_meetsAny_52 rfl ?_
      exact v_zret F hr dX5_meetsAny_53 bI_n (Nat.le_of_ble_eq_true rfl) (Nat.le_of_ble_eq_true rfl) ⟨by rw [hb, show i = u.length by omega], rfl⟩
    · have hx : u.getD i 0 < n := gd_lt hun (by omega)
      have hx24 : u.getD i 0 < 24 := by omega
      have hkb := hW (u.getD i 0) 5
      refine v_iload_n F dX5_meetsAny_12 rfl ?_
      refine v_if_ne_b F 40 dX5_meetsAny_13 (by decide) (fun c13 => ?_) (fun c13 => ?_)
      · refine v_iconst (v := nI 1) F dX5_meetsAny_40 (by decide) ?_
        refine v_goto F 45 dX5_meetsAny_41 (by decide) ?_
        first | refine V.toI (show nI 1 = bI true from rfl) ?_ | refine V.toI (show nI 0 = bI false from rfl) ?_
        refine v_istore_n F dX5_meetsAny_45 (Nat.le_of_ble_eq_true rfl) (ok2_d rfl) ?_
        refine v_iinc1 F dX5_meetsAny_46 rfl (ok2_d rfl) ?_
        refine v_goto F 4 dX5_meetsAny_49 (by decide) ?_
        exact ih (by omega) _ (by unfold mtA; rw [fl_s, ← mtA, ← hb]; first | (rw [c13, Bool.true_or]) | (rw [c13, decide_eq_true c18]; rfl) | (rw [c13, decide_eq_false c18, c37]; rfl))
      · refine v_iload_n F dX5_meetsAny_16 rfl ?_
        refine v_iload_n F dX5_meetsAny_17 rfl ?_
        refine v_icmp_eq_n F 44 dX5_meetsAny_18 (by decide) (by first | omega | exact Nat.lt_trans (hW _ _) (by decide) | exact Nat.lt_of_lt_of_le (gd_lt (i := i) hun (by omega)) hn) (by first | omega | exact Nat.lt_trans (hW _ _) (by decide) | exact Nat.lt_of_lt_of_le (gd_lt (i := i) hun (by omega)) hn) (fun c18 => ?_) (fun c18 => ?_)
        · refine v_iconst (v := nI 0) F dX5_meetsAny_44 (by decide) ?_
          first | refine V.toI (show nI 1 = bI true from rfl) ?_ | refine V.toI (show nI 0 = bI false from rfl) ?_
          refine v_istore_n F dX5_meetsAny_45 (Nat.le_of_ble_eq_true rfl) (ok2_d rfl) ?_
          refine v_iinc1 F dX5_meetsAny_46 rfl (ok2_d rfl) ?_
          refine v_goto F 4 dX5_meetsAny_49 (by decide) ?_
          exact ih (by omega) _ (by unfold mtA; rw [fl_s, ← mtA, ← hb]; first | (rw [c13, Bool.true_or]) | (rw [c13, decide_eq_true c18]; rfl) | (rw [c13, decide_eq_false c18, c37]; rfl))
        · refine v_aload_n F dX5_meetsAny_21 rfl rfl ?_
          refine v_aload_n F dX5_meetsAny_22 rfl rfl ?_
          refine v_get F 5 15 fo_X5_meetsAny_47 dX5_meetsAny_23 hI.x rfl ?_
          refine v_iload_n F dX5_meetsAny_26 rfl ?_
          refine v_iald_n F dX5_meetsAny_27 (hI.r (f := 15) (sz := 24) (bl := 0) (by simp [isRow]) (by decide) (by decide)) (by first | omega | exact Nat.lt_trans (hW _ _) (by decide) | exact Nat.lt_of_lt_of_le (gd_lt (i := i) hun (by omega)) hn) (by decide) ?_
          refine V.toI (h15 i (by omega)) ?_
          refine v_aload_n F dX5_meetsAny_28 rfl rfl ?_
          refine v_get F 5 15 fo_X5_meetsAny_47 dX5_meetsAny_29 hI.x rfl ?_
          refine v_iload_n F dX5_meetsAny_32 rfl ?_
          refine v_iald_n F dX5_meetsAny_33 (hI.r (f := 15) (sz := 24) (bl := 0) (by simp [isRow]) (by decide) (by decide)) (by first | omega | exact Nat.lt_trans (hW _ _) (by decide) | exact Nat.lt_of_lt_of_le (gd_lt (i := i) hun (by omega)) hn) (by decide) ?_
          refine V.toI (h15 j hj) ?_
          refine v_callV F 2 [_, _] rfl rfl rfl (c_X5_meet hI hT0 hCB hB hx hy) gX5_meetsAny_X5_meet rfl hd_X5_meet ⟨⟨rfl, rfl⟩, ⟨(Nat.le_of_ble_eq_true rfl), (Nat.le_of_ble_eq_true rfl)⟩, ⟨(Nat.le_of_ble_eq_true rfl), (Nat.le_of_ble_eq_true rfl)⟩, (Nat.le_of_ble_eq_true rfl)⟩ hI.x rfl dX5_meetsAny_34 (fun v34 M34 q34 => ?_)
          obtain ⟨rfl, e34⟩ := q34
          replace e34 := e34.symm
          subst e34
          refine v_if_eq_b F 44 dX5_meetsAny_37 (by decide) (fun c37 => ?_) (fun c37 => ?_)
          · refine v_iconst (v := nI 0) F dX5_meetsAny_44 (by decide) ?_
            first | refine V.toI (show nI 1 = bI true from rfl) ?_ | refine V.toI (show nI 0 = bI false from rfl) ?_
            refine v_istore_n F dX5_meetsAny_45 (Nat.le_of_ble_eq_true rfl) (ok2_d rfl) ?_
            refine v_iinc1 F dX5_meetsAny_46 rfl (ok2_d rfl) ?_
            refine v_goto F 4 dX5_meetsAny_49 (by decide) ?_
            exact ih (by omega) _ (by unfold mtA; rw [fl_s, ← mtA, ← hb]; first | (rw [c13, Bool.true_or]) | (rw [c13, decide_eq_true c18]; rfl) | (rw [c13, decide_eq_false c18, c37]; rfl))
          · refine v_iconst (v := nI 1) F dX5_meetsAny_40 (by decide) ?_
            refine v_goto F 45 dX5_meetsAny_41 (by decide) ?_
            first | refine V.toI (show nI 1 = bI true from rfl) ?_ | refine V.toI (show nI 0 = bI false from rfl) ?_
            refine v_istore_n F dX5_meetsAny_45 (Nat.le_of_ble_eq_true rfl) (ok2_d rfl) ?_
            refine v_iinc1 F dX5_meetsAny_46 rfl (ok2_d rfl) ?_
            refine v_goto F 4 dX5_meetsAny_49 (by decide) ?_
            exact ih (by omega) _ (by unfold mtA; rw [fl_s, ← mtA, ← hb]; first | (rw [c13, Bool.true_or]) | (rw [c13, decide_eq_true c18]; rfl) | (rw [c13, decide_eq_false c18, c37]; rfl))
  first | exact lp 0 (Nat.zero_le _) false rfl | exact (show V _ _ _ _ _ _ _ _ _ from lp 0 (Nat.zero_le _) false rfl)
