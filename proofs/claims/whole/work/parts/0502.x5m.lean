/-! the reference: faults -/
theorem or_t5 {a b c : Nat} (h : b = c) : a ||| c = a ||| b := by rw [h]
theorem or_f5 {a b : Nat} (h : b = 0) : a ||| 0 = a ||| b := by rw [h]
def rmX5_faultsAt : Room := { frames := 2, cells := 0, slots := 0, locals := 45 }
theorem hd_X5_faultsAt : yX5_faultsAt.cls = (RX5, TX5, 21).1 ∧ yX5_faultsAt.cls ≠ "java/lang/invoke/MethodHandle" ∧ yX5_faultsAt.cls ≠ "java/lang/invoke/VarHandle" ∧ (parseMethodDescriptor yX5_faultsAt.desc).map (fun d => d.parameters.length) = some 1 := by decide +kernel
theorem fo_X5_faultsAt_16 : FO wsX5_faultsAt RX5 16 5 3 := ⟨_, _, _, rfl, by decide, by decide +kernel, by decide +kernel⟩
theorem fo_X5_faultsAt_22 : FO wsX5_faultsAt RX5 22 5 5 := ⟨_, _, _, rfl, by decide, by decide +kernel, by decide +kernel⟩
theorem fo_X5_faultsAt_47 : FO wsX5_faultsAt RX5 47 5 15 := ⟨_, _, _, rfl, by decide, by decide +kernel, by decide +kernel⟩
set_option maxHeartbeats 4000000 in
set_option maxRecDepth 100000 in
theorem c_MfaultsAt {l : Launch} {ω : Om} {M : MM} {Y : Nat → Nat} {C : Nat → Nat → Int32} {T : Nat → Nat} (hI : MI ω Y C T M) {B : FF} {n : Nat} (hT0 : T 0 = n) (hCB : CB C B n) (hB : WB B n) {u : List Nat} (h14 : T 14 = u.length) (h15 : Pf (C 15) u) (hu24 : u.length ≤ 24) (hun : ∀ x, x ∈ u → x < n) (hd : ∀ a b, a < u.length → b < u.length → u.getD a 0 = u.getD b 0 → a = b) {j : Nat} (hj : j < u.length) : Ct l ω yX5_faultsAt wsX5_faultsAt rmX5_faultsAt [.ref (Y 0), .int (nI j)] M (fun v M9 => v = some (.int (nI (ftA B u j))) ∧ M9 = M) 0 0 := by
  refine Ct.ofV (cc := cX5_faultsAt) (maxL := 5) (ret := (some .int)) [some (.ref (Y 0)), some (.int (nI j)), none, none, none] (by decide) rfl (Nat.le_of_ble_eq_true rfl) rfl (Lc.av (av := [.ref (Y 0), .int (nI j)]) (k := 3) rfl) ?_
  intro σ F hl hr hname
  have F : Fx ω σ cX5_faultsAt 5 wsX5_faultsAt RX5 rmX5_faultsAt := F
  have hn : n ≤ 24 := hB.1
  have hW : ∀ i j, B i j < 128 := hB.2.1
  have hx : u.getD j 0 < n := gd_lt hun hj
  have hx1 : u.getD (j - 1) 0 < n := gd_lt hun (by omega)
  have hx24 : u.getD j 0 < 24 := by omega
  have hx25 : u.getD (j - 1) 0 < 24 := by omega
  have t1 := hW (u.getD j 0) 2
  have t2 := hW (u.getD (j - 1) 0) 2
  have t3 := hW (u.getD (j - 1) 0) 4
  have j98 : ∀ m, m = f1 B u j ||| f2 B u j ||| f3 B u j ||| f4 B u j → V ω σ M [some (.ref (Y 0)), some (.int (nI j)), some (.int (nI m)), none, none] 0 0 (BQ ω σ (fun v M9 => v = some (.int (nI (ftA B u j))) ∧ M9 = M) 0 0) 98 [] := by
    intro m hm
    rcases Nat.eq_zero_or_pos j with hj0 | hj0
    · refine v_aload_n F dX5_faultsAt_98 rfl rfl ?_
      refine v_get F 5 15 fo_X5_faultsAt_47 dX5_faultsAt_99 hI.x rfl ?_
      refine v_iload_n F dX5_faultsAt_102 rfl ?_
      refine v_iald_n F dX5_faultsAt_103 (hI.r (f := 15) (sz := 24) (bl := 0) (by simp [isRow]) (by decide) (by decide)) (by omega) (by decide) ?_
      refine V.toI (h15 j hj) ?_
      refine v_istore_n F dX5_faultsAt_104 (Nat.le_of_ble_eq_true rfl) (ok2_d rfl) ?_
      refine v_iload_n F dX5_faultsAt_105 rfl ?_
      refine v_if_ne_n F 113 dX5_faultsAt_106 (by decide) (by omega) (fun c106 => ?_) (fun c106 => ?_)
      · exact absurd hj0 (by omega)
      · refine v_iload_n F dX5_faultsAt_109 rfl ?_
        refine v_goto F 121 dX5_faultsAt_110 (by decide) ?_
        refine v_istore F dX5_faultsAt_121 (Nat.le_of_ble_eq_true rfl) (ok2_d rfl) ?_
        refine v_iload_n F dX5_faultsAt_123 rfl ?_
        refine v_iload_n F dX5_faultsAt_124 rfl ?_
        refine v_if_le_n F 160 dX5_faultsAt_125 (by decide) (by omega) (fun c125 => ?_) (fun c125 => ?_)
        · refine v_iconst (v := nI 0) F dX5_faultsAt_160 (by decide) ?_
          refine v_ior_n F dX5_faultsAt_161 ?_
          exact v_iret F hr dX5_faultsAt_162 (Nat.le_of_ble_eq_true rfl) (Nat.le_of_ble_eq_true rfl) ⟨congrArg (fun q => some (Value.int (nI q))) (by rw [hm]; first | exact or_t5 ((if_pos ⟨hj0, by omega⟩) : f5 B u j = 16) | exact or_f5 ((if_neg (fun h => by omega)) : f5 B u j = 0)), rfl⟩
        · exact absurd hj0 (by omega)
    · refine v_aload_n F dX5_faultsAt_98 rfl rfl ?_
      refine v_get F 5 15 fo_X5_faultsAt_47 dX5_faultsAt_99 hI.x rfl ?_
      refine v_iload_n F dX5_faultsAt_102 rfl ?_
      refine v_iald_n F dX5_faultsAt_103 (hI.r (f := 15) (sz := 24) (bl := 0) (by simp [isRow]) (by decide) (by decide)) (by omega) (by decide) ?_
      refine V.toI (h15 j hj) ?_
      refine v_istore_n F dX5_faultsAt_104 (Nat.le_of_ble_eq_true rfl) (ok2_d rfl) ?_
      refine v_iload_n F dX5_faultsAt_105 rfl ?_
      refine v_if_ne_n F 113 dX5_faultsAt_106 (by decide) (by omega) (fun c106 => ?_) (fun c106 => ?_)
      · refine v_aload_n F dX5_faultsAt_113 rfl rfl ?_
        refine v_get F 5 15 fo_X5_faultsAt_47 dX5_faultsAt_114 hI.x rfl ?_
        refine v_iload_n F dX5_faultsAt_117 rfl ?_
        refine v_iconst (v := nI 1) F dX5_faultsAt_118 (by decide) ?_
        refine v_isub_n F dX5_faultsAt_119 (by omega) ?_
        refine v_iald_n F dX5_faultsAt_120 (hI.r (f := 15) (sz := 24) (bl := 0) (by simp [isRow]) (by decide) (by decide)) (by omega) (by decide) ?_
        refine V.toI (h15 (j - 1) (by omega)) ?_
        refine v_istore F dX5_faultsAt_121 (Nat.le_of_ble_eq_true rfl) (ok2_d rfl) ?_
        refine v_iload_n F dX5_faultsAt_123 rfl ?_
        refine v_iload_n F dX5_faultsAt_124 rfl ?_
        refine v_if_le_n F 160 dX5_faultsAt_125 (by decide) (by omega) (fun c125 => ?_) (fun c125 => ?_)
        · exact absurd hj0 (by omega)
        · refine v_aload_n F dX5_faultsAt_128 rfl rfl ?_
          refine v_get F 5 3 fo_X5_faultsAt_16 dX5_faultsAt_129 hI.x rfl ?_
          refine v_iload_n F dX5_faultsAt_132 rfl ?_
          refine v_iald_n F dX5_faultsAt_133 (hI.r (f := 3) (sz := 24) (bl := 0) (by simp [isRow]) (by decide) (by decide)) (by omega) (by decide) ?_
          refine V.toI ((hCB _ hx).2.2.1) ?_
          refine v_aload_n F dX5_faultsAt_134 rfl rfl ?_
          refine v_get F 5 3 fo_X5_faultsAt_16 dX5_faultsAt_135 hI.x rfl ?_
          refine v_iload F dX5_faultsAt_138 rfl ?_
          refine v_iald_n F dX5_faultsAt_140 (hI.r (f := 3) (sz := 24) (bl := 0) (by simp [isRow]) (by decide) (by decide)) (by omega) (by decide) ?_
          refine V.toI ((hCB _ hx1).2.2.1) ?_
          refine v_aload_n F dX5_faultsAt_141 rfl rfl ?_
          refine v_get F 5 5 fo_X5_faultsAt_22 dX5_faultsAt_142 hI.x rfl ?_
          refine v_iload F dX5_faultsAt_145 rfl ?_
          refine v_iald_n F dX5_faultsAt_147 (hI.r (f := 5) (sz := 24) (bl := 0) (by simp [isRow]) (by decide) (by decide)) (by omega) (by decide) ?_
          refine V.toI ((hCB _ hx1).2.2.2.2.1) ?_
          refine v_iadd_n F dX5_faultsAt_148 ?_
          refine v_bipush (v := nI 20) F dX5_faultsAt_149 (by decide) ?_
          refine v_iadd_n F dX5_faultsAt_151 ?_
          refine v_icmp_le_n F 160 dX5_faultsAt_152 (by decide) (by omega) (by omega) (fun c152 => ?_) (fun c152 => ?_)
          · refine v_iconst (v := nI 0) F dX5_faultsAt_160 (by decide) ?_
            refine v_ior_n F dX5_faultsAt_161 ?_
            exact v_iret F hr dX5_faultsAt_162 (Nat.le_of_ble_eq_true rfl) (Nat.le_of_ble_eq_true rfl) ⟨congrArg (fun q => some (Value.int (nI q))) (by rw [hm]; first | exact or_t5 ((if_pos ⟨hj0, by omega⟩) : f5 B u j = 16) | exact or_f5 ((if_neg (fun h => by omega)) : f5 B u j = 0)), rfl⟩
          · refine v_bipush (v := nI 16) F dX5_faultsAt_155 (by decide) ?_
            refine v_goto F 161 dX5_faultsAt_157 (by decide) ?_
            refine v_ior_n F dX5_faultsAt_161 ?_
            exact v_iret F hr dX5_faultsAt_162 (Nat.le_of_ble_eq_true rfl) (Nat.le_of_ble_eq_true rfl) ⟨congrArg (fun q => some (Value.int (nI q))) (by rw [hm]; first | exact or_t5 ((if_pos ⟨hj0, by omega⟩) : f5 B u j = 16) | exact or_f5 ((if_neg (fun h => by omega)) : f5 B u j = 0)), rfl⟩
      · exact absurd hj0 (by omega)
  have j81 : ∀ m, m = f1 B u j ||| f2 B u j ||| f3 B u j → V ω σ M [some (.ref (Y 0)), some (.int (nI j)), some (.int (nI m)), none, none] 0 0 (BQ ω σ (fun v M9 => v = some (.int (nI (ftA B u j))) ∧ M9 = M) 0 0) 81 [] := by
    intro m hm
    refine v_iload_n F dX5_faultsAt_81 rfl ?_
    refine v_aload_n F dX5_faultsAt_82 rfl rfl ?_
    refine v_iload_n F dX5_faultsAt_83 rfl ?_
    refine v_callV F 1 [_] rfl rfl rfl (c_MmeetsAny hI hT0 hCB hB h14 h15 hu24 hun hj) gX5_faultsAt_X5_meetsAny rfl hd_X5_meetsAny ⟨⟨rfl, rfl⟩, ⟨(Nat.le_of_ble_eq_true rfl), (Nat.le_of_ble_eq_true rfl)⟩, ⟨(Nat.le_of_ble_eq_true rfl), (Nat.le_of_ble_eq_true rfl)⟩, (Nat.le_of_ble_eq_true rfl)⟩ hI.x rfl dX5_faultsAt_84 (fun v84 M84 q84 => ?_)
    obtain ⟨rfl, e84⟩ := q84
    replace e84 := e84.symm
    subst e84
    refine v_if_eq_b F 95 dX5_faultsAt_87 (by decide) (fun c87 => ?_) (fun c87 => ?_)
    · refine v_iconst (v := nI 0) F dX5_faultsAt_95 (by decide) ?_
      refine v_ior_n F dX5_faultsAt_96 ?_
      refine v_istore_n F dX5_faultsAt_97 (Nat.le_of_ble_eq_true rfl) (ok2_d rfl) ?_
      exact j98 _ (by rw [hm]; first | exact or_t5 ((if_pos ((mtA_eq hj (fun x y => ovl_sym B x y) hd).symm.trans c87)) : f4 B u j = 8) | exact or_f5 ((if_neg (fun h => by rw [← mtA_eq hj (fun x y => ovl_sym B x y) hd, c87] at h; cases h)) : f4 B u j = 0))
    · refine v_bipush (v := nI 8) F dX5_faultsAt_90 (by decide) ?_
      refine v_goto F 96 dX5_faultsAt_92 (by decide) ?_
      refine v_ior_n F dX5_faultsAt_96 ?_
      refine v_istore_n F dX5_faultsAt_97 (Nat.le_of_ble_eq_true rfl) (ok2_d rfl) ?_
      exact j98 _ (by rw [hm]; first | exact or_t5 ((if_pos ((mtA_eq hj (fun x y => ovl_sym B x y) hd).symm.trans c87)) : f4 B u j = 8) | exact or_f5 ((if_neg (fun h => by rw [← mtA_eq hj (fun x y => ovl_sym B x y) hd, c87] at h; cases h)) : f4 B u j = 0))
  have j53 : ∀ m, m = f1 B u j ||| f2 B u j → V ω σ M [some (.ref (Y 0)), some (.int (nI j)), some (.int (nI m)), none, none] 0 0 (BQ ω σ (fun v M9 => v = some (.int (nI (ftA B u j))) ∧ M9 = M) 0 0) 53 [] := by
    intro m hm
    rcases Nat.eq_zero_or_pos j with hj0 | hj0
    · refine v_iload_n F dX5_faultsAt_53 rfl ?_
      refine v_aload_n F dX5_faultsAt_54 rfl rfl ?_
      refine v_iload_n F dX5_faultsAt_55 rfl ?_
      refine v_iconst (v := nI 3) F dX5_faultsAt_56 (by decide) ?_
      refine v_callV F 2 [_, _] rfl rfl rfl (c_isKind_in hI hT0 hCB hB h14 h15 hu24 hun (i := j) (s := 3) hj (by decide)) gX5_faultsAt_X5_isKind rfl hd_X5_isKind ⟨⟨rfl, rfl⟩, ⟨(Nat.le_of_ble_eq_true rfl), (Nat.le_of_ble_eq_true rfl)⟩, ⟨(Nat.le_of_ble_eq_true rfl), (Nat.le_of_ble_eq_true rfl)⟩, (Nat.le_of_ble_eq_true rfl)⟩ hI.x rfl dX5_faultsAt_57 (fun v57 M57 q57 => ?_)
      obtain ⟨rfl, e57⟩ := q57
      replace e57 := e57.symm
      subst e57
      refine v_if_eq_b F 78 dX5_faultsAt_60 (by decide) (fun c60 => ?_) (fun c60 => ?_)
      · refine v_iconst (v := nI 0) F dX5_faultsAt_78 (by decide) ?_
        refine v_ior_n F dX5_faultsAt_79 ?_
        refine v_istore_n F dX5_faultsAt_80 (Nat.le_of_ble_eq_true rfl) (ok2_d rfl) ?_
        exact j81 _ (by rw [hm]; exact (by first | (refine or_t5 (if_pos ?_ : f3 B u j = 4); (try simp only [decide_eq_true_eq, decide_eq_false_iff_not] at c5); (try simp only [decide_eq_true_eq, decide_eq_false_iff_not] at c21); (try simp only [decide_eq_true_eq, decide_eq_false_iff_not] at c32); (try simp only [decide_eq_true_eq, decide_eq_false_iff_not] at c43); (try simp only [decide_eq_true_eq, decide_eq_false_iff_not] at c60); (try simp only [decide_eq_true_eq, decide_eq_false_iff_not] at c71); omega) | (refine or_f5 (if_neg ?_ : f3 B u j = 0); (try simp only [decide_eq_true_eq, decide_eq_false_iff_not] at c5); (try simp only [decide_eq_true_eq, decide_eq_false_iff_not] at c21); (try simp only [decide_eq_true_eq, decide_eq_false_iff_not] at c32); (try simp only [decide_eq_true_eq, decide_eq_false_iff_not] at c43); (try simp only [decide_eq_true_eq, decide_eq_false_iff_not] at c60); (try simp only [decide_eq_true_eq, decide_eq_false_iff_not] at c71); omega)))
      · refine v_aload_n F dX5_faultsAt_63 rfl rfl ?_
        refine v_iload_n F dX5_faultsAt_64 rfl ?_
        refine v_iconst (v := nI 1) F dX5_faultsAt_65 (by decide) ?_
        refine v_isub F dX5_faultsAt_66 ?_
        refine v_iconst (v := nI 2) F dX5_faultsAt_67 (by decide) ?_
        refine v_callV F 2 [_, _] rfl rfl rfl (c_isKind_out hI hT0 hCB hB h14 h15 hu24 hun (y := nI j - nI 1) (s := nI 2) (Or.inl (by rw [hj0]; decide))) gX5_faultsAt_X5_isKind rfl hd_X5_isKind ⟨⟨rfl, rfl⟩, ⟨(Nat.le_of_ble_eq_true rfl), (Nat.le_of_ble_eq_true rfl)⟩, ⟨(Nat.le_of_ble_eq_true rfl), (Nat.le_of_ble_eq_true rfl)⟩, (Nat.le_of_ble_eq_true rfl)⟩ hI.x rfl dX5_faultsAt_68 (fun v68 M68 q68 => ?_)
        obtain ⟨rfl, e68⟩ := q68
        replace e68 := e68.symm
        subst e68
        refine v_if_ne_b F 78 dX5_faultsAt_71 (by decide) (fun c71 => ?_) (fun c71 => ?_)
        · exact absurd c71 (by decide)
        · refine v_iconst (v := nI 4) F dX5_faultsAt_74 (by decide) ?_
          refine v_goto F 79 dX5_faultsAt_75 (by decide) ?_
          refine v_ior_n F dX5_faultsAt_79 ?_
          refine v_istore_n F dX5_faultsAt_80 (Nat.le_of_ble_eq_true rfl) (ok2_d rfl) ?_
          exact j81 _ (by rw [hm]; exact (by first | (refine or_t5 (if_pos ?_ : f3 B u j = 4); (try simp only [decide_eq_true_eq, decide_eq_false_iff_not] at c5); (try simp only [decide_eq_true_eq, decide_eq_false_iff_not] at c21); (try simp only [decide_eq_true_eq, decide_eq_false_iff_not] at c32); (try simp only [decide_eq_true_eq, decide_eq_false_iff_not] at c43); (try simp only [decide_eq_true_eq, decide_eq_false_iff_not] at c60); (try simp only [decide_eq_true_eq, decide_eq_false_iff_not] at c71); omega) | (refine or_f5 (if_neg ?_ : f3 B u j = 0); (try simp only [decide_eq_true_eq, decide_eq_false_iff_not] at c5); (try simp only [decide_eq_true_eq, decide_eq_false_iff_not] at c21); (try simp only [decide_eq_true_eq, decide_eq_false_iff_not] at c32); (try simp only [decide_eq_true_eq, decide_eq_false_iff_not] at c43); (try simp only [decide_eq_true_eq, decide_eq_false_iff_not] at c60); (try simp only [decide_eq_true_eq, decide_eq_false_iff_not] at c71); omega)))
    · refine v_iload_n F dX5_faultsAt_53 rfl ?_
      refine v_aload_n F dX5_faultsAt_54 rfl rfl ?_
      refine v_iload_n F dX5_faultsAt_55 rfl ?_
      refine v_iconst (v := nI 3) F dX5_faultsAt_56 (by decide) ?_
      refine v_callV F 2 [_, _] rfl rfl rfl (c_isKind_in hI hT0 hCB hB h14 h15 hu24 hun (i := j) (s := 3) hj (by decide)) gX5_faultsAt_X5_isKind rfl hd_X5_isKind ⟨⟨rfl, rfl⟩, ⟨(Nat.le_of_ble_eq_true rfl), (Nat.le_of_ble_eq_true rfl)⟩, ⟨(Nat.le_of_ble_eq_true rfl), (Nat.le_of_ble_eq_true rfl)⟩, (Nat.le_of_ble_eq_true rfl)⟩ hI.x rfl dX5_faultsAt_57 (fun v57 M57 q57 => ?_)
      obtain ⟨rfl, e57⟩ := q57
      replace e57 := e57.symm
      subst e57
      refine v_if_eq_b F 78 dX5_faultsAt_60 (by decide) (fun c60 => ?_) (fun c60 => ?_)
      · refine v_iconst (v := nI 0) F dX5_faultsAt_78 (by decide) ?_
        refine v_ior_n F dX5_faultsAt_79 ?_
        refine v_istore_n F dX5_faultsAt_80 (Nat.le_of_ble_eq_true rfl) (ok2_d rfl) ?_
        exact j81 _ (by rw [hm]; exact (by first | (refine or_t5 (if_pos ?_ : f3 B u j = 4); (try simp only [decide_eq_true_eq, decide_eq_false_iff_not] at c5); (try simp only [decide_eq_true_eq, decide_eq_false_iff_not] at c21); (try simp only [decide_eq_true_eq, decide_eq_false_iff_not] at c32); (try simp only [decide_eq_true_eq, decide_eq_false_iff_not] at c43); (try simp only [decide_eq_true_eq, decide_eq_false_iff_not] at c60); (try simp only [decide_eq_true_eq, decide_eq_false_iff_not] at c71); omega) | (refine or_f5 (if_neg ?_ : f3 B u j = 0); (try simp only [decide_eq_true_eq, decide_eq_false_iff_not] at c5); (try simp only [decide_eq_true_eq, decide_eq_false_iff_not] at c21); (try simp only [decide_eq_true_eq, decide_eq_false_iff_not] at c32); (try simp only [decide_eq_true_eq, decide_eq_false_iff_not] at c43); (try simp only [decide_eq_true_eq, decide_eq_false_iff_not] at c60); (try simp only [decide_eq_true_eq, decide_eq_false_iff_not] at c71); omega)))
      · refine v_aload_n F dX5_faultsAt_63 rfl rfl ?_
        refine v_iload_n F dX5_faultsAt_64 rfl ?_
        refine v_iconst (v := nI 1) F dX5_faultsAt_65 (by decide) ?_
        refine v_isub_n F dX5_faultsAt_66 (by omega) ?_
        refine v_iconst (v := nI 2) F dX5_faultsAt_67 (by decide) ?_
        refine v_callV F 2 [_, _] rfl rfl rfl (c_isKind_in hI hT0 hCB hB h14 h15 hu24 hun (i := j - 1) (s := 2) (by omega) (by decide)) gX5_faultsAt_X5_isKind rfl hd_X5_isKind ⟨⟨rfl, rfl⟩, ⟨(Nat.le_of_ble_eq_true rfl), (Nat.le_of_ble_eq_true rfl)⟩, ⟨(Nat.le_of_ble_eq_true rfl), (Nat.le_of_ble_eq_true rfl)⟩, (Nat.le_of_ble_eq_true rfl)⟩ hI.x rfl dX5_faultsAt_68 (fun v68 M68 q68 => ?_)
        obtain ⟨rfl, e68⟩ := q68
        replace e68 := e68.symm
        subst e68
        refine v_if_ne_b F 78 dX5_faultsAt_71 (by decide) (fun c71 => ?_) (fun c71 => ?_)
        · refine v_iconst (v := nI 0) F dX5_faultsAt_78 (by decide) ?_
          refine v_ior_n F dX5_faultsAt_79 ?_
          refine v_istore_n F dX5_faultsAt_80 (Nat.le_of_ble_eq_true rfl) (ok2_d rfl) ?_
          exact j81 _ (by rw [hm]; exact (by first | (refine or_t5 (if_pos ?_ : f3 B u j = 4); (try simp only [decide_eq_true_eq, decide_eq_false_iff_not] at c5); (try simp only [decide_eq_true_eq, decide_eq_false_iff_not] at c21); (try simp only [decide_eq_true_eq, decide_eq_false_iff_not] at c32); (try simp only [decide_eq_true_eq, decide_eq_false_iff_not] at c43); (try simp only [decide_eq_true_eq, decide_eq_false_iff_not] at c60); (try simp only [decide_eq_true_eq, decide_eq_false_iff_not] at c71); omega) | (refine or_f5 (if_neg ?_ : f3 B u j = 0); (try simp only [decide_eq_true_eq, decide_eq_false_iff_not] at c5); (try simp only [decide_eq_true_eq, decide_eq_false_iff_not] at c21); (try simp only [decide_eq_true_eq, decide_eq_false_iff_not] at c32); (try simp only [decide_eq_true_eq, decide_eq_false_iff_not] at c43); (try simp only [decide_eq_true_eq, decide_eq_false_iff_not] at c60); (try simp only [decide_eq_true_eq, decide_eq_false_iff_not] at c71); omega)))
        · refine v_iconst (v := nI 4) F dX5_faultsAt_74 (by decide) ?_
          refine v_goto F 79 dX5_faultsAt_75 (by decide) ?_
          refine v_ior_n F dX5_faultsAt_79 ?_
          refine v_istore_n F dX5_faultsAt_80 (Nat.le_of_ble_eq_true rfl) (ok2_d rfl) ?_
          exact j81 _ (by rw [hm]; exact (by first | (refine or_t5 (if_pos ?_ : f3 B u j = 4); (try simp only [decide_eq_true_eq, decide_eq_false_iff_not] at c5); (try simp only [decide_eq_true_eq, decide_eq_false_iff_not] at c21); (try simp only [decide_eq_true_eq, decide_eq_false_iff_not] at c32); (try simp only [decide_eq_true_eq, decide_eq_false_iff_not] at c43); (try simp only [decide_eq_true_eq, decide_eq_false_iff_not] at c60); (try simp only [decide_eq_true_eq, decide_eq_false_iff_not] at c71); omega) | (refine or_f5 (if_neg ?_ : f3 B u j = 0); (try simp only [decide_eq_true_eq, decide_eq_false_iff_not] at c5); (try simp only [decide_eq_true_eq, decide_eq_false_iff_not] at c21); (try simp only [decide_eq_true_eq, decide_eq_false_iff_not] at c32); (try simp only [decide_eq_true_eq, decide_eq_false_iff_not] at c43); (try simp only [decide_eq_true_eq, decide_eq_false_iff_not] at c60); (try simp only [decide_eq_true_eq, decide_eq_false_iff_not] at c71); omega)))
  have j14 : ∀ m, m = f1 B u j → V ω σ M [some (.ref (Y 0)), some (.int (nI j)), some (.int (nI m)), none, none] 0 0 (BQ ω σ (fun v M9 => v = some (.int (nI (ftA B u j))) ∧ M9 = M) 0 0) 14 [] := by
    intro m hm
    rcases Nat.eq_zero_or_pos j with hj0 | hj0 <;> rcases Nat.lt_or_ge (j + 1) u.length with hjb | hjb
    · refine v_iload_n F dX5_faultsAt_14 rfl ?_
      refine v_aload_n F dX5_faultsAt_15 rfl rfl ?_
      refine v_iload_n F dX5_faultsAt_16 rfl ?_
      refine v_iconst (v := nI 1) F dX5_faultsAt_17 (by decide) ?_
      refine v_callV F 2 [_, _] rfl rfl rfl (c_isKind_in hI hT0 hCB hB h14 h15 hu24 hun (i := j) (s := 1) hj (by decide)) gX5_faultsAt_X5_isKind rfl hd_X5_isKind ⟨⟨rfl, rfl⟩, ⟨(Nat.le_of_ble_eq_true rfl), (Nat.le_of_ble_eq_true rfl)⟩, ⟨(Nat.le_of_ble_eq_true rfl), (Nat.le_of_ble_eq_true rfl)⟩, (Nat.le_of_ble_eq_true rfl)⟩ hI.x rfl dX5_faultsAt_18 (fun v18 M18 q18 => ?_)
      obtain ⟨rfl, e18⟩ := q18
      replace e18 := e18.symm
      subst e18
      refine v_if_eq_b F 50 dX5_faultsAt_21 (by decide) (fun c21 => ?_) (fun c21 => ?_)
      · refine v_iconst (v := nI 0) F dX5_faultsAt_50 (by decide) ?_
        refine v_ior_n F dX5_faultsAt_51 ?_
        refine v_istore_n F dX5_faultsAt_52 (Nat.le_of_ble_eq_true rfl) (ok2_d rfl) ?_
        exact j53 _ (by rw [hm]; exact (by first | (refine or_t5 (if_pos ?_ : f2 B u j = 2); (try simp only [decide_eq_true_eq, decide_eq_false_iff_not] at c5); (try simp only [decide_eq_true_eq, decide_eq_false_iff_not] at c21); (try simp only [decide_eq_true_eq, decide_eq_false_iff_not] at c32); (try simp only [decide_eq_true_eq, decide_eq_false_iff_not] at c43); (try simp only [decide_eq_true_eq, decide_eq_false_iff_not] at c60); (try simp only [decide_eq_true_eq, decide_eq_false_iff_not] at c71); omega) | (refine or_f5 (if_neg ?_ : f2 B u j = 0); (try simp only [decide_eq_true_eq, decide_eq_false_iff_not] at c5); (try simp only [decide_eq_true_eq, decide_eq_false_iff_not] at c21); (try simp only [decide_eq_true_eq, decide_eq_false_iff_not] at c32); (try simp only [decide_eq_true_eq, decide_eq_false_iff_not] at c43); (try simp only [decide_eq_true_eq, decide_eq_false_iff_not] at c60); (try simp only [decide_eq_true_eq, decide_eq_false_iff_not] at c71); omega)))
      · refine v_aload_n F dX5_faultsAt_24 rfl rfl ?_
        refine v_iload_n F dX5_faultsAt_25 rfl ?_
        refine v_iconst (v := nI 1) F dX5_faultsAt_26 (by decide) ?_
        refine v_isub F dX5_faultsAt_27 ?_
        refine v_iconst (v := nI 1) F dX5_faultsAt_28 (by decide) ?_
        refine v_callV F 2 [_, _] rfl rfl rfl (c_isKind_out hI hT0 hCB hB h14 h15 hu24 hun (y := nI j - nI 1) (s := nI 1) (Or.inl (by rw [hj0]; decide))) gX5_faultsAt_X5_isKind rfl hd_X5_isKind ⟨⟨rfl, rfl⟩, ⟨(Nat.le_of_ble_eq_true rfl), (Nat.le_of_ble_eq_true rfl)⟩, ⟨(Nat.le_of_ble_eq_true rfl), (Nat.le_of_ble_eq_true rfl)⟩, (Nat.le_of_ble_eq_true rfl)⟩ hI.x rfl dX5_faultsAt_29 (fun v29 M29 q29 => ?_)
        obtain ⟨rfl, e29⟩ := q29
        replace e29 := e29.symm
        subst e29
        refine v_if_ne_b F 50 dX5_faultsAt_32 (by decide) (fun c32 => ?_) (fun c32 => ?_)
        · exact absurd c32 (by decide)
        · refine v_aload_n F dX5_faultsAt_35 rfl rfl ?_
          refine v_iload_n F dX5_faultsAt_36 rfl ?_
          refine v_iconst (v := nI 1) F dX5_faultsAt_37 (by decide) ?_
          refine v_iadd_n F dX5_faultsAt_38 ?_
          refine v_iconst (v := nI 1) F dX5_faultsAt_39 (by decide) ?_
          refine v_callV F 2 [_, _] rfl rfl rfl (c_isKind_in hI hT0 hCB hB h14 h15 hu24 hun (i := j + 1) (s := 1) hjb (by decide)) gX5_faultsAt_X5_isKind rfl hd_X5_isKind ⟨⟨rfl, rfl⟩, ⟨(Nat.le_of_ble_eq_true rfl), (Nat.le_of_ble_eq_true rfl)⟩, ⟨(Nat.le_of_ble_eq_true rfl), (Nat.le_of_ble_eq_true rfl)⟩, (Nat.le_of_ble_eq_true rfl)⟩ hI.x rfl dX5_faultsAt_40 (fun v40 M40 q40 => ?_)
          obtain ⟨rfl, e40⟩ := q40
          replace e40 := e40.symm
          subst e40
          refine v_if_ne_b F 50 dX5_faultsAt_43 (by decide) (fun c43 => ?_) (fun c43 => ?_)
          · refine v_iconst (v := nI 0) F dX5_faultsAt_50 (by decide) ?_
            refine v_ior_n F dX5_faultsAt_51 ?_
            refine v_istore_n F dX5_faultsAt_52 (Nat.le_of_ble_eq_true rfl) (ok2_d rfl) ?_
            exact j53 _ (by rw [hm]; exact (by first | (refine or_t5 (if_pos ?_ : f2 B u j = 2); (try simp only [decide_eq_true_eq, decide_eq_false_iff_not] at c5); (try simp only [decide_eq_true_eq, decide_eq_false_iff_not] at c21); (try simp only [decide_eq_true_eq, decide_eq_false_iff_not] at c32); (try simp only [decide_eq_true_eq, decide_eq_false_iff_not] at c43); (try simp only [decide_eq_true_eq, decide_eq_false_iff_not] at c60); (try simp only [decide_eq_true_eq, decide_eq_false_iff_not] at c71); omega) | (refine or_f5 (if_neg ?_ : f2 B u j = 0); (try simp only [decide_eq_true_eq, decide_eq_false_iff_not] at c5); (try simp only [decide_eq_true_eq, decide_eq_false_iff_not] at c21); (try simp only [decide_eq_true_eq, decide_eq_false_iff_not] at c32); (try simp only [decide_eq_true_eq, decide_eq_false_iff_not] at c43); (try simp only [decide_eq_true_eq, decide_eq_false_iff_not] at c60); (try simp only [decide_eq_true_eq, decide_eq_false_iff_not] at c71); omega)))
          · refine v_iconst (v := nI 2) F dX5_faultsAt_46 (by decide) ?_
            refine v_goto F 51 dX5_faultsAt_47 (by decide) ?_
            refine v_ior_n F dX5_faultsAt_51 ?_
            refine v_istore_n F dX5_faultsAt_52 (Nat.le_of_ble_eq_true rfl) (ok2_d rfl) ?_
            exact j53 _ (by rw [hm]; exact (by first | (refine or_t5 (if_pos ?_ : f2 B u j = 2); (try simp only [decide_eq_true_eq, decide_eq_false_iff_not] at c5); (try simp only [decide_eq_true_eq, decide_eq_false_iff_not] at c21); (try simp only [decide_eq_true_eq, decide_eq_false_iff_not] at c32); (try simp only [decide_eq_true_eq, decide_eq_false_iff_not] at c43); (try simp only [decide_eq_true_eq, decide_eq_false_iff_not] at c60); (try simp only [decide_eq_true_eq, decide_eq_false_iff_not] at c71); omega) | (refine or_f5 (if_neg ?_ : f2 B u j = 0); (try simp only [decide_eq_true_eq, decide_eq_false_iff_not] at c5); (try simp only [decide_eq_true_eq, decide_eq_false_iff_not] at c21); (try simp only [decide_eq_true_eq, decide_eq_false_iff_not] at c32); (try simp only [decide_eq_true_eq, decide_eq_false_iff_not] at c43); (try simp only [decide_eq_true_eq, decide_eq_false_iff_not] at c60); (try simp only [decide_eq_true_eq, decide_eq_false_iff_not] at c71); omega)))
    · refine v_iload_n F dX5_faultsAt_14 rfl ?_
      refine v_aload_n F dX5_faultsAt_15 rfl rfl ?_
      refine v_iload_n F dX5_faultsAt_16 rfl ?_
      refine v_iconst (v := nI 1) F dX5_faultsAt_17 (by decide) ?_
      refine v_callV F 2 [_, _] rfl rfl rfl (c_isKind_in hI hT0 hCB hB h14 h15 hu24 hun (i := j) (s := 1) hj (by decide)) gX5_faultsAt_X5_isKind rfl hd_X5_isKind ⟨⟨rfl, rfl⟩, ⟨(Nat.le_of_ble_eq_true rfl), (Nat.le_of_ble_eq_true rfl)⟩, ⟨(Nat.le_of_ble_eq_true rfl), (Nat.le_of_ble_eq_true rfl)⟩, (Nat.le_of_ble_eq_true rfl)⟩ hI.x rfl dX5_faultsAt_18 (fun v18 M18 q18 => ?_)
      obtain ⟨rfl, e18⟩ := q18
      replace e18 := e18.symm
      subst e18
      refine v_if_eq_b F 50 dX5_faultsAt_21 (by decide) (fun c21 => ?_) (fun c21 => ?_)
      · refine v_iconst (v := nI 0) F dX5_faultsAt_50 (by decide) ?_
        refine v_ior_n F dX5_faultsAt_51 ?_
        refine v_istore_n F dX5_faultsAt_52 (Nat.le_of_ble_eq_true rfl) (ok2_d rfl) ?_
        exact j53 _ (by rw [hm]; exact (by first | (refine or_t5 (if_pos ?_ : f2 B u j = 2); (try simp only [decide_eq_true_eq, decide_eq_false_iff_not] at c5); (try simp only [decide_eq_true_eq, decide_eq_false_iff_not] at c21); (try simp only [decide_eq_true_eq, decide_eq_false_iff_not] at c32); (try simp only [decide_eq_true_eq, decide_eq_false_iff_not] at c43); (try simp only [decide_eq_true_eq, decide_eq_false_iff_not] at c60); (try simp only [decide_eq_true_eq, decide_eq_false_iff_not] at c71); omega) | (refine or_f5 (if_neg ?_ : f2 B u j = 0); (try simp only [decide_eq_true_eq, decide_eq_false_iff_not] at c5); (try simp only [decide_eq_true_eq, decide_eq_false_iff_not] at c21); (try simp only [decide_eq_true_eq, decide_eq_false_iff_not] at c32); (try simp only [decide_eq_true_eq, decide_eq_false_iff_not] at c43); (try simp only [decide_eq_true_eq, decide_eq_false_iff_not] at c60); (try simp only [decide_eq_true_eq, decide_eq_false_iff_not] at c71); omega)))
      · refine v_aload_n F dX5_faultsAt_24 rfl rfl ?_
        refine v_iload_n F dX5_faultsAt_25 rfl ?_
        refine v_iconst (v := nI 1) F dX5_faultsAt_26 (by decide) ?_
        refine v_isub F dX5_faultsAt_27 ?_
        refine v_iconst (v := nI 1) F dX5_faultsAt_28 (by decide) ?_
        refine v_callV F 2 [_, _] rfl rfl rfl (c_isKind_out hI hT0 hCB hB h14 h15 hu24 hun (y := nI j - nI 1) (s := nI 1) (Or.inl (by rw [hj0]; decide))) gX5_faultsAt_X5_isKind rfl hd_X5_isKind ⟨⟨rfl, rfl⟩, ⟨(Nat.le_of_ble_eq_true rfl), (Nat.le_of_ble_eq_true rfl)⟩, ⟨(Nat.le_of_ble_eq_true rfl), (Nat.le_of_ble_eq_true rfl)⟩, (Nat.le_of_ble_eq_true rfl)⟩ hI.x rfl dX5_faultsAt_29 (fun v29 M29 q29 => ?_)
        obtain ⟨rfl, e29⟩ := q29
        replace e29 := e29.symm
        subst e29
        refine v_if_ne_b F 50 dX5_faultsAt_32 (by decide) (fun c32 => ?_) (fun c32 => ?_)
        · exact absurd c32 (by decide)
        · refine v_aload_n F dX5_faultsAt_35 rfl rfl ?_
          refine v_iload_n F dX5_faultsAt_36 rfl ?_
          refine v_iconst (v := nI 1) F dX5_faultsAt_37 (by decide) ?_
          refine v_iadd_n F dX5_faultsAt_38 ?_
          refine v_iconst (v := nI 1) F dX5_faultsAt_39 (by decide) ?_
          refine v_callV F 2 [_, _] rfl rfl rfl (c_isKind_out hI hT0 hCB hB h14 h15 hu24 hun (y := nI (j + 1)) (s := nI 1) (Or.inr (nI_le (by omega) (by omega)))) gX5_faultsAt_X5_isKind rfl hd_X5_isKind ⟨⟨rfl, rfl⟩, ⟨(Nat.le_of_ble_eq_true rfl), (Nat.le_of_ble_eq_true rfl)⟩, ⟨(Nat.le_of_ble_eq_true rfl), (Nat.le_of_ble_eq_true rfl)⟩, (Nat.le_of_ble_eq_true rfl)⟩ hI.x rfl dX5_faultsAt_40 (fun v40 M40 q40 => ?_)
          obtain ⟨rfl, e40⟩ := q40
          replace e40 := e40.symm
          subst e40
          refine v_if_ne_b F 50 dX5_faultsAt_43 (by decide) (fun c43 => ?_) (fun c43 => ?_)
          · exact absurd c43 (by decide)
          · refine v_iconst (v := nI 2) F dX5_faultsAt_46 (by decide) ?_
            refine v_goto F 51 dX5_faultsAt_47 (by decide) ?_
            refine v_ior_n F dX5_faultsAt_51 ?_
            refine v_istore_n F dX5_faultsAt_52 (Nat.le_of_ble_eq_true rfl) (ok2_d rfl) ?_
            exact j53 _ (by rw [hm]; exact (by first | (refine or_t5 (if_pos ?_ : f2 B u j = 2); (try simp only [decide_eq_true_eq, decide_eq_false_iff_not] at c5); (try simp only [decide_eq_true_eq, decide_eq_false_iff_not] at c21); (try simp only [decide_eq_true_eq, decide_eq_false_iff_not] at c32); (try simp only [decide_eq_true_eq, decide_eq_false_iff_not] at c43); (try simp only [decide_eq_true_eq, decide_eq_false_iff_not] at c60); (try simp only [decide_eq_true_eq, decide_eq_false_iff_not] at c71); omega) | (refine or_f5 (if_neg ?_ : f2 B u j = 0); (try simp only [decide_eq_true_eq, decide_eq_false_iff_not] at c5); (try simp only [decide_eq_true_eq, decide_eq_false_iff_not] at c21); (try simp only [decide_eq_true_eq, decide_eq_false_iff_not] at c32); (try simp only [decide_eq_true_eq, decide_eq_false_iff_not] at c43); (try simp only [decide_eq_true_eq, decide_eq_false_iff_not] at c60); (try simp only [decide_eq_true_eq, decide_eq_false_iff_not] at c71); omega)))
    · refine v_iload_n F dX5_faultsAt_14 rfl ?_
      refine v_aload_n F dX5_faultsAt_15 rfl rfl ?_
      refine v_iload_n F dX5_faultsAt_16 rfl ?_
      refine v_iconst (v := nI 1) F dX5_faultsAt_17 (by decide) ?_
      refine v_callV F 2 [_, _] rfl rfl rfl (c_isKind_in hI hT0 hCB hB h14 h15 hu24 hun (i := j) (s := 1) hj (by decide)) gX5_faultsAt_X5_isKind rfl hd_X5_isKind ⟨⟨rfl, rfl⟩, ⟨(Nat.le_of_ble_eq_true rfl), (Nat.le_of_ble_eq_true rfl)⟩, ⟨(Nat.le_of_ble_eq_true rfl), (Nat.le_of_ble_eq_true rfl)⟩, (Nat.le_of_ble_eq_true rfl)⟩ hI.x rfl dX5_faultsAt_18 (fun v18 M18 q18 => ?_)
      obtain ⟨rfl, e18⟩ := q18
      replace e18 := e18.symm
      subst e18
      refine v_if_eq_b F 50 dX5_faultsAt_21 (by decide) (fun c21 => ?_) (fun c21 => ?_)
      · refine v_iconst (v := nI 0) F dX5_faultsAt_50 (by decide) ?_
        refine v_ior_n F dX5_faultsAt_51 ?_
        refine v_istore_n F dX5_faultsAt_52 (Nat.le_of_ble_eq_true rfl) (ok2_d rfl) ?_
        exact j53 _ (by rw [hm]; exact (by first | (refine or_t5 (if_pos ?_ : f2 B u j = 2); (try simp only [decide_eq_true_eq, decide_eq_false_iff_not] at c5); (try simp only [decide_eq_true_eq, decide_eq_false_iff_not] at c21); (try simp only [decide_eq_true_eq, decide_eq_false_iff_not] at c32); (try simp only [decide_eq_true_eq, decide_eq_false_iff_not] at c43); (try simp only [decide_eq_true_eq, decide_eq_false_iff_not] at c60); (try simp only [decide_eq_true_eq, decide_eq_false_iff_not] at c71); omega) | (refine or_f5 (if_neg ?_ : f2 B u j = 0); (try simp only [decide_eq_true_eq, decide_eq_false_iff_not] at c5); (try simp only [decide_eq_true_eq, decide_eq_false_iff_not] at c21); (try simp only [decide_eq_true_eq, decide_eq_false_iff_not] at c32); (try simp only [decide_eq_true_eq, decide_eq_false_iff_not] at c43); (try simp only [decide_eq_true_eq, decide_eq_false_iff_not] at c60); (try simp only [decide_eq_true_eq, decide_eq_false_iff_not] at c71); omega)))
      · refine v_aload_n F dX5_faultsAt_24 rfl rfl ?_
        refine v_iload_n F dX5_faultsAt_25 rfl ?_
        refine v_iconst (v := nI 1) F dX5_faultsAt_26 (by decide) ?_
        refine v_isub_n F dX5_faultsAt_27 (by omega) ?_
        refine v_iconst (v := nI 1) F dX5_faultsAt_28 (by decide) ?_
        refine v_callV F 2 [_, _] rfl rfl rfl (c_isKind_in hI hT0 hCB hB h14 h15 hu24 hun (i := j - 1) (s := 1) (by omega) (by decide)) gX5_faultsAt_X5_isKind rfl hd_X5_isKind ⟨⟨rfl, rfl⟩, ⟨(Nat.le_of_ble_eq_true rfl), (Nat.le_of_ble_eq_true rfl)⟩, ⟨(Nat.le_of_ble_eq_true rfl), (Nat.le_of_ble_eq_true rfl)⟩, (Nat.le_of_ble_eq_true rfl)⟩ hI.x rfl dX5_faultsAt_29 (fun v29 M29 q29 => ?_)
        obtain ⟨rfl, e29⟩ := q29
        replace e29 := e29.symm
        subst e29
        refine v_if_ne_b F 50 dX5_faultsAt_32 (by decide) (fun c32 => ?_) (fun c32 => ?_)
        · refine v_iconst (v := nI 0) F dX5_faultsAt_50 (by decide) ?_
          refine v_ior_n F dX5_faultsAt_51 ?_
          refine v_istore_n F dX5_faultsAt_52 (Nat.le_of_ble_eq_true rfl) (ok2_d rfl) ?_
          exact j53 _ (by rw [hm]; exact (by first | (refine or_t5 (if_pos ?_ : f2 B u j = 2); (try simp only [decide_eq_true_eq, decide_eq_false_iff_not] at c5); (try simp only [decide_eq_true_eq, decide_eq_false_iff_not] at c21); (try simp only [decide_eq_true_eq, decide_eq_false_iff_not] at c32); (try simp only [decide_eq_true_eq, decide_eq_false_iff_not] at c43); (try simp only [decide_eq_true_eq, decide_eq_false_iff_not] at c60); (try simp only [decide_eq_true_eq, decide_eq_false_iff_not] at c71); omega) | (refine or_f5 (if_neg ?_ : f2 B u j = 0); (try simp only [decide_eq_true_eq, decide_eq_false_iff_not] at c5); (try simp only [decide_eq_true_eq, decide_eq_false_iff_not] at c21); (try simp only [decide_eq_true_eq, decide_eq_false_iff_not] at c32); (try simp only [decide_eq_true_eq, decide_eq_false_iff_not] at c43); (try simp only [decide_eq_true_eq, decide_eq_false_iff_not] at c60); (try simp only [decide_eq_true_eq, decide_eq_false_iff_not] at c71); omega)))
        · refine v_aload_n F dX5_faultsAt_35 rfl rfl ?_
          refine v_iload_n F dX5_faultsAt_36 rfl ?_
          refine v_iconst (v := nI 1) F dX5_faultsAt_37 (by decide) ?_
          refine v_iadd_n F dX5_faultsAt_38 ?_
          refine v_iconst (v := nI 1) F dX5_faultsAt_39 (by decide) ?_
          refine v_callV F 2 [_, _] rfl rfl rfl (c_isKind_in hI hT0 hCB hB h14 h15 hu24 hun (i := j + 1) (s := 1) hjb (by decide)) gX5_faultsAt_X5_isKind rfl hd_X5_isKind ⟨⟨rfl, rfl⟩, ⟨(Nat.le_of_ble_eq_true rfl), (Nat.le_of_ble_eq_true rfl)⟩, ⟨(Nat.le_of_ble_eq_true rfl), (Nat.le_of_ble_eq_true rfl)⟩, (Nat.le_of_ble_eq_true rfl)⟩ hI.x rfl dX5_faultsAt_40 (fun v40 M40 q40 => ?_)
          obtain ⟨rfl, e40⟩ := q40
          replace e40 := e40.symm
          subst e40
          refine v_if_ne_b F 50 dX5_faultsAt_43 (by decide) (fun c43 => ?_) (fun c43 => ?_)
          · refine v_iconst (v := nI 0) F dX5_faultsAt_50 (by decide) ?_
            refine v_ior_n F dX5_faultsAt_51 ?_
            refine v_istore_n F dX5_faultsAt_52 (Nat.le_of_ble_eq_true rfl) (ok2_d rfl) ?_
            exact j53 _ (by rw [hm]; exact (by first | (refine or_t5 (if_pos ?_ : f2 B u j = 2); (try simp only [decide_eq_true_eq, decide_eq_false_iff_not] at c5); (try simp only [decide_eq_true_eq, decide_eq_false_iff_not] at c21); (try simp only [decide_eq_true_eq, decide_eq_false_iff_not] at c32); (try simp only [decide_eq_true_eq, decide_eq_false_iff_not] at c43); (try simp only [decide_eq_true_eq, decide_eq_false_iff_not] at c60); (try simp only [decide_eq_true_eq, decide_eq_false_iff_not] at c71); omega) | (refine or_f5 (if_neg ?_ : f2 B u j = 0); (try simp only [decide_eq_true_eq, decide_eq_false_iff_not] at c5); (try simp only [decide_eq_true_eq, decide_eq_false_iff_not] at c21); (try simp only [decide_eq_true_eq, decide_eq_false_iff_not] at c32); (try simp only [decide_eq_true_eq, decide_eq_false_iff_not] at c43); (try simp only [decide_eq_true_eq, decide_eq_false_iff_not] at c60); (try simp only [decide_eq_true_eq, decide_eq_false_iff_not] at c71); omega)))
          · refine v_iconst (v := nI 2) F dX5_faultsAt_46 (by decide) ?_
            refine v_goto F 51 dX5_faultsAt_47 (by decide) ?_
            refine v_ior_n F dX5_faultsAt_51 ?_
            refine v_istore_n F dX5_faultsAt_52 (Nat.le_of_ble_eq_true rfl) (ok2_d rfl) ?_
            exact j53 _ (by rw [hm]; exact (by first | (refine or_t5 (if_pos ?_ : f2 B u j = 2); (try simp only [decide_eq_true_eq, decide_eq_false_iff_not] at c5); (try simp only [decide_eq_true_eq, decide_eq_false_iff_not] at c21); (try simp only [decide_eq_true_eq, decide_eq_false_iff_not] at c32); (try simp only [decide_eq_true_eq, decide_eq_false_iff_not] at c43); (try simp only [decide_eq_true_eq, decide_eq_false_iff_not] at c60); (try simp only [decide_eq_true_eq, decide_eq_false_iff_not] at c71); omega) | (refine or_f5 (if_neg ?_ : f2 B u j = 0); (try simp only [decide_eq_true_eq, decide_eq_false_iff_not] at c5); (try simp only [decide_eq_true_eq, decide_eq_false_iff_not] at c21); (try simp only [decide_eq_true_eq, decide_eq_false_iff_not] at c32); (try simp only [decide_eq_true_eq, decide_eq_false_iff_not] at c43); (try simp only [decide_eq_true_eq, decide_eq_false_iff_not] at c60); (try simp only [decide_eq_true_eq, decide_eq_false_iff_not] at c71); omega)))
    · refine v_iload_n F dX5_faultsAt_14 rfl ?_
      refine v_aload_n F dX5_faultsAt_15 rfl rfl ?_
      refine v_iload_n F dX5_faultsAt_16 rfl ?_
      refine v_iconst (v := nI 1) F dX5_faultsAt_17 (by decide) ?_
      refine v_callV F 2 [_, _] rfl rfl rfl (c_isKind_in hI hT0 hCB hB h14 h15 hu24 hun (i := j) (s := 1) hj (by decide)) gX5_faultsAt_X5_isKind rfl hd_X5_isKind ⟨⟨rfl, rfl⟩, ⟨(Nat.le_of_ble_eq_true rfl), (Nat.le_of_ble_eq_true rfl)⟩, ⟨(Nat.le_of_ble_eq_true rfl), (Nat.le_of_ble_eq_true rfl)⟩, (Nat.le_of_ble_eq_true rfl)⟩ hI.x rfl dX5_faultsAt_18 (fun v18 M18 q18 => ?_)
      obtain ⟨rfl, e18⟩ := q18
      replace e18 := e18.symm
      subst e18
      refine v_if_eq_b F 50 dX5_faultsAt_21 (by decide) (fun c21 => ?_) (fun c21 => ?_)
      · refine v_iconst (v := nI 0) F dX5_faultsAt_50 (by decide) ?_
        refine v_ior_n F dX5_faultsAt_51 ?_
        refine v_istore_n F dX5_faultsAt_52 (Nat.le_of_ble_eq_true rfl) (ok2_d rfl) ?_
        exact j53 _ (by rw [hm]; exact (by first | (refine or_t5 (if_pos ?_ : f2 B u j = 2); (try simp only [decide_eq_true_eq, decide_eq_false_iff_not] at c5); (try simp only [decide_eq_true_eq, decide_eq_false_iff_not] at c21); (try simp only [decide_eq_true_eq, decide_eq_false_iff_not] at c32); (try simp only [decide_eq_true_eq, decide_eq_false_iff_not] at c43); (try simp only [decide_eq_true_eq, decide_eq_false_iff_not] at c60); (try simp only [decide_eq_true_eq, decide_eq_false_iff_not] at c71); omega) | (refine or_f5 (if_neg ?_ : f2 B u j = 0); (try simp only [decide_eq_true_eq, decide_eq_false_iff_not] at c5); (try simp only [decide_eq_true_eq, decide_eq_false_iff_not] at c21); (try simp only [decide_eq_true_eq, decide_eq_false_iff_not] at c32); (try simp only [decide_eq_true_eq, decide_eq_false_iff_not] at c43); (try simp only [decide_eq_true_eq, decide_eq_false_iff_not] at c60); (try simp only [decide_eq_true_eq, decide_eq_false_iff_not] at c71); omega)))
      · refine v_aload_n F dX5_faultsAt_24 rfl rfl ?_
        refine v_iload_n F dX5_faultsAt_25 rfl ?_
        refine v_iconst (v := nI 1) F dX5_faultsAt_26 (by decide) ?_
        refine v_isub_n F dX5_faultsAt_27 (by omega) ?_
        refine v_iconst (v := nI 1) F dX5_faultsAt_28 (by decide) ?_
        refine v_callV F 2 [_, _] rfl rfl rfl (c_isKind_in hI hT0 hCB hB h14 h15 hu24 hun (i := j - 1) (s := 1) (by omega) (by decide)) gX5_faultsAt_X5_isKind rfl hd_X5_isKind ⟨⟨rfl, rfl⟩, ⟨(Nat.le_of_ble_eq_true rfl), (Nat.le_of_ble_eq_true rfl)⟩, ⟨(Nat.le_of_ble_eq_true rfl), (Nat.le_of_ble_eq_true rfl)⟩, (Nat.le_of_ble_eq_true rfl)⟩ hI.x rfl dX5_faultsAt_29 (fun v29 M29 q29 => ?_)
        obtain ⟨rfl, e29⟩ := q29
        replace e29 := e29.symm
        subst e29
        refine v_if_ne_b F 50 dX5_faultsAt_32 (by decide) (fun c32 => ?_) (fun c32 => ?_)
        · refine v_iconst (v := nI 0) F dX5_faultsAt_50 (by decide) ?_
          refine v_ior_n F dX5_faultsAt_51 ?_
          refine v_istore_n F dX5_faultsAt_52 (Nat.le_of_ble_eq_true rfl) (ok2_d rfl) ?_
          exact j53 _ (by rw [hm]; exact (by first | (refine or_t5 (if_pos ?_ : f2 B u j = 2); (try simp only [decide_eq_true_eq, decide_eq_false_iff_not] at c5); (try simp only [decide_eq_true_eq, decide_eq_false_iff_not] at c21); (try simp only [decide_eq_true_eq, decide_eq_false_iff_not] at c32); (try simp only [decide_eq_true_eq, decide_eq_false_iff_not] at c43); (try simp only [decide_eq_true_eq, decide_eq_false_iff_not] at c60); (try simp only [decide_eq_true_eq, decide_eq_false_iff_not] at c71); omega) | (refine or_f5 (if_neg ?_ : f2 B u j = 0); (try simp only [decide_eq_true_eq, decide_eq_false_iff_not] at c5); (try simp only [decide_eq_true_eq, decide_eq_false_iff_not] at c21); (try simp only [decide_eq_true_eq, decide_eq_false_iff_not] at c32); (try simp only [decide_eq_true_eq, decide_eq_false_iff_not] at c43); (try simp only [decide_eq_true_eq, decide_eq_false_iff_not] at c60); (try simp only [decide_eq_true_eq, decide_eq_false_iff_not] at c71); omega)))
        · refine v_aload_n F dX5_faultsAt_35 rfl rfl ?_
          refine v_iload_n F dX5_faultsAt_36 rfl ?_
          refine v_iconst (v := nI 1) F dX5_faultsAt_37 (by decide) ?_
          refine v_iadd_n F dX5_faultsAt_38 ?_
          refine v_iconst (v := nI 1) F dX5_faultsAt_39 (by decide) ?_
          refine v_callV F 2 [_, _] rfl rfl rfl (c_isKind_out hI hT0 hCB hB h14 h15 hu24 hun (y := nI (j + 1)) (s := nI 1) (Or.inr (nI_le (by omega) (by omega)))) gX5_faultsAt_X5_isKind rfl hd_X5_isKind ⟨⟨rfl, rfl⟩, ⟨(Nat.le_of_ble_eq_true rfl), (Nat.le_of_ble_eq_true rfl)⟩, ⟨(Nat.le_of_ble_eq_true rfl), (Nat.le_of_ble_eq_true rfl)⟩, (Nat.le_of_ble_eq_true rfl)⟩ hI.x rfl dX5_faultsAt_40 (fun v40 M40 q40 => ?_)
          obtain ⟨rfl, e40⟩ := q40
          replace e40 := e40.symm
          subst e40
          refine v_if_ne_b F 50 dX5_faultsAt_43 (by decide) (fun c43 => ?_) (fun c43 => ?_)
          · exact absurd c43 (by decide)
          · refine v_iconst (v := nI 2) F dX5_faultsAt_46 (by decide) ?_
            refine v_goto F 51 dX5_faultsAt_47 (by decide) ?_
            refine v_ior_n F dX5_faultsAt_51 ?_
            refine v_istore_n F dX5_faultsAt_52 (Nat.le_of_ble_eq_true rfl) (ok2_d rfl) ?_
            exact j53 _ (by rw [hm]; exact (by first | (refine or_t5 (if_pos ?_ : f2 B u j = 2); (try simp only [decide_eq_true_eq, decide_eq_false_iff_not] at c5); (try simp only [decide_eq_true_eq, decide_eq_false_iff_not] at c21); (try simp only [decide_eq_true_eq, decide_eq_false_iff_not] at c32); (try simp only [decide_eq_true_eq, decide_eq_false_iff_not] at c43); (try simp only [decide_eq_true_eq, decide_eq_false_iff_not] at c60); (try simp only [decide_eq_true_eq, decide_eq_false_iff_not] at c71); omega) | (refine or_f5 (if_neg ?_ : f2 B u j = 0); (try simp only [decide_eq_true_eq, decide_eq_false_iff_not] at c5); (try simp only [decide_eq_true_eq, decide_eq_false_iff_not] at c21); (try simp only [decide_eq_true_eq, decide_eq_false_iff_not] at c32); (try simp only [decide_eq_true_eq, decide_eq_false_iff_not] at c43); (try simp only [decide_eq_true_eq, decide_eq_false_iff_not] at c60); (try simp only [decide_eq_true_eq, decide_eq_false_iff_not] at c71); omega)))
  refine v_aload_n F dX5_faultsAt_0 rfl rfl ?_
  refine v_iload_n F dX5_faultsAt_1 rfl ?_
  refine v_callV F 1 [_] rfl rfl rfl (c_Mskips hI hT0 hCB hB h14 h15 hu24 hun hj) gX5_faultsAt_X5_skips rfl hd_X5_skips ⟨⟨rfl, rfl⟩, ⟨(Nat.le_of_ble_eq_true rfl), (Nat.le_of_ble_eq_true rfl)⟩, ⟨(Nat.le_of_ble_eq_true rfl), (Nat.le_of_ble_eq_true rfl)⟩, (Nat.le_of_ble_eq_true rfl)⟩ hI.x rfl dX5_faultsAt_2 (fun v2 M2 q2 => ?_)
  obtain ⟨rfl, e2⟩ := q2
  replace e2 := e2.symm
  subst e2
  refine v_if_eq_b F 12 dX5_faultsAt_5 (by decide) (fun c5 => ?_) (fun c5 => ?_)
  · refine v_iconst (v := nI 0) F dX5_faultsAt_12 (by decide) ?_
    refine v_istore_n F dX5_faultsAt_13 (Nat.le_of_ble_eq_true rfl) (ok2_d rfl) ?_
    exact j14 _ (by first | (refine (if_pos ?_ : f1 B u j = 1).symm; (try simp only [decide_eq_true_eq, decide_eq_false_iff_not] at c5); (try simp only [decide_eq_true_eq, decide_eq_false_iff_not] at c21); (try simp only [decide_eq_true_eq, decide_eq_false_iff_not] at c32); (try simp only [decide_eq_true_eq, decide_eq_false_iff_not] at c43); (try simp only [decide_eq_true_eq, decide_eq_false_iff_not] at c60); (try simp only [decide_eq_true_eq, decide_eq_false_iff_not] at c71); omega) | (refine (if_neg ?_ : f1 B u j = 0).symm; (try simp only [decide_eq_true_eq, decide_eq_false_iff_not] at c5); (try simp only [decide_eq_true_eq, decide_eq_false_iff_not] at c21); (try simp only [decide_eq_true_eq, decide_eq_false_iff_not] at c32); (try simp only [decide_eq_true_eq, decide_eq_false_iff_not] at c43); (try simp only [decide_eq_true_eq, decide_eq_false_iff_not] at c60); (try simp only [decide_eq_true_eq, decide_eq_false_iff_not] at c71); omega))
  · refine v_iconst (v := nI 1) F dX5_faultsAt_8 (by decide) ?_
    refine v_goto F 13 dX5_faultsAt_9 (by decide) ?_
    refine v_istore_n F dX5_faultsAt_13 (Nat.le_of_ble_eq_true rfl) (ok2_d rfl) ?_
    exact j14 _ (by first | (refine (if_pos ?_ : f1 B u j = 1).symm; (try simp only [decide_eq_true_eq, decide_eq_false_iff_not] at c5); (try simp only [decide_eq_true_eq, decide_eq_false_iff_not] at c21); (try simp only [decide_eq_true_eq, decide_eq_false_iff_not] at c32); (try simp only [decide_eq_true_eq, decide_eq_false_iff_not] at c43); (try simp only [decide_eq_true_eq, decide_eq_false_iff_not] at c60); (try simp only [decide_eq_true_eq, decide_eq_false_iff_not] at c71); omega) | (refine (if_neg ?_ : f1 B u j = 0).symm; (try simp only [decide_eq_true_eq, decide_eq_false_iff_not] at c5); (try simp only [decide_eq_true_eq, decide_eq_false_iff_not] at c21); (try simp only [decide_eq_true_eq, decide_eq_false_iff_not] at c32); (try simp only [decide_eq_true_eq, decide_eq_false_iff_not] at c43); (try simp only [decide_eq_true_eq, decide_eq_false_iff_not] at c60); (try simp only [decide_eq_true_eq, decide_eq_false_iff_not] at c71); omega))
def rmX5_faults : Room := { frames := 5, cells := 0, slots := 0, locals := 120 }
theorem hd_X5_faults : yX5_faults.cls = (RX5, TX5, 21).1 ∧ yX5_faults.cls ≠ "java/lang/invoke/MethodHandle" ∧ yX5_faults.cls ≠ "java/lang/invoke/VarHandle" ∧ (parseMethodDescriptor yX5_faults.desc).map (fun d => d.parameters.length) = some 1 := by decide +kernel
set_option maxHeartbeats 4000000 in
set_option maxRecDepth 100000 in
theorem c_Mfaults {l : Launch} {ω : Om} {M : MM} {Y : Nat → Nat} {B P : FF} {n k t : Nat} (hS : MS ω Y B P n k t M) {W : Nat → Prop} (hWf : ∀ f, W (Y f)) {j : Nat} (hj : j < n) (hg : B j 8 = 0) (hp : B j 0 < 5) (hK : Ok B n (B j 0)) {q : Nat} (hq : q < (ordF B n (B j 0)).length) (hpl : plR (ordF B n (B j 0)) j (ordF B n (B j 0)).length = q + 1) (hd : ∀ a b, a < (ordF B n (B j 0)).length → b < (ordF B n (B j 0)).length → (ordF B n (B j 0)).getD a 0 = (ordF B n (B j 0)).getD b 0 → a = b) : Ct l ω yX5_faults wsX5_faults rmX5_faults [.ref (Y 0), .int (nI j)] M (fun v M9 => v = some (.int (nI (ftA B (ordF B n (B j 0)) q))) ∧ MS ω Y B P n k 0 M9 ∧ Fr W M M9) 0 0 := by
  refine Ct.ofV (cc := cX5_faults) (maxL := 2) (ret := (some .int)) [some (.ref (Y 0)), some (.int (nI j))] (by decide) rfl (Nat.le_of_ble_eq_true rfl) rfl (Lc.av (av := [.ref (Y 0), .int (nI j)]) (k := 0) rfl) ?_
  intro σ F hl hr hname
  have F : Fx ω σ cX5_faults 2 wsX5_faults RX5 rmX5_faults := F
  obtain ⟨C, T, hI, hT0, hT10, hT20, hCB, hCP, h9, h13, hB, hk, hWP⟩ := hS
  have hn : n ≤ 24 := hB.1
  have hW : ∀ i j, B i j < 128 := hB.2.1
  obtain ⟨hFn, hox, ρ, hρ0, hρ⟩ := id hK
  have hoB : ∀ x, x ∈ ordF B n (B j 0) → x < 128 := fun x hx => by have := hox x hx; omega
  have ho24 := hFn.2.2.2.2
  refine v_aload_n F dX5_faults_0 rfl rfl ?_
  refine v_aload_n F dX5_faults_1 rfl rfl ?_
  refine v_iload_n F dX5_faults_2 rfl ?_
  refine v_callV F 1 [_] rfl rfl rfl (c_isBox_in hI hT0 hCB hB hj) gX5_faults_X5_isBox rfl hd_X5_isBox ⟨⟨rfl, rfl⟩, ⟨(Nat.le_of_ble_eq_true rfl), (Nat.le_of_ble_eq_true rfl)⟩, ⟨(Nat.le_of_ble_eq_true rfl), (Nat.le_of_ble_eq_true rfl)⟩, (Nat.le_of_ble_eq_true rfl)⟩ hI.x rfl dX5_faults_3 (fun v3 M3 q3 => ?_)
  obtain ⟨rfl, e3⟩ := q3
  replace e3 := e3.symm
  subst e3
  refine v_iconst (v := nI 1) F dX5_faults_6 (by decide) ?_
  refine V.toI (show nI 1 = bI true from rfl) ?_
  refine v_iconst (v := nI 1) F dX5_faults_7 (by decide) ?_
  refine V.toI (show nI 1 = bI true from rfl) ?_
  refine v_callV F 3 [_, _, _] rfl rfl rfl (c_X5_goes hI hWf) gX5_faults_X5_goes rfl hd_X5_goes ⟨⟨rfl, rfl⟩, ⟨(Nat.le_of_ble_eq_true rfl), (Nat.le_of_ble_eq_true rfl)⟩, ⟨(Nat.le_of_ble_eq_true rfl), (Nat.le_of_ble_eq_true rfl)⟩, (Nat.le_of_ble_eq_true rfl)⟩ hI.x rfl dX5_faults_8 (fun v8 M8 q8 => ?_)
  obtain ⟨rfl, hI1, hF1⟩ := q8
  rw [show thr (decide (B j 8 = 0)) true true = 0 by simp [thr, hg]] at hI1
  refine v_if_eq_b F 26 dX5_faults_11 (by decide) (fun c11 => ?_) (fun c11 => ?_)
  · exact absurd c11 (by simp [hg])
  · refine v_aload_n F dX5_faults_14 rfl rfl ?_
    refine v_aload_n F dX5_faults_15 rfl rfl ?_
    refine v_iload_n F dX5_faults_16 rfl ?_
    refine v_callV F 1 [_] rfl rfl rfl (c_place hI1 ((uT_n (by decide)).trans hT0) hCB hB hWf ρ hρ0 hρ hj hp hFn hoB) gX5_faults_X5_place rfl hd_X5_place ⟨⟨rfl, rfl⟩, ⟨(Nat.le_of_ble_eq_true rfl), (Nat.le_of_ble_eq_true rfl)⟩, ⟨(Nat.le_of_ble_eq_true rfl), (Nat.le_of_ble_eq_true rfl)⟩, (Nat.le_of_ble_eq_true rfl)⟩ hI1.x rfl dX5_faults_17 (fun v17 M17 q17 => ?_)
    obtain ⟨rfl, C9, T9, hI9, hF9, hs9, hl9, hp9⟩ := q17
    have hCB9 := hCB.sm hs9.b
    refine V.toI (show oI (plR (ordF B n (B j 0)) j (ordF B n (B j 0)).length) = nI q by rw [hpl]; rfl) ?_
    refine v_callV F 1 [_] rfl rfl rfl (c_MfaultsAt hI9 ((hs9.2 0 (by decide) (by decide)).trans ((uT_n (by decide)).trans hT0)) hCB9 hB hl9 hp9 ho24 hox hd hq) gX5_faults_X5_faultsAt rfl hd_X5_faultsAt ⟨⟨rfl, rfl⟩, ⟨(Nat.le_of_ble_eq_true rfl), (Nat.le_of_ble_eq_true rfl)⟩, ⟨(Nat.le_of_ble_eq_true rfl), (Nat.le_of_ble_eq_true rfl)⟩, (Nat.le_of_ble_eq_true rfl)⟩ hI9.x rfl dX5_faults_20 (fun v20 M20 q20 => ?_)
    obtain ⟨rfl, e20⟩ := q20
    replace e20 := e20.symm
    subst e20
    refine v_goto F 27 dX5_faults_23 (by decide) ?_
    exact v_iret F hr dX5_faults_27 (Nat.le_of_ble_eq_true rfl) (Nat.le_of_ble_eq_true rfl) ⟨rfl, MS.q (t0 := 0) hI9 hs9 hT0 hT10 hCB hCP h9 h13 hB hk hWP, hF1.tr hF9⟩
set_option maxHeartbeats 4000000 in
set_option maxRecDepth 100000 in
theorem c_Mfaults_gone {l : Launch} {ω : Om} {M : MM} {Y : Nat → Nat} {B P : FF} {n k t : Nat} (hS : MS ω Y B P n k t M) {W : Nat → Prop} (hWf : ∀ f, W (Y f)) {j : Nat} (hj : j < n) (hg : B j 8 ≠ 0) : Ct l ω yX5_faults wsX5_faults rmX5_faults [.ref (Y 0), .int (nI j)] M (fun v M9 => v = some (.int (nI 0)) ∧ MS ω Y B P n k 1 M9 ∧ Fr W M M9) 0 0 := by
  refine Ct.ofV (cc := cX5_faults) (maxL := 2) (ret := (some .int)) [some (.ref (Y 0)), some (.int (nI j))] (by decide) rfl (Nat.le_of_ble_eq_true rfl) rfl (Lc.av (av := [.ref (Y 0), .int (nI j)]) (k := 0) rfl) ?_
  intro σ F hl hr hname
  have F : Fx ω σ cX5_faults 2 wsX5_faults RX5 rmX5_faults := F
  obtain ⟨C, T, hI, hT0, hT10, hT20, hCB, hCP, h9, h13, hB, hk, hWP⟩ := hS
  have hn : n ≤ 24 := hB.1
  have hW : ∀ i j, B i j < 128 := hB.2.1
  refine v_aload_n F dX5_faults_0 rfl rfl ?_
  refine v_aload_n F dX5_faults_1 rfl rfl ?_
  refine v_iload_n F dX5_faults_2 rfl ?_
  refine v_callV F 1 [_] rfl rfl rfl (c_isBox_in hI hT0 hCB hB hj) gX5_faults_X5_isBox rfl hd_X5_isBox ⟨⟨rfl, rfl⟩, ⟨(Nat.le_of_ble_eq_true rfl), (Nat.le_of_ble_eq_true rfl)⟩, ⟨(Nat.le_of_ble_eq_true rfl), (Nat.le_of_ble_eq_true rfl)⟩, (Nat.le_of_ble_eq_true rfl)⟩ hI.x rfl dX5_faults_3 (fun v3 M3 q3 => ?_)
  obtain ⟨rfl, e3⟩ := q3
  replace e3 := e3.symm
  subst e3
  refine v_iconst (v := nI 1) F dX5_faults_6 (by decide) ?_
  refine V.toI (show nI 1 = bI true from rfl) ?_
  refine v_iconst (v := nI 1) F dX5_faults_7 (by decide) ?_
  refine V.toI (show nI 1 = bI true from rfl) ?_
  refine v_callV F 3 [_, _, _] rfl rfl rfl (c_X5_goes hI hWf) gX5_faults_X5_goes rfl hd_X5_goes ⟨⟨rfl, rfl⟩, ⟨(Nat.le_of_ble_eq_true rfl), (Nat.le_of_ble_eq_true rfl)⟩, ⟨(Nat.le_of_ble_eq_true rfl), (Nat.le_of_ble_eq_true rfl)⟩, (Nat.le_of_ble_eq_true rfl)⟩ hI.x rfl dX5_faults_8 (fun v8 M8 q8 => ?_)
  obtain ⟨rfl, hI1, hF1⟩ := q8
  rw [show thr (decide (B j 8 = 0)) true true = 1 by simp [thr, hg]] at hI1
  refine v_if_eq_b F 26 dX5_faults_11 (by decide) (fun c11 => ?_) (fun c11 => ?_)
  · refine v_iconst (v := nI 0) F dX5_faults_26 (by decide) ?_
    exact v_iret F hr dX5_faults_27 (Nat.le_of_ble_eq_true rfl) (Nat.le_of_ble_eq_true rfl) ⟨rfl, MS.q (t0 := 0) hI1 Sm2.rf hT0 hT10 hCB hCP h9 h13 hB hk hWP, hF1⟩
  · exact absurd c11 (by simp [hg])
set_option maxHeartbeats 4000000 in
set_option maxRecDepth 100000 in
theorem c_Mfaults_out {l : Launch} {ω : Om} {M : MM} {Y : Nat → Nat} {B P : FF} {n k t : Nat} (hS : MS ω Y B P n k t M) {W : Nat → Prop} (hWf : ∀ f, W (Y f)) {j : Int32} (hj : j < 0 ∨ nI n ≤ j) : Ct l ω yX5_faults wsX5_faults rmX5_faults [.ref (Y 0), .int j] M (fun v M9 => v = some (.int (nI 0)) ∧ MS ω Y B P n k 1 M9 ∧ Fr W M M9) 0 0 := by
  refine Ct.ofV (cc := cX5_faults) (maxL := 2) (ret := (some .int)) [some (.ref (Y 0)), some (.int j)] (by decide) rfl (Nat.le_of_ble_eq_true rfl) rfl (Lc.av (av := [.ref (Y 0), .int j]) (k := 0) rfl) ?_
  intro σ F hl hr hname
  have F : Fx ω σ cX5_faults 2 wsX5_faults RX5 rmX5_faults := F
  obtain ⟨C, T, hI, hT0, hT10, hT20, hCB, hCP, h9, h13, hB, hk, hWP⟩ := hS
  have hn : n ≤ 24 := hB.1
  have hW : ∀ i j, B i j < 128 := hB.2.1
  refine v_aload_n F dX5_faults_0 rfl rfl ?_
  refine v_aload_n F dX5_faults_1 rfl rfl ?_
  refine v_iload_n F dX5_faults_2 rfl ?_
  refine v_callV F 1 [_] rfl rfl rfl (c_isBox_out hI hT0 hCB hB hj) gX5_faults_X5_isBox rfl hd_X5_isBox ⟨⟨rfl, rfl⟩, ⟨(Nat.le_of_ble_eq_true rfl), (Nat.le_of_ble_eq_true rfl)⟩, ⟨(Nat.le_of_ble_eq_true rfl), (Nat.le_of_ble_eq_true rfl)⟩, (Nat.le_of_ble_eq_true rfl)⟩ hI.x rfl dX5_faults_3 (fun v3 M3 q3 => ?_)
  obtain ⟨rfl, e3⟩ := q3
  replace e3 := e3.symm
  subst e3
  refine v_iconst (v := nI 1) F dX5_faults_6 (by decide) ?_
  refine V.toI (show nI 1 = bI true from rfl) ?_
  refine v_iconst (v := nI 1) F dX5_faults_7 (by decide) ?_
  refine V.toI (show nI 1 = bI true from rfl) ?_
  refine v_callV F 3 [_, _, _] rfl rfl rfl (c_X5_goes hI hWf) gX5_faults_X5_goes rfl hd_X5_goes ⟨⟨rfl, rfl⟩, ⟨(Nat.le_of_ble_eq_true rfl), (Nat.le_of_ble_eq_true rfl)⟩, ⟨(Nat.le_of_ble_eq_true rfl), (Nat.le_of_ble_eq_true rfl)⟩, (Nat.le_of_ble_eq_true rfl)⟩ hI.x rfl dX5_faults_8 (fun v8 M8 q8 => ?_)
  obtain ⟨rfl, hI1, hF1⟩ := q8
  refine v_if_eq_b F 26 dX5_faults_11 (by decide) (fun c11 => ?_) (fun c11 => ?_)
  · refine v_iconst (v := nI 0) F dX5_faults_26 (by decide) ?_
    exact v_iret F hr dX5_faults_27 (Nat.le_of_ble_eq_true rfl) (Nat.le_of_ble_eq_true rfl) ⟨rfl, MS.q (t0 := 0) hI1 Sm2.rf hT0 hT10 hCB hCP h9 h13 hB hk hWP, hF1⟩
  · exact absurd c11 (by decide)
def rmX5_faulty : Room := { frames := 4, cells := 0, slots := 0, locals := 97 }
theorem hd_X5_faulty : yX5_faulty.cls = (RX5, TX5, 21).1 ∧ yX5_faulty.cls ≠ "java/lang/invoke/MethodHandle" ∧ yX5_faulty.cls ≠ "java/lang/invoke/VarHandle" ∧ (parseMethodDescriptor yX5_faulty.desc).map (fun d => d.parameters.length) = some 1 := by decide +kernel
theorem fo_X5_faulty_82 : FO wsX5_faulty RX5 82 5 14 := ⟨_, _, _, rfl, by decide, by decide +kernel, by decide +kernel⟩
set_option maxHeartbeats 4000000 in
set_option maxRecDepth 100000 in
theorem c_Mfaulty {l : Launch} {ω : Om} {M : MM} {Y : Nat → Nat} {B P : FF} {n k t : Nat} (hS : MS ω Y B P n k t M) {W : Nat → Prop} (hWf : ∀ f, W (Y f)) {p : Nat} (hp : p < 5) (hK : Ok B n p) (hd : ∀ a b, a < (ordF B n p).length → b < (ordF B n p).length → (ordF B n p).getD a 0 = (ordF B n p).getD b 0 → a = b) : Ct l ω yX5_faulty wsX5_faulty rmX5_faulty [.ref (Y 0), .int (nI p)] M (fun v M9 => v = some (.int (nI (fyF B (ordF B n p) (ordF B n p).length))) ∧ MS ω Y B P n k 0 M9 ∧ Fr W M M9) 0 0 := by
  refine Ct.ofV (cc := cX5_faulty) (maxL := 4) (ret := (some .int)) [some (.ref (Y 0)), some (.int (nI p)), none, none] (by decide) rfl (Nat.le_of_ble_eq_true rfl) rfl (Lc.av (av := [.ref (Y 0), .int (nI p)]) (k := 2) rfl) ?_
  intro σ F hl hr hname
  have F : Fx ω σ cX5_faulty 4 wsX5_faulty RX5 rmX5_faulty := F
  obtain ⟨C, T, hI, hT0, hT10, hT20, hCB, hCP, h9, h13, hB, hk, hWP⟩ := hS
  have hn : n ≤ 24 := hB.1
  have hW : ∀ i j, B i j < 128 := hB.2.1
  obtain ⟨hFn, hox, ρ, hρ0, hρ⟩ := id hK
  have hoB : ∀ x, x ∈ ordF B n p → x < 128 := fun x hx => by have := hox x hx; omega
  have ho24 := hFn.2.2.2.2
  refine v_aload_n F dX5_faulty_0 rfl rfl ?_
  refine v_iload_n F dX5_faulty_1 rfl ?_
  refine v_callS F 1 [_] rfl rfl rfl (c_isPage_t hp) gX5_faulty_X5_isPage rfl hd_X5_isPage ⟨⟨rfl, rfl⟩, ⟨(Nat.le_of_ble_eq_true rfl), (Nat.le_of_ble_eq_true rfl)⟩, ⟨(Nat.le_of_ble_eq_true rfl), (Nat.le_of_ble_eq_true rfl)⟩, (Nat.le_of_ble_eq_true rfl)⟩ dX5_faulty_2 (fun v2 M2 q2 => ?_)
  obtain ⟨rfl, e2⟩ := q2
  replace e2 := e2.symm
  subst e2
  refine v_iconst (v := nI 1) F dX5_faulty_5 (by decide) ?_
  refine V.toI (show nI 1 = bI true from rfl) ?_
  refine v_iconst (v := nI 1) F dX5_faulty_6 (by decide) ?_
  refine V.toI (show nI 1 = bI true from rfl) ?_
  refine v_callV F 3 [_, _, _] rfl rfl rfl (c_X5_goes hI hWf) gX5_faulty_X5_goes rfl hd_X5_goes ⟨⟨rfl, rfl⟩, ⟨(Nat.le_of_ble_eq_true rfl), (Nat.le_of_ble_eq_true rfl)⟩, ⟨(Nat.le_of_ble_eq_true rfl), (Nat.le_of_ble_eq_true rfl)⟩, (Nat.le_of_ble_eq_true rfl)⟩ hI.x rfl dX5_faulty_7 (fun v7 M7 q7 => ?_)
  obtain ⟨rfl, hI1, hF1⟩ := q7
  refine v_if_ne_b F 15 dX5_faulty_10 (by decide) (fun c10 => ?_) (fun c10 => ?_)
  · refine v_aload_n F dX5_faulty_15 rfl rfl ?_
    refine v_iload_n F dX5_faulty_16 rfl ?_
    refine v_callV F 1 [_] rfl rfl rfl (c_finds hI1 ((uT_n (by decide)).trans hT0) hCB hB hWf ρ hρ0 hρ hp hFn) gX5_faulty_X5_finds rfl hd_X5_finds ⟨⟨rfl, rfl⟩, ⟨(Nat.le_of_ble_eq_true rfl), (Nat.le_of_ble_eq_true rfl)⟩, ⟨(Nat.le_of_ble_eq_true rfl), (Nat.le_of_ble_eq_true rfl)⟩, (Nat.le_of_ble_eq_true rfl)⟩ hI1.x rfl dX5_faulty_17 (fun v17 M17 q17 => ?_)
    obtain ⟨rfl, C9, T9, hI9, hF9, hs9, hl9, hp9⟩ := q17
    have hCB9 := hCB.sm hs9.b
    refine v_iconst (v := nI 0) F dX5_faulty_20 (by decide) ?_
    refine v_istore_n F dX5_faulty_21 (Nat.le_of_ble_eq_true rfl) (ok2_d rfl) ?_
    refine v_iconst (v := nI 0) F dX5_faulty_22 (by decide) ?_
    refine v_istore_n F dX5_faulty_23 (Nat.le_of_ble_eq_true rfl) (ok2_d rfl) ?_
    have lp : ∀ i, i ≤ (ordF B n p).length → ∀ c, c = fyF B (ordF B n p) i → V ω σ M17 [some (.ref (Y 0)), some (.int (nI p)), some (.int (nI c)), some (.int (nI i))] 0 0 (BQ ω σ (fun v M9 => v = some (.int (nI (fyF B (ordF B n p) (ordF B n p).length))) ∧ MS ω Y B P n k 0 M9 ∧ Fr W M M9) 0 0) 24 [] := by
      refine loop_up (ordF B n p).length _ (fun i hi ih => ?_)
      intro c hc
      refine v_iload_n F dX5_faulty_24 rfl ?_
      refine v_aload_n F dX5_faulty_25 rfl rfl ?_
      refine v_get F 5 14 fo_X5_faulty_82 dX5_faulty_26 hI9.x rfl ?_
      refine V.toI (show nI (T9 14) = nI (ordF B n p).length by rw [hl9]) ?_
      refine v_icmp_ge_n F 54 dX5_faulty_29 (by decide) (by first | omega | (have := fyF_le B (ordF B n p) i; omega) | exact Nat.lt_trans (ftA_lt _ _ _) (by decide)) (by first | omega | (have := fyF_le B (ordF B n p) i; omega) | exact Nat.lt_trans (ftA_lt _ _ _) (by decide)) (fun c29 => ?_) (fun c29 => ?_)
      · refine v_iload_n F dX5_faulty_54 rfl ?_
        exact v_iret F hr dX5_faulty_55 (Nat.le_of_ble_eq_true rfl) (Nat.le_of_ble_eq_true rfl) ⟨by rw [hc, show i = (ordF B n p).length by omega], MS.q (t0 := 0) hI9 hs9 hT0 hT10 hCB hCP h9 h13 hB hk hWP, hF1.tr hF9⟩
      · refine v_iload_n F dX5_faulty_32 rfl ?_
        refine v_aload_n F dX5_faulty_33 rfl rfl ?_
        refine v_iload_n F dX5_faulty_34 rfl ?_
        refine v_callV F 1 [_] rfl rfl rfl (c_MfaultsAt hI9 ((hs9.2 0 (by decide) (by decide)).trans ((uT_n (by decide)).trans hT0)) hCB9 hB hl9 hp9 ho24 hox hd (j := i) (by omega)) gX5_faulty_X5_faultsAt rfl hd_X5_faultsAt ⟨⟨rfl, rfl⟩, ⟨(Nat.le_of_ble_eq_true rfl), (Nat.le_of_ble_eq_true rfl)⟩, ⟨(Nat.le_of_ble_eq_true rfl), (Nat.le_of_ble_eq_true rfl)⟩, (Nat.le_of_ble_eq_true rfl)⟩ hI9.x rfl dX5_faulty_35 (fun v35 M35 q35 => ?_)
        obtain ⟨rfl, e35⟩ := q35
        replace e35 := e35.symm
        subst e35
        refine v_if_le_n F 45 dX5_faulty_38 (by decide) (by first | omega | (have := fyF_le B (ordF B n p) i; omega) | exact Nat.lt_trans (ftA_lt _ _ _) (by decide)) (fun c38 => ?_) (fun c38 => ?_)
        · refine v_iconst (v := nI 0) F dX5_faulty_45 (by decide) ?_
          refine v_iadd_n F dX5_faulty_46 ?_
          refine v_istore_n F dX5_faulty_47 (Nat.le_of_ble_eq_true rfl) (ok2_d rfl) ?_
          refine v_iinc1 F dX5_faulty_48 rfl (ok2_d rfl) ?_
          refine v_goto F 24 dX5_faulty_51 (by decide) ?_
          first | exact ih (by omega) _ (by unfold fyF; rw [fl_s, if_pos (by omega), ← fyF, ← hc]) | exact ih (by omega) _ (by unfold fyF; rw [fl_s, if_neg (by omega), ← fyF, ← hc, Nat.add_zero])
        · refine v_iconst (v := nI 1) F dX5_faulty_41 (by decide) ?_
          refine v_goto F 46 dX5_faulty_42 (by decide) ?_
          refine v_iadd_n F dX5_faulty_46 ?_
          refine v_istore_n F dX5_faulty_47 (Nat.le_of_ble_eq_true rfl) (ok2_d rfl) ?_
          refine v_iinc1 F dX5_faulty_48 rfl (ok2_d rfl) ?_
          refine v_goto F 24 dX5_faulty_51 (by decide) ?_
          first | exact ih (by omega) _ (by unfold fyF; rw [fl_s, if_pos (by omega), ← fyF, ← hc]) | exact ih (by omega) _ (by unfold fyF; rw [fl_s, if_neg (by omega), ← fyF, ← hc, Nat.add_zero])
    exact lp 0 (Nat.zero_le _) 0 rfl
  · exact absurd c10 (by decide)
set_option maxHeartbeats 4000000 in
set_option maxRecDepth 100000 in
theorem c_Mfaulty_x {l : Launch} {ω : Om} {M : MM} {Y : Nat → Nat} {B P : FF} {n k t : Nat} (hS : MS ω Y B P n k t M) {W : Nat → Prop} (hWf : ∀ f, W (Y f)) {y : Int32} (hy : y < 0 ∨ nI 5 ≤ y) : Ct l ω yX5_faulty wsX5_faulty rmX5_faulty [.ref (Y 0), .int y] M (fun v M9 => v = some (.int (nI 0)) ∧ MS ω Y B P n k 1 M9 ∧ Fr W M M9) 0 0 := by
  refine Ct.ofV (cc := cX5_faulty) (maxL := 4) (ret := (some .int)) [some (.ref (Y 0)), some (.int y), none, none] (by decide) rfl (Nat.le_of_ble_eq_true rfl) rfl (Lc.av (av := [.ref (Y 0), .int y]) (k := 2) rfl) ?_
  intro σ F hl hr hname
  have F : Fx ω σ cX5_faulty 4 wsX5_faulty RX5 rmX5_faulty := F
  obtain ⟨C, T, hI, hT0, hT10, hT20, hCB, hCP, h9, h13, hB, hk, hWP⟩ := hS
  have hn : n ≤ 24 := hB.1
  have hW : ∀ i j, B i j < 128 := hB.2.1
  refine v_aload_n F dX5_faulty_0 rfl rfl ?_
  refine v_iload_n F dX5_faulty_1 rfl ?_
  refine v_callS F 1 [_] rfl rfl rfl (c_isPage_f hy) gX5_faulty_X5_isPage rfl hd_X5_isPage ⟨⟨rfl, rfl⟩, ⟨(Nat.le_of_ble_eq_true rfl), (Nat.le_of_ble_eq_true rfl)⟩, ⟨(Nat.le_of_ble_eq_true rfl), (Nat.le_of_ble_eq_true rfl)⟩, (Nat.le_of_ble_eq_true rfl)⟩ dX5_faulty_2 (fun v2 M2 q2 => ?_)
  obtain ⟨rfl, e2⟩ := q2
  replace e2 := e2.symm
  subst e2
  refine v_iconst (v := nI 1) F dX5_faulty_5 (by decide) ?_
  refine V.toI (show nI 1 = bI true from rfl) ?_
  refine v_iconst (v := nI 1) F dX5_faulty_6 (by decide) ?_
  refine V.toI (show nI 1 = bI true from rfl) ?_
  refine v_callV F 3 [_, _, _] rfl rfl rfl (c_X5_goes hI hWf) gX5_faulty_X5_goes rfl hd_X5_goes ⟨⟨rfl, rfl⟩, ⟨(Nat.le_of_ble_eq_true rfl), (Nat.le_of_ble_eq_true rfl)⟩, ⟨(Nat.le_of_ble_eq_true rfl), (Nat.le_of_ble_eq_true rfl)⟩, (Nat.le_of_ble_eq_true rfl)⟩ hI.x rfl dX5_faulty_7 (fun v7 M7 q7 => ?_)
  obtain ⟨rfl, hI1, hF1⟩ := q7
  refine v_if_ne_b F 15 dX5_faulty_10 (by decide) (fun c10 => ?_) (fun c10 => ?_)
  · exact absurd c10 (by decide)
  · refine v_iconst (v := nI 0) F dX5_faulty_13 (by decide) ?_
    exact v_iret F hr dX5_faulty_14 (Nat.le_of_ble_eq_true rfl) (Nat.le_of_ble_eq_true rfl) ⟨rfl, MS.q (t0 := 0) hI1 Sm2.rf hT0 hT10 hCB hCP h9 h13 hB hk hWP, hF1⟩
