/-! the reference: the order of a page -/
theorem enb_ltn (B : FF) (c s : Nat) (ac : Bool) (n : Nat) : enb B c s ac n < 2 ^ n := by
  apply Nat.lt_pow_two_of_testBit
  intro i hi
  rw [enb_tb, decide_eq_false (by omega)]
  rfl
theorem cuo_ltn (B : FF) (n s : Nat) : cuo B n s < 2 ^ n := by
  unfold cuo
  split
  · split
    · exact Nat.two_pow_pos n
    · exact enb_ltn _ _ _ _ _
  · exact enb_ltn _ _ _ _ _
theorem bfn_ltn (B : FF) (p : Nat) : ∀ n, bfn B p n < 2 ^ n := by
  intro n
  induction n with
  | zero => exact Nat.one_pos
  | succ n ih =>
    have h1 : bfn B p n < 2 ^ (n + 1) := Nat.lt_of_lt_of_le ih (Nat.pow_le_pow_right (by decide) (by omega))
    have e : bfn B p (n + 1) = if B n 8 = 0 ∧ B n 0 = p ∧ B n 6 = 0 then bfn B p n ||| 2 ^ n else bfn B p n := rfl
    rw [e]
    split
    · exact or_lt h1 (by omega)
    · exact h1
/-- the pile is empty in time -/
def saE (B : FF) (n : Nat) : Nat → List Nat → Prop
  | _, [] => True
  | 0, _ :: _ => False
  | f + 1, s :: t => if cuo B n s = 0 then saE B n f t else saE B n f (cuo B n s :: nd s (cuo B n s) :: t)
theorem saE_1 {B : FF} {n f s : Nat} {t : List Nat} (h : cuo B n s = 0) (h2 : saE B n (f + 1) (s :: t)) : saE B n f t := by simpa [saE, h] using h2
theorem saE_2 {B : FF} {n f s : Nat} {t : List Nat} (h : cuo B n s ≠ 0) (h2 : saE B n (f + 1) (s :: t)) : saE B n f (cuo B n s :: nd s (cuo B n s) :: t) := by simpa [saE, h] using h2
/-- what finding the order of a page rests on -/
def Fnd (B : FF) (n p : Nat) : Prop := inP B n ∧ saO B n 48 [bfn B p n] ∧ saE B n 48 [bfn B p n] ∧ sa B n 48 [bfn B p n] = ordF B n p ∧ (ordF B n p).length ≤ 24
/-- .. only rows 15 and 19, numbers 14 and 18 -/
def Sm2 (C C' : Nat → Nat → Int32) (T T' : Nat → Nat) : Prop := (∀ f, f ≠ 15 → f ≠ 19 → C' f = C f) ∧ (∀ f, f ≠ 14 → f ≠ 18 → T' f = T f)
theorem Sm2.b {C C' : Nat → Nat → Int32} {T T' : Nat → Nat} (h : Sm2 C C' T T') : ∀ f, f ≠ 15 → f ≠ 17 → f ≠ 19 → C' f = C f := fun f h1 h2 h3 => h.1 f h1 h3
def rmX5_puts : Room := { frames := 0, cells := 0, slots := 0, locals := 0 }
theorem hd_X5_puts : yX5_puts.cls = (RX5, TX5, 21).1 ∧ yX5_puts.cls ≠ "java/lang/invoke/MethodHandle" ∧ yX5_puts.cls ≠ "java/lang/invoke/VarHandle" ∧ (parseMethodDescriptor yX5_puts.desc).map (fun d => d.parameters.length) = some 1 := by decide +kernel
theorem fo_X5_puts_53 : FO wsX5_puts RX5 53 5 19 := ⟨_, _, _, rfl, by decide, by decide +kernel, by decide +kernel⟩
theorem fo_X5_puts_92 : FO wsX5_puts RX5 92 5 18 := ⟨_, _, _, rfl, by decide, by decide +kernel, by decide +kernel⟩
theorem fp_X5_puts_92 : FP wsX5_puts RX5 92 5 18 .int := ⟨_, _, _, tyX5, rfl, by decide, by decide +kernel, by decide +kernel, tyX5_ok, nmX5, rfl, by decide +kernel⟩
set_option maxHeartbeats 4000000 in
set_option maxRecDepth 100000 in
theorem c_puts {l : Launch} {ω : Om} {M : MM} {Y : Nat → Nat} {C : Nat → Nat → Int32} {T : Nat → Nat} (hI : MI ω Y C T M) {W : Nat → Prop} (hWf : ∀ f, W (Y f)) {a s : Nat} (ha : T 18 = a) (hlt : a < 25) : Ct l ω yX5_puts wsX5_puts rmX5_puts [.ref (Y 0), .int (nI s)] M (fun v M9 => v = none ∧ MI ω Y (uC C 19 (upd (C 19) a (nI s))) (uT T 18 (a + 1)) M9 ∧ Fr W M M9) 0 0 := by
  refine Ct.ofV (cc := cX5_puts) (maxL := 2) (ret := none) [some (.ref (Y 0)), some (.int (nI s))] (by decide) rfl (Nat.le_of_ble_eq_true rfl) rfl (Lc.av (av := [.ref (Y 0), .int (nI s)]) (k := 0) rfl) ?_
  intro σ F hl hr hname
  have F : Fx ω σ cX5_puts 2 wsX5_puts RX5 rmX5_puts := F
  refine v_aload_n F dX5_puts_0 rfl rfl ?_
  refine v_get F 5 19 fo_X5_puts_53 dX5_puts_1 hI.x rfl ?_
  refine v_aload_n F dX5_puts_4 rfl rfl ?_
  refine v_get F 5 18 fo_X5_puts_92 dX5_puts_5 hI.x rfl ?_
  refine V.toI (show nI (T 18) = nI a by rw [ha]) ?_
  refine v_iload_n F dX5_puts_8 rfl ?_
  refine v_iast_n F dX5_puts_9 (hI.r (f := 19) (sz := 25) (bl := 0) (by simp [isRow]) (by decide) (by decide)) (by first | omega | exact Nat.lt_trans (hW _ _) (by decide)) (by decide) ?_
  have hI2 := hI.setC (f := 19) (sz := 25) (bl := 0) (by simp [isRow]) (by decide) (by decide) (upd (C 19) a (nI s))
  refine v_aload_n F dX5_puts_10 rfl rfl ?_
  refine v_dup F dX5_puts_11 rfl ?_
  refine v_get F 5 18 fo_X5_puts_92 dX5_puts_12 hI2.x rfl ?_
  refine V.toI (show nI (T 18) = nI a by rw [ha]) ?_
  refine v_iconst (v := nI 1) F dX5_puts_15 (by decide) ?_
  refine v_iadd_n F dX5_puts_16 ?_
  refine v_put F 5 18 fp_X5_puts_92 dX5_puts_17 hI2.x rfl rfl (Nat.le_of_ble_eq_true rfl) ?_
  exact v_vret F hr dX5_puts_20 (Nat.le_of_ble_eq_true rfl) (Nat.le_of_ble_eq_true rfl) ⟨rfl, hI2.setT (f := 18) (v := a + 1) rfl, (Fr.rf.up (hWf 19)).up (hWf 0)⟩
def rmX5_finds : Room := { frames := 3, cells := 0, slots := 0, locals := 73 }
theorem hd_X5_finds : yX5_finds.cls = (RX5, TX5, 21).1 ∧ yX5_finds.cls ≠ "java/lang/invoke/MethodHandle" ∧ yX5_finds.cls ≠ "java/lang/invoke/VarHandle" ∧ (parseMethodDescriptor yX5_finds.desc).map (fun d => d.parameters.length) = some 1 := by decide +kernel
theorem fo_X5_finds_7 : FO wsX5_finds RX5 7 5 1 := ⟨_, _, _, rfl, by decide, by decide +kernel, by decide +kernel⟩
theorem fo_X5_finds_28 : FO wsX5_finds RX5 28 5 7 := ⟨_, _, _, rfl, by decide, by decide +kernel, by decide +kernel⟩
theorem fo_X5_finds_34 : FO wsX5_finds RX5 34 5 9 := ⟨_, _, _, rfl, by decide, by decide +kernel, by decide +kernel⟩
theorem fo_X5_finds_53 : FO wsX5_finds RX5 53 5 19 := ⟨_, _, _, rfl, by decide, by decide +kernel, by decide +kernel⟩
theorem fo_X5_finds_64 : FO wsX5_finds RX5 64 5 0 := ⟨_, _, _, rfl, by decide, by decide +kernel, by decide +kernel⟩
theorem fo_X5_finds_92 : FO wsX5_finds RX5 92 5 18 := ⟨_, _, _, rfl, by decide, by decide +kernel, by decide +kernel⟩
theorem fp_X5_finds_82 : FP wsX5_finds RX5 82 5 14 .int := ⟨_, _, _, tyX5, rfl, by decide, by decide +kernel, by decide +kernel, tyX5_ok, nmX5, rfl, by decide +kernel⟩
theorem fp_X5_finds_92 : FP wsX5_finds RX5 92 5 18 .int := ⟨_, _, _, tyX5, rfl, by decide, by decide +kernel, by decide +kernel, tyX5_ok, nmX5, rfl, by decide +kernel⟩
set_option maxHeartbeats 4000000 in
set_option maxRecDepth 100000 in
theorem c_finds {l : Launch} {ω : Om} {M : MM} {Y : Nat → Nat} {C : Nat → Nat → Int32} {T : Nat → Nat} (hI : MI ω Y C T M) {B : FF} {n : Nat} (hT0 : T 0 = n) (hCB : CB C B n) (hB : WB B n) {W : Nat → Prop} (hWf : ∀ f, W (Y f)) (ρ : Nat → Nat) (hρ0 : ∀ i, ρ i < 24) (hρ : ∀ i y, i < n → B i 7 = y + 1 → ρ y < ρ i) {p : Nat} (hp : p < 5) (hFn : Fnd B n p) : Ct l ω yX5_finds wsX5_finds rmX5_finds [.ref (Y 0), .int (nI p)] M (fun v M9 => v = none ∧ ∃ C9 T9, MI ω Y C9 T9 M9 ∧ Fr W M M9 ∧ Sm2 C C9 T T9 ∧ T9 14 = (ordF B n p).length ∧ Pf (C9 15) (ordF B n p)) 0 0 := by
  refine Ct.ofV (cc := cX5_finds) (maxL := 5) (ret := none) [some (.ref (Y 0)), some (.int (nI p)), none, none, none] (by decide) rfl (Nat.le_of_ble_eq_true rfl) rfl (Lc.av (av := [.ref (Y 0), .int (nI p)]) (k := 3) rfl) ?_
  intro σ F hl hr hname
  have F : Fx ω σ cX5_finds 5 wsX5_finds RX5 rmX5_finds := F
  have hn : n ≤ 24 := hB.1
  have hW : ∀ i j, B i j < 128 := hB.2.1
  obtain ⟨hP, hsO, hsE, hsa, ho24⟩ := hFn
  refine v_iconst (v := nI 0) F dX5_finds_0 (by decide) ?_
  refine v_istore_n F dX5_finds_1 (Nat.le_of_ble_eq_true rfl) (ok2_d rfl) ?_
  refine v_iconst (v := nI 0) F dX5_finds_2 (by decide) ?_
  refine v_istore_n F dX5_finds_3 (Nat.le_of_ble_eq_true rfl) (ok2_d rfl) ?_
  have lp : ∀ i, i ≤ n → ∀ m w4, m = bfn B p i → V ω σ M [some (.ref (Y 0)), some (.int (nI p)), some (.int (nI m)), some (.int (nI i)), w4] 0 0 (BQ ω σ (fun v M9 => v = none ∧ ∃ C9 T9, MI ω Y C9 T9 M9 ∧ Fr W M M9 ∧ Sm2 C C9 T T9 ∧ T9 14 = (ordF B n p).length ∧ Pf (C9 15) (ordF B n p)) 0 0) 4 [] := by
    refine loop_up n _ (fun i hi ih => ?_)
    intro m w4 hm
    refine v_iload_n F dX5_finds_4 rfl ?_
    refine v_aload_n F dX5_finds_5 rfl rfl ?_
    refine v_get F 5 0 fo_X5_finds_64 dX5_finds_6 hI.x rfl ?_
    refine V.toI (show nI (T 0) = nI n by rw [hT0]) ?_
    refine v_icmp_ge_n F 57 dX5_finds_9 (by decide) (by first | omega | exact Nat.lt_trans (hW _ _) (by decide)) (by first | omega | exact Nat.lt_trans (hW _ _) (by decide)) (fun c9 => ?_) (fun c9 => ?_)
    · have hme : m = bfn B p n := by rw [hm, show i = n by omega]
      refine v_aload_n F dX5_finds_57 rfl rfl ?_
      refine v_iconst (v := nI 0) F dX5_finds_58 (by decide) ?_
      refine v_put F 5 14 fp_X5_finds_82 dX5_finds_59 hI.x rfl rfl (Nat.le_of_ble_eq_true rfl) ?_
      have hI3 := hI.setT (f := 14) (v := 0) rfl
      refine v_aload_n F dX5_finds_62 rfl rfl ?_
      refine v_iconst (v := nI 0) F dX5_finds_63 (by decide) ?_
      refine v_put F 5 18 fp_X5_finds_92 dX5_finds_64 hI3.x rfl rfl (Nat.le_of_ble_eq_true rfl) ?_
      have hI4 := hI3.setT (f := 18) (v := 0) rfl
      refine v_aload_n F dX5_finds_67 rfl rfl ?_
      refine v_iload_n F dX5_finds_68 rfl ?_
      refine v_callV F 1 [_] rfl rfl rfl (c_puts hI4 hWf uT_s (by decide)) gX5_finds_X5_puts rfl hd_X5_puts ⟨⟨rfl, rfl⟩, ⟨(Nat.le_of_ble_eq_true rfl), (Nat.le_of_ble_eq_true rfl)⟩, ⟨(Nat.le_of_ble_eq_true rfl), (Nat.le_of_ble_eq_true rfl)⟩, (Nat.le_of_ble_eq_true rfl)⟩ hI4.x rfl dX5_finds_69 (fun v69 M69 q69 => ?_)
      obtain ⟨rfl, hI5, hF5⟩ := q69
      subst hme
      have lp2 : ∀ f C2 T2 (l2 t2 : List Nat) M2 w3 w4, MI ω Y C2 T2 M2 → Fr W M M2 → Sm2 C C2 T T2 → T2 14 = l2.length → Pf (C2 15) l2 → T2 18 = t2.length → t2.length ≤ 24 → Pl (C2 19) t2 → (∀ q, q ∈ t2 → q < 2 ^ n) → saO B n f t2 → saE B n f t2 → l2 ++ sa B n f t2 = ordF B n p → V ω σ M2 [some (.ref (Y 0)), some (.int (nI p)), some (.int (nI (bfn B p n))), w3, w4] 0 0 (BQ ω σ (fun v M9 => v = none ∧ ∃ C9 T9, MI ω Y C9 T9 M9 ∧ Fr W M M9 ∧ Sm2 C C9 T T9 ∧ T9 14 = (ordF B n p).length ∧ Pf (C9 15) (ordF B n p)) 0 0) 72 [] := by
        refine loop_pr _ (fun f ih2 => ?_)
        intro C2 T2 l2 t2 M2 w3 w4 hI2 hF2 hs2 hl2 hp2 ht2 ht24 hP2 hq2 hso2 hse2 heq
        have hlen := congrArg List.length heq
        rw [List.length_append] at hlen
        rcases t2 with _ | ⟨s1, t2⟩
        rotate_left
        rcases (show ctm B n s1 true 79 ≠ 0 ∨ (ctm B n s1 true 79 = 0 ∧ ctm B n s1 false 79 ≠ 0) ∨ (ctm B n s1 true 79 = 0 ∧ ctm B n s1 false 79 = 0) by omega) with hc1 | hc1 | hc1
        · rw [List.length_cons] at ht24
          obtain ⟨f, rfl⟩ : ∃ q, f = q + 1 := by (cases f with | zero => exact hse2.elim | succ q => exact ⟨q, rfl⟩)
          have hs1 : s1 < 2 ^ n := hq2 s1 (List.mem_cons_self ..)
          have hs24 : s1 < 2 ^ 24 := Nat.lt_of_lt_of_le hs1 (Nat.pow_le_pow_right (by decide) hn)
          have hcu := cuo_eq hn hP hs1
          rw [if_neg hc1] at hcu
          have hc9 : cuo B n s1 ≠ 0 := by rw [hcu]; exact hc1
          have hcl : ctm B n s1 true 79 < 2 ^ n := by rw [← hcu]; exact cuo_ltn B n s1
          have hcl24 : ctm B n s1 true 79 < 2 ^ 24 := Nat.lt_of_lt_of_le hcl (Nat.pow_le_pow_right (by decide) hn)
          refine v_aload_n F dX5_finds_72 rfl rfl ?_
          refine v_get F 5 18 fo_X5_finds_92 dX5_finds_73 hI2.x rfl ?_
          refine V.toI (show nI (T2 18) = nI (t2.length + 1) by rw [ht2]; rfl) ?_
          refine v_if_le_n F 157 dX5_finds_76 (by decide) (by first | omega | exact Nat.lt_trans (hW _ _) (by decide)) (fun c76 => ?_) (fun c76 => ?_)
          · exact absurd c76 (by omega)
          · refine v_aload_n F dX5_finds_79 rfl rfl ?_
            refine v_dup F dX5_finds_80 rfl ?_
            refine v_get F 5 18 fo_X5_finds_92 dX5_finds_81 hI2.x rfl ?_
            refine V.toI (show nI (T2 18) = nI (t2.length + 1) by rw [ht2]; rfl) ?_
            refine v_iconst (v := nI 1) F dX5_finds_84 (by decide) ?_
            refine v_isub_n F dX5_finds_85 (by first | omega | exact Nat.lt_trans (hW _ _) (by decide)) ?_
            refine V.toI (show nI (t2.length + 1 - 1) = nI t2.length from rfl) ?_
            refine v_put F 5 18 fp_X5_finds_92 dX5_finds_86 hI2.x rfl rfl (Nat.le_of_ble_eq_true rfl) ?_
            have hI3 := hI2.setT (f := 18) (v := t2.length) rfl
            refine v_aload_n F dX5_finds_89 rfl rfl ?_
            refine v_get F 5 19 fo_X5_finds_53 dX5_finds_90 hI3.x rfl ?_
            refine v_aload_n F dX5_finds_93 rfl rfl ?_
            refine v_get F 5 18 fo_X5_finds_92 dX5_finds_94 hI3.x rfl ?_
            refine V.toI (show nI (uT T2 18 t2.length 18) = nI t2.length by rw [uT_s]) ?_
            refine v_iald_n F dX5_finds_97 (hI3.r (f := 19) (sz := 25) (bl := 0) (by simp [isRow]) (by decide) (by decide)) (by first | omega | exact Nat.lt_trans (hW _ _) (by decide)) (by decide) ?_
            refine V.toI (hP2.top) ?_
            refine v_istore_n F dX5_finds_98 (Nat.le_of_ble_eq_true rfl) (ok2_d rfl) ?_
            refine v_aload_n F dX5_finds_99 rfl rfl ?_
            refine v_iload_n F dX5_finds_100 rfl ?_
            refine v_iconst (v := nI 1) F dX5_finds_101 (by decide) ?_
            refine V.toI (show nI 1 = bI true from rfl) ?_
            refine v_callV F 2 [_, _] rfl rfl rfl (c_cut hI3 (by rw [uT_n (by decide), hs2.2 0 (by decide) (by decide), hT0]) (hCB.sm hs2.b) hB hs24) gX5_finds_X5_cut rfl hd_X5_cut ⟨⟨rfl, rfl⟩, ⟨(Nat.le_of_ble_eq_true rfl), (Nat.le_of_ble_eq_true rfl)⟩, ⟨(Nat.le_of_ble_eq_true rfl), (Nat.le_of_ble_eq_true rfl)⟩, (Nat.le_of_ble_eq_true rfl)⟩ hI3.x rfl dX5_finds_102 (fun v102 M102 q102 => ?_)
            obtain ⟨rfl, e102⟩ := q102
            replace e102 := e102.symm
            subst e102
            refine v_istore F dX5_finds_105 (Nat.le_of_ble_eq_true rfl) (ok2_d rfl) ?_
            refine v_iload F dX5_finds_107 rfl ?_
            refine v_if_ne_n F 121 dX5_finds_109 (by decide) (by first | omega | exact Nat.lt_trans (hW _ _) (by decide)) (fun c109 => ?_) (fun c109 => ?_)
            · refine v_iload F dX5_finds_121 rfl ?_
              refine v_istore F dX5_finds_123 (Nat.le_of_ble_eq_true rfl) (ok2_d rfl) ?_
              refine v_iload F dX5_finds_125 rfl ?_
              refine v_if_ne_n F 138 dX5_finds_127 (by decide) (by first | omega | exact Nat.lt_trans (hW _ _) (by decide)) (fun c127 => ?_) (fun c127 => ?_)
              · refine v_aload_n F dX5_finds_138 rfl rfl ?_
                refine v_iload_n F dX5_finds_139 rfl ?_
                refine v_iload F dX5_finds_140 rfl ?_
                refine v_iconst (v := (-1)) F dX5_finds_142 (by decide) ?_
                refine v_ixor F dX5_finds_143 ?_
                refine v_iand_nd F dX5_finds_144 ?_
                refine v_callV F 1 [_] rfl rfl rfl (c_puts hI3 hWf uT_s (by have := (saO_2 hc9 hso2).1; omega)) gX5_finds_X5_puts rfl hd_X5_puts ⟨⟨rfl, rfl⟩, ⟨(Nat.le_of_ble_eq_true rfl), (Nat.le_of_ble_eq_true rfl)⟩, ⟨(Nat.le_of_ble_eq_true rfl), (Nat.le_of_ble_eq_true rfl)⟩, (Nat.le_of_ble_eq_true rfl)⟩ hI3.x rfl dX5_finds_145 (fun v145 M145 q145 => ?_)
                obtain ⟨rfl, hI5, hF5⟩ := q145
                refine v_aload_n F dX5_finds_148 rfl rfl ?_
                refine v_iload F dX5_finds_149 rfl ?_
                refine v_callV F 1 [_] rfl rfl rfl (c_puts hI5 hWf uT_s (by have := (saO_2 hc9 hso2).1; omega)) gX5_finds_X5_puts rfl hd_X5_puts ⟨⟨rfl, rfl⟩, ⟨(Nat.le_of_ble_eq_true rfl), (Nat.le_of_ble_eq_true rfl)⟩, ⟨(Nat.le_of_ble_eq_true rfl), (Nat.le_of_ble_eq_true rfl)⟩, (Nat.le_of_ble_eq_true rfl)⟩ hI5.x rfl dX5_finds_151 (fun v151 M151 q151 => ?_)
                obtain ⟨rfl, hI6, hF6⟩ := q151
                refine v_goto F 72 dX5_finds_154 (by decide) ?_
                have h19 := (hP2.pop.push (x := nd s1 (ctm B n s1 true 79))).push (x := (ctm B n s1 true 79))
                rw [List.length_cons] at h19
                rw [show upd (upd (C2 19) t2.length (nI (nd s1 (ctm B n s1 true 79)))) (t2.length + 1) (nI (ctm B n s1 true 79)) = uC (uC C2 19 (upd (C2 19) t2.length (nI (nd s1 (ctm B n s1 true 79))))) 19 (upd (uC C2 19 (upd (C2 19) t2.length (nI (nd s1 (ctm B n s1 true 79)))) 19) (t2.length + 1) (nI (ctm B n s1 true 79))) 19 by rw [uC_s, uC_s]] at h19
                have h18 : uT (uT (uT T2 18 t2.length) 18 (t2.length + 1)) 18 (t2.length + 1 + 1) 18 = ((ctm B n s1 true 79) :: nd s1 (ctm B n s1 true 79) :: t2).length := by rw [uT_s, List.length_cons, List.length_cons]
                exact ih2 f rfl _ _ l2 ((ctm B n s1 true 79) :: nd s1 (ctm B n s1 true 79) :: t2) _ _ _ hI6 (((hF2.up (hWf 0)).tr hF5).tr hF6) ⟨fun q h1 h2 => by rw [uC_n h2, uC_n h2]; exact hs2.1 q h1 h2, fun q h1 h2 => by rw [uT_n h2, uT_n h2, uT_n h2]; exact hs2.2 q h1 h2⟩ (by rw [uT_n (by decide), uT_n (by decide), uT_n (by decide)]; exact hl2) (by rw [uC_n (by decide), uC_n (by decide)]; exact hp2) h18 (by have := (saO_2 hc9 hso2).1; exact this) h19 (fun q hq => (List.mem_cons.mp hq).elim (fun h => by rw [h]; exact hcl) (fun hq => (List.mem_cons.mp hq).elim (fun h => by rw [h]; exact nd_lt2 hs1) (fun hq => hq2 q (List.mem_cons_of_mem _ hq)))) (by have := (saO_2 hc9 hso2).2; rwa [hcu] at this) (by have := saE_2 hc9 hse2; rwa [hcu] at this) (by rw [← heq, sa_2 hc9, hcu])
              · exact absurd c127 hc1
            · exact absurd c109 hc1
        · rw [List.length_cons] at ht24
          obtain ⟨f, rfl⟩ : ∃ q, f = q + 1 := by (cases f with | zero => exact hse2.elim | succ q => exact ⟨q, rfl⟩)
          have hs1 : s1 < 2 ^ n := hq2 s1 (List.mem_cons_self ..)
          have hs24 : s1 < 2 ^ 24 := Nat.lt_of_lt_of_le hs1 (Nat.pow_le_pow_right (by decide) hn)
          have hcu := cuo_eq hn hP hs1
          rw [if_pos hc1.1] at hcu
          have hc9 : cuo B n s1 ≠ 0 := by rw [hcu]; exact hc1.2
          have hcl : ctm B n s1 false 79 < 2 ^ n := by rw [← hcu]; exact cuo_ltn B n s1
          have hcl24 : ctm B n s1 false 79 < 2 ^ 24 := Nat.lt_of_lt_of_le hcl (Nat.pow_le_pow_right (by decide) hn)
          refine v_aload_n F dX5_finds_72 rfl rfl ?_
          refine v_get F 5 18 fo_X5_finds_92 dX5_finds_73 hI2.x rfl ?_
          refine V.toI (show nI (T2 18) = nI (t2.length + 1) by rw [ht2]; rfl) ?_
          refine v_if_le_n F 157 dX5_finds_76 (by decide) (by first | omega | exact Nat.lt_trans (hW _ _) (by decide)) (fun c76 => ?_) (fun c76 => ?_)
          · exact absurd c76 (by omega)
          · refine v_aload_n F dX5_finds_79 rfl rfl ?_
            refine v_dup F dX5_finds_80 rfl ?_
            refine v_get F 5 18 fo_X5_finds_92 dX5_finds_81 hI2.x rfl ?_
            refine V.toI (show nI (T2 18) = nI (t2.length + 1) by rw [ht2]; rfl) ?_
            refine v_iconst (v := nI 1) F dX5_finds_84 (by decide) ?_
            refine v_isub_n F dX5_finds_85 (by first | omega | exact Nat.lt_trans (hW _ _) (by decide)) ?_
            refine V.toI (show nI (t2.length + 1 - 1) = nI t2.length from rfl) ?_
            refine v_put F 5 18 fp_X5_finds_92 dX5_finds_86 hI2.x rfl rfl (Nat.le_of_ble_eq_true rfl) ?_
            have hI3 := hI2.setT (f := 18) (v := t2.length) rfl
            refine v_aload_n F dX5_finds_89 rfl rfl ?_
            refine v_get F 5 19 fo_X5_finds_53 dX5_finds_90 hI3.x rfl ?_
            refine v_aload_n F dX5_finds_93 rfl rfl ?_
            refine v_get F 5 18 fo_X5_finds_92 dX5_finds_94 hI3.x rfl ?_
            refine V.toI (show nI (uT T2 18 t2.length 18) = nI t2.length by rw [uT_s]) ?_
            refine v_iald_n F dX5_finds_97 (hI3.r (f := 19) (sz := 25) (bl := 0) (by simp [isRow]) (by decide) (by decide)) (by first | omega | exact Nat.lt_trans (hW _ _) (by decide)) (by decide) ?_
            refine V.toI (hP2.top) ?_
            refine v_istore_n F dX5_finds_98 (Nat.le_of_ble_eq_true rfl) (ok2_d rfl) ?_
            refine v_aload_n F dX5_finds_99 rfl rfl ?_
            refine v_iload_n F dX5_finds_100 rfl ?_
            refine v_iconst (v := nI 1) F dX5_finds_101 (by decide) ?_
            refine V.toI (show nI 1 = bI true from rfl) ?_
            refine v_callV F 2 [_, _] rfl rfl rfl (c_cut hI3 (by rw [uT_n (by decide), hs2.2 0 (by decide) (by decide), hT0]) (hCB.sm hs2.b) hB hs24) gX5_finds_X5_cut rfl hd_X5_cut ⟨⟨rfl, rfl⟩, ⟨(Nat.le_of_ble_eq_true rfl), (Nat.le_of_ble_eq_true rfl)⟩, ⟨(Nat.le_of_ble_eq_true rfl), (Nat.le_of_ble_eq_true rfl)⟩, (Nat.le_of_ble_eq_true rfl)⟩ hI3.x rfl dX5_finds_102 (fun v102 M102 q102 => ?_)
            obtain ⟨rfl, e102⟩ := q102
            replace e102 := e102.symm
            subst e102
            refine v_istore F dX5_finds_105 (Nat.le_of_ble_eq_true rfl) (ok2_d rfl) ?_
            refine v_iload F dX5_finds_107 rfl ?_
            refine v_if_ne_n F 121 dX5_finds_109 (by decide) (by first | omega | exact Nat.lt_trans (hW _ _) (by decide)) (fun c109 => ?_) (fun c109 => ?_)
            · exact absurd hc1.1 c109
            · refine v_aload_n F dX5_finds_112 rfl rfl ?_
              refine v_iload_n F dX5_finds_113 rfl ?_
              refine v_iconst (v := nI 0) F dX5_finds_114 (by decide) ?_
              refine V.toI (show nI 0 = bI false from rfl) ?_
              refine v_callV F 2 [_, _] rfl rfl rfl (c_cut hI3 (by rw [uT_n (by decide), hs2.2 0 (by decide) (by decide), hT0]) (hCB.sm hs2.b) hB hs24) gX5_finds_X5_cut rfl hd_X5_cut ⟨⟨rfl, rfl⟩, ⟨(Nat.le_of_ble_eq_true rfl), (Nat.le_of_ble_eq_true rfl)⟩, ⟨(Nat.le_of_ble_eq_true rfl), (Nat.le_of_ble_eq_true rfl)⟩, (Nat.le_of_ble_eq_true rfl)⟩ hI3.x rfl dX5_finds_115 (fun v115 M115 q115 => ?_)
              obtain ⟨rfl, e115⟩ := q115
              replace e115 := e115.symm
              subst e115
              refine v_goto F 123 dX5_finds_118 (by decide) ?_
              refine v_istore F dX5_finds_123 (Nat.le_of_ble_eq_true rfl) (ok2_d rfl) ?_
              refine v_iload F dX5_finds_125 rfl ?_
              refine v_if_ne_n F 138 dX5_finds_127 (by decide) (by first | omega | exact Nat.lt_trans (hW _ _) (by decide)) (fun c127 => ?_) (fun c127 => ?_)
              · refine v_aload_n F dX5_finds_138 rfl rfl ?_
                refine v_iload_n F dX5_finds_139 rfl ?_
                refine v_iload F dX5_finds_140 rfl ?_
                refine v_iconst (v := (-1)) F dX5_finds_142 (by decide) ?_
                refine v_ixor F dX5_finds_143 ?_
                refine v_iand_nd F dX5_finds_144 ?_
                refine v_callV F 1 [_] rfl rfl rfl (c_puts hI3 hWf uT_s (by have := (saO_2 hc9 hso2).1; omega)) gX5_finds_X5_puts rfl hd_X5_puts ⟨⟨rfl, rfl⟩, ⟨(Nat.le_of_ble_eq_true rfl), (Nat.le_of_ble_eq_true rfl)⟩, ⟨(Nat.le_of_ble_eq_true rfl), (Nat.le_of_ble_eq_true rfl)⟩, (Nat.le_of_ble_eq_true rfl)⟩ hI3.x rfl dX5_finds_145 (fun v145 M145 q145 => ?_)
                obtain ⟨rfl, hI5, hF5⟩ := q145
                refine v_aload_n F dX5_finds_148 rfl rfl ?_
                refine v_iload F dX5_finds_149 rfl ?_
                refine v_callV F 1 [_] rfl rfl rfl (c_puts hI5 hWf uT_s (by have := (saO_2 hc9 hso2).1; omega)) gX5_finds_X5_puts rfl hd_X5_puts ⟨⟨rfl, rfl⟩, ⟨(Nat.le_of_ble_eq_true rfl), (Nat.le_of_ble_eq_true rfl)⟩, ⟨(Nat.le_of_ble_eq_true rfl), (Nat.le_of_ble_eq_true rfl)⟩, (Nat.le_of_ble_eq_true rfl)⟩ hI5.x rfl dX5_finds_151 (fun v151 M151 q151 => ?_)
                obtain ⟨rfl, hI6, hF6⟩ := q151
                refine v_goto F 72 dX5_finds_154 (by decide) ?_
                have h19 := (hP2.pop.push (x := nd s1 (ctm B n s1 false 79))).push (x := (ctm B n s1 false 79))
                rw [List.length_cons] at h19
                rw [show upd (upd (C2 19) t2.length (nI (nd s1 (ctm B n s1 false 79)))) (t2.length + 1) (nI (ctm B n s1 false 79)) = uC (uC C2 19 (upd (C2 19) t2.length (nI (nd s1 (ctm B n s1 false 79))))) 19 (upd (uC C2 19 (upd (C2 19) t2.length (nI (nd s1 (ctm B n s1 false 79)))) 19) (t2.length + 1) (nI (ctm B n s1 false 79))) 19 by rw [uC_s, uC_s]] at h19
                have h18 : uT (uT (uT T2 18 t2.length) 18 (t2.length + 1)) 18 (t2.length + 1 + 1) 18 = ((ctm B n s1 false 79) :: nd s1 (ctm B n s1 false 79) :: t2).length := by rw [uT_s, List.length_cons, List.length_cons]
                exact ih2 f rfl _ _ l2 ((ctm B n s1 false 79) :: nd s1 (ctm B n s1 false 79) :: t2) _ _ _ hI6 (((hF2.up (hWf 0)).tr hF5).tr hF6) ⟨fun q h1 h2 => by rw [uC_n h2, uC_n h2]; exact hs2.1 q h1 h2, fun q h1 h2 => by rw [uT_n h2, uT_n h2, uT_n h2]; exact hs2.2 q h1 h2⟩ (by rw [uT_n (by decide), uT_n (by decide), uT_n (by decide)]; exact hl2) (by rw [uC_n (by decide), uC_n (by decide)]; exact hp2) h18 (by have := (saO_2 hc9 hso2).1; exact this) h19 (fun q hq => (List.mem_cons.mp hq).elim (fun h => by rw [h]; exact hcl) (fun hq => (List.mem_cons.mp hq).elim (fun h => by rw [h]; exact nd_lt2 hs1) (fun hq => hq2 q (List.mem_cons_of_mem _ hq)))) (by have := (saO_2 hc9 hso2).2; rwa [hcu] at this) (by have := saE_2 hc9 hse2; rwa [hcu] at this) (by rw [← heq, sa_2 hc9, hcu])
              · exact absurd c127 hc1.2
        · rw [List.length_cons] at ht24
          obtain ⟨f, rfl⟩ : ∃ q, f = q + 1 := by (cases f with | zero => exact hse2.elim | succ q => exact ⟨q, rfl⟩)
          have hs1 : s1 < 2 ^ n := hq2 s1 (List.mem_cons_self ..)
          have hs24 : s1 < 2 ^ 24 := Nat.lt_of_lt_of_le hs1 (Nat.pow_le_pow_right (by decide) hn)
          have hcu := cuo_eq hn hP hs1
          rw [if_pos hc1.1, hc1.2] at hcu
          have hlen9 : l2.length + (unc B n 24 s1).length ≤ 24 := by rw [sa_1 hcu, List.length_append] at hlen; omega
          have hcl24 : (0 : Nat) < 2 ^ 24 := by decide
          refine v_aload_n F dX5_finds_72 rfl rfl ?_
          refine v_get F 5 18 fo_X5_finds_92 dX5_finds_73 hI2.x rfl ?_
          refine V.toI (show nI (T2 18) = nI (t2.length + 1) by rw [ht2]; rfl) ?_
          refine v_if_le_n F 157 dX5_finds_76 (by decide) (by first | omega | exact Nat.lt_trans (hW _ _) (by decide)) (fun c76 => ?_) (fun c76 => ?_)
          · exact absurd c76 (by omega)
          · refine v_aload_n F dX5_finds_79 rfl rfl ?_
            refine v_dup F dX5_finds_80 rfl ?_
            refine v_get F 5 18 fo_X5_finds_92 dX5_finds_81 hI2.x rfl ?_
            refine V.toI (show nI (T2 18) = nI (t2.length + 1) by rw [ht2]; rfl) ?_
            refine v_iconst (v := nI 1) F dX5_finds_84 (by decide) ?_
            refine v_isub_n F dX5_finds_85 (by first | omega | exact Nat.lt_trans (hW _ _) (by decide)) ?_
            refine V.toI (show nI (t2.length + 1 - 1) = nI t2.length from rfl) ?_
            refine v_put F 5 18 fp_X5_finds_92 dX5_finds_86 hI2.x rfl rfl (Nat.le_of_ble_eq_true rfl) ?_
            have hI3 := hI2.setT (f := 18) (v := t2.length) rfl
            refine v_aload_n F dX5_finds_89 rfl rfl ?_
            refine v_get F 5 19 fo_X5_finds_53 dX5_finds_90 hI3.x rfl ?_
            refine v_aload_n F dX5_finds_93 rfl rfl ?_
            refine v_get F 5 18 fo_X5_finds_92 dX5_finds_94 hI3.x rfl ?_
            refine V.toI (show nI (uT T2 18 t2.length 18) = nI t2.length by rw [uT_s]) ?_
            refine v_iald_n F dX5_finds_97 (hI3.r (f := 19) (sz := 25) (bl := 0) (by simp [isRow]) (by decide) (by decide)) (by first | omega | exact Nat.lt_trans (hW _ _) (by decide)) (by decide) ?_
            refine V.toI (hP2.top) ?_
            refine v_istore_n F dX5_finds_98 (Nat.le_of_ble_eq_true rfl) (ok2_d rfl) ?_
            refine v_aload_n F dX5_finds_99 rfl rfl ?_
            refine v_iload_n F dX5_finds_100 rfl ?_
            refine v_iconst (v := nI 1) F dX5_finds_101 (by decide) ?_
            refine V.toI (show nI 1 = bI true from rfl) ?_
            refine v_callV F 2 [_, _] rfl rfl rfl (c_cut hI3 (by rw [uT_n (by decide), hs2.2 0 (by decide) (by decide), hT0]) (hCB.sm hs2.b) hB hs24) gX5_finds_X5_cut rfl hd_X5_cut ⟨⟨rfl, rfl⟩, ⟨(Nat.le_of_ble_eq_true rfl), (Nat.le_of_ble_eq_true rfl)⟩, ⟨(Nat.le_of_ble_eq_true rfl), (Nat.le_of_ble_eq_true rfl)⟩, (Nat.le_of_ble_eq_true rfl)⟩ hI3.x rfl dX5_finds_102 (fun v102 M102 q102 => ?_)
            obtain ⟨rfl, e102⟩ := q102
            replace e102 := e102.symm
            subst e102
            refine v_istore F dX5_finds_105 (Nat.le_of_ble_eq_true rfl) (ok2_d rfl) ?_
            refine v_iload F dX5_finds_107 rfl ?_
            refine v_if_ne_n F 121 dX5_finds_109 (by decide) (by first | omega | exact Nat.lt_trans (hW _ _) (by decide)) (fun c109 => ?_) (fun c109 => ?_)
            · exact absurd hc1.1 c109
            · refine v_aload_n F dX5_finds_112 rfl rfl ?_
              refine v_iload_n F dX5_finds_113 rfl ?_
              refine v_iconst (v := nI 0) F dX5_finds_114 (by decide) ?_
              refine V.toI (show nI 0 = bI false from rfl) ?_
              refine v_callV F 2 [_, _] rfl rfl rfl (c_cut hI3 (by rw [uT_n (by decide), hs2.2 0 (by decide) (by decide), hT0]) (hCB.sm hs2.b) hB hs24) gX5_finds_X5_cut rfl hd_X5_cut ⟨⟨rfl, rfl⟩, ⟨(Nat.le_of_ble_eq_true rfl), (Nat.le_of_ble_eq_true rfl)⟩, ⟨(Nat.le_of_ble_eq_true rfl), (Nat.le_of_ble_eq_true rfl)⟩, (Nat.le_of_ble_eq_true rfl)⟩ hI3.x rfl dX5_finds_115 (fun v115 M115 q115 => ?_)
              obtain ⟨rfl, e115⟩ := q115
              replace e115 := e115.symm
              subst e115
              refine v_goto F 123 dX5_finds_118 (by decide) ?_
              refine v_istore F dX5_finds_123 (Nat.le_of_ble_eq_true rfl) (ok2_d rfl) ?_
              refine v_iload F dX5_finds_125 rfl ?_
              refine v_if_ne_n F 138 dX5_finds_127 (by decide) (by first | omega | exact Nat.lt_trans (hW _ _) (by decide)) (fun c127 => ?_) (fun c127 => ?_)
              · exact absurd hc1.2 c127
              · refine v_aload_n F dX5_finds_130 rfl rfl ?_
                refine v_iload_n F dX5_finds_131 rfl ?_
                refine v_callV F 1 [_] rfl rfl rfl (c_readsAll hI3 (by rw [uT_n (by decide), hs2.2 0 (by decide) (by decide), hT0]) (hCB.sm hs2.b) hB hWf ρ hρ0 hρ hs1 (by rw [uT_n (by decide)]; exact hl2) hp2 hlen9) gX5_finds_X5_readsAll rfl hd_X5_readsAll ⟨⟨rfl, rfl⟩, ⟨(Nat.le_of_ble_eq_true rfl), (Nat.le_of_ble_eq_true rfl)⟩, ⟨(Nat.le_of_ble_eq_true rfl), (Nat.le_of_ble_eq_true rfl)⟩, (Nat.le_of_ble_eq_true rfl)⟩ hI3.x rfl dX5_finds_132 (fun v132 M132 q132 => ?_)
                obtain ⟨rfl, C9, T9, hI9, hF9, hs9, hl9, hp9⟩ := q132
                refine v_goto F 154 dX5_finds_135 (by decide) ?_
                refine v_goto F 72 dX5_finds_154 (by decide) ?_
                exact ih2 f rfl _ _ (l2 ++ unc B n 24 s1) t2 _ _ _ hI9 ((hF2.up (hWf 0)).tr hF9) ⟨fun q h1 h2 => (hs9.1 q h1).trans (hs2.1 q h1 h2), fun q h1 h2 => (hs9.2 q h1).trans ((uT_n h2).trans (hs2.2 q h1 h2))⟩ hl9 hp9 ((hs9.2 18 (by decide)).trans uT_s) (Nat.le_of_succ_le ht24) (by rw [hs9.1 19 (by decide)]; exact hP2.pop) (fun q hq => hq2 q (List.mem_cons_of_mem _ hq)) (saO_1 hcu hso2) (saE_1 hcu hse2) (by rw [← heq, sa_1 hcu, List.append_assoc])
        · have hfin : l2 = ordF B n p := by rw [← heq, sa_n, List.append_nil]
          refine v_aload_n F dX5_finds_72 rfl rfl ?_
          refine v_get F 5 18 fo_X5_finds_92 dX5_finds_73 hI2.x rfl ?_
          refine V.toI (show nI (T2 18) = nI 0 by rw [ht2]; rfl) ?_
          refine v_if_le_n F 157 dX5_finds_76 (by decide) (by first | omega | exact Nat.lt_trans (hW _ _) (by decide)) (fun c76 => ?_) (fun c76 => ?_)
          · exact v_vret F hr dX5_finds_157 (Nat.le_of_ble_eq_true rfl) (Nat.le_of_ble_eq_true rfl) ⟨rfl, C2, T2, hI2, hF2, hs2, by rw [← hfin]; exact hl2, by rw [← hfin]; exact hp2⟩
          · exact absurd c76 (by omega)
      exact lp2 48 _ _ [] [bfn B p n] _ _ _ hI5 (((Fr.rf.up (hWf 0)).up (hWf 0)).tr hF5) ⟨fun q h1 h2 => uC_n h2, fun q h1 h2 => by rw [uT_n h2, uT_n h2, uT_n h1]⟩ (by rw [uT_n (by decide), uT_n (by decide), uT_s]; rfl) Pf.nil uT_s (by rw [List.length_singleton]; decide) (by rw [uC_s]; exact (show Pl (C 19) [] from fun i h => absurd h (Nat.not_lt_zero _)).push) (fun q hq => by rw [List.mem_singleton.mp hq]; exact bfn_ltn B p n) hsO hsE hsa
    · have hi2 : i < n := by omega
      refine v_iload_n F dX5_finds_12 rfl ?_
      refine v_aload_n F dX5_finds_13 rfl rfl ?_
      refine v_get F 5 1 fo_X5_finds_7 dX5_finds_14 hI.x rfl ?_
      refine v_iload_n F dX5_finds_17 rfl ?_
      refine v_iald_n F dX5_finds_18 (hI.r (f := 1) (sz := 24) (bl := 0) (by simp [isRow]) (by decide) (by decide)) (by first | omega | exact Nat.lt_trans (hW _ _) (by decide)) (by decide) ?_
      refine V.toI ((hCB i hi2).1) ?_
      refine v_iload_n F dX5_finds_19 rfl ?_
      refine v_icmp_ne_n F 48 dX5_finds_20 (by decide) (by first | omega | exact Nat.lt_trans (hW _ _) (by decide)) (by first | omega | exact Nat.lt_trans (hW _ _) (by decide)) (fun c20 => ?_) (fun c20 => ?_)
      · refine v_iconst (v := nI 0) F dX5_finds_48 (by decide) ?_
        refine v_ior_n F dX5_finds_49 ?_
        refine v_istore_n F dX5_finds_50 (Nat.le_of_ble_eq_true rfl) (ok2_d rfl) ?_
        refine v_iinc1 F dX5_finds_51 rfl (ok2_d rfl) ?_
        refine v_goto F 4 dX5_finds_54 (by decide) ?_
        exact ih (by omega) _ _ (by simp only [bfn, fl_s]; rw [← bfn, ← hm]; (try rw [oI_m1 (hW _ _)] at c39); clear hm ih; simp [*])
      · refine v_aload_n F dX5_finds_23 rfl rfl ?_
        refine v_get F 5 9 fo_X5_finds_34 dX5_finds_24 hI.x rfl ?_
        refine v_iload_n F dX5_finds_27 rfl ?_
        refine v_zald_n F dX5_finds_28 (hI.r (f := 9) (sz := 24) (bl := 1) (by simp [isRow]) (by decide) (by decide)) (by first | omega | exact Nat.lt_trans (hW _ _) (by decide)) (by decide) ?_
        refine V.toI ((hCB i hi2).2.2.2.2.2.2.2.2) ?_
        refine v_if_ne_n F 48 dX5_finds_29 (by decide) (by first | omega | exact Nat.lt_trans (hW _ _) (by decide)) (fun c29 => ?_) (fun c29 => ?_)
        · refine v_iconst (v := nI 0) F dX5_finds_48 (by decide) ?_
          refine v_ior_n F dX5_finds_49 ?_
          refine v_istore_n F dX5_finds_50 (Nat.le_of_ble_eq_true rfl) (ok2_d rfl) ?_
          refine v_iinc1 F dX5_finds_51 rfl (ok2_d rfl) ?_
          refine v_goto F 4 dX5_finds_54 (by decide) ?_
          exact ih (by omega) _ _ (by simp only [bfn, fl_s]; rw [← bfn, ← hm]; (try rw [oI_m1 (hW _ _)] at c39); clear hm ih; simp [*])
        · refine v_aload_n F dX5_finds_32 rfl rfl ?_
          refine v_get F 5 7 fo_X5_finds_28 dX5_finds_33 hI.x rfl ?_
          refine v_iload_n F dX5_finds_36 rfl ?_
          refine v_iald_n F dX5_finds_37 (hI.r (f := 7) (sz := 24) (bl := 0) (by simp [isRow]) (by decide) (by decide)) (by first | omega | exact Nat.lt_trans (hW _ _) (by decide)) (by decide) ?_
          refine V.toI ((hCB i hi2).2.2.2.2.2.2.1) ?_
          refine v_iconst (v := (-1)) F dX5_finds_38 (by decide) ?_
          refine v_icmp_ne F 48 dX5_finds_39 (by decide) (fun c39 => ?_) (fun c39 => ?_)
          · refine v_iconst (v := nI 0) F dX5_finds_48 (by decide) ?_
            refine v_ior_n F dX5_finds_49 ?_
            refine v_istore_n F dX5_finds_50 (Nat.le_of_ble_eq_true rfl) (ok2_d rfl) ?_
            refine v_iinc1 F dX5_finds_51 rfl (ok2_d rfl) ?_
            refine v_goto F 4 dX5_finds_54 (by decide) ?_
            exact ih (by omega) _ _ (by simp only [bfn, fl_s]; rw [← bfn, ← hm]; (try rw [oI_m1 (hW _ _)] at c39); clear hm ih; simp [*])
          · refine v_iconst (v := nI 1) F dX5_finds_42 (by decide) ?_
            refine v_iload_n F dX5_finds_43 rfl ?_
            refine v_ishl_n F dX5_finds_44 (by first | omega | exact Nat.lt_trans (hW _ _) (by decide)) ?_
            refine v_goto F 49 dX5_finds_45 (by decide) ?_
            refine v_ior_n F dX5_finds_49 ?_
            refine v_istore_n F dX5_finds_50 (Nat.le_of_ble_eq_true rfl) (ok2_d rfl) ?_
            refine v_iinc1 F dX5_finds_51 rfl (ok2_d rfl) ?_
            refine v_goto F 4 dX5_finds_54 (by decide) ?_
            exact ih (by omega) _ _ (by simp only [bfn, fl_s]; rw [← bfn, ← hm]; (try rw [oI_m1 (hW _ _)] at c39); clear hm ih; simp [*])
  exact lp 0 (Nat.zero_le _) _ _ rfl
