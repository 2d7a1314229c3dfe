/-! the class: checks -/
theorem getD_mem {u : List Nat} {q : Nat} (h : q < u.length) : u.getD q 0 ∈ u := by
  rw [List.getD_eq_getElem?_getD, List.getElem?_eq_getElem h]
  exact List.getElem_mem h
/-- the level that was read last ahead of a place -/
def lvA (B : FF) (u : List Nat) : Nat → Nat
  | 0 => 0
  | j + 1 => if 4 ≤ B (u.getD j 0) 5 then B (u.getD j 0) 5 - 3 else lvA B u j
def ovA (B : FF) (u : List Nat) (x : Nat) : Bool := u.any (fun y => !(y == x) && ovl B x y)
theorem any_getD {u : List Nat} {p : Nat → Bool} : u.any p = true ↔ ∃ q, q < u.length ∧ p (u.getD q 0) = true := by
  rw [List.any_eq_true]
  constructor
  · rintro ⟨x, hx, hp⟩
    obtain ⟨q, hq, rfl⟩ := List.getElem_of_mem hx
    refine ⟨q, hq, ?_⟩
    rw [List.getD_eq_getElem?_getD, List.getElem?_eq_getElem hq]
    exact hp
  · rintro ⟨q, hq, hp⟩
    exact ⟨_, getD_mem hq, hp⟩
def f1 (B : FF) (u : List Nat) (j : Nat) : Nat := if 4 ≤ B (u.getD j 0) 5 ∧ lvA B u j + 1 < B (u.getD j 0) 5 - 3 then 1 else 0
def f2 (B : FF) (u : List Nat) (j : Nat) : Nat := if B (u.getD j 0) 5 = 1 ∧ ¬ (0 < j ∧ B (u.getD (j - 1) 0) 5 = 1) ∧ ¬ (j + 1 < u.length ∧ B (u.getD (j + 1) 0) 5 = 1) then 2 else 0
def f3 (B : FF) (u : List Nat) (j : Nat) : Nat := if B (u.getD j 0) 5 = 3 ∧ ¬ (0 < j ∧ B (u.getD (j - 1) 0) 5 = 2) then 4 else 0
def f4 (B : FF) (u : List Nat) (j : Nat) : Nat := if ovA B u (u.getD j 0) = true then 8 else 0
def f5 (B : FF) (u : List Nat) (j : Nat) : Nat := if 0 < j ∧ B (u.getD (j - 1) 0) 2 + B (u.getD (j - 1) 0) 4 + 20 < B (u.getD j 0) 2 then 16 else 0
def ftA (B : FF) (u : List Nat) (j : Nat) : Nat := f1 B u j ||| f2 B u j ||| f3 B u j ||| f4 B u j ||| f5 B u j
def rmX4_levelAhead : Room := { frames := 1, cells := 0, slots := 0, locals := 21 }
theorem hd_X4_levelAhead : yX4_levelAhead.cls = (RX4, TX4, 7).1 ∧ yX4_levelAhead.cls ≠ "java/lang/invoke/MethodHandle" ∧ yX4_levelAhead.cls ≠ "java/lang/invoke/VarHandle" ∧ (parseMethodDescriptor yX4_levelAhead.desc).map (fun d => d.parameters.length) = some 2 := by decide +kernel
set_option maxHeartbeats 4000000 in
set_option maxRecDepth 100000 in
theorem c_lvA {l : Launch} {ω : Om} {M : MM} {A B P : FF} {n k : Nat} {R : Nat → (Nat → Int32) × Nat} (hX : XI ω A B P n k R M) (hB : WB B n) {p : Nat} (hp : p < 6) {u : List Nat} (hlen : (R p).2 = u.length) (hl24 : u.length ≤ 24) (hpf : Pf (R p).1 u) (hin : ∀ x, x ∈ u → x < n) {j : Nat} (hj : j ≤ u.length) : Ct l ω yX4_levelAhead wsX4_levelAhead rmX4_levelAhead [.ref (A 0 0), .ref (A 2 p), .int (nI j)] M (fun v M9 => v = some (.int (nI (lvA B u j))) ∧ M9 = M) 0 0 := by
  refine Ct.ofV (cc := cX4_levelAhead) (maxL := 5) (ret := (some .int)) [some (.ref (A 0 0)), some (.ref (A 2 p)), some (.int (nI j)), none, none] (by decide) rfl (Nat.le_of_ble_eq_true rfl) rfl (Lc.av (av := [.ref (A 0 0), .ref (A 2 p), .int (nI j)]) (k := 2) rfl) ?_
  intro σ F hl hr hname
  have F : Fx ω σ cX4_levelAhead 5 wsX4_levelAhead RX4 rmX4_levelAhead := F
  have hn : n ≤ 24 := hB.1
  have hW : ∀ i j, B i j < 128 := hB.2.1
  have hr1 : M (A 2 p) = some (rdE 3 (A 3 p) u.length) := by rw [← hlen]; exact hX.rd hp
  have hr2 : M (A 3 p) = some (rowE ω (R p).1) := hX.row (by omega)
  have hg : ∀ q, q < u.length → (R p).1 q = nI (u.getD q 0) := hpf
  have hn2 : ∀ q, q < u.length → u.getD q 0 < n := fun q hq => hin _ (getD_mem hq)
  refine v_iload_n F dX4_levelAhead_0 rfl ?_
  refine v_iconst (v := nI 1) F dX4_levelAhead_1 (by decide) ?_
  refine v_isub F dX4_levelAhead_2 ?_
  refine v_istore_n F dX4_levelAhead_3 (Nat.le_of_ble_eq_true rfl) (ok2_d rfl) ?_
  have lp : ∀ i, i ≤ j → ∀ w, lvA B u i = lvA B u j → V ω σ M [some (.ref (A 0 0)), some (.ref (A 2 p)), some (.int (nI j)), some (.int (nI i - 1)), w] 0 0 (BQ ω σ (fun v M9 => v = some (.int (nI (lvA B u j))) ∧ M9 = M) 0 0) 4 [] := by
    refine loop_pr _ (fun i ih => ?_)
    intro hi w he
    rcases i with _ | i
    · rw [show nI 0 - 1 = -1 from by decide]
      refine v_iload_n F dX4_levelAhead_4 rfl ?_
      refine v_if_lt F 44 dX4_levelAhead_5 (by decide) (fun c5 => ?_) (fun c5 => ?_)
      · refine v_iconst (v := nI 0) F dX4_levelAhead_44 (by decide) ?_
        exact v_iret F hr dX4_levelAhead_45 (Nat.le_of_ble_eq_true rfl) (Nat.le_of_ble_eq_true rfl) ⟨by rw [← he]; rfl, rfl⟩
      · exact absurd (by decide) c5
    · rw [nI_pred i]
      have hi2 : i < u.length := by omega
      refine v_iload_n F dX4_levelAhead_4 rfl ?_
      refine v_if_lt_n F 44 dX4_levelAhead_5 (by decide) (by first | omega | exact Nat.lt_trans (hW _ _) (by decide)) ?_
      refine v_aload_n F dX4_levelAhead_8 rfl rfl ?_
      refine v_aload_n F dX4_levelAhead_9 rfl rfl ?_
      refine v_iload_n F dX4_levelAhead_10 rfl ?_
      refine v_callV F 1 [_] rfl rfl rfl (c_X3_at_in hr1 hr2 hl24 (hi2)) gX4_levelAhead_X3_at rfl hd_X3_at ⟨⟨rfl, rfl⟩, ⟨(Nat.le_of_ble_eq_true rfl), (Nat.le_of_ble_eq_true rfl)⟩, ⟨(Nat.le_of_ble_eq_true rfl), (Nat.le_of_ble_eq_true rfl)⟩, (Nat.le_of_ble_eq_true rfl)⟩ hr1 rfl dX4_levelAhead_11 (fun v11 M11 q11 => ?_)
      obtain ⟨rfl, e11⟩ := q11
      replace e11 := e11.symm
      subst e11
      refine V.toI (hg _ hi2) ?_
      refine v_callV F 1 [_] rfl rfl rfl (c_madeBox_in hX hB (hn2 _ (hi2))) gX4_levelAhead_X4_madeBox rfl hd_X4_madeBox ⟨⟨rfl, rfl⟩, ⟨(Nat.le_of_ble_eq_true rfl), (Nat.le_of_ble_eq_true rfl)⟩, ⟨(Nat.le_of_ble_eq_true rfl), (Nat.le_of_ble_eq_true rfl)⟩, (Nat.le_of_ble_eq_true rfl)⟩ hX.x rfl dX4_levelAhead_14 (fun v14 M14 q14 => ?_)
      obtain ⟨rfl, e14⟩ := q14
      replace e14 := e14.symm
      subst e14
      refine v_astore F dX4_levelAhead_17 rfl (Nat.le_of_ble_eq_true rfl) (ok2_d rfl) ?_
      refine v_aload F dX4_levelAhead_19 rfl rfl ?_
      refine v_ifnull_r F dX4_levelAhead_21 ?_
      refine v_aload F dX4_levelAhead_24 rfl rfl ?_
      refine v_callV F 0 [] rfl rfl rfl (c_X1_isHead hW (hX.box (hn2 _ hi2))) gX4_levelAhead_X1_isHead rfl hd_X1_isHead ⟨⟨rfl, rfl⟩, ⟨(Nat.le_of_ble_eq_true rfl), (Nat.le_of_ble_eq_true rfl)⟩, ⟨(Nat.le_of_ble_eq_true rfl), (Nat.le_of_ble_eq_true rfl)⟩, (Nat.le_of_ble_eq_true rfl)⟩ (hX.box (hn2 _ hi2)) rfl dX4_levelAhead_26 (fun v26 M26 q26 => ?_)
      obtain ⟨rfl, e26⟩ := q26
      replace e26 := e26.symm
      subst e26
      refine v_if_eq_b F 38 dX4_levelAhead_29 (by decide) (fun c29 => ?_) (fun c29 => ?_)
      · refine v_iinc (v := (nI i - 1)) F dX4_levelAhead_38 rfl (by rw [Int32.sub_eq_add_neg]; rfl) (ok2_d rfl) ?_
        refine v_goto F 4 dX4_levelAhead_41 (by decide) ?_
        exact ih i rfl (by omega) _ (by rw [← he, lvA, if_neg (by simpa using c29)])
      · refine v_aload F dX4_levelAhead_32 rfl rfl ?_
        refine v_callV F 0 [] rfl rfl rfl (c_X1_level hW (hX.box (hn2 _ hi2)) (by simpa using c29)) gX4_levelAhead_X1_level rfl hd_X1_level ⟨⟨rfl, rfl⟩, ⟨(Nat.le_of_ble_eq_true rfl), (Nat.le_of_ble_eq_true rfl)⟩, ⟨(Nat.le_of_ble_eq_true rfl), (Nat.le_of_ble_eq_true rfl)⟩, (Nat.le_of_ble_eq_true rfl)⟩ (hX.box (hn2 _ hi2)) rfl dX4_levelAhead_34 (fun v34 M34 q34 => ?_)
        obtain ⟨rfl, e34⟩ := q34
        replace e34 := e34.symm
        subst e34
        exact v_iret F hr dX4_levelAhead_37 (Nat.le_of_ble_eq_true rfl) (Nat.le_of_ble_eq_true rfl) ⟨by rw [← he, lvA, if_pos (by simpa using c29)], rfl⟩
  exact lp j (Nat.le_refl _) _ rfl
def rmX4_overlapsAny : Room := { frames := 2, cells := 0, slots := 0, locals := 41 }
theorem hd_X4_overlapsAny : yX4_overlapsAny.cls = (RX4, TX4, 7).1 ∧ yX4_overlapsAny.cls ≠ "java/lang/invoke/MethodHandle" ∧ yX4_overlapsAny.cls ≠ "java/lang/invoke/VarHandle" ∧ (parseMethodDescriptor yX4_overlapsAny.desc).map (fun d => d.parameters.length) = some 2 := by decide +kernel
theorem fo_X4_overlapsAny_136 : FO wsX4_overlapsAny RX4 136 3 1 := ⟨_, _, _, rfl, by decide, by decide +kernel, by decide +kernel⟩
set_option maxHeartbeats 4000000 in
set_option maxRecDepth 100000 in
theorem c_ovA {l : Launch} {ω : Om} {M : MM} {A B P : FF} {n k : Nat} {R : Nat → (Nat → Int32) × Nat} (hX : XI ω A B P n k R M) (hB : WB B n) {p : Nat} (hp : p < 6) {u : List Nat} (hlen : (R p).2 = u.length) (hl24 : u.length ≤ 24) (hpf : Pf (R p).1 u) (hin : ∀ x, x ∈ u → x < n) {x : Nat} (hx : x < n) : Ct l ω yX4_overlapsAny wsX4_overlapsAny rmX4_overlapsAny [.ref (A 0 0), .ref (A 1 x), .ref (A 2 p)] M (fun v M9 => v = some (.int (bI (ovA B u x))) ∧ M9 = M) 0 0 := by
  refine Ct.ofV (cc := cX4_overlapsAny) (maxL := 5) (ret := (some .boolean)) [some (.ref (A 0 0)), some (.ref (A 1 x)), some (.ref (A 2 p)), none, none] (by decide) rfl (Nat.le_of_ble_eq_true rfl) rfl (Lc.av (av := [.ref (A 0 0), .ref (A 1 x), .ref (A 2 p)]) (k := 2) rfl) ?_
  intro σ F hl hr hname
  have F : Fx ω σ cX4_overlapsAny 5 wsX4_overlapsAny RX4 rmX4_overlapsAny := F
  have hn : n ≤ 24 := hB.1
  have hW : ∀ i j, B i j < 128 := hB.2.1
  have hr1 : M (A 2 p) = some (rdE 3 (A 3 p) u.length) := by rw [← hlen]; exact hX.rd hp
  have hr2 : M (A 3 p) = some (rowE ω (R p).1) := hX.row (by omega)
  have hg : ∀ q, q < u.length → (R p).1 q = nI (u.getD q 0) := hpf
  have hn2 : ∀ q, q < u.length → u.getD q 0 < n := fun q hq => hin _ (getD_mem hq)
  refine v_iconst (v := nI 0) F dX4_overlapsAny_0 (by decide) ?_
  refine v_istore_n F dX4_overlapsAny_1 (Nat.le_of_ble_eq_true rfl) (ok2_d rfl) ?_
  have lp : ∀ i, i ≤ u.length → ∀ w, (∀ q, q < i → (!(u.getD q 0 == x) && ovl B x (u.getD q 0)) = false) → V ω σ M [some (.ref (A 0 0)), some (.ref (A 1 x)), some (.ref (A 2 p)), some (.int (nI i)), w] 0 0 (BQ ω σ (fun v M9 => v = some (.int (bI (ovA B u x))) ∧ M9 = M) 0 0) 2 [] := by
    refine loop_up u.length _ (fun i hi ih => ?_)
    intro w hq
    refine v_iload_n F dX4_overlapsAny_2 rfl ?_
    refine v_aload_n F dX4_overlapsAny_3 rfl rfl ?_
    refine v_get F 3 1 fo_X4_overlapsAny_136 dX4_overlapsAny_4 hr1 rfl ?_
    refine v_icmp_ge_n F 49 dX4_overlapsAny_7 (by decide) (by first | omega | exact Nat.lt_trans (hW _ _) (by decide)) (by first | omega | exact Nat.lt_trans (hW _ _) (by decide)) (fun c7 => ?_) (fun c7 => ?_)
    · refine v_iconst (v := nI 0) F dX4_overlapsAny_49 (by decide) ?_
      exact v_zret F hr dX4_overlapsAny_50 rfl (Nat.le_of_ble_eq_true rfl) (Nat.le_of_ble_eq_true rfl) ⟨zl0 (by rw [Bool.eq_false_iff]; intro h; obtain ⟨q, h1, h2⟩ := any_getD.mp h; rw [hq q (by omega)] at h2; exact Bool.noConfusion h2), rfl⟩
    · have hi2 : i < u.length := by omega
      refine v_aload_n F dX4_overlapsAny_10 rfl rfl ?_
      refine v_aload_n F dX4_overlapsAny_11 rfl rfl ?_
      refine v_iload_n F dX4_overlapsAny_12 rfl ?_
      refine v_callV F 1 [_] rfl rfl rfl (c_X3_at_in hr1 hr2 hl24 (hi2)) gX4_overlapsAny_X3_at rfl hd_X3_at ⟨⟨rfl, rfl⟩, ⟨(Nat.le_of_ble_eq_true rfl), (Nat.le_of_ble_eq_true rfl)⟩, ⟨(Nat.le_of_ble_eq_true rfl), (Nat.le_of_ble_eq_true rfl)⟩, (Nat.le_of_ble_eq_true rfl)⟩ hr1 rfl dX4_overlapsAny_13 (fun v13 M13 q13 => ?_)
      obtain ⟨rfl, e13⟩ := q13
      replace e13 := e13.symm
      subst e13
      refine V.toI (hg _ hi2) ?_
      refine v_callV F 1 [_] rfl rfl rfl (c_madeBox_in hX hB (hn2 _ (hi2))) gX4_overlapsAny_X4_madeBox rfl hd_X4_madeBox ⟨⟨rfl, rfl⟩, ⟨(Nat.le_of_ble_eq_true rfl), (Nat.le_of_ble_eq_true rfl)⟩, ⟨(Nat.le_of_ble_eq_true rfl), (Nat.le_of_ble_eq_true rfl)⟩, (Nat.le_of_ble_eq_true rfl)⟩ hX.x rfl dX4_overlapsAny_16 (fun v16 M16 q16 => ?_)
      obtain ⟨rfl, e16⟩ := q16
      replace e16 := e16.symm
      subst e16
      refine v_astore F dX4_overlapsAny_19 rfl (Nat.le_of_ble_eq_true rfl) (ok2_d rfl) ?_
      refine v_aload F dX4_overlapsAny_21 rfl rfl ?_
      refine v_ifnull_r F dX4_overlapsAny_23 ?_
      refine v_aload F dX4_overlapsAny_26 rfl rfl ?_
      refine v_aload_n F dX4_overlapsAny_28 rfl rfl ?_
      refine v_acmp_eq F (some _) (some _) 43 dX4_overlapsAny_29 (by decide) (fun c29 => ?_) (fun c29 => ?_)
      · refine v_iinc1 F dX4_overlapsAny_43 rfl (ok2_d rfl) ?_
        refine v_goto F 2 dX4_overlapsAny_46 (by decide) ?_
        exact ih (by omega) _ (fun q hq2 => by rcases Nat.lt_or_ge q i with h | h; exact hq q h; rw [show q = i by omega]; first | (rw [c38, Bool.and_false]) | (rw [hX.inj hn (hn2 _ hi2) hx (Option.some.inj c29)]; simp))
      · refine v_aload_n F dX4_overlapsAny_32 rfl rfl ?_
        refine v_aload F dX4_overlapsAny_33 rfl rfl ?_
        refine v_callV F 1 [_] rfl rfl rfl (c_X1_overlaps hW (hX.box hx) (hX.box (hn2 _ hi2))) gX4_overlapsAny_X1_overlaps rfl hd_X1_overlaps ⟨⟨rfl, rfl⟩, ⟨(Nat.le_of_ble_eq_true rfl), (Nat.le_of_ble_eq_true rfl)⟩, ⟨(Nat.le_of_ble_eq_true rfl), (Nat.le_of_ble_eq_true rfl)⟩, (Nat.le_of_ble_eq_true rfl)⟩ (hX.box hx) rfl dX4_overlapsAny_35 (fun v35 M35 q35 => ?_)
        obtain ⟨rfl, e35⟩ := q35
        replace e35 := e35.symm
        subst e35
        refine v_if_eq_b F 43 dX4_overlapsAny_38 (by decide) (fun c38 => ?_) (fun c38 => ?_)
        · refine v_iinc1 F dX4_overlapsAny_43 rfl (ok2_d rfl) ?_
          refine v_goto F 2 dX4_overlapsAny_46 (by decide) ?_
          exact ih (by omega) _ (fun q hq2 => by rcases Nat.lt_or_ge q i with h | h; exact hq q h; rw [show q = i by omega]; first | (rw [c38, Bool.and_false]) | (rw [hX.inj hn (hn2 _ hi2) hx (Option.some.inj c29)]; simp))
        · refine v_iconst (v := nI 1) F dX4_overlapsAny_41 (by decide) ?_
          exact v_zret F hr dX4_overlapsAny_42 rfl (Nat.le_of_ble_eq_true rfl) (Nat.le_of_ble_eq_true rfl) ⟨zl1 (any_getD.mpr ⟨i, hi2, by rw [c38, Bool.and_true, Bool.not_eq_true', beq_eq_false_iff_ne]; intro e; exact c29 (by rw [e])⟩), rfl⟩
  exact lp 0 (Nat.zero_le _) _ (fun q h => absurd h (Nat.not_lt_zero _))
theorem or_t {a b c : Nat} (h : b = c) : a ||| c = a ||| b := by rw [h]
theorem or_f {a b : Nat} (h : b = 0) : a = a ||| b := by rw [h, Nat.or_zero]
theorem lvA_lt {B : FF} (hW : ∀ i j, B i j < 128) (u : List Nat) : ∀ j, lvA B u j < 128 := by
  intro j
  induction j with
  | zero => exact (by decide : (0 : Nat) < 128)
  | succ j ih =>
    unfold lvA
    split
    · have := hW (u.getD j 0) 5; omega
    · exact ih
def rmX4_faultsAt : Room := { frames := 3, cells := 0, slots := 0, locals := 65 }
theorem hd_X4_faultsAt : yX4_faultsAt.cls = (RX4, TX4, 7).1 ∧ yX4_faultsAt.cls ≠ "java/lang/invoke/MethodHandle" ∧ yX4_faultsAt.cls ≠ "java/lang/invoke/VarHandle" ∧ (parseMethodDescriptor yX4_faultsAt.desc).map (fun d => d.parameters.length) = some 2 := by decide +kernel
theorem fo_X4_faultsAt_147 : FO wsX4_faultsAt RX4 147 1 2 := ⟨_, _, _, rfl, by decide, by decide +kernel, by decide +kernel⟩
set_option maxHeartbeats 4000000 in
set_option maxRecDepth 100000 in
theorem c_ft00 {l : Launch} {ω : Om} {M : MM} {A B P : FF} {n k : Nat} {R : Nat → (Nat → Int32) × Nat} (hX : XI ω A B P n k R M) (hB : WB B n) {p : Nat} (hp : p < 6) {u : List Nat} (hlen : (R p).2 = u.length) (hl24 : u.length ≤ 24) (hpf : Pf (R p).1 u) (hin : ∀ x, x ∈ u → x < n) {j : Nat} (hj : j < u.length) (ha : j = 0) (hb : ¬ j + 1 < u.length) : Ct l ω yX4_faultsAt wsX4_faultsAt rmX4_faultsAt [.ref (A 0 0), .ref (A 2 p), .int (nI j)] M (fun v M9 => v = some (.int (nI (ftA B u j))) ∧ M9 = M) 0 0 := by
  refine Ct.ofV (cc := cX4_faultsAt) (maxL := 7) (ret := (some .int)) [some (.ref (A 0 0)), some (.ref (A 2 p)), some (.int (nI j)), none, none, none, none] (by decide) rfl (Nat.le_of_ble_eq_true rfl) rfl (Lc.av (av := [.ref (A 0 0), .ref (A 2 p), .int (nI j)]) (k := 4) rfl) ?_
  intro σ F hl hr hname
  have F : Fx ω σ cX4_faultsAt 7 wsX4_faultsAt RX4 rmX4_faultsAt := F
  have hn : n ≤ 24 := hB.1
  have hW : ∀ i j, B i j < 128 := hB.2.1
  have hr1 : M (A 2 p) = some (rdE 3 (A 3 p) u.length) := by rw [← hlen]; exact hX.rd hp
  have hr2 : M (A 3 p) = some (rowE ω (R p).1) := hX.row (by omega)
  have hg : ∀ q, q < u.length → (R p).1 q = nI (u.getD q 0) := hpf
  have hn2 : ∀ q, q < u.length → u.getD q 0 < n := fun q hq => hin _ (getD_mem hq)
  refine v_aload_n F dX4_faultsAt_0 rfl rfl ?_
  refine v_aload_n F dX4_faultsAt_1 rfl rfl ?_
  refine v_iload_n F dX4_faultsAt_2 rfl ?_
  refine v_callV F 1 [_] rfl rfl rfl (c_X3_at_in hr1 hr2 hl24 (hj)) gX4_faultsAt_X3_at rfl hd_X3_at ⟨⟨rfl, rfl⟩, ⟨(Nat.le_of_ble_eq_true rfl), (Nat.le_of_ble_eq_true rfl)⟩, ⟨(Nat.le_of_ble_eq_true rfl), (Nat.le_of_ble_eq_true rfl)⟩, (Nat.le_of_ble_eq_true rfl)⟩ hr1 rfl dX4_faultsAt_3 (fun v3 M3 q3 => ?_)
  obtain ⟨rfl, e3⟩ := q3
  replace e3 := e3.symm
  subst e3
  refine V.toI (hg _ hj) ?_
  refine v_callV F 1 [_] rfl rfl rfl (c_madeBox_in hX hB (hn2 _ (hj))) gX4_faultsAt_X4_madeBox rfl hd_X4_madeBox ⟨⟨rfl, rfl⟩, ⟨(Nat.le_of_ble_eq_true rfl), (Nat.le_of_ble_eq_true rfl)⟩, ⟨(Nat.le_of_ble_eq_true rfl), (Nat.le_of_ble_eq_true rfl)⟩, (Nat.le_of_ble_eq_true rfl)⟩ hX.x rfl dX4_faultsAt_6 (fun v6 M6 q6 => ?_)
  obtain ⟨rfl, e6⟩ := q6
  replace e6 := e6.symm
  subst e6
  refine v_astore_n F dX4_faultsAt_9 rfl (Nat.le_of_ble_eq_true rfl) (ok2_d rfl) ?_
  refine v_aload_n F dX4_faultsAt_10 rfl rfl ?_
  refine v_ifnonnull_r F 16 dX4_faultsAt_11 (by decide) ?_
  refine v_aload_n F dX4_faultsAt_16 rfl rfl ?_
  refine v_aload_n F dX4_faultsAt_17 rfl rfl ?_
  refine v_iload_n F dX4_faultsAt_18 rfl ?_
  refine v_iconst (v := nI 1) F dX4_faultsAt_19 (by decide) ?_
  refine v_isub F dX4_faultsAt_20 ?_
  refine v_callV F 1 [_] rfl rfl rfl (c_X3_at_out hr1 hr2 (by rw [ha]; exact Or.inl (by decide))) gX4_faultsAt_X3_at rfl hd_X3_at ⟨⟨rfl, rfl⟩, ⟨(Nat.le_of_ble_eq_true rfl), (Nat.le_of_ble_eq_true rfl)⟩, ⟨(Nat.le_of_ble_eq_true rfl), (Nat.le_of_ble_eq_true rfl)⟩, (Nat.le_of_ble_eq_true rfl)⟩ hr1 rfl dX4_faultsAt_21 (fun v21 M21 q21 => ?_)
  obtain ⟨rfl, e21⟩ := q21
  replace e21 := e21.symm
  subst e21
  refine v_callV F 1 [_] rfl rfl rfl (c_madeBox_out hX hB (Or.inl (by decide))) gX4_faultsAt_X4_madeBox rfl hd_X4_madeBox ⟨⟨rfl, rfl⟩, ⟨(Nat.le_of_ble_eq_true rfl), (Nat.le_of_ble_eq_true rfl)⟩, ⟨(Nat.le_of_ble_eq_true rfl), (Nat.le_of_ble_eq_true rfl)⟩, (Nat.le_of_ble_eq_true rfl)⟩ hX.x rfl dX4_faultsAt_24 (fun v24 M24 q24 => ?_)
  obtain ⟨rfl, e24⟩ := q24
  replace e24 := e24.symm
  subst e24
  refine v_astore F dX4_faultsAt_27 rfl (Nat.le_of_ble_eq_true rfl) (ok2_d rfl) ?_
  refine v_aload_n F dX4_faultsAt_29 rfl rfl ?_
  refine v_aload_n F dX4_faultsAt_30 rfl rfl ?_
  refine v_iload_n F dX4_faultsAt_31 rfl ?_
  refine v_iconst (v := nI 1) F dX4_faultsAt_32 (by decide) ?_
  refine v_iadd_n F dX4_faultsAt_33 ?_
  refine v_callV F 1 [_] rfl rfl rfl (c_X3_at_out hr1 hr2 (Or.inr (nI_le (by omega) (by omega)))) gX4_faultsAt_X3_at rfl hd_X3_at ⟨⟨rfl, rfl⟩, ⟨(Nat.le_of_ble_eq_true rfl), (Nat.le_of_ble_eq_true rfl)⟩, ⟨(Nat.le_of_ble_eq_true rfl), (Nat.le_of_ble_eq_true rfl)⟩, (Nat.le_of_ble_eq_true rfl)⟩ hr1 rfl dX4_faultsAt_34 (fun v34 M34 q34 => ?_)
  obtain ⟨rfl, e34⟩ := q34
  replace e34 := e34.symm
  subst e34
  refine v_callV F 1 [_] rfl rfl rfl (c_madeBox_out hX hB (Or.inl (by decide))) gX4_faultsAt_X4_madeBox rfl hd_X4_madeBox ⟨⟨rfl, rfl⟩, ⟨(Nat.le_of_ble_eq_true rfl), (Nat.le_of_ble_eq_true rfl)⟩, ⟨(Nat.le_of_ble_eq_true rfl), (Nat.le_of_ble_eq_true rfl)⟩, (Nat.le_of_ble_eq_true rfl)⟩ hX.x rfl dX4_faultsAt_37 (fun v37 M37 q37 => ?_)
  obtain ⟨rfl, e37⟩ := q37
  replace e37 := e37.symm
  subst e37
  refine v_astore F dX4_faultsAt_40 rfl (Nat.le_of_ble_eq_true rfl) (ok2_d rfl) ?_
  refine v_iconst (v := nI 0) F dX4_faultsAt_42 (by decide) ?_
  refine v_istore F dX4_faultsAt_43 (Nat.le_of_ble_eq_true rfl) (ok2_d rfl) ?_
  have j171 : ∀ m, m = ftA B u j → V ω σ M [some (.ref (A 0 0)), some (.ref (A 2 p)), some (.int (nI j)), some (.ref (A 1 (u.getD j 0))), some (.null), some (.null), some (.int (nI m))] 0 0 (BQ ω σ (fun v M9 => v = some (.int (nI (ftA B u j))) ∧ M9 = M) 0 0) 171 [] := by
    intro m hm
    refine v_iload F dX4_faultsAt_171 rfl ?_
    exact v_iret F hr dX4_faultsAt_173 (Nat.le_of_ble_eq_true rfl) (Nat.le_of_ble_eq_true rfl) ⟨by rw [hm], rfl⟩
  have j144 : ∀ m, m = f1 B u j ||| f2 B u j ||| f3 B u j ||| f4 B u j → V ω σ M [some (.ref (A 0 0)), some (.ref (A 2 p)), some (.int (nI j)), some (.ref (A 1 (u.getD j 0))), some (.null), some (.null), some (.int (nI m))] 0 0 (BQ ω σ (fun v M9 => v = some (.int (nI (ftA B u j))) ∧ M9 = M) 0 0) 144 [] := by
    intro m hm
    refine v_aload F dX4_faultsAt_144 rfl rfl ?_
    refine v_ifnull_n F 171 dX4_faultsAt_146 (by decide) ?_
    exact j171 _ (by rw [hm]; first | (refine or_t (if_pos ?_ : f5 B u j = 16); (try simp only [decide_eq_true_eq, decide_eq_false_iff_not] at c49); (try simp only [decide_eq_true_eq, decide_eq_false_iff_not] at c87); (try simp only [decide_eq_true_eq, decide_eq_false_iff_not] at c96); (try simp only [decide_eq_true_eq, decide_eq_false_iff_not] at c119); omega) | (refine or_f (if_neg ?_ : f5 B u j = 0); (try simp only [decide_eq_true_eq, decide_eq_false_iff_not] at c49); (try simp only [decide_eq_true_eq, decide_eq_false_iff_not] at c87); (try simp only [decide_eq_true_eq, decide_eq_false_iff_not] at c96); (try simp only [decide_eq_true_eq, decide_eq_false_iff_not] at c119); omega))
  have j128 : ∀ m, m = f1 B u j ||| f2 B u j ||| f3 B u j → V ω σ M [some (.ref (A 0 0)), some (.ref (A 2 p)), some (.int (nI j)), some (.ref (A 1 (u.getD j 0))), some (.null), some (.null), some (.int (nI m))] 0 0 (BQ ω σ (fun v M9 => v = some (.int (nI (ftA B u j))) ∧ M9 = M) 0 0) 128 [] := by
    intro m hm
    refine v_aload_n F dX4_faultsAt_128 rfl rfl ?_
    refine v_aload_n F dX4_faultsAt_129 rfl rfl ?_
    refine v_aload_n F dX4_faultsAt_130 rfl rfl ?_
    refine v_callV F 2 [_, _] rfl rfl rfl (c_ovA hX hB hp hlen hl24 hpf hin (hn2 _ hj)) gX4_faultsAt_X4_overlapsAny rfl hd_X4_overlapsAny ⟨⟨rfl, rfl⟩, ⟨(Nat.le_of_ble_eq_true rfl), (Nat.le_of_ble_eq_true rfl)⟩, ⟨(Nat.le_of_ble_eq_true rfl), (Nat.le_of_ble_eq_true rfl)⟩, (Nat.le_of_ble_eq_true rfl)⟩ hX.x rfl dX4_faultsAt_131 (fun v131 M131 q131 => ?_)
    obtain ⟨rfl, e131⟩ := q131
    replace e131 := e131.symm
    subst e131
    refine v_if_eq_b F 144 dX4_faultsAt_134 (by decide) (fun c134 => ?_) (fun c134 => ?_)
    · exact j144 _ (by rw [hm]; first | exact or_t (if_pos c134 : f4 B u j = 8) | (refine or_f (if_neg ?_ : f4 B u j = 0); rw [c134]; decide))
    · refine v_iload F dX4_faultsAt_137 rfl ?_
      refine v_bipush (v := nI 8) F dX4_faultsAt_139 (by decide) ?_
      refine v_ior_n F dX4_faultsAt_141 ?_
      refine v_istore F dX4_faultsAt_142 (Nat.le_of_ble_eq_true rfl) (ok2_d rfl) ?_
      exact j144 _ (by rw [hm]; first | exact or_t (if_pos c134 : f4 B u j = 8) | (refine or_f (if_neg ?_ : f4 B u j = 0); rw [c134]; decide))
  have j105 : ∀ m, m = f1 B u j ||| f2 B u j → V ω σ M [some (.ref (A 0 0)), some (.ref (A 2 p)), some (.int (nI j)), some (.ref (A 1 (u.getD j 0))), some (.null), some (.null), some (.int (nI m))] 0 0 (BQ ω σ (fun v M9 => v = some (.int (nI (ftA B u j))) ∧ M9 = M) 0 0) 105 [] := by
    intro m hm
    refine v_aload_n F dX4_faultsAt_105 rfl rfl ?_
    refine v_get F 1 2 fo_X4_faultsAt_147 dX4_faultsAt_106 (hX.box (hn2 _ hj)) rfl ?_
    refine v_iconst (v := nI 3) F dX4_faultsAt_109 (by decide) ?_
    refine v_icmp_ne_n F 128 dX4_faultsAt_110 (by decide) (by first | omega | exact Nat.lt_trans (hW _ _) (by decide) | (have h1 := lvA_lt hW u j; have h2 := hW (u.getD j 0) 5; have h3 := hW (u.getD (j - 1) 0) 2; have h4 := hW (u.getD (j - 1) 0) 4; omega)) (by first | omega | exact Nat.lt_trans (hW _ _) (by decide) | (have h1 := lvA_lt hW u j; have h2 := hW (u.getD j 0) 5; have h3 := hW (u.getD (j - 1) 0) 2; have h4 := hW (u.getD (j - 1) 0) 4; omega)) (fun c110 => ?_) (fun c110 => ?_)
    · exact j128 _ (by rw [hm]; first | (refine or_t (if_pos ?_ : f3 B u j = 4); (try simp only [decide_eq_true_eq, decide_eq_false_iff_not] at c49); (try simp only [decide_eq_true_eq, decide_eq_false_iff_not] at c87); (try simp only [decide_eq_true_eq, decide_eq_false_iff_not] at c96); (try simp only [decide_eq_true_eq, decide_eq_false_iff_not] at c119); omega) | (refine or_f (if_neg ?_ : f3 B u j = 0); (try simp only [decide_eq_true_eq, decide_eq_false_iff_not] at c49); (try simp only [decide_eq_true_eq, decide_eq_false_iff_not] at c87); (try simp only [decide_eq_true_eq, decide_eq_false_iff_not] at c96); (try simp only [decide_eq_true_eq, decide_eq_false_iff_not] at c119); omega))
    · refine v_aload F dX4_faultsAt_113 rfl rfl ?_
      refine v_iconst (v := nI 2) F dX4_faultsAt_115 (by decide) ?_
      refine v_callS F 2 [_, _] rfl rfl rfl (c_isOfKind_0) gX4_faultsAt_X4_isOfKind rfl hd_X4_isOfKind ⟨⟨rfl, rfl⟩, ⟨(Nat.le_of_ble_eq_true rfl), (Nat.le_of_ble_eq_true rfl)⟩, ⟨(Nat.le_of_ble_eq_true rfl), (Nat.le_of_ble_eq_true rfl)⟩, (Nat.le_of_ble_eq_true rfl)⟩ dX4_faultsAt_116 (fun v116 M116 q116 => ?_)
      obtain ⟨rfl, e116⟩ := q116
      replace e116 := e116.symm
      subst e116
      refine v_if_ne_b F 128 dX4_faultsAt_119 (by decide) (fun c119 => ?_) (fun c119 => ?_)
      · exact absurd c119 (by decide)
      · refine v_iload F dX4_faultsAt_122 rfl ?_
        refine v_iconst (v := nI 4) F dX4_faultsAt_124 (by decide) ?_
        refine v_ior_n F dX4_faultsAt_125 ?_
        refine v_istore F dX4_faultsAt_126 (Nat.le_of_ble_eq_true rfl) (ok2_d rfl) ?_
        exact j128 _ (by rw [hm]; first | (refine or_t (if_pos ?_ : f3 B u j = 4); (try simp only [decide_eq_true_eq, decide_eq_false_iff_not] at c49); (try simp only [decide_eq_true_eq, decide_eq_false_iff_not] at c87); (try simp only [decide_eq_true_eq, decide_eq_false_iff_not] at c96); (try simp only [decide_eq_true_eq, decide_eq_false_iff_not] at c119); omega) | (refine or_f (if_neg ?_ : f3 B u j = 0); (try simp only [decide_eq_true_eq, decide_eq_false_iff_not] at c49); (try simp only [decide_eq_true_eq, decide_eq_false_iff_not] at c87); (try simp only [decide_eq_true_eq, decide_eq_false_iff_not] at c96); (try simp only [decide_eq_true_eq, decide_eq_false_iff_not] at c119); omega))
  have j73 : ∀ m, m = f1 B u j → V ω σ M [some (.ref (A 0 0)), some (.ref (A 2 p)), some (.int (nI j)), some (.ref (A 1 (u.getD j 0))), some (.null), some (.null), some (.int (nI m))] 0 0 (BQ ω σ (fun v M9 => v = some (.int (nI (ftA B u j))) ∧ M9 = M) 0 0) 73 [] := by
    intro m hm
    refine v_aload_n F dX4_faultsAt_73 rfl rfl ?_
    refine v_get F 1 2 fo_X4_faultsAt_147 dX4_faultsAt_74 (hX.box (hn2 _ hj)) rfl ?_
    refine v_iconst (v := nI 1) F dX4_faultsAt_77 (by decide) ?_
    refine v_icmp_ne_n F 105 dX4_faultsAt_78 (by decide) (by first | omega | exact Nat.lt_trans (hW _ _) (by decide) | (have h1 := lvA_lt hW u j; have h2 := hW (u.getD j 0) 5; have h3 := hW (u.getD (j - 1) 0) 2; have h4 := hW (u.getD (j - 1) 0) 4; omega)) (by first | omega | exact Nat.lt_trans (hW _ _) (by decide) | (have h1 := lvA_lt hW u j; have h2 := hW (u.getD j 0) 5; have h3 := hW (u.getD (j - 1) 0) 2; have h4 := hW (u.getD (j - 1) 0) 4; omega)) (fun c78 => ?_) (fun c78 => ?_)
    · exact j105 _ (by rw [hm]; first | (refine or_t (if_pos ?_ : f2 B u j = 2); (try simp only [decide_eq_true_eq, decide_eq_false_iff_not] at c49); (try simp only [decide_eq_true_eq, decide_eq_false_iff_not] at c87); (try simp only [decide_eq_true_eq, decide_eq_false_iff_not] at c96); (try simp only [decide_eq_true_eq, decide_eq_false_iff_not] at c119); omega) | (refine or_f (if_neg ?_ : f2 B u j = 0); (try simp only [decide_eq_true_eq, decide_eq_false_iff_not] at c49); (try simp only [decide_eq_true_eq, decide_eq_false_iff_not] at c87); (try simp only [decide_eq_true_eq, decide_eq_false_iff_not] at c96); (try simp only [decide_eq_true_eq, decide_eq_false_iff_not] at c119); omega))
    · refine v_aload F dX4_faultsAt_81 rfl rfl ?_
      refine v_iconst (v := nI 1) F dX4_faultsAt_83 (by decide) ?_
      refine v_callS F 2 [_, _] rfl rfl rfl (c_isOfKind_0) gX4_faultsAt_X4_isOfKind rfl hd_X4_isOfKind ⟨⟨rfl, rfl⟩, ⟨(Nat.le_of_ble_eq_true rfl), (Nat.le_of_ble_eq_true rfl)⟩, ⟨(Nat.le_of_ble_eq_true rfl), (Nat.le_of_ble_eq_true rfl)⟩, (Nat.le_of_ble_eq_true rfl)⟩ dX4_faultsAt_84 (fun v84 M84 q84 => ?_)
      obtain ⟨rfl, e84⟩ := q84
      replace e84 := e84.symm
      subst e84
      refine v_if_ne_b F 105 dX4_faultsAt_87 (by decide) (fun c87 => ?_) (fun c87 => ?_)
      · exact absurd c87 (by decide)
      · refine v_aload F dX4_faultsAt_90 rfl rfl ?_
        refine v_iconst (v := nI 1) F dX4_faultsAt_92 (by decide) ?_
        refine v_callS F 2 [_, _] rfl rfl rfl (c_isOfKind_0) gX4_faultsAt_X4_isOfKind rfl hd_X4_isOfKind ⟨⟨rfl, rfl⟩, ⟨(Nat.le_of_ble_eq_true rfl), (Nat.le_of_ble_eq_true rfl)⟩, ⟨(Nat.le_of_ble_eq_true rfl), (Nat.le_of_ble_eq_true rfl)⟩, (Nat.le_of_ble_eq_true rfl)⟩ dX4_faultsAt_93 (fun v93 M93 q93 => ?_)
        obtain ⟨rfl, e93⟩ := q93
        replace e93 := e93.symm
        subst e93
        refine v_if_ne_b F 105 dX4_faultsAt_96 (by decide) (fun c96 => ?_) (fun c96 => ?_)
        · exact absurd c96 (by decide)
        · refine v_iload F dX4_faultsAt_99 rfl ?_
          refine v_iconst (v := nI 2) F dX4_faultsAt_101 (by decide) ?_
          refine v_ior_n F dX4_faultsAt_102 ?_
          refine v_istore F dX4_faultsAt_103 (Nat.le_of_ble_eq_true rfl) (ok2_d rfl) ?_
          exact j105 _ (by rw [hm]; first | (refine or_t (if_pos ?_ : f2 B u j = 2); (try simp only [decide_eq_true_eq, decide_eq_false_iff_not] at c49); (try simp only [decide_eq_true_eq, decide_eq_false_iff_not] at c87); (try simp only [decide_eq_true_eq, decide_eq_false_iff_not] at c96); (try simp only [decide_eq_true_eq, decide_eq_false_iff_not] at c119); omega) | (refine or_f (if_neg ?_ : f2 B u j = 0); (try simp only [decide_eq_true_eq, decide_eq_false_iff_not] at c49); (try simp only [decide_eq_true_eq, decide_eq_false_iff_not] at c87); (try simp only [decide_eq_true_eq, decide_eq_false_iff_not] at c96); (try simp only [decide_eq_true_eq, decide_eq_false_iff_not] at c119); omega))
  refine v_aload_n F dX4_faultsAt_45 rfl rfl ?_
  refine v_callV F 0 [] rfl rfl rfl (c_X1_isHead hW (hX.box (hn2 _ hj))) gX4_faultsAt_X1_isHead rfl hd_X1_isHead ⟨⟨rfl, rfl⟩, ⟨(Nat.le_of_ble_eq_true rfl), (Nat.le_of_ble_eq_true rfl)⟩, ⟨(Nat.le_of_ble_eq_true rfl), (Nat.le_of_ble_eq_true rfl)⟩, (Nat.le_of_ble_eq_true rfl)⟩ (hX.box (hn2 _ hj)) rfl dX4_faultsAt_46 (fun v46 M46 q46 => ?_)
  obtain ⟨rfl, e46⟩ := q46
  replace e46 := e46.symm
  subst e46
  refine v_if_eq_b F 73 dX4_faultsAt_49 (by decide) (fun c49 => ?_) (fun c49 => ?_)
  · exact j73 _ (by first | (refine (if_pos ?_ : f1 B u j = 1).symm; (try simp only [decide_eq_true_eq, decide_eq_false_iff_not] at c49); (try simp only [decide_eq_true_eq, decide_eq_false_iff_not] at c87); (try simp only [decide_eq_true_eq, decide_eq_false_iff_not] at c96); (try simp only [decide_eq_true_eq, decide_eq_false_iff_not] at c119); omega) | (refine (if_neg ?_ : f1 B u j = 0).symm; (try simp only [decide_eq_true_eq, decide_eq_false_iff_not] at c49); (try simp only [decide_eq_true_eq, decide_eq_false_iff_not] at c87); (try simp only [decide_eq_true_eq, decide_eq_false_iff_not] at c96); (try simp only [decide_eq_true_eq, decide_eq_false_iff_not] at c119); omega))
  · refine v_aload_n F dX4_faultsAt_52 rfl rfl ?_
    refine v_callV F 0 [] rfl rfl rfl (c_X1_level hW (hX.box (hn2 _ hj)) (by simpa using c49)) gX4_faultsAt_X1_level rfl hd_X1_level ⟨⟨rfl, rfl⟩, ⟨(Nat.le_of_ble_eq_true rfl), (Nat.le_of_ble_eq_true rfl)⟩, ⟨(Nat.le_of_ble_eq_true rfl), (Nat.le_of_ble_eq_true rfl)⟩, (Nat.le_of_ble_eq_true rfl)⟩ (hX.box (hn2 _ hj)) rfl dX4_faultsAt_53 (fun v53 M53 q53 => ?_)
    obtain ⟨rfl, e53⟩ := q53
    replace e53 := e53.symm
    subst e53
    refine v_aload_n F dX4_faultsAt_56 rfl rfl ?_
    refine v_aload_n F dX4_faultsAt_57 rfl rfl ?_
    refine v_iload_n F dX4_faultsAt_58 rfl ?_
    refine v_callV F 2 [_, _] rfl rfl rfl (c_lvA hX hB hp hlen hl24 hpf hin (by omega)) gX4_faultsAt_X4_levelAhead rfl hd_X4_levelAhead ⟨⟨rfl, rfl⟩, ⟨(Nat.le_of_ble_eq_true rfl), (Nat.le_of_ble_eq_true rfl)⟩, ⟨(Nat.le_of_ble_eq_true rfl), (Nat.le_of_ble_eq_true rfl)⟩, (Nat.le_of_ble_eq_true rfl)⟩ hX.x rfl dX4_faultsAt_59 (fun v59 M59 q59 => ?_)
    obtain ⟨rfl, e59⟩ := q59
    replace e59 := e59.symm
    subst e59
    refine v_iconst (v := nI 1) F dX4_faultsAt_62 (by decide) ?_
    refine v_iadd_n F dX4_faultsAt_63 ?_
    refine v_icmp_le_n F 73 dX4_faultsAt_64 (by decide) (by first | omega | exact Nat.lt_trans (hW _ _) (by decide) | (have h1 := lvA_lt hW u j; have h2 := hW (u.getD j 0) 5; have h3 := hW (u.getD (j - 1) 0) 2; have h4 := hW (u.getD (j - 1) 0) 4; omega)) (by first | omega | exact Nat.lt_trans (hW _ _) (by decide) | (have h1 := lvA_lt hW u j; have h2 := hW (u.getD j 0) 5; have h3 := hW (u.getD (j - 1) 0) 2; have h4 := hW (u.getD (j - 1) 0) 4; omega)) (fun c64 => ?_) (fun c64 => ?_)
    · exact j73 _ (by first | (refine (if_pos ?_ : f1 B u j = 1).symm; (try simp only [decide_eq_true_eq, decide_eq_false_iff_not] at c49); (try simp only [decide_eq_true_eq, decide_eq_false_iff_not] at c87); (try simp only [decide_eq_true_eq, decide_eq_false_iff_not] at c96); (try simp only [decide_eq_true_eq, decide_eq_false_iff_not] at c119); omega) | (refine (if_neg ?_ : f1 B u j = 0).symm; (try simp only [decide_eq_true_eq, decide_eq_false_iff_not] at c49); (try simp only [decide_eq_true_eq, decide_eq_false_iff_not] at c87); (try simp only [decide_eq_true_eq, decide_eq_false_iff_not] at c96); (try simp only [decide_eq_true_eq, decide_eq_false_iff_not] at c119); omega))
    · refine v_iload F dX4_faultsAt_67 rfl ?_
      refine v_iconst (v := nI 1) F dX4_faultsAt_69 (by decide) ?_
      refine v_ior_n F dX4_faultsAt_70 ?_
      refine v_istore F dX4_faultsAt_71 (Nat.le_of_ble_eq_true rfl) (ok2_d rfl) ?_
      exact j73 _ (by first | (refine (if_pos ?_ : f1 B u j = 1).symm; (try simp only [decide_eq_true_eq, decide_eq_false_iff_not] at c49); (try simp only [decide_eq_true_eq, decide_eq_false_iff_not] at c87); (try simp only [decide_eq_true_eq, decide_eq_false_iff_not] at c96); (try simp only [decide_eq_true_eq, decide_eq_false_iff_not] at c119); omega) | (refine (if_neg ?_ : f1 B u j = 0).symm; (try simp only [decide_eq_true_eq, decide_eq_false_iff_not] at c49); (try simp only [decide_eq_true_eq, decide_eq_false_iff_not] at c87); (try simp only [decide_eq_true_eq, decide_eq_false_iff_not] at c96); (try simp only [decide_eq_true_eq, decide_eq_false_iff_not] at c119); omega))
set_option maxHeartbeats 4000000 in
set_option maxRecDepth 100000 in
theorem c_ft01 {l : Launch} {ω : Om} {M : MM} {A B P : FF} {n k : Nat} {R : Nat → (Nat → Int32) × Nat} (hX : XI ω A B P n k R M) (hB : WB B n) {p : Nat} (hp : p < 6) {u : List Nat} (hlen : (R p).2 = u.length) (hl24 : u.length ≤ 24) (hpf : Pf (R p).1 u) (hin : ∀ x, x ∈ u → x < n) {j : Nat} (hj : j < u.length) (ha : j = 0) (hb : j + 1 < u.length) : Ct l ω yX4_faultsAt wsX4_faultsAt rmX4_faultsAt [.ref (A 0 0), .ref (A 2 p), .int (nI j)] M (fun v M9 => v = some (.int (nI (ftA B u j))) ∧ M9 = M) 0 0 := by
  refine Ct.ofV (cc := cX4_faultsAt) (maxL := 7) (ret := (some .int)) [some (.ref (A 0 0)), some (.ref (A 2 p)), some (.int (nI j)), none, none, none, none] (by decide) rfl (Nat.le_of_ble_eq_true rfl) rfl (Lc.av (av := [.ref (A 0 0), .ref (A 2 p), .int (nI j)]) (k := 4) rfl) ?_
  intro σ F hl hr hname
  have F : Fx ω σ cX4_faultsAt 7 wsX4_faultsAt RX4 rmX4_faultsAt := F
  have hn : n ≤ 24 := hB.1
  have hW : ∀ i j, B i j < 128 := hB.2.1
  have hr1 : M (A 2 p) = some (rdE 3 (A 3 p) u.length) := by rw [← hlen]; exact hX.rd hp
  have hr2 : M (A 3 p) = some (rowE ω (R p).1) := hX.row (by omega)
  have hg : ∀ q, q < u.length → (R p).1 q = nI (u.getD q 0) := hpf
  have hn2 : ∀ q, q < u.length → u.getD q 0 < n := fun q hq => hin _ (getD_mem hq)
  refine v_aload_n F dX4_faultsAt_0 rfl rfl ?_
  refine v_aload_n F dX4_faultsAt_1 rfl rfl ?_
  refine v_iload_n F dX4_faultsAt_2 rfl ?_
  refine v_callV F 1 [_] rfl rfl rfl (c_X3_at_in hr1 hr2 hl24 (hj)) gX4_faultsAt_X3_at rfl hd_X3_at ⟨⟨rfl, rfl⟩, ⟨(Nat.le_of_ble_eq_true rfl), (Nat.le_of_ble_eq_true rfl)⟩, ⟨(Nat.le_of_ble_eq_true rfl), (Nat.le_of_ble_eq_true rfl)⟩, (Nat.le_of_ble_eq_true rfl)⟩ hr1 rfl dX4_faultsAt_3 (fun v3 M3 q3 => ?_)
  obtain ⟨rfl, e3⟩ := q3
  replace e3 := e3.symm
  subst e3
  refine V.toI (hg _ hj) ?_
  refine v_callV F 1 [_] rfl rfl rfl (c_madeBox_in hX hB (hn2 _ (hj))) gX4_faultsAt_X4_madeBox rfl hd_X4_madeBox ⟨⟨rfl, rfl⟩, ⟨(Nat.le_of_ble_eq_true rfl), (Nat.le_of_ble_eq_true rfl)⟩, ⟨(Nat.le_of_ble_eq_true rfl), (Nat.le_of_ble_eq_true rfl)⟩, (Nat.le_of_ble_eq_true rfl)⟩ hX.x rfl dX4_faultsAt_6 (fun v6 M6 q6 => ?_)
  obtain ⟨rfl, e6⟩ := q6
  replace e6 := e6.symm
  subst e6
  refine v_astore_n F dX4_faultsAt_9 rfl (Nat.le_of_ble_eq_true rfl) (ok2_d rfl) ?_
  refine v_aload_n F dX4_faultsAt_10 rfl rfl ?_
  refine v_ifnonnull_r F 16 dX4_faultsAt_11 (by decide) ?_
  refine v_aload_n F dX4_faultsAt_16 rfl rfl ?_
  refine v_aload_n F dX4_faultsAt_17 rfl rfl ?_
  refine v_iload_n F dX4_faultsAt_18 rfl ?_
  refine v_iconst (v := nI 1) F dX4_faultsAt_19 (by decide) ?_
  refine v_isub F dX4_faultsAt_20 ?_
  refine v_callV F 1 [_] rfl rfl rfl (c_X3_at_out hr1 hr2 (by rw [ha]; exact Or.inl (by decide))) gX4_faultsAt_X3_at rfl hd_X3_at ⟨⟨rfl, rfl⟩, ⟨(Nat.le_of_ble_eq_true rfl), (Nat.le_of_ble_eq_true rfl)⟩, ⟨(Nat.le_of_ble_eq_true rfl), (Nat.le_of_ble_eq_true rfl)⟩, (Nat.le_of_ble_eq_true rfl)⟩ hr1 rfl dX4_faultsAt_21 (fun v21 M21 q21 => ?_)
  obtain ⟨rfl, e21⟩ := q21
  replace e21 := e21.symm
  subst e21
  refine v_callV F 1 [_] rfl rfl rfl (c_madeBox_out hX hB (Or.inl (by decide))) gX4_faultsAt_X4_madeBox rfl hd_X4_madeBox ⟨⟨rfl, rfl⟩, ⟨(Nat.le_of_ble_eq_true rfl), (Nat.le_of_ble_eq_true rfl)⟩, ⟨(Nat.le_of_ble_eq_true rfl), (Nat.le_of_ble_eq_true rfl)⟩, (Nat.le_of_ble_eq_true rfl)⟩ hX.x rfl dX4_faultsAt_24 (fun v24 M24 q24 => ?_)
  obtain ⟨rfl, e24⟩ := q24
  replace e24 := e24.symm
  subst e24
  refine v_astore F dX4_faultsAt_27 rfl (Nat.le_of_ble_eq_true rfl) (ok2_d rfl) ?_
  refine v_aload_n F dX4_faultsAt_29 rfl rfl ?_
  refine v_aload_n F dX4_faultsAt_30 rfl rfl ?_
  refine v_iload_n F dX4_faultsAt_31 rfl ?_
  refine v_iconst (v := nI 1) F dX4_faultsAt_32 (by decide) ?_
  refine v_iadd_n F dX4_faultsAt_33 ?_
  refine v_callV F 1 [_] rfl rfl rfl (c_X3_at_in hr1 hr2 hl24 (hb)) gX4_faultsAt_X3_at rfl hd_X3_at ⟨⟨rfl, rfl⟩, ⟨(Nat.le_of_ble_eq_true rfl), (Nat.le_of_ble_eq_true rfl)⟩, ⟨(Nat.le_of_ble_eq_true rfl), (Nat.le_of_ble_eq_true rfl)⟩, (Nat.le_of_ble_eq_true rfl)⟩ hr1 rfl dX4_faultsAt_34 (fun v34 M34 q34 => ?_)
  obtain ⟨rfl, e34⟩ := q34
  replace e34 := e34.symm
  subst e34
  refine V.toI (hg _ hb) ?_
  refine v_callV F 1 [_] rfl rfl rfl (c_madeBox_in hX hB (hn2 _ (hb))) gX4_faultsAt_X4_madeBox rfl hd_X4_madeBox ⟨⟨rfl, rfl⟩, ⟨(Nat.le_of_ble_eq_true rfl), (Nat.le_of_ble_eq_true rfl)⟩, ⟨(Nat.le_of_ble_eq_true rfl), (Nat.le_of_ble_eq_true rfl)⟩, (Nat.le_of_ble_eq_true rfl)⟩ hX.x rfl dX4_faultsAt_37 (fun v37 M37 q37 => ?_)
  obtain ⟨rfl, e37⟩ := q37
  replace e37 := e37.symm
  subst e37
  refine v_astore F dX4_faultsAt_40 rfl (Nat.le_of_ble_eq_true rfl) (ok2_d rfl) ?_
  refine v_iconst (v := nI 0) F dX4_faultsAt_42 (by decide) ?_
  refine v_istore F dX4_faultsAt_43 (Nat.le_of_ble_eq_true rfl) (ok2_d rfl) ?_
  have j171 : ∀ m, m = ftA B u j → V ω σ M [some (.ref (A 0 0)), some (.ref (A 2 p)), some (.int (nI j)), some (.ref (A 1 (u.getD j 0))), some (.null), some (.ref (A 1 (u.getD (j + 1) 0))), some (.int (nI m))] 0 0 (BQ ω σ (fun v M9 => v = some (.int (nI (ftA B u j))) ∧ M9 = M) 0 0) 171 [] := by
    intro m hm
    refine v_iload F dX4_faultsAt_171 rfl ?_
    exact v_iret F hr dX4_faultsAt_173 (Nat.le_of_ble_eq_true rfl) (Nat.le_of_ble_eq_true rfl) ⟨by rw [hm], rfl⟩
  have j144 : ∀ m, m = f1 B u j ||| f2 B u j ||| f3 B u j ||| f4 B u j → V ω σ M [some (.ref (A 0 0)), some (.ref (A 2 p)), some (.int (nI j)), some (.ref (A 1 (u.getD j 0))), some (.null), some (.ref (A 1 (u.getD (j + 1) 0))), some (.int (nI m))] 0 0 (BQ ω σ (fun v M9 => v = some (.int (nI (ftA B u j))) ∧ M9 = M) 0 0) 144 [] := by
    intro m hm
    refine v_aload F dX4_faultsAt_144 rfl rfl ?_
    refine v_ifnull_n F 171 dX4_faultsAt_146 (by decide) ?_
    exact j171 _ (by rw [hm]; first | (refine or_t (if_pos ?_ : f5 B u j = 16); (try simp only [decide_eq_true_eq, decide_eq_false_iff_not] at c49); (try simp only [decide_eq_true_eq, decide_eq_false_iff_not] at c87); (try simp only [decide_eq_true_eq, decide_eq_false_iff_not] at c96); (try simp only [decide_eq_true_eq, decide_eq_false_iff_not] at c119); omega) | (refine or_f (if_neg ?_ : f5 B u j = 0); (try simp only [decide_eq_true_eq, decide_eq_false_iff_not] at c49); (try simp only [decide_eq_true_eq, decide_eq_false_iff_not] at c87); (try simp only [decide_eq_true_eq, decide_eq_false_iff_not] at c96); (try simp only [decide_eq_true_eq, decide_eq_false_iff_not] at c119); omega))
  have j128 : ∀ m, m = f1 B u j ||| f2 B u j ||| f3 B u j → V ω σ M [some (.ref (A 0 0)), some (.ref (A 2 p)), some (.int (nI j)), some (.ref (A 1 (u.getD j 0))), some (.null), some (.ref (A 1 (u.getD (j + 1) 0))), some (.int (nI m))] 0 0 (BQ ω σ (fun v M9 => v = some (.int (nI (ftA B u j))) ∧ M9 = M) 0 0) 128 [] := by
    intro m hm
    refine v_aload_n F dX4_faultsAt_128 rfl rfl ?_
    refine v_aload_n F dX4_faultsAt_129 rfl rfl ?_
    refine v_aload_n F dX4_faultsAt_130 rfl rfl ?_
    refine v_callV F 2 [_, _] rfl rfl rfl (c_ovA hX hB hp hlen hl24 hpf hin (hn2 _ hj)) gX4_faultsAt_X4_overlapsAny rfl hd_X4_overlapsAny ⟨⟨rfl, rfl⟩, ⟨(Nat.le_of_ble_eq_true rfl), (Nat.le_of_ble_eq_true rfl)⟩, ⟨(Nat.le_of_ble_eq_true rfl), (Nat.le_of_ble_eq_true rfl)⟩, (Nat.le_of_ble_eq_true rfl)⟩ hX.x rfl dX4_faultsAt_131 (fun v131 M131 q131 => ?_)
    obtain ⟨rfl, e131⟩ := q131
    replace e131 := e131.symm
    subst e131
    refine v_if_eq_b F 144 dX4_faultsAt_134 (by decide) (fun c134 => ?_) (fun c134 => ?_)
    · exact j144 _ (by rw [hm]; first | exact or_t (if_pos c134 : f4 B u j = 8) | (refine or_f (if_neg ?_ : f4 B u j = 0); rw [c134]; decide))
    · refine v_iload F dX4_faultsAt_137 rfl ?_
      refine v_bipush (v := nI 8) F dX4_faultsAt_139 (by decide) ?_
      refine v_ior_n F dX4_faultsAt_141 ?_
      refine v_istore F dX4_faultsAt_142 (Nat.le_of_ble_eq_true rfl) (ok2_d rfl) ?_
      exact j144 _ (by rw [hm]; first | exact or_t (if_pos c134 : f4 B u j = 8) | (refine or_f (if_neg ?_ : f4 B u j = 0); rw [c134]; decide))
  have j105 : ∀ m, m = f1 B u j ||| f2 B u j → V ω σ M [some (.ref (A 0 0)), some (.ref (A 2 p)), some (.int (nI j)), some (.ref (A 1 (u.getD j 0))), some (.null), some (.ref (A 1 (u.getD (j + 1) 0))), some (.int (nI m))] 0 0 (BQ ω σ (fun v M9 => v = some (.int (nI (ftA B u j))) ∧ M9 = M) 0 0) 105 [] := by
    intro m hm
    refine v_aload_n F dX4_faultsAt_105 rfl rfl ?_
    refine v_get F 1 2 fo_X4_faultsAt_147 dX4_faultsAt_106 (hX.box (hn2 _ hj)) rfl ?_
    refine v_iconst (v := nI 3) F dX4_faultsAt_109 (by decide) ?_
    refine v_icmp_ne_n F 128 dX4_faultsAt_110 (by decide) (by first | omega | exact Nat.lt_trans (hW _ _) (by decide) | (have h1 := lvA_lt hW u j; have h2 := hW (u.getD j 0) 5; have h3 := hW (u.getD (j - 1) 0) 2; have h4 := hW (u.getD (j - 1) 0) 4; omega)) (by first | omega | exact Nat.lt_trans (hW _ _) (by decide) | (have h1 := lvA_lt hW u j; have h2 := hW (u.getD j 0) 5; have h3 := hW (u.getD (j - 1) 0) 2; have h4 := hW (u.getD (j - 1) 0) 4; omega)) (fun c110 => ?_) (fun c110 => ?_)
    · exact j128 _ (by rw [hm]; first | (refine or_t (if_pos ?_ : f3 B u j = 4); (try simp only [decide_eq_true_eq, decide_eq_false_iff_not] at c49); (try simp only [decide_eq_true_eq, decide_eq_false_iff_not] at c87); (try simp only [decide_eq_true_eq, decide_eq_false_iff_not] at c96); (try simp only [decide_eq_true_eq, decide_eq_false_iff_not] at c119); omega) | (refine or_f (if_neg ?_ : f3 B u j = 0); (try simp only [decide_eq_true_eq, decide_eq_false_iff_not] at c49); (try simp only [decide_eq_true_eq, decide_eq_false_iff_not] at c87); (try simp only [decide_eq_true_eq, decide_eq_false_iff_not] at c96); (try simp only [decide_eq_true_eq, decide_eq_false_iff_not] at c119); omega))
    · refine v_aload F dX4_faultsAt_113 rfl rfl ?_
      refine v_iconst (v := nI 2) F dX4_faultsAt_115 (by decide) ?_
      refine v_callS F 2 [_, _] rfl rfl rfl (c_isOfKind_0) gX4_faultsAt_X4_isOfKind rfl hd_X4_isOfKind ⟨⟨rfl, rfl⟩, ⟨(Nat.le_of_ble_eq_true rfl), (Nat.le_of_ble_eq_true rfl)⟩, ⟨(Nat.le_of_ble_eq_true rfl), (Nat.le_of_ble_eq_true rfl)⟩, (Nat.le_of_ble_eq_true rfl)⟩ dX4_faultsAt_116 (fun v116 M116 q116 => ?_)
      obtain ⟨rfl, e116⟩ := q116
      replace e116 := e116.symm
      subst e116
      refine v_if_ne_b F 128 dX4_faultsAt_119 (by decide) (fun c119 => ?_) (fun c119 => ?_)
      · exact absurd c119 (by decide)
      · refine v_iload F dX4_faultsAt_122 rfl ?_
        refine v_iconst (v := nI 4) F dX4_faultsAt_124 (by decide) ?_
        refine v_ior_n F dX4_faultsAt_125 ?_
        refine v_istore F dX4_faultsAt_126 (Nat.le_of_ble_eq_true rfl) (ok2_d rfl) ?_
        exact j128 _ (by rw [hm]; first | (refine or_t (if_pos ?_ : f3 B u j = 4); (try simp only [decide_eq_true_eq, decide_eq_false_iff_not] at c49); (try simp only [decide_eq_true_eq, decide_eq_false_iff_not] at c87); (try simp only [decide_eq_true_eq, decide_eq_false_iff_not] at c96); (try simp only [decide_eq_true_eq, decide_eq_false_iff_not] at c119); omega) | (refine or_f (if_neg ?_ : f3 B u j = 0); (try simp only [decide_eq_true_eq, decide_eq_false_iff_not] at c49); (try simp only [decide_eq_true_eq, decide_eq_false_iff_not] at c87); (try simp only [decide_eq_true_eq, decide_eq_false_iff_not] at c96); (try simp only [decide_eq_true_eq, decide_eq_false_iff_not] at c119); omega))
  have j73 : ∀ m, m = f1 B u j → V ω σ M [some (.ref (A 0 0)), some (.ref (A 2 p)), some (.int (nI j)), some (.ref (A 1 (u.getD j 0))), some (.null), some (.ref (A 1 (u.getD (j + 1) 0))), some (.int (nI m))] 0 0 (BQ ω σ (fun v M9 => v = some (.int (nI (ftA B u j))) ∧ M9 = M) 0 0) 73 [] := by
    intro m hm
    refine v_aload_n F dX4_faultsAt_73 rfl rfl ?_
    refine v_get F 1 2 fo_X4_faultsAt_147 dX4_faultsAt_74 (hX.box (hn2 _ hj)) rfl ?_
    refine v_iconst (v := nI 1) F dX4_faultsAt_77 (by decide) ?_
    refine v_icmp_ne_n F 105 dX4_faultsAt_78 (by decide) (by first | omega | exact Nat.lt_trans (hW _ _) (by decide) | (have h1 := lvA_lt hW u j; have h2 := hW (u.getD j 0) 5; have h3 := hW (u.getD (j - 1) 0) 2; have h4 := hW (u.getD (j - 1) 0) 4; omega)) (by first | omega | exact Nat.lt_trans (hW _ _) (by decide) | (have h1 := lvA_lt hW u j; have h2 := hW (u.getD j 0) 5; have h3 := hW (u.getD (j - 1) 0) 2; have h4 := hW (u.getD (j - 1) 0) 4; omega)) (fun c78 => ?_) (fun c78 => ?_)
    · exact j105 _ (by rw [hm]; first | (refine or_t (if_pos ?_ : f2 B u j = 2); (try simp only [decide_eq_true_eq, decide_eq_false_iff_not] at c49); (try simp only [decide_eq_true_eq, decide_eq_false_iff_not] at c87); (try simp only [decide_eq_true_eq, decide_eq_false_iff_not] at c96); (try simp only [decide_eq_true_eq, decide_eq_false_iff_not] at c119); omega) | (refine or_f (if_neg ?_ : f2 B u j = 0); (try simp only [decide_eq_true_eq, decide_eq_false_iff_not] at c49); (try simp only [decide_eq_true_eq, decide_eq_false_iff_not] at c87); (try simp only [decide_eq_true_eq, decide_eq_false_iff_not] at c96); (try simp only [decide_eq_true_eq, decide_eq_false_iff_not] at c119); omega))
    · refine v_aload F dX4_faultsAt_81 rfl rfl ?_
      refine v_iconst (v := nI 1) F dX4_faultsAt_83 (by decide) ?_
      refine v_callS F 2 [_, _] rfl rfl rfl (c_isOfKind_0) gX4_faultsAt_X4_isOfKind rfl hd_X4_isOfKind ⟨⟨rfl, rfl⟩, ⟨(Nat.le_of_ble_eq_true rfl), (Nat.le_of_ble_eq_true rfl)⟩, ⟨(Nat.le_of_ble_eq_true rfl), (Nat.le_of_ble_eq_true rfl)⟩, (Nat.le_of_ble_eq_true rfl)⟩ dX4_faultsAt_84 (fun v84 M84 q84 => ?_)
      obtain ⟨rfl, e84⟩ := q84
      replace e84 := e84.symm
      subst e84
      refine v_if_ne_b F 105 dX4_faultsAt_87 (by decide) (fun c87 => ?_) (fun c87 => ?_)
      · exact absurd c87 (by decide)
      · refine v_aload F dX4_faultsAt_90 rfl rfl ?_
        refine v_iconst (v := nI 1) F dX4_faultsAt_92 (by decide) ?_
        refine v_callS F 2 [_, _] rfl rfl rfl (c_isOfKind_1 (hX.box (hn2 _ hb)) hW (by decide)) gX4_faultsAt_X4_isOfKind rfl hd_X4_isOfKind ⟨⟨rfl, rfl⟩, ⟨(Nat.le_of_ble_eq_true rfl), (Nat.le_of_ble_eq_true rfl)⟩, ⟨(Nat.le_of_ble_eq_true rfl), (Nat.le_of_ble_eq_true rfl)⟩, (Nat.le_of_ble_eq_true rfl)⟩ dX4_faultsAt_93 (fun v93 M93 q93 => ?_)
        obtain ⟨rfl, e93⟩ := q93
        replace e93 := e93.symm
        subst e93
        refine v_if_ne_b F 105 dX4_faultsAt_96 (by decide) (fun c96 => ?_) (fun c96 => ?_)
        · exact j105 _ (by rw [hm]; first | (refine or_t (if_pos ?_ : f2 B u j = 2); (try simp only [decide_eq_true_eq, decide_eq_false_iff_not] at c49); (try simp only [decide_eq_true_eq, decide_eq_false_iff_not] at c87); (try simp only [decide_eq_true_eq, decide_eq_false_iff_not] at c96); (try simp only [decide_eq_true_eq, decide_eq_false_iff_not] at c119); omega) | (refine or_f (if_neg ?_ : f2 B u j = 0); (try simp only [decide_eq_true_eq, decide_eq_false_iff_not] at c49); (try simp only [decide_eq_true_eq, decide_eq_false_iff_not] at c87); (try simp only [decide_eq_true_eq, decide_eq_false_iff_not] at c96); (try simp only [decide_eq_true_eq, decide_eq_false_iff_not] at c119); omega))
        · refine v_iload F dX4_faultsAt_99 rfl ?_
          refine v_iconst (v := nI 2) F dX4_faultsAt_101 (by decide) ?_
          refine v_ior_n F dX4_faultsAt_102 ?_
          refine v_istore F dX4_faultsAt_103 (Nat.le_of_ble_eq_true rfl) (ok2_d rfl) ?_
          exact j105 _ (by rw [hm]; first | (refine or_t (if_pos ?_ : f2 B u j = 2); (try simp only [decide_eq_true_eq, decide_eq_false_iff_not] at c49); (try simp only [decide_eq_true_eq, decide_eq_false_iff_not] at c87); (try simp only [decide_eq_true_eq, decide_eq_false_iff_not] at c96); (try simp only [decide_eq_true_eq, decide_eq_false_iff_not] at c119); omega) | (refine or_f (if_neg ?_ : f2 B u j = 0); (try simp only [decide_eq_true_eq, decide_eq_false_iff_not] at c49); (try simp only [decide_eq_true_eq, decide_eq_false_iff_not] at c87); (try simp only [decide_eq_true_eq, decide_eq_false_iff_not] at c96); (try simp only [decide_eq_true_eq, decide_eq_false_iff_not] at c119); omega))
  refine v_aload_n F dX4_faultsAt_45 rfl rfl ?_
  refine v_callV F 0 [] rfl rfl rfl (c_X1_isHead hW (hX.box (hn2 _ hj))) gX4_faultsAt_X1_isHead rfl hd_X1_isHead ⟨⟨rfl, rfl⟩, ⟨(Nat.le_of_ble_eq_true rfl), (Nat.le_of_ble_eq_true rfl)⟩, ⟨(Nat.le_of_ble_eq_true rfl), (Nat.le_of_ble_eq_true rfl)⟩, (Nat.le_of_ble_eq_true rfl)⟩ (hX.box (hn2 _ hj)) rfl dX4_faultsAt_46 (fun v46 M46 q46 => ?_)
  obtain ⟨rfl, e46⟩ := q46
  replace e46 := e46.symm
  subst e46
  refine v_if_eq_b F 73 dX4_faultsAt_49 (by decide) (fun c49 => ?_) (fun c49 => ?_)
  · exact j73 _ (by first | (refine (if_pos ?_ : f1 B u j = 1).symm; (try simp only [decide_eq_true_eq, decide_eq_false_iff_not] at c49); (try simp only [decide_eq_true_eq, decide_eq_false_iff_not] at c87); (try simp only [decide_eq_true_eq, decide_eq_false_iff_not] at c96); (try simp only [decide_eq_true_eq, decide_eq_false_iff_not] at c119); omega) | (refine (if_neg ?_ : f1 B u j = 0).symm; (try simp only [decide_eq_true_eq, decide_eq_false_iff_not] at c49); (try simp only [decide_eq_true_eq, decide_eq_false_iff_not] at c87); (try simp only [decide_eq_true_eq, decide_eq_false_iff_not] at c96); (try simp only [decide_eq_true_eq, decide_eq_false_iff_not] at c119); omega))
  · refine v_aload_n F dX4_faultsAt_52 rfl rfl ?_
    refine v_callV F 0 [] rfl rfl rfl (c_X1_level hW (hX.box (hn2 _ hj)) (by simpa using c49)) gX4_faultsAt_X1_level rfl hd_X1_level ⟨⟨rfl, rfl⟩, ⟨(Nat.le_of_ble_eq_true rfl), (Nat.le_of_ble_eq_true rfl)⟩, ⟨(Nat.le_of_ble_eq_true rfl), (Nat.le_of_ble_eq_true rfl)⟩, (Nat.le_of_ble_eq_true rfl)⟩ (hX.box (hn2 _ hj)) rfl dX4_faultsAt_53 (fun v53 M53 q53 => ?_)
    obtain ⟨rfl, e53⟩ := q53
    replace e53 := e53.symm
    subst e53
    refine v_aload_n F dX4_faultsAt_56 rfl rfl ?_
    refine v_aload_n F dX4_faultsAt_57 rfl rfl ?_
    refine v_iload_n F dX4_faultsAt_58 rfl ?_
    refine v_callV F 2 [_, _] rfl rfl rfl (c_lvA hX hB hp hlen hl24 hpf hin (by omega)) gX4_faultsAt_X4_levelAhead rfl hd_X4_levelAhead ⟨⟨rfl, rfl⟩, ⟨(Nat.le_of_ble_eq_true rfl), (Nat.le_of_ble_eq_true rfl)⟩, ⟨(Nat.le_of_ble_eq_true rfl), (Nat.le_of_ble_eq_true rfl)⟩, (Nat.le_of_ble_eq_true rfl)⟩ hX.x rfl dX4_faultsAt_59 (fun v59 M59 q59 => ?_)
    obtain ⟨rfl, e59⟩ := q59
    replace e59 := e59.symm
    subst e59
    refine v_iconst (v := nI 1) F dX4_faultsAt_62 (by decide) ?_
    refine v_iadd_n F dX4_faultsAt_63 ?_
    refine v_icmp_le_n F 73 dX4_faultsAt_64 (by decide) (by first | omega | exact Nat.lt_trans (hW _ _) (by decide) | (have h1 := lvA_lt hW u j; have h2 := hW (u.getD j 0) 5; have h3 := hW (u.getD (j - 1) 0) 2; have h4 := hW (u.getD (j - 1) 0) 4; omega)) (by first | omega | exact Nat.lt_trans (hW _ _) (by decide) | (have h1 := lvA_lt hW u j; have h2 := hW (u.getD j 0) 5; have h3 := hW (u.getD (j - 1) 0) 2; have h4 := hW (u.getD (j - 1) 0) 4; omega)) (fun c64 => ?_) (fun c64 => ?_)
    · exact j73 _ (by first | (refine (if_pos ?_ : f1 B u j = 1).symm; (try simp only [decide_eq_true_eq, decide_eq_false_iff_not] at c49); (try simp only [decide_eq_true_eq, decide_eq_false_iff_not] at c87); (try simp only [decide_eq_true_eq, decide_eq_false_iff_not] at c96); (try simp only [decide_eq_true_eq, decide_eq_false_iff_not] at c119); omega) | (refine (if_neg ?_ : f1 B u j = 0).symm; (try simp only [decide_eq_true_eq, decide_eq_false_iff_not] at c49); (try simp only [decide_eq_true_eq, decide_eq_false_iff_not] at c87); (try simp only [decide_eq_true_eq, decide_eq_false_iff_not] at c96); (try simp only [decide_eq_true_eq, decide_eq_false_iff_not] at c119); omega))
    · refine v_iload F dX4_faultsAt_67 rfl ?_
      refine v_iconst (v := nI 1) F dX4_faultsAt_69 (by decide) ?_
      refine v_ior_n F dX4_faultsAt_70 ?_
      refine v_istore F dX4_faultsAt_71 (Nat.le_of_ble_eq_true rfl) (ok2_d rfl) ?_
      exact j73 _ (by first | (refine (if_pos ?_ : f1 B u j = 1).symm; (try simp only [decide_eq_true_eq, decide_eq_false_iff_not] at c49); (try simp only [decide_eq_true_eq, decide_eq_false_iff_not] at c87); (try simp only [decide_eq_true_eq, decide_eq_false_iff_not] at c96); (try simp only [decide_eq_true_eq, decide_eq_false_iff_not] at c119); omega) | (refine (if_neg ?_ : f1 B u j = 0).symm; (try simp only [decide_eq_true_eq, decide_eq_false_iff_not] at c49); (try simp only [decide_eq_true_eq, decide_eq_false_iff_not] at c87); (try simp only [decide_eq_true_eq, decide_eq_false_iff_not] at c96); (try simp only [decide_eq_true_eq, decide_eq_false_iff_not] at c119); omega))
theorem fo_X4_faultsAt_86 : FO wsX4_faultsAt RX4 86 1 4 := ⟨_, _, _, rfl, by decide, by decide +kernel, by decide +kernel⟩
set_option maxHeartbeats 4000000 in
set_option maxRecDepth 100000 in
theorem c_ft10 {l : Launch} {ω : Om} {M : MM} {A B P : FF} {n k : Nat} {R : Nat → (Nat → Int32) × Nat} (hX : XI ω A B P n k R M) (hB : WB B n) {p : Nat} (hp : p < 6) {u : List Nat} (hlen : (R p).2 = u.length) (hl24 : u.length ≤ 24) (hpf : Pf (R p).1 u) (hin : ∀ x, x ∈ u → x < n) {j : Nat} (hj : j < u.length) (ha : 0 < j) (hb : ¬ j + 1 < u.length) : Ct l ω yX4_faultsAt wsX4_faultsAt rmX4_faultsAt [.ref (A 0 0), .ref (A 2 p), .int (nI j)] M (fun v M9 => v = some (.int (nI (ftA B u j))) ∧ M9 = M) 0 0 := by
  refine Ct.ofV (cc := cX4_faultsAt) (maxL := 7) (ret := (some .int)) [some (.ref (A 0 0)), some (.ref (A 2 p)), some (.int (nI j)), none, none, none, none] (by decide) rfl (Nat.le_of_ble_eq_true rfl) rfl (Lc.av (av := [.ref (A 0 0), .ref (A 2 p), .int (nI j)]) (k := 4) rfl) ?_
  intro σ F hl hr hname
  have F : Fx ω σ cX4_faultsAt 7 wsX4_faultsAt RX4 rmX4_faultsAt := F
  have hn : n ≤ 24 := hB.1
  have hW : ∀ i j, B i j < 128 := hB.2.1
  have hr1 : M (A 2 p) = some (rdE 3 (A 3 p) u.length) := by rw [← hlen]; exact hX.rd hp
  have hr2 : M (A 3 p) = some (rowE ω (R p).1) := hX.row (by omega)
  have hg : ∀ q, q < u.length → (R p).1 q = nI (u.getD q 0) := hpf
  have hn2 : ∀ q, q < u.length → u.getD q 0 < n := fun q hq => hin _ (getD_mem hq)
  refine v_aload_n F dX4_faultsAt_0 rfl rfl ?_
  refine v_aload_n F dX4_faultsAt_1 rfl rfl ?_
  refine v_iload_n F dX4_faultsAt_2 rfl ?_
  refine v_callV F 1 [_] rfl rfl rfl (c_X3_at_in hr1 hr2 hl24 (hj)) gX4_faultsAt_X3_at rfl hd_X3_at ⟨⟨rfl, rfl⟩, ⟨(Nat.le_of_ble_eq_true rfl), (Nat.le_of_ble_eq_true rfl)⟩, ⟨(Nat.le_of_ble_eq_true rfl), (Nat.le_of_ble_eq_true rfl)⟩, (Nat.le_of_ble_eq_true rfl)⟩ hr1 rfl dX4_faultsAt_3 (fun v3 M3 q3 => ?_)
  obtain ⟨rfl, e3⟩ := q3
  replace e3 := e3.symm
  subst e3
  refine V.toI (hg _ hj) ?_
  refine v_callV F 1 [_] rfl rfl rfl (c_madeBox_in hX hB (hn2 _ (hj))) gX4_faultsAt_X4_madeBox rfl hd_X4_madeBox ⟨⟨rfl, rfl⟩, ⟨(Nat.le_of_ble_eq_true rfl), (Nat.le_of_ble_eq_true rfl)⟩, ⟨(Nat.le_of_ble_eq_true rfl), (Nat.le_of_ble_eq_true rfl)⟩, (Nat.le_of_ble_eq_true rfl)⟩ hX.x rfl dX4_faultsAt_6 (fun v6 M6 q6 => ?_)
  obtain ⟨rfl, e6⟩ := q6
  replace e6 := e6.symm
  subst e6
  refine v_astore_n F dX4_faultsAt_9 rfl (Nat.le_of_ble_eq_true rfl) (ok2_d rfl) ?_
  refine v_aload_n F dX4_faultsAt_10 rfl rfl ?_
  refine v_ifnonnull_r F 16 dX4_faultsAt_11 (by decide) ?_
  refine v_aload_n F dX4_faultsAt_16 rfl rfl ?_
  refine v_aload_n F dX4_faultsAt_17 rfl rfl ?_
  refine v_iload_n F dX4_faultsAt_18 rfl ?_
  refine v_iconst (v := nI 1) F dX4_faultsAt_19 (by decide) ?_
  refine v_isub_n F dX4_faultsAt_20 (by first | omega | exact Nat.lt_trans (hW _ _) (by decide) | (have h1 := lvA_lt hW u j; have h2 := hW (u.getD j 0) 5; have h3 := hW (u.getD (j - 1) 0) 2; have h4 := hW (u.getD (j - 1) 0) 4; omega)) ?_
  refine v_callV F 1 [_] rfl rfl rfl (c_X3_at_in hr1 hr2 hl24 ((show j - 1 < u.length by omega))) gX4_faultsAt_X3_at rfl hd_X3_at ⟨⟨rfl, rfl⟩, ⟨(Nat.le_of_ble_eq_true rfl), (Nat.le_of_ble_eq_true rfl)⟩, ⟨(Nat.le_of_ble_eq_true rfl), (Nat.le_of_ble_eq_true rfl)⟩, (Nat.le_of_ble_eq_true rfl)⟩ hr1 rfl dX4_faultsAt_21 (fun v21 M21 q21 => ?_)
  obtain ⟨rfl, e21⟩ := q21
  replace e21 := e21.symm
  subst e21
  refine V.toI (hg _ (show j - 1 < u.length by omega)) ?_
  refine v_callV F 1 [_] rfl rfl rfl (c_madeBox_in hX hB (hn2 _ ((show j - 1 < u.length by omega)))) gX4_faultsAt_X4_madeBox rfl hd_X4_madeBox ⟨⟨rfl, rfl⟩, ⟨(Nat.le_of_ble_eq_true rfl), (Nat.le_of_ble_eq_true rfl)⟩, ⟨(Nat.le_of_ble_eq_true rfl), (Nat.le_of_ble_eq_true rfl)⟩, (Nat.le_of_ble_eq_true rfl)⟩ hX.x rfl dX4_faultsAt_24 (fun v24 M24 q24 => ?_)
  obtain ⟨rfl, e24⟩ := q24
  replace e24 := e24.symm
  subst e24
  refine v_astore F dX4_faultsAt_27 rfl (Nat.le_of_ble_eq_true rfl) (ok2_d rfl) ?_
  refine v_aload_n F dX4_faultsAt_29 rfl rfl ?_
  refine v_aload_n F dX4_faultsAt_30 rfl rfl ?_
  refine v_iload_n F dX4_faultsAt_31 rfl ?_
  refine v_iconst (v := nI 1) F dX4_faultsAt_32 (by decide) ?_
  refine v_iadd_n F dX4_faultsAt_33 ?_
  refine v_callV F 1 [_] rfl rfl rfl (c_X3_at_out hr1 hr2 (Or.inr (nI_le (by omega) (by omega)))) gX4_faultsAt_X3_at rfl hd_X3_at ⟨⟨rfl, rfl⟩, ⟨(Nat.le_of_ble_eq_true rfl), (Nat.le_of_ble_eq_true rfl)⟩, ⟨(Nat.le_of_ble_eq_true rfl), (Nat.le_of_ble_eq_true rfl)⟩, (Nat.le_of_ble_eq_true rfl)⟩ hr1 rfl dX4_faultsAt_34 (fun v34 M34 q34 => ?_)
  obtain ⟨rfl, e34⟩ := q34
  replace e34 := e34.symm
  subst e34
  refine v_callV F 1 [_] rfl rfl rfl (c_madeBox_out hX hB (Or.inl (by decide))) gX4_faultsAt_X4_madeBox rfl hd_X4_madeBox ⟨⟨rfl, rfl⟩, ⟨(Nat.le_of_ble_eq_true rfl), (Nat.le_of_ble_eq_true rfl)⟩, ⟨(Nat.le_of_ble_eq_true rfl), (Nat.le_of_ble_eq_true rfl)⟩, (Nat.le_of_ble_eq_true rfl)⟩ hX.x rfl dX4_faultsAt_37 (fun v37 M37 q37 => ?_)
  obtain ⟨rfl, e37⟩ := q37
  replace e37 := e37.symm
  subst e37
  refine v_astore F dX4_faultsAt_40 rfl (Nat.le_of_ble_eq_true rfl) (ok2_d rfl) ?_
  refine v_iconst (v := nI 0) F dX4_faultsAt_42 (by decide) ?_
  refine v_istore F dX4_faultsAt_43 (Nat.le_of_ble_eq_true rfl) (ok2_d rfl) ?_
  have j171 : ∀ m, m = ftA B u j → V ω σ M [some (.ref (A 0 0)), some (.ref (A 2 p)), some (.int (nI j)), some (.ref (A 1 (u.getD j 0))), some (.ref (A 1 (u.getD (j - 1) 0))), some (.null), some (.int (nI m))] 0 0 (BQ ω σ (fun v M9 => v = some (.int (nI (ftA B u j))) ∧ M9 = M) 0 0) 171 [] := by
    intro m hm
    refine v_iload F dX4_faultsAt_171 rfl ?_
    exact v_iret F hr dX4_faultsAt_173 (Nat.le_of_ble_eq_true rfl) (Nat.le_of_ble_eq_true rfl) ⟨by rw [hm], rfl⟩
  have j144 : ∀ m, m = f1 B u j ||| f2 B u j ||| f3 B u j ||| f4 B u j → V ω σ M [some (.ref (A 0 0)), some (.ref (A 2 p)), some (.int (nI j)), some (.ref (A 1 (u.getD j 0))), some (.ref (A 1 (u.getD (j - 1) 0))), some (.null), some (.int (nI m))] 0 0 (BQ ω σ (fun v M9 => v = some (.int (nI (ftA B u j))) ∧ M9 = M) 0 0) 144 [] := by
    intro m hm
    refine v_aload F dX4_faultsAt_144 rfl rfl ?_
    refine v_ifnull_r F dX4_faultsAt_146 ?_
    refine v_aload_n F dX4_faultsAt_149 rfl rfl ?_
    refine v_get F 1 4 fo_X4_faultsAt_86 dX4_faultsAt_150 (hX.box (hn2 _ hj)) rfl ?_
    refine v_aload F dX4_faultsAt_153 rfl rfl ?_
    refine v_callV F 0 [] rfl rfl rfl (c_X1_bottom hW (hX.box (hn2 _ (show j - 1 < u.length by omega)))) gX4_faultsAt_X1_bottom rfl hd_X1_bottom ⟨⟨rfl, rfl⟩, ⟨(Nat.le_of_ble_eq_true rfl), (Nat.le_of_ble_eq_true rfl)⟩, ⟨(Nat.le_of_ble_eq_true rfl), (Nat.le_of_ble_eq_true rfl)⟩, (Nat.le_of_ble_eq_true rfl)⟩ (hX.box (hn2 _ (show j - 1 < u.length by omega))) rfl dX4_faultsAt_155 (fun v155 M155 q155 => ?_)
    obtain ⟨rfl, e155⟩ := q155
    replace e155 := e155.symm
    subst e155
    refine v_bipush (v := nI 20) F dX4_faultsAt_158 (by decide) ?_
    refine v_iadd_n F dX4_faultsAt_160 ?_
    refine v_icmp_le_n F 171 dX4_faultsAt_161 (by decide) (by first | omega | exact Nat.lt_trans (hW _ _) (by decide) | (have h1 := lvA_lt hW u j; have h2 := hW (u.getD j 0) 5; have h3 := hW (u.getD (j - 1) 0) 2; have h4 := hW (u.getD (j - 1) 0) 4; omega)) (by first | omega | exact Nat.lt_trans (hW _ _) (by decide) | (have h1 := lvA_lt hW u j; have h2 := hW (u.getD j 0) 5; have h3 := hW (u.getD (j - 1) 0) 2; have h4 := hW (u.getD (j - 1) 0) 4; omega)) (fun c161 => ?_) (fun c161 => ?_)
    · exact j171 _ (by rw [hm]; first | (refine or_t (if_pos ?_ : f5 B u j = 16); (try simp only [decide_eq_true_eq, decide_eq_false_iff_not] at c49); (try simp only [decide_eq_true_eq, decide_eq_false_iff_not] at c87); (try simp only [decide_eq_true_eq, decide_eq_false_iff_not] at c96); (try simp only [decide_eq_true_eq, decide_eq_false_iff_not] at c119); omega) | (refine or_f (if_neg ?_ : f5 B u j = 0); (try simp only [decide_eq_true_eq, decide_eq_false_iff_not] at c49); (try simp only [decide_eq_true_eq, decide_eq_false_iff_not] at c87); (try simp only [decide_eq_true_eq, decide_eq_false_iff_not] at c96); (try simp only [decide_eq_true_eq, decide_eq_false_iff_not] at c119); omega))
    · refine v_iload F dX4_faultsAt_164 rfl ?_
      refine v_bipush (v := nI 16) F dX4_faultsAt_166 (by decide) ?_
      refine v_ior_n F dX4_faultsAt_168 ?_
      refine v_istore F dX4_faultsAt_169 (Nat.le_of_ble_eq_true rfl) (ok2_d rfl) ?_
      exact j171 _ (by rw [hm]; first | (refine or_t (if_pos ?_ : f5 B u j = 16); (try simp only [decide_eq_true_eq, decide_eq_false_iff_not] at c49); (try simp only [decide_eq_true_eq, decide_eq_false_iff_not] at c87); (try simp only [decide_eq_true_eq, decide_eq_false_iff_not] at c96); (try simp only [decide_eq_true_eq, decide_eq_false_iff_not] at c119); omega) | (refine or_f (if_neg ?_ : f5 B u j = 0); (try simp only [decide_eq_true_eq, decide_eq_false_iff_not] at c49); (try simp only [decide_eq_true_eq, decide_eq_false_iff_not] at c87); (try simp only [decide_eq_true_eq, decide_eq_false_iff_not] at c96); (try simp only [decide_eq_true_eq, decide_eq_false_iff_not] at c119); omega))
  have j128 : ∀ m, m = f1 B u j ||| f2 B u j ||| f3 B u j → V ω σ M [some (.ref (A 0 0)), some (.ref (A 2 p)), some (.int (nI j)), some (.ref (A 1 (u.getD j 0))), some (.ref (A 1 (u.getD (j - 1) 0))), some (.null), some (.int (nI m))] 0 0 (BQ ω σ (fun v M9 => v = some (.int (nI (ftA B u j))) ∧ M9 = M) 0 0) 128 [] := by
    intro m hm
    refine v_aload_n F dX4_faultsAt_128 rfl rfl ?_
    refine v_aload_n F dX4_faultsAt_129 rfl rfl ?_
    refine v_aload_n F dX4_faultsAt_130 rfl rfl ?_
    refine v_callV F 2 [_, _] rfl rfl rfl (c_ovA hX hB hp hlen hl24 hpf hin (hn2 _ hj)) gX4_faultsAt_X4_overlapsAny rfl hd_X4_overlapsAny ⟨⟨rfl, rfl⟩, ⟨(Nat.le_of_ble_eq_true rfl), (Nat.le_of_ble_eq_true rfl)⟩, ⟨(Nat.le_of_ble_eq_true rfl), (Nat.le_of_ble_eq_true rfl)⟩, (Nat.le_of_ble_eq_true rfl)⟩ hX.x rfl dX4_faultsAt_131 (fun v131 M131 q131 => ?_)
    obtain ⟨rfl, e131⟩ := q131
    replace e131 := e131.symm
    subst e131
    refine v_if_eq_b F 144 dX4_faultsAt_134 (by decide) (fun c134 => ?_) (fun c134 => ?_)
    · exact j144 _ (by rw [hm]; first | exact or_t (if_pos c134 : f4 B u j = 8) | (refine or_f (if_neg ?_ : f4 B u j = 0); rw [c134]; decide))
    · refine v_iload F dX4_faultsAt_137 rfl ?_
      refine v_bipush (v := nI 8) F dX4_faultsAt_139 (by decide) ?_
      refine v_ior_n F dX4_faultsAt_141 ?_
      refine v_istore F dX4_faultsAt_142 (Nat.le_of_ble_eq_true rfl) (ok2_d rfl) ?_
      exact j144 _ (by rw [hm]; first | exact or_t (if_pos c134 : f4 B u j = 8) | (refine or_f (if_neg ?_ : f4 B u j = 0); rw [c134]; decide))
  have j105 : ∀ m, m = f1 B u j ||| f2 B u j → V ω σ M [some (.ref (A 0 0)), some (.ref (A 2 p)), some (.int (nI j)), some (.ref (A 1 (u.getD j 0))), some (.ref (A 1 (u.getD (j - 1) 0))), some (.null), some (.int (nI m))] 0 0 (BQ ω σ (fun v M9 => v = some (.int (nI (ftA B u j))) ∧ M9 = M) 0 0) 105 [] := by
    intro m hm
    refine v_aload_n F dX4_faultsAt_105 rfl rfl ?_
    refine v_get F 1 2 fo_X4_faultsAt_147 dX4_faultsAt_106 (hX.box (hn2 _ hj)) rfl ?_
    refine v_iconst (v := nI 3) F dX4_faultsAt_109 (by decide) ?_
    refine v_icmp_ne_n F 128 dX4_faultsAt_110 (by decide) (by first | omega | exact Nat.lt_trans (hW _ _) (by decide) | (have h1 := lvA_lt hW u j; have h2 := hW (u.getD j 0) 5; have h3 := hW (u.getD (j - 1) 0) 2; have h4 := hW (u.getD (j - 1) 0) 4; omega)) (by first | omega | exact Nat.lt_trans (hW _ _) (by decide) | (have h1 := lvA_lt hW u j; have h2 := hW (u.getD j 0) 5; have h3 := hW (u.getD (j - 1) 0) 2; have h4 := hW (u.getD (j - 1) 0) 4; omega)) (fun c110 => ?_) (fun c110 => ?_)
    · exact j128 _ (by rw [hm]; first | (refine or_t (if_pos ?_ : f3 B u j = 4); (try simp only [decide_eq_true_eq, decide_eq_false_iff_not] at c49); (try simp only [decide_eq_true_eq, decide_eq_false_iff_not] at c87); (try simp only [decide_eq_true_eq, decide_eq_false_iff_not] at c96); (try simp only [decide_eq_true_eq, decide_eq_false_iff_not] at c119); omega) | (refine or_f (if_neg ?_ : f3 B u j = 0); (try simp only [decide_eq_true_eq, decide_eq_false_iff_not] at c49); (try simp only [decide_eq_true_eq, decide_eq_false_iff_not] at c87); (try simp only [decide_eq_true_eq, decide_eq_false_iff_not] at c96); (try simp only [decide_eq_true_eq, decide_eq_false_iff_not] at c119); omega))
    · refine v_aload F dX4_faultsAt_113 rfl rfl ?_
      refine v_iconst (v := nI 2) F dX4_faultsAt_115 (by decide) ?_
      refine v_callS F 2 [_, _] rfl rfl rfl (c_isOfKind_1 (hX.box (hn2 _ (show j - 1 < u.length by omega))) hW (by decide)) gX4_faultsAt_X4_isOfKind rfl hd_X4_isOfKind ⟨⟨rfl, rfl⟩, ⟨(Nat.le_of_ble_eq_true rfl), (Nat.le_of_ble_eq_true rfl)⟩, ⟨(Nat.le_of_ble_eq_true rfl), (Nat.le_of_ble_eq_true rfl)⟩, (Nat.le_of_ble_eq_true rfl)⟩ dX4_faultsAt_116 (fun v116 M116 q116 => ?_)
      obtain ⟨rfl, e116⟩ := q116
      replace e116 := e116.symm
      subst e116
      refine v_if_ne_b F 128 dX4_faultsAt_119 (by decide) (fun c119 => ?_) (fun c119 => ?_)
      · exact j128 _ (by rw [hm]; first | (refine or_t (if_pos ?_ : f3 B u j = 4); (try simp only [decide_eq_true_eq, decide_eq_false_iff_not] at c49); (try simp only [decide_eq_true_eq, decide_eq_false_iff_not] at c87); (try simp only [decide_eq_true_eq, decide_eq_false_iff_not] at c96); (try simp only [decide_eq_true_eq, decide_eq_false_iff_not] at c119); omega) | (refine or_f (if_neg ?_ : f3 B u j = 0); (try simp only [decide_eq_true_eq, decide_eq_false_iff_not] at c49); (try simp only [decide_eq_true_eq, decide_eq_false_iff_not] at c87); (try simp only [decide_eq_true_eq, decide_eq_false_iff_not] at c96); (try simp only [decide_eq_true_eq, decide_eq_false_iff_not] at c119); omega))
      · refine v_iload F dX4_faultsAt_122 rfl ?_
        refine v_iconst (v := nI 4) F dX4_faultsAt_124 (by decide) ?_
        refine v_ior_n F dX4_faultsAt_125 ?_
        refine v_istore F dX4_faultsAt_126 (Nat.le_of_ble_eq_true rfl) (ok2_d rfl) ?_
        exact j128 _ (by rw [hm]; first | (refine or_t (if_pos ?_ : f3 B u j = 4); (try simp only [decide_eq_true_eq, decide_eq_false_iff_not] at c49); (try simp only [decide_eq_true_eq, decide_eq_false_iff_not] at c87); (try simp only [decide_eq_true_eq, decide_eq_false_iff_not] at c96); (try simp only [decide_eq_true_eq, decide_eq_false_iff_not] at c119); omega) | (refine or_f (if_neg ?_ : f3 B u j = 0); (try simp only [decide_eq_true_eq, decide_eq_false_iff_not] at c49); (try simp only [decide_eq_true_eq, decide_eq_false_iff_not] at c87); (try simp only [decide_eq_true_eq, decide_eq_false_iff_not] at c96); (try simp only [decide_eq_true_eq, decide_eq_false_iff_not] at c119); omega))
  have j73 : ∀ m, m = f1 B u j → V ω σ M [some (.ref (A 0 0)), some (.ref (A 2 p)), some (.int (nI j)), some (.ref (A 1 (u.getD j 0))), some (.ref (A 1 (u.getD (j - 1) 0))), some (.null), some (.int (nI m))] 0 0 (BQ ω σ (fun v M9 => v = some (.int (nI (ftA B u j))) ∧ M9 = M) 0 0) 73 [] := by
    intro m hm
    refine v_aload_n F dX4_faultsAt_73 rfl rfl ?_
    refine v_get F 1 2 fo_X4_faultsAt_147 dX4_faultsAt_74 (hX.box (hn2 _ hj)) rfl ?_
    refine v_iconst (v := nI 1) F dX4_faultsAt_77 (by decide) ?_
    refine v_icmp_ne_n F 105 dX4_faultsAt_78 (by decide) (by first | omega | exact Nat.lt_trans (hW _ _) (by decide) | (have h1 := lvA_lt hW u j; have h2 := hW (u.getD j 0) 5; have h3 := hW (u.getD (j - 1) 0) 2; have h4 := hW (u.getD (j - 1) 0) 4; omega)) (by first | omega | exact Nat.lt_trans (hW _ _) (by decide) | (have h1 := lvA_lt hW u j; have h2 := hW (u.getD j 0) 5; have h3 := hW (u.getD (j - 1) 0) 2; have h4 := hW (u.getD (j - 1) 0) 4; omega)) (fun c78 => ?_) (fun c78 => ?_)
    · exact j105 _ (by rw [hm]; first | (refine or_t (if_pos ?_ : f2 B u j = 2); (try simp only [decide_eq_true_eq, decide_eq_false_iff_not] at c49); (try simp only [decide_eq_true_eq, decide_eq_false_iff_not] at c87); (try simp only [decide_eq_true_eq, decide_eq_false_iff_not] at c96); (try simp only [decide_eq_true_eq, decide_eq_false_iff_not] at c119); omega) | (refine or_f (if_neg ?_ : f2 B u j = 0); (try simp only [decide_eq_true_eq, decide_eq_false_iff_not] at c49); (try simp only [decide_eq_true_eq, decide_eq_false_iff_not] at c87); (try simp only [decide_eq_true_eq, decide_eq_false_iff_not] at c96); (try simp only [decide_eq_true_eq, decide_eq_false_iff_not] at c119); omega))
    · refine v_aload F dX4_faultsAt_81 rfl rfl ?_
      refine v_iconst (v := nI 1) F dX4_faultsAt_83 (by decide) ?_
      refine v_callS F 2 [_, _] rfl rfl rfl (c_isOfKind_1 (hX.box (hn2 _ (show j - 1 < u.length by omega))) hW (by decide)) gX4_faultsAt_X4_isOfKind rfl hd_X4_isOfKind ⟨⟨rfl, rfl⟩, ⟨(Nat.le_of_ble_eq_true rfl), (Nat.le_of_ble_eq_true rfl)⟩, ⟨(Nat.le_of_ble_eq_true rfl), (Nat.le_of_ble_eq_true rfl)⟩, (Nat.le_of_ble_eq_true rfl)⟩ dX4_faultsAt_84 (fun v84 M84 q84 => ?_)
      obtain ⟨rfl, e84⟩ := q84
      replace e84 := e84.symm
      subst e84
      refine v_if_ne_b F 105 dX4_faultsAt_87 (by decide) (fun c87 => ?_) (fun c87 => ?_)
      · exact j105 _ (by rw [hm]; first | (refine or_t (if_pos ?_ : f2 B u j = 2); (try simp only [decide_eq_true_eq, decide_eq_false_iff_not] at c49); (try simp only [decide_eq_true_eq, decide_eq_false_iff_not] at c87); (try simp only [decide_eq_true_eq, decide_eq_false_iff_not] at c96); (try simp only [decide_eq_true_eq, decide_eq_false_iff_not] at c119); omega) | (refine or_f (if_neg ?_ : f2 B u j = 0); (try simp only [decide_eq_true_eq, decide_eq_false_iff_not] at c49); (try simp only [decide_eq_true_eq, decide_eq_false_iff_not] at c87); (try simp only [decide_eq_true_eq, decide_eq_false_iff_not] at c96); (try simp only [decide_eq_true_eq, decide_eq_false_iff_not] at c119); omega))
      · refine v_aload F dX4_faultsAt_90 rfl rfl ?_
        refine v_iconst (v := nI 1) F dX4_faultsAt_92 (by decide) ?_
        refine v_callS F 2 [_, _] rfl rfl rfl (c_isOfKind_0) gX4_faultsAt_X4_isOfKind rfl hd_X4_isOfKind ⟨⟨rfl, rfl⟩, ⟨(Nat.le_of_ble_eq_true rfl), (Nat.le_of_ble_eq_true rfl)⟩, ⟨(Nat.le_of_ble_eq_true rfl), (Nat.le_of_ble_eq_true rfl)⟩, (Nat.le_of_ble_eq_true rfl)⟩ dX4_faultsAt_93 (fun v93 M93 q93 => ?_)
        obtain ⟨rfl, e93⟩ := q93
        replace e93 := e93.symm
        subst e93
        refine v_if_ne_b F 105 dX4_faultsAt_96 (by decide) (fun c96 => ?_) (fun c96 => ?_)
        · exact absurd c96 (by decide)
        · refine v_iload F dX4_faultsAt_99 rfl ?_
          refine v_iconst (v := nI 2) F dX4_faultsAt_101 (by decide) ?_
          refine v_ior_n F dX4_faultsAt_102 ?_
          refine v_istore F dX4_faultsAt_103 (Nat.le_of_ble_eq_true rfl) (ok2_d rfl) ?_
          exact j105 _ (by rw [hm]; first | (refine or_t (if_pos ?_ : f2 B u j = 2); (try simp only [decide_eq_true_eq, decide_eq_false_iff_not] at c49); (try simp only [decide_eq_true_eq, decide_eq_false_iff_not] at c87); (try simp only [decide_eq_true_eq, decide_eq_false_iff_not] at c96); (try simp only [decide_eq_true_eq, decide_eq_false_iff_not] at c119); omega) | (refine or_f (if_neg ?_ : f2 B u j = 0); (try simp only [decide_eq_true_eq, decide_eq_false_iff_not] at c49); (try simp only [decide_eq_true_eq, decide_eq_false_iff_not] at c87); (try simp only [decide_eq_true_eq, decide_eq_false_iff_not] at c96); (try simp only [decide_eq_true_eq, decide_eq_false_iff_not] at c119); omega))
  refine v_aload_n F dX4_faultsAt_45 rfl rfl ?_
  refine v_callV F 0 [] rfl rfl rfl (c_X1_isHead hW (hX.box (hn2 _ hj))) gX4_faultsAt_X1_isHead rfl hd_X1_isHead ⟨⟨rfl, rfl⟩, ⟨(Nat.le_of_ble_eq_true rfl), (Nat.le_of_ble_eq_true rfl)⟩, ⟨(Nat.le_of_ble_eq_true rfl), (Nat.le_of_ble_eq_true rfl)⟩, (Nat.le_of_ble_eq_true rfl)⟩ (hX.box (hn2 _ hj)) rfl dX4_faultsAt_46 (fun v46 M46 q46 => ?_)
  obtain ⟨rfl, e46⟩ := q46
  replace e46 := e46.symm
  subst e46
  refine v_if_eq_b F 73 dX4_faultsAt_49 (by decide) (fun c49 => ?_) (fun c49 => ?_)
  · exact j73 _ (by first | (refine (if_pos ?_ : f1 B u j = 1).symm; (try simp only [decide_eq_true_eq, decide_eq_false_iff_not] at c49); (try simp only [decide_eq_true_eq, decide_eq_false_iff_not] at c87); (try simp only [decide_eq_true_eq, decide_eq_false_iff_not] at c96); (try simp only [decide_eq_true_eq, decide_eq_false_iff_not] at c119); omega) | (refine (if_neg ?_ : f1 B u j = 0).symm; (try simp only [decide_eq_true_eq, decide_eq_false_iff_not] at c49); (try simp only [decide_eq_true_eq, decide_eq_false_iff_not] at c87); (try simp only [decide_eq_true_eq, decide_eq_false_iff_not] at c96); (try simp only [decide_eq_true_eq, decide_eq_false_iff_not] at c119); omega))
  · refine v_aload_n F dX4_faultsAt_52 rfl rfl ?_
    refine v_callV F 0 [] rfl rfl rfl (c_X1_level hW (hX.box (hn2 _ hj)) (by simpa using c49)) gX4_faultsAt_X1_level rfl hd_X1_level ⟨⟨rfl, rfl⟩, ⟨(Nat.le_of_ble_eq_true rfl), (Nat.le_of_ble_eq_true rfl)⟩, ⟨(Nat.le_of_ble_eq_true rfl), (Nat.le_of_ble_eq_true rfl)⟩, (Nat.le_of_ble_eq_true rfl)⟩ (hX.box (hn2 _ hj)) rfl dX4_faultsAt_53 (fun v53 M53 q53 => ?_)
    obtain ⟨rfl, e53⟩ := q53
    replace e53 := e53.symm
    subst e53
    refine v_aload_n F dX4_faultsAt_56 rfl rfl ?_
    refine v_aload_n F dX4_faultsAt_57 rfl rfl ?_
    refine v_iload_n F dX4_faultsAt_58 rfl ?_
    refine v_callV F 2 [_, _] rfl rfl rfl (c_lvA hX hB hp hlen hl24 hpf hin (by omega)) gX4_faultsAt_X4_levelAhead rfl hd_X4_levelAhead ⟨⟨rfl, rfl⟩, ⟨(Nat.le_of_ble_eq_true rfl), (Nat.le_of_ble_eq_true rfl)⟩, ⟨(Nat.le_of_ble_eq_true rfl), (Nat.le_of_ble_eq_true rfl)⟩, (Nat.le_of_ble_eq_true rfl)⟩ hX.x rfl dX4_faultsAt_59 (fun v59 M59 q59 => ?_)
    obtain ⟨rfl, e59⟩ := q59
    replace e59 := e59.symm
    subst e59
    refine v_iconst (v := nI 1) F dX4_faultsAt_62 (by decide) ?_
    refine v_iadd_n F dX4_faultsAt_63 ?_
    refine v_icmp_le_n F 73 dX4_faultsAt_64 (by decide) (by first | omega | exact Nat.lt_trans (hW _ _) (by decide) | (have h1 := lvA_lt hW u j; have h2 := hW (u.getD j 0) 5; have h3 := hW (u.getD (j - 1) 0) 2; have h4 := hW (u.getD (j - 1) 0) 4; omega)) (by first | omega | exact Nat.lt_trans (hW _ _) (by decide) | (have h1 := lvA_lt hW u j; have h2 := hW (u.getD j 0) 5; have h3 := hW (u.getD (j - 1) 0) 2; have h4 := hW (u.getD (j - 1) 0) 4; omega)) (fun c64 => ?_) (fun c64 => ?_)
    · exact j73 _ (by first | (refine (if_pos ?_ : f1 B u j = 1).symm; (try simp only [decide_eq_true_eq, decide_eq_false_iff_not] at c49); (try simp only [decide_eq_true_eq, decide_eq_false_iff_not] at c87); (try simp only [decide_eq_true_eq, decide_eq_false_iff_not] at c96); (try simp only [decide_eq_true_eq, decide_eq_false_iff_not] at c119); omega) | (refine (if_neg ?_ : f1 B u j = 0).symm; (try simp only [decide_eq_true_eq, decide_eq_false_iff_not] at c49); (try simp only [decide_eq_true_eq, decide_eq_false_iff_not] at c87); (try simp only [decide_eq_true_eq, decide_eq_false_iff_not] at c96); (try simp only [decide_eq_true_eq, decide_eq_false_iff_not] at c119); omega))
    · refine v_iload F dX4_faultsAt_67 rfl ?_
      refine v_iconst (v := nI 1) F dX4_faultsAt_69 (by decide) ?_
      refine v_ior_n F dX4_faultsAt_70 ?_
      refine v_istore F dX4_faultsAt_71 (Nat.le_of_ble_eq_true rfl) (ok2_d rfl) ?_
      exact j73 _ (by first | (refine (if_pos ?_ : f1 B u j = 1).symm; (try simp only [decide_eq_true_eq, decide_eq_false_iff_not] at c49); (try simp only [decide_eq_true_eq, decide_eq_false_iff_not] at c87); (try simp only [decide_eq_true_eq, decide_eq_false_iff_not] at c96); (try simp only [decide_eq_true_eq, decide_eq_false_iff_not] at c119); omega) | (refine (if_neg ?_ : f1 B u j = 0).symm; (try simp only [decide_eq_true_eq, decide_eq_false_iff_not] at c49); (try simp only [decide_eq_true_eq, decide_eq_false_iff_not] at c87); (try simp only [decide_eq_true_eq, decide_eq_false_iff_not] at c96); (try simp only [decide_eq_true_eq, decide_eq_false_iff_not] at c119); omega))
set_option maxHeartbeats 4000000 in
set_option maxRecDepth 100000 in
theorem c_ft11 {l : Launch} {ω : Om} {M : MM} {A B P : FF} {n k : Nat} {R : Nat → (Nat → Int32) × Nat} (hX : XI ω A B P n k R M) (hB : WB B n) {p : Nat} (hp : p < 6) {u : List Nat} (hlen : (R p).2 = u.length) (hl24 : u.length ≤ 24) (hpf : Pf (R p).1 u) (hin : ∀ x, x ∈ u → x < n) {j : Nat} (hj : j < u.length) (ha : 0 < j) (hb : j + 1 < u.length) : Ct l ω yX4_faultsAt wsX4_faultsAt rmX4_faultsAt [.ref (A 0 0), .ref (A 2 p), .int (nI j)] M (fun v M9 => v = some (.int (nI (ftA B u j))) ∧ M9 = M) 0 0 := by
  refine Ct.ofV (cc := cX4_faultsAt) (maxL := 7) (ret := (some .int)) [some (.ref (A 0 0)), some (.ref (A 2 p)), some (.int (nI j)), none, none, none, none] (by decide) rfl (Nat.le_of_ble_eq_true rfl) rfl (Lc.av (av := [.ref (A 0 0), .ref (A 2 p), .int (nI j)]) (k := 4) rfl) ?_
  intro σ F hl hr hname
  have F : Fx ω σ cX4_faultsAt 7 wsX4_faultsAt RX4 rmX4_faultsAt := F
  have hn : n ≤ 24 := hB.1
  have hW : ∀ i j, B i j < 128 := hB.2.1
  have hr1 : M (A 2 p) = some (rdE 3 (A 3 p) u.length) := by rw [← hlen]; exact hX.rd hp
  have hr2 : M (A 3 p) = some (rowE ω (R p).1) := hX.row (by omega)
  have hg : ∀ q, q < u.length → (R p).1 q = nI (u.getD q 0) := hpf
  have hn2 : ∀ q, q < u.length → u.getD q 0 < n := fun q hq => hin _ (getD_mem hq)
  refine v_aload_n F dX4_faultsAt_0 rfl rfl ?_
  refine v_aload_n F dX4_faultsAt_1 rfl rfl ?_
  refine v_iload_n F dX4_faultsAt_2 rfl ?_
  refine v_callV F 1 [_] rfl rfl rfl (c_X3_at_in hr1 hr2 hl24 (hj)) gX4_faultsAt_X3_at rfl hd_X3_at ⟨⟨rfl, rfl⟩, ⟨(Nat.le_of_ble_eq_true rfl), (Nat.le_of_ble_eq_true rfl)⟩, ⟨(Nat.le_of_ble_eq_true rfl), (Nat.le_of_ble_eq_true rfl)⟩, (Nat.le_of_ble_eq_true rfl)⟩ hr1 rfl dX4_faultsAt_3 (fun v3 M3 q3 => ?_)
  obtain ⟨rfl, e3⟩ := q3
  replace e3 := e3.symm
  subst e3
  refine V.toI (hg _ hj) ?_
  refine v_callV F 1 [_] rfl rfl rfl (c_madeBox_in hX hB (hn2 _ (hj))) gX4_faultsAt_X4_madeBox rfl hd_X4_madeBox ⟨⟨rfl, rfl⟩, ⟨(Nat.le_of_ble_eq_true rfl), (Nat.le_of_ble_eq_true rfl)⟩, ⟨(Nat.le_of_ble_eq_true rfl), (Nat.le_of_ble_eq_true rfl)⟩, (Nat.le_of_ble_eq_true rfl)⟩ hX.x rfl dX4_faultsAt_6 (fun v6 M6 q6 => ?_)
  obtain ⟨rfl, e6⟩ := q6
  replace e6 := e6.symm
  subst e6
  refine v_astore_n F dX4_faultsAt_9 rfl (Nat.le_of_ble_eq_true rfl) (ok2_d rfl) ?_
  refine v_aload_n F dX4_faultsAt_10 rfl rfl ?_
  refine v_ifnonnull_r F 16 dX4_faultsAt_11 (by decide) ?_
  refine v_aload_n F dX4_faultsAt_16 rfl rfl ?_
  refine v_aload_n F dX4_faultsAt_17 rfl rfl ?_
  refine v_iload_n F dX4_faultsAt_18 rfl ?_
  refine v_iconst (v := nI 1) F dX4_faultsAt_19 (by decide) ?_
  refine v_isub_n F dX4_faultsAt_20 (by first | omega | exact Nat.lt_trans (hW _ _) (by decide) | (have h1 := lvA_lt hW u j; have h2 := hW (u.getD j 0) 5; have h3 := hW (u.getD (j - 1) 0) 2; have h4 := hW (u.getD (j - 1) 0) 4; omega)) ?_
  refine v_callV F 1 [_] rfl rfl rfl (c_X3_at_in hr1 hr2 hl24 ((show j - 1 < u.length by omega))) gX4_faultsAt_X3_at rfl hd_X3_at ⟨⟨rfl, rfl⟩, ⟨(Nat.le_of_ble_eq_true rfl), (Nat.le_of_ble_eq_true rfl)⟩, ⟨(Nat.le_of_ble_eq_true rfl), (Nat.le_of_ble_eq_true rfl)⟩, (Nat.le_of_ble_eq_true rfl)⟩ hr1 rfl dX4_faultsAt_21 (fun v21 M21 q21 => ?_)
  obtain ⟨rfl, e21⟩ := q21
  replace e21 := e21.symm
  subst e21
  refine V.toI (hg _ (show j - 1 < u.length by omega)) ?_
  refine v_callV F 1 [_] rfl rfl rfl (c_madeBox_in hX hB (hn2 _ ((show j - 1 < u.length by omega)))) gX4_faultsAt_X4_madeBox rfl hd_X4_madeBox ⟨⟨rfl, rfl⟩, ⟨(Nat.le_of_ble_eq_true rfl), (Nat.le_of_ble_eq_true rfl)⟩, ⟨(Nat.le_of_ble_eq_true rfl), (Nat.le_of_ble_eq_true rfl)⟩, (Nat.le_of_ble_eq_true rfl)⟩ hX.x rfl dX4_faultsAt_24 (fun v24 M24 q24 => ?_)
  obtain ⟨rfl, e24⟩ := q24
  replace e24 := e24.symm
  subst e24
  refine v_astore F dX4_faultsAt_27 rfl (Nat.le_of_ble_eq_true rfl) (ok2_d rfl) ?_
  refine v_aload_n F dX4_faultsAt_29 rfl rfl ?_
  refine v_aload_n F dX4_faultsAt_30 rfl rfl ?_
  refine v_iload_n F dX4_faultsAt_31 rfl ?_
  refine v_iconst (v := nI 1) F dX4_faultsAt_32 (by decide) ?_
  refine v_iadd_n F dX4_faultsAt_33 ?_
  refine v_callV F 1 [_] rfl rfl rfl (c_X3_at_in hr1 hr2 hl24 (hb)) gX4_faultsAt_X3_at rfl hd_X3_at ⟨⟨rfl, rfl⟩, ⟨(Nat.le_of_ble_eq_true rfl), (Nat.le_of_ble_eq_true rfl)⟩, ⟨(Nat.le_of_ble_eq_true rfl), (Nat.le_of_ble_eq_true rfl)⟩, (Nat.le_of_ble_eq_true rfl)⟩ hr1 rfl dX4_faultsAt_34 (fun v34 M34 q34 => ?_)
  obtain ⟨rfl, e34⟩ := q34
  replace e34 := e34.symm
  subst e34
  refine V.toI (hg _ hb) ?_
  refine v_callV F 1 [_] rfl rfl rfl (c_madeBox_in hX hB (hn2 _ (hb))) gX4_faultsAt_X4_madeBox rfl hd_X4_madeBox ⟨⟨rfl, rfl⟩, ⟨(Nat.le_of_ble_eq_true rfl), (Nat.le_of_ble_eq_true rfl)⟩, ⟨(Nat.le_of_ble_eq_true rfl), (Nat.le_of_ble_eq_true rfl)⟩, (Nat.le_of_ble_eq_true rfl)⟩ hX.x rfl dX4_faultsAt_37 (fun v37 M37 q37 => ?_)
  obtain ⟨rfl, e37⟩ := q37
  replace e37 := e37.symm
  subst e37
  refine v_astore F dX4_faultsAt_40 rfl (Nat.le_of_ble_eq_true rfl) (ok2_d rfl) ?_
  refine v_iconst (v := nI 0) F dX4_faultsAt_42 (by decide) ?_
  refine v_istore F dX4_faultsAt_43 (Nat.le_of_ble_eq_true rfl) (ok2_d rfl) ?_
  have j171 : ∀ m, m = ftA B u j → V ω σ M [some (.ref (A 0 0)), some (.ref (A 2 p)), some (.int (nI j)), some (.ref (A 1 (u.getD j 0))), some (.ref (A 1 (u.getD (j - 1) 0))), some (.ref (A 1 (u.getD (j + 1) 0))), some (.int (nI m))] 0 0 (BQ ω σ (fun v M9 => v = some (.int (nI (ftA B u j))) ∧ M9 = M) 0 0) 171 [] := by
    intro m hm
    refine v_iload F dX4_faultsAt_171 rfl ?_
    exact v_iret F hr dX4_faultsAt_173 (Nat.le_of_ble_eq_true rfl) (Nat.le_of_ble_eq_true rfl) ⟨by rw [hm], rfl⟩
  have j144 : ∀ m, m = f1 B u j ||| f2 B u j ||| f3 B u j ||| f4 B u j → V ω σ M [some (.ref (A 0 0)), some (.ref (A 2 p)), some (.int (nI j)), some (.ref (A 1 (u.getD j 0))), some (.ref (A 1 (u.getD (j - 1) 0))), some (.ref (A 1 (u.getD (j + 1) 0))), some (.int (nI m))] 0 0 (BQ ω σ (fun v M9 => v = some (.int (nI (ftA B u j))) ∧ M9 = M) 0 0) 144 [] := by
    intro m hm
    refine v_aload F dX4_faultsAt_144 rfl rfl ?_
    refine v_ifnull_r F dX4_faultsAt_146 ?_
    refine v_aload_n F dX4_faultsAt_149 rfl rfl ?_
    refine v_get F 1 4 fo_X4_faultsAt_86 dX4_faultsAt_150 (hX.box (hn2 _ hj)) rfl ?_
    refine v_aload F dX4_faultsAt_153 rfl rfl ?_
    refine v_callV F 0 [] rfl rfl rfl (c_X1_bottom hW (hX.box (hn2 _ (show j - 1 < u.length by omega)))) gX4_faultsAt_X1_bottom rfl hd_X1_bottom ⟨⟨rfl, rfl⟩, ⟨(Nat.le_of_ble_eq_true rfl), (Nat.le_of_ble_eq_true rfl)⟩, ⟨(Nat.le_of_ble_eq_true rfl), (Nat.le_of_ble_eq_true rfl)⟩, (Nat.le_of_ble_eq_true rfl)⟩ (hX.box (hn2 _ (show j - 1 < u.length by omega))) rfl dX4_faultsAt_155 (fun v155 M155 q155 => ?_)
    obtain ⟨rfl, e155⟩ := q155
    replace e155 := e155.symm
    subst e155
    refine v_bipush (v := nI 20) F dX4_faultsAt_158 (by decide) ?_
    refine v_iadd_n F dX4_faultsAt_160 ?_
    refine v_icmp_le_n F 171 dX4_faultsAt_161 (by decide) (by first | omega | exact Nat.lt_trans (hW _ _) (by decide) | (have h1 := lvA_lt hW u j; have h2 := hW (u.getD j 0) 5; have h3 := hW (u.getD (j - 1) 0) 2; have h4 := hW (u.getD (j - 1) 0) 4; omega)) (by first | omega | exact Nat.lt_trans (hW _ _) (by decide) | (have h1 := lvA_lt hW u j; have h2 := hW (u.getD j 0) 5; have h3 := hW (u.getD (j - 1) 0) 2; have h4 := hW (u.getD (j - 1) 0) 4; omega)) (fun c161 => ?_) (fun c161 => ?_)
    · exact j171 _ (by rw [hm]; first | (refine or_t (if_pos ?_ : f5 B u j = 16); (try simp only [decide_eq_true_eq, decide_eq_false_iff_not] at c49); (try simp only [decide_eq_true_eq, decide_eq_false_iff_not] at c87); (try simp only [decide_eq_true_eq, decide_eq_false_iff_not] at c96); (try simp only [decide_eq_true_eq, decide_eq_false_iff_not] at c119); omega) | (refine or_f (if_neg ?_ : f5 B u j = 0); (try simp only [decide_eq_true_eq, decide_eq_false_iff_not] at c49); (try simp only [decide_eq_true_eq, decide_eq_false_iff_not] at c87); (try simp only [decide_eq_true_eq, decide_eq_false_iff_not] at c96); (try simp only [decide_eq_true_eq, decide_eq_false_iff_not] at c119); omega))
    · refine v_iload F dX4_faultsAt_164 rfl ?_
      refine v_bipush (v := nI 16) F dX4_faultsAt_166 (by decide) ?_
      refine v_ior_n F dX4_faultsAt_168 ?_
      refine v_istore F dX4_faultsAt_169 (Nat.le_of_ble_eq_true rfl) (ok2_d rfl) ?_
      exact j171 _ (by rw [hm]; first | (refine or_t (if_pos ?_ : f5 B u j = 16); (try simp only [decide_eq_true_eq, decide_eq_false_iff_not] at c49); (try simp only [decide_eq_true_eq, decide_eq_false_iff_not] at c87); (try simp only [decide_eq_true_eq, decide_eq_false_iff_not] at c96); (try simp only [decide_eq_true_eq, decide_eq_false_iff_not] at c119); omega) | (refine or_f (if_neg ?_ : f5 B u j = 0); (try simp only [decide_eq_true_eq, decide_eq_false_iff_not] at c49); (try simp only [decide_eq_true_eq, decide_eq_false_iff_not] at c87); (try simp only [decide_eq_true_eq, decide_eq_false_iff_not] at c96); (try simp only [decide_eq_true_eq, decide_eq_false_iff_not] at c119); omega))
  have j128 : ∀ m, m = f1 B u j ||| f2 B u j ||| f3 B u j → V ω σ M [some (.ref (A 0 0)), some (.ref (A 2 p)), some (.int (nI j)), some (.ref (A 1 (u.getD j 0))), some (.ref (A 1 (u.getD (j - 1) 0))), some (.ref (A 1 (u.getD (j + 1) 0))), some (.int (nI m))] 0 0 (BQ ω σ (fun v M9 => v = some (.int (nI (ftA B u j))) ∧ M9 = M) 0 0) 128 [] := by
    intro m hm
    refine v_aload_n F dX4_faultsAt_128 rfl rfl ?_
    refine v_aload_n F dX4_faultsAt_129 rfl rfl ?_
    refine v_aload_n F dX4_faultsAt_130 rfl rfl ?_
    refine v_callV F 2 [_, _] rfl rfl rfl (c_ovA hX hB hp hlen hl24 hpf hin (hn2 _ hj)) gX4_faultsAt_X4_overlapsAny rfl hd_X4_overlapsAny ⟨⟨rfl, rfl⟩, ⟨(Nat.le_of_ble_eq_true rfl), (Nat.le_of_ble_eq_true rfl)⟩, ⟨(Nat.le_of_ble_eq_true rfl), (Nat.le_of_ble_eq_true rfl)⟩, (Nat.le_of_ble_eq_true rfl)⟩ hX.x rfl dX4_faultsAt_131 (fun v131 M131 q131 => ?_)
    obtain ⟨rfl, e131⟩ := q131
    replace e131 := e131.symm
    subst e131
    refine v_if_eq_b F 144 dX4_faultsAt_134 (by decide) (fun c134 => ?_) (fun c134 => ?_)
    · exact j144 _ (by rw [hm]; first | exact or_t (if_pos c134 : f4 B u j = 8) | (refine or_f (if_neg ?_ : f4 B u j = 0); rw [c134]; decide))
    · refine v_iload F dX4_faultsAt_137 rfl ?_
      refine v_bipush (v := nI 8) F dX4_faultsAt_139 (by decide) ?_
      refine v_ior_n F dX4_faultsAt_141 ?_
      refine v_istore F dX4_faultsAt_142 (Nat.le_of_ble_eq_true rfl) (ok2_d rfl) ?_
      exact j144 _ (by rw [hm]; first | exact or_t (if_pos c134 : f4 B u j = 8) | (refine or_f (if_neg ?_ : f4 B u j = 0); rw [c134]; decide))
  have j105 : ∀ m, m = f1 B u j ||| f2 B u j → V ω σ M [some (.ref (A 0 0)), some (.ref (A 2 p)), some (.int (nI j)), some (.ref (A 1 (u.getD j 0))), some (.ref (A 1 (u.getD (j - 1) 0))), some (.ref (A 1 (u.getD (j + 1) 0))), some (.int (nI m))] 0 0 (BQ ω σ (fun v M9 => v = some (.int (nI (ftA B u j))) ∧ M9 = M) 0 0) 105 [] := by
    intro m hm
    refine v_aload_n F dX4_faultsAt_105 rfl rfl ?_
    refine v_get F 1 2 fo_X4_faultsAt_147 dX4_faultsAt_106 (hX.box (hn2 _ hj)) rfl ?_
    refine v_iconst (v := nI 3) F dX4_faultsAt_109 (by decide) ?_
    refine v_icmp_ne_n F 128 dX4_faultsAt_110 (by decide) (by first | omega | exact Nat.lt_trans (hW _ _) (by decide) | (have h1 := lvA_lt hW u j; have h2 := hW (u.getD j 0) 5; have h3 := hW (u.getD (j - 1) 0) 2; have h4 := hW (u.getD (j - 1) 0) 4; omega)) (by first | omega | exact Nat.lt_trans (hW _ _) (by decide) | (have h1 := lvA_lt hW u j; have h2 := hW (u.getD j 0) 5; have h3 := hW (u.getD (j - 1) 0) 2; have h4 := hW (u.getD (j - 1) 0) 4; omega)) (fun c110 => ?_) (fun c110 => ?_)
    · exact j128 _ (by rw [hm]; first | (refine or_t (if_pos ?_ : f3 B u j = 4); (try simp only [decide_eq_true_eq, decide_eq_false_iff_not] at c49); (try simp only [decide_eq_true_eq, decide_eq_false_iff_not] at c87); (try simp only [decide_eq_true_eq, decide_eq_false_iff_not] at c96); (try simp only [decide_eq_true_eq, decide_eq_false_iff_not] at c119); omega) | (refine or_f (if_neg ?_ : f3 B u j = 0); (try simp only [decide_eq_true_eq, decide_eq_false_iff_not] at c49); (try simp only [decide_eq_true_eq, decide_eq_false_iff_not] at c87); (try simp only [decide_eq_true_eq, decide_eq_false_iff_not] at c96); (try simp only [decide_eq_true_eq, decide_eq_false_iff_not] at c119); omega))
    · refine v_aload F dX4_faultsAt_113 rfl rfl ?_
      refine v_iconst (v := nI 2) F dX4_faultsAt_115 (by decide) ?_
      refine v_callS F 2 [_, _] rfl rfl rfl (c_isOfKind_1 (hX.box (hn2 _ (show j - 1 < u.length by omega))) hW (by decide)) gX4_faultsAt_X4_isOfKind rfl hd_X4_isOfKind ⟨⟨rfl, rfl⟩, ⟨(Nat.le_of_ble_eq_true rfl), (Nat.le_of_ble_eq_true rfl)⟩, ⟨(Nat.le_of_ble_eq_true rfl), (Nat.le_of_ble_eq_true rfl)⟩, (Nat.le_of_ble_eq_true rfl)⟩ dX4_faultsAt_116 (fun v116 M116 q116 => ?_)
      obtain ⟨rfl, e116⟩ := q116
      replace e116 := e116.symm
      subst e116
      refine v_if_ne_b F 128 dX4_faultsAt_119 (by decide) (fun c119 => ?_) (fun c119 => ?_)
      · exact j128 _ (by rw [hm]; first | (refine or_t (if_pos ?_ : f3 B u j = 4); (try simp only [decide_eq_true_eq, decide_eq_false_iff_not] at c49); (try simp only [decide_eq_true_eq, decide_eq_false_iff_not] at c87); (try simp only [decide_eq_true_eq, decide_eq_false_iff_not] at c96); (try simp only [decide_eq_true_eq, decide_eq_false_iff_not] at c119); omega) | (refine or_f (if_neg ?_ : f3 B u j = 0); (try simp only [decide_eq_true_eq, decide_eq_false_iff_not] at c49); (try simp only [decide_eq_true_eq, decide_eq_false_iff_not] at c87); (try simp only [decide_eq_true_eq, decide_eq_false_iff_not] at c96); (try simp only [decide_eq_true_eq, decide_eq_false_iff_not] at c119); omega))
      · refine v_iload F dX4_faultsAt_122 rfl ?_
        refine v_iconst (v := nI 4) F dX4_faultsAt_124 (by decide) ?_
        refine v_ior_n F dX4_faultsAt_125 ?_
        refine v_istore F dX4_faultsAt_126 (Nat.le_of_ble_eq_true rfl) (ok2_d rfl) ?_
        exact j128 _ (by rw [hm]; first | (refine or_t (if_pos ?_ : f3 B u j = 4); (try simp only [decide_eq_true_eq, decide_eq_false_iff_not] at c49); (try simp only [decide_eq_true_eq, decide_eq_false_iff_not] at c87); (try simp only [decide_eq_true_eq, decide_eq_false_iff_not] at c96); (try simp only [decide_eq_true_eq, decide_eq_false_iff_not] at c119); omega) | (refine or_f (if_neg ?_ : f3 B u j = 0); (try simp only [decide_eq_true_eq, decide_eq_false_iff_not] at c49); (try simp only [decide_eq_true_eq, decide_eq_false_iff_not] at c87); (try simp only [decide_eq_true_eq, decide_eq_false_iff_not] at c96); (try simp only [decide_eq_true_eq, decide_eq_false_iff_not] at c119); omega))
  have j73 : ∀ m, m = f1 B u j → V ω σ M [some (.ref (A 0 0)), some (.ref (A 2 p)), some (.int (nI j)), some (.ref (A 1 (u.getD j 0))), some (.ref (A 1 (u.getD (j - 1) 0))), some (.ref (A 1 (u.getD (j + 1) 0))), some (.int (nI m))] 0 0 (BQ ω σ (fun v M9 => v = some (.int (nI (ftA B u j))) ∧ M9 = M) 0 0) 73 [] := by
    intro m hm
    refine v_aload_n F dX4_faultsAt_73 rfl rfl ?_
    refine v_get F 1 2 fo_X4_faultsAt_147 dX4_faultsAt_74 (hX.box (hn2 _ hj)) rfl ?_
    refine v_iconst (v := nI 1) F dX4_faultsAt_77 (by decide) ?_
    refine v_icmp_ne_n F 105 dX4_faultsAt_78 (by decide) (by first | omega | exact Nat.lt_trans (hW _ _) (by decide) | (have h1 := lvA_lt hW u j; have h2 := hW (u.getD j 0) 5; have h3 := hW (u.getD (j - 1) 0) 2; have h4 := hW (u.getD (j - 1) 0) 4; omega)) (by first | omega | exact Nat.lt_trans (hW _ _) (by decide) | (have h1 := lvA_lt hW u j; have h2 := hW (u.getD j 0) 5; have h3 := hW (u.getD (j - 1) 0) 2; have h4 := hW (u.getD (j - 1) 0) 4; omega)) (fun c78 => ?_) (fun c78 => ?_)
    · exact j105 _ (by rw [hm]; first | (refine or_t (if_pos ?_ : f2 B u j = 2); (try simp only [decide_eq_true_eq, decide_eq_false_iff_not] at c49); (try simp only [decide_eq_true_eq, decide_eq_false_iff_not] at c87); (try simp only [decide_eq_true_eq, decide_eq_false_iff_not] at c96); (try simp only [decide_eq_true_eq, decide_eq_false_iff_not] at c119); omega) | (refine or_f (if_neg ?_ : f2 B u j = 0); (try simp only [decide_eq_true_eq, decide_eq_false_iff_not] at c49); (try simp only [decide_eq_true_eq, decide_eq_false_iff_not] at c87); (try simp only [decide_eq_true_eq, decide_eq_false_iff_not] at c96); (try simp only [decide_eq_true_eq, decide_eq_false_iff_not] at c119); omega))
    · refine v_aload F dX4_faultsAt_81 rfl rfl ?_
      refine v_iconst (v := nI 1) F dX4_faultsAt_83 (by decide) ?_
      refine v_callS F 2 [_, _] rfl rfl rfl (c_isOfKind_1 (hX.box (hn2 _ (show j - 1 < u.length by omega))) hW (by decide)) gX4_faultsAt_X4_isOfKind rfl hd_X4_isOfKind ⟨⟨rfl, rfl⟩, ⟨(Nat.le_of_ble_eq_true rfl), (Nat.le_of_ble_eq_true rfl)⟩, ⟨(Nat.le_of_ble_eq_true rfl), (Nat.le_of_ble_eq_true rfl)⟩, (Nat.le_of_ble_eq_true rfl)⟩ dX4_faultsAt_84 (fun v84 M84 q84 => ?_)
      obtain ⟨rfl, e84⟩ := q84
      replace e84 := e84.symm
      subst e84
      refine v_if_ne_b F 105 dX4_faultsAt_87 (by decide) (fun c87 => ?_) (fun c87 => ?_)
      · exact j105 _ (by rw [hm]; first | (refine or_t (if_pos ?_ : f2 B u j = 2); (try simp only [decide_eq_true_eq, decide_eq_false_iff_not] at c49); (try simp only [decide_eq_true_eq, decide_eq_false_iff_not] at c87); (try simp only [decide_eq_true_eq, decide_eq_false_iff_not] at c96); (try simp only [decide_eq_true_eq, decide_eq_false_iff_not] at c119); omega) | (refine or_f (if_neg ?_ : f2 B u j = 0); (try simp only [decide_eq_true_eq, decide_eq_false_iff_not] at c49); (try simp only [decide_eq_true_eq, decide_eq_false_iff_not] at c87); (try simp only [decide_eq_true_eq, decide_eq_false_iff_not] at c96); (try simp only [decide_eq_true_eq, decide_eq_false_iff_not] at c119); omega))
      · refine v_aload F dX4_faultsAt_90 rfl rfl ?_
        refine v_iconst (v := nI 1) F dX4_faultsAt_92 (by decide) ?_
        refine v_callS F 2 [_, _] rfl rfl rfl (c_isOfKind_1 (hX.box (hn2 _ hb)) hW (by decide)) gX4_faultsAt_X4_isOfKind rfl hd_X4_isOfKind ⟨⟨rfl, rfl⟩, ⟨(Nat.le_of_ble_eq_true rfl), (Nat.le_of_ble_eq_true rfl)⟩, ⟨(Nat.le_of_ble_eq_true rfl), (Nat.le_of_ble_eq_true rfl)⟩, (Nat.le_of_ble_eq_true rfl)⟩ dX4_faultsAt_93 (fun v93 M93 q93 => ?_)
        obtain ⟨rfl, e93⟩ := q93
        replace e93 := e93.symm
        subst e93
        refine v_if_ne_b F 105 dX4_faultsAt_96 (by decide) (fun c96 => ?_) (fun c96 => ?_)
        · exact j105 _ (by rw [hm]; first | (refine or_t (if_pos ?_ : f2 B u j = 2); (try simp only [decide_eq_true_eq, decide_eq_false_iff_not] at c49); (try simp only [decide_eq_true_eq, decide_eq_false_iff_not] at c87); (try simp only [decide_eq_true_eq, decide_eq_false_iff_not] at c96); (try simp only [decide_eq_true_eq, decide_eq_false_iff_not] at c119); omega) | (refine or_f (if_neg ?_ : f2 B u j = 0); (try simp only [decide_eq_true_eq, decide_eq_false_iff_not] at c49); (try simp only [decide_eq_true_eq, decide_eq_false_iff_not] at c87); (try simp only [decide_eq_true_eq, decide_eq_false_iff_not] at c96); (try simp only [decide_eq_true_eq, decide_eq_false_iff_not] at c119); omega))
        · refine v_iload F dX4_faultsAt_99 rfl ?_
          refine v_iconst (v := nI 2) F dX4_faultsAt_101 (by decide) ?_
          refine v_ior_n F dX4_faultsAt_102 ?_
          refine v_istore F dX4_faultsAt_103 (Nat.le_of_ble_eq_true rfl) (ok2_d rfl) ?_
          exact j105 _ (by rw [hm]; first | (refine or_t (if_pos ?_ : f2 B u j = 2); (try simp only [decide_eq_true_eq, decide_eq_false_iff_not] at c49); (try simp only [decide_eq_true_eq, decide_eq_false_iff_not] at c87); (try simp only [decide_eq_true_eq, decide_eq_false_iff_not] at c96); (try simp only [decide_eq_true_eq, decide_eq_false_iff_not] at c119); omega) | (refine or_f (if_neg ?_ : f2 B u j = 0); (try simp only [decide_eq_true_eq, decide_eq_false_iff_not] at c49); (try simp only [decide_eq_true_eq, decide_eq_false_iff_not] at c87); (try simp only [decide_eq_true_eq, decide_eq_false_iff_not] at c96); (try simp only [decide_eq_true_eq, decide_eq_false_iff_not] at c119); omega))
  refine v_aload_n F dX4_faultsAt_45 rfl rfl ?_
  refine v_callV F 0 [] rfl rfl rfl (c_X1_isHead hW (hX.box (hn2 _ hj))) gX4_faultsAt_X1_isHead rfl hd_X1_isHead ⟨⟨rfl, rfl⟩, ⟨(Nat.le_of_ble_eq_true rfl), (Nat.le_of_ble_eq_true rfl)⟩, ⟨(Nat.le_of_ble_eq_true rfl), (Nat.le_of_ble_eq_true rfl)⟩, (Nat.le_of_ble_eq_true rfl)⟩ (hX.box (hn2 _ hj)) rfl dX4_faultsAt_46 (fun v46 M46 q46 => ?_)
  obtain ⟨rfl, e46⟩ := q46
  replace e46 := e46.symm
  subst e46
  refine v_if_eq_b F 73 dX4_faultsAt_49 (by decide) (fun c49 => ?_) (fun c49 => ?_)
  · exact j73 _ (by first | (refine (if_pos ?_ : f1 B u j = 1).symm; (try simp only [decide_eq_true_eq, decide_eq_false_iff_not] at c49); (try simp only [decide_eq_true_eq, decide_eq_false_iff_not] at c87); (try simp only [decide_eq_true_eq, decide_eq_false_iff_not] at c96); (try simp only [decide_eq_true_eq, decide_eq_false_iff_not] at c119); omega) | (refine (if_neg ?_ : f1 B u j = 0).symm; (try simp only [decide_eq_true_eq, decide_eq_false_iff_not] at c49); (try simp only [decide_eq_true_eq, decide_eq_false_iff_not] at c87); (try simp only [decide_eq_true_eq, decide_eq_false_iff_not] at c96); (try simp only [decide_eq_true_eq, decide_eq_false_iff_not] at c119); omega))
  · refine v_aload_n F dX4_faultsAt_52 rfl rfl ?_
    refine v_callV F 0 [] rfl rfl rfl (c_X1_level hW (hX.box (hn2 _ hj)) (by simpa using c49)) gX4_faultsAt_X1_level rfl hd_X1_level ⟨⟨rfl, rfl⟩, ⟨(Nat.le_of_ble_eq_true rfl), (Nat.le_of_ble_eq_true rfl)⟩, ⟨(Nat.le_of_ble_eq_true rfl), (Nat.le_of_ble_eq_true rfl)⟩, (Nat.le_of_ble_eq_true rfl)⟩ (hX.box (hn2 _ hj)) rfl dX4_faultsAt_53 (fun v53 M53 q53 => ?_)
    obtain ⟨rfl, e53⟩ := q53
    replace e53 := e53.symm
    subst e53
    refine v_aload_n F dX4_faultsAt_56 rfl rfl ?_
    refine v_aload_n F dX4_faultsAt_57 rfl rfl ?_
    refine v_iload_n F dX4_faultsAt_58 rfl ?_
    refine v_callV F 2 [_, _] rfl rfl rfl (c_lvA hX hB hp hlen hl24 hpf hin (by omega)) gX4_faultsAt_X4_levelAhead rfl hd_X4_levelAhead ⟨⟨rfl, rfl⟩, ⟨(Nat.le_of_ble_eq_true rfl), (Nat.le_of_ble_eq_true rfl)⟩, ⟨(Nat.le_of_ble_eq_true rfl), (Nat.le_of_ble_eq_true rfl)⟩, (Nat.le_of_ble_eq_true rfl)⟩ hX.x rfl dX4_faultsAt_59 (fun v59 M59 q59 => ?_)
    obtain ⟨rfl, e59⟩ := q59
    replace e59 := e59.symm
    subst e59
    refine v_iconst (v := nI 1) F dX4_faultsAt_62 (by decide) ?_
    refine v_iadd_n F dX4_faultsAt_63 ?_
    refine v_icmp_le_n F 73 dX4_faultsAt_64 (by decide) (by first | omega | exact Nat.lt_trans (hW _ _) (by decide) | (have h1 := lvA_lt hW u j; have h2 := hW (u.getD j 0) 5; have h3 := hW (u.getD (j - 1) 0) 2; have h4 := hW (u.getD (j - 1) 0) 4; omega)) (by first | omega | exact Nat.lt_trans (hW _ _) (by decide) | (have h1 := lvA_lt hW u j; have h2 := hW (u.getD j 0) 5; have h3 := hW (u.getD (j - 1) 0) 2; have h4 := hW (u.getD (j - 1) 0) 4; omega)) (fun c64 => ?_) (fun c64 => ?_)
    · exact j73 _ (by first | (refine (if_pos ?_ : f1 B u j = 1).symm; (try simp only [decide_eq_true_eq, decide_eq_false_iff_not] at c49); (try simp only [decide_eq_true_eq, decide_eq_false_iff_not] at c87); (try simp only [decide_eq_true_eq, decide_eq_false_iff_not] at c96); (try simp only [decide_eq_true_eq, decide_eq_false_iff_not] at c119); omega) | (refine (if_neg ?_ : f1 B u j = 0).symm; (try simp only [decide_eq_true_eq, decide_eq_false_iff_not] at c49); (try simp only [decide_eq_true_eq, decide_eq_false_iff_not] at c87); (try simp only [decide_eq_true_eq, decide_eq_false_iff_not] at c96); (try simp only [decide_eq_true_eq, decide_eq_false_iff_not] at c119); omega))
    · refine v_iload F dX4_faultsAt_67 rfl ?_
      refine v_iconst (v := nI 1) F dX4_faultsAt_69 (by decide) ?_
      refine v_ior_n F dX4_faultsAt_70 ?_
      refine v_istore F dX4_faultsAt_71 (Nat.le_of_ble_eq_true rfl) (ok2_d rfl) ?_
      exact j73 _ (by first | (refine (if_pos ?_ : f1 B u j = 1).symm; (try simp only [decide_eq_true_eq, decide_eq_false_iff_not] at c49); (try simp only [decide_eq_true_eq, decide_eq_false_iff_not] at c87); (try simp only [decide_eq_true_eq, decide_eq_false_iff_not] at c96); (try simp only [decide_eq_true_eq, decide_eq_false_iff_not] at c119); omega) | (refine (if_neg ?_ : f1 B u j = 0).symm; (try simp only [decide_eq_true_eq, decide_eq_false_iff_not] at c49); (try simp only [decide_eq_true_eq, decide_eq_false_iff_not] at c87); (try simp only [decide_eq_true_eq, decide_eq_false_iff_not] at c96); (try simp only [decide_eq_true_eq, decide_eq_false_iff_not] at c119); omega))
theorem c_ft {l9 : Launch} {ω : Om} {M : MM} {A B P : FF} {n k : Nat} {R : Nat → (Nat → Int32) × Nat} (hX : XI ω A B P n k R M) (hB : WB B n) {p : Nat} (hp : p < 6) {u : List Nat} (hlen : (R p).2 = u.length) (hl24 : u.length ≤ 24) (hpf : Pf (R p).1 u) (hin : ∀ x, x ∈ u → x < n) {j : Nat} (hj : j < u.length) : Ct l9 ω yX4_faultsAt wsX4_faultsAt rmX4_faultsAt [.ref (A 0 0), .ref (A 2 p), .int (nI j)] M (fun v M9 => v = some (.int (nI (ftA B u j))) ∧ M9 = M) 0 0 := by
  rcases Nat.eq_zero_or_pos j with ha | ha
  · by_cases hb : j + 1 < u.length
    · exact c_ft01 hX hB hp hlen hl24 hpf hin hj ha hb
    · exact c_ft00 hX hB hp hlen hl24 hpf hin hj ha hb
  · by_cases hb : j + 1 < u.length
    · exact c_ft11 hX hB hp hlen hl24 hpf hin hj ha hb
    · exact c_ft10 hX hB hp hlen hl24 hpf hin hj ha hb
