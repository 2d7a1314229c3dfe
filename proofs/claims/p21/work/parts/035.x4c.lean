/-! the class: reading a page -/
def upR (R : Nat → (Nat → Int32) × Nat) (p : Nat) (v : (Nat → Int32) × Nat) : Nat → (Nat → Int32) × Nat := fun q => if q = p then v else R q
/-- the addresses of readings and of their rows are apart -/
def AD (A : FF) : Prop := ∀ p q, p < 7 → q < 7 → p ≠ q → A 2 p ≠ A 2 q ∧ A 3 p ≠ A 3 q
theorem XI.setT {ω : Om} {A B P : FF} {n k : Nat} {R : Nat → (Nat → Int32) × Nat} {M : MM} (h : XI ω A B P n k R M) (hA : AD A) {p ci : Nat} (hp : p < 7) (hci : ci = if p = 6 then 2 else 3) (g : Nat → Int32) (len : Nat) : XI ω A B P n k (upR R p (g, len)) (setR ω ci M (A 2 p) (A 3 p) g len) := by
  subst hci
  obtain ⟨r1, r2⟩ := h.2.2.2.2.2.1 p hp
  have hne := rd_ne r1 r2
  have e : ∀ {a : Nat} {v : va_E}, M a = some v → (∀ x, v ≠ rdE (if p = 6 then 2 else 3) (A 3 p) x) → (∀ x, v ≠ rowE ω x) → setR ω (if p = 6 then 2 else 3) M (A 2 p) (A 3 p) g len a = some v := by
    intro a v ha h1 h2
    rw [setR_n]
    · exact ha
    · intro he
      rw [he, r1] at ha
      exact h1 _ (Option.some.inj ha).symm
    · intro he
      rw [he, r2] at ha
      exact h2 _ (Option.some.inj ha).symm
  refine ⟨e h.x ?_ (fun x => by simp [rowE]), e h.made (fun x => by simp [rdE]) (fun x => by simp [rowE]), e h.rds (fun x => by simp [rdE]) (fun x => by simp [rowE]), e h.giv (fun x => by simp [rdE]) (fun x => by simp [rowE]), fun i hi => e (h.box hi) ?_ (fun x => by simp [rowE]), fun q hq => ?_, fun i hi => e (h.app hi) ?_ (fun x => by simp [rowE])⟩
  · intro x; simp only [rdE]; split <;> simp
  · intro x; simp only [rdE]; split <;> simp [bxF]
  · by_cases hqp : q = p
    · subst hqp
      rw [show upR R q (g, len) q = (g, len) by simp [upR]]
      exact ⟨setR_1 hne, setR_2⟩
    · obtain ⟨s1, s2⟩ := h.2.2.2.2.2.1 q hq
      obtain ⟨d1, d2⟩ := hA q p hq hp hqp
      have d3 : A 2 q ≠ A 3 p := fun he => by rw [he, r2] at s1; cases s1
      have d4 : A 3 q ≠ A 2 p := fun he => by rw [he, r1] at s2; cases s2
      rw [show upR R p (g, len) q = R q by simp [upR, hqp]]
      exact ⟨(setR_n d1 d3).trans s1, (setR_n d4 d2).trans s2⟩
  · intro x; simp only [rdE]; split <;> simp [apF]
theorem upR_s {R : Nat → (Nat → Int32) × Nat} {p : Nat} {v : (Nat → Int32) × Nat} : upR R p v p = v := by simp [upR]
theorem upR_n {R : Nat → (Nat → Int32) × Nat} {p q : Nat} {v : (Nat → Int32) × Nat} (h : q ≠ p) : upR R p v q = R q := by simp [upR, h]
theorem loop_pr (T : Nat → Prop) (h : ∀ f, (∀ f', f = f' + 1 → T f') → T f) : ∀ f, T f := by
  intro f
  induction f with
  | zero => exact h 0 (fun f' q => by omega)
  | succ f ih => exact h (f + 1) (fun f' q => by rw [show f' = f by omega]; exact ih)
theorem unc_0 (B : FF) (n f : Nat) : unc B n f 0 = [] := by cases f <;> simp [unc]
theorem unc_n {B : FF} {n f s : Nat} (h : fbe B s n = 0) : unc B n f s = [] := by
  cases f with
  | zero => rfl
  | succ f => simp [unc, h]
theorem unc_s {B : FF} {n f s y : Nat} (hs : s ≠ 0) (h : fbe B s n = y + 1) : unc B n (f + 1) s = chn B 24 (y + 1) ++ unc B n f (nd s (2 ^ y)) := by simp [unc, h, hs]
theorem chn_0 (B : FF) (f : Nat) : chn B f 0 = [] := by cases f <;> rfl
theorem chn_s (B : FF) (f y : Nat) : chn B (f + 1) (y + 1) = y :: chn B f (B y 7) := rfl
theorem oA_s {A : FF} {x a : Nat} (h : oA A x = some a) : ∃ y, x = y + 1 ∧ a = A 1 y := by
  cases x with
  | zero => cases h
  | succ y => cases h; exact ⟨y, rfl, rfl⟩
theorem oA_n {A : FF} {x : Nat} (h : oA A x = none) : x = 0 := by
  cases x with
  | zero => rfl
  | succ y => cases h
def rmX4_readUncut : Room := { frames := 2, cells := 0, slots := 0, locals := 47 }
theorem hd_X4_readUncut : yX4_readUncut.cls = (RX4, TX4, 7).1 ∧ yX4_readUncut.cls ≠ "java/lang/invoke/MethodHandle" ∧ yX4_readUncut.cls ≠ "java/lang/invoke/VarHandle" ∧ (parseMethodDescriptor yX4_readUncut.desc).map (fun d => d.parameters.length) = some 2 := by decide +kernel
theorem fo_X4_readUncut_104 : FO wsX4_readUncut RX4 104 1 9 := ⟨_, _, _, rfl, by decide, by decide +kernel, by decide +kernel⟩
theorem fo_X4_readUncut_130 : FO wsX4_readUncut RX4 130 1 0 := ⟨_, _, _, rfl, by decide, by decide +kernel, by decide +kernel⟩
set_option maxHeartbeats 4000000 in
set_option maxRecDepth 100000 in
theorem c_unc {l : Launch} {ω : Om} {M : MM} {A B P : FF} {n k : Nat} {R : Nat → (Nat → Int32) × Nat} (hX : XI ω A B P n k R M) (hB : WB B n) (hA : AD A) {s : Nat} (hs : s < 2 ^ 24) {lst : List Nat} (hlen : (R 5).2 = lst.length) (hpf : Pf (R 5).1 lst) (ρ : Nat → Nat) (hρ0 : ∀ i, ρ i < 24) (hρ : ∀ i y, i < n → B i 7 = y + 1 → ρ y < ρ i) (htot : lst.length + (unc B n 24 s).length ≤ 24) : Ct l ω yX4_readUncut wsX4_readUncut rmX4_readUncut [.ref (A 0 0), .int (nI s), .ref (A 2 5)] M (fun v M9 => v = none ∧ ∃ g9, M9 = setR ω 3 M (A 2 5) (A 3 5) g9 (lst ++ unc B n 24 s).length ∧ Pf g9 (lst ++ unc B n 24 s)) 0 0 := by
  refine Ct.ofV (cc := cX4_readUncut) (maxL := 7) (ret := none) [some (.ref (A 0 0)), some (.int (nI s)), some (.ref (A 2 5)), none, none, none, none] (by decide) rfl (Nat.le_of_ble_eq_true rfl) rfl (Lc.av (av := [.ref (A 0 0), .int (nI s), .ref (A 2 5)]) (k := 4) rfl) ?_
  intro σ F hl hr hname
  have F : Fx ω σ cX4_readUncut 7 wsX4_readUncut RX4 rmX4_readUncut := F
  have hn : n ≤ 24 := hB.1
  have hW : ∀ i j, B i j < 128 := hB.2.1
  refine v_iload_n F dX4_readUncut_0 rfl ?_
  refine v_istore_n F dX4_readUncut_1 (Nat.le_of_ble_eq_true rfl) (ok2_d rfl) ?_
  refine v_iconst (v := nI 0) F dX4_readUncut_2 (by decide) ?_
  refine v_istore F dX4_readUncut_3 (Nat.le_of_ble_eq_true rfl) (ok2_d rfl) ?_
  have lp1 : ∀ j, j ≤ 24 → ∀ g1 (l1 : List Nat) s1 w5 w6, Pf g1 l1 → s1 < 2 ^ 24 → l1 ++ unc B n (24 - j) s1 = lst ++ unc B n 24 s → V ω σ (setR ω 3 M (A 2 5) (A 3 5) g1 l1.length) [some (.ref (A 0 0)), some (.int (nI s)), some (.ref (A 2 5)), some (.int (nI s1)), some (.int (nI j)), w5, w6] 0 0 (BQ ω σ (fun v M9 => v = none ∧ ∃ g9, M9 = setR ω 3 M (A 2 5) (A 3 5) g9 (lst ++ unc B n 24 s).length ∧ Pf g9 (lst ++ unc B n 24 s)) 0 0) 5 [] := by
    refine loop_up 24 _ (fun j hj ih => ?_)
    intro g1 l1 s1 w5 w6 hp1 hs1 heq
    have hX1 := hX.setT hA (p := 5) (ci := 3) (by decide) (by decide) g1 l1.length
    have hll := congrArg List.length heq
    rw [List.length_append, List.length_append] at hll
    refine v_iload F dX4_readUncut_5 rfl ?_
    refine v_bipush (v := nI 24) F dX4_readUncut_7 (by decide) ?_
    refine v_icmp_ge_n F 75 dX4_readUncut_9 (by decide) (by first | omega | exact Nat.lt_trans (hW _ _) (by decide)) (by first | omega | exact Nat.lt_trans (hW _ _) (by decide)) (fun c9 => ?_) (fun c9 => ?_)
    · exact v_vret F hr dX4_readUncut_75 (Nat.le_of_ble_eq_true rfl) (Nat.le_of_ble_eq_true rfl) ⟨rfl, g1, by rw [← heq]; (first | rw [show 24 - j = 0 by omega, unc, List.append_nil] | rw [c13, unc_0, List.append_nil]), by rw [← heq]; (first | rw [show 24 - j = 0 by omega, unc, List.append_nil] | rw [c13, unc_0, List.append_nil]); exact hp1⟩
    · refine v_iload_n F dX4_readUncut_12 rfl ?_
      refine v_if_eq_n F 75 dX4_readUncut_13 (by decide) (by first | omega | exact Nat.lt_trans (hW _ _) (by decide)) (fun c13 => ?_) (fun c13 => ?_)
      · exact v_vret F hr dX4_readUncut_75 (Nat.le_of_ble_eq_true rfl) (Nat.le_of_ble_eq_true rfl) ⟨rfl, g1, by rw [← heq]; (first | rw [show 24 - j = 0 by omega, unc, List.append_nil] | rw [c13, unc_0, List.append_nil]), by rw [← heq]; (first | rw [show 24 - j = 0 by omega, unc, List.append_nil] | rw [c13, unc_0, List.append_nil]); exact hp1⟩
      · refine v_aload_n F dX4_readUncut_16 rfl rfl ?_
        refine v_iload_n F dX4_readUncut_17 rfl ?_
        refine v_callV F 1 [_] rfl rfl rfl (c_fbe hX1 hB hs1) gX4_readUncut_X4_firstByEdges rfl hd_X4_firstByEdges ⟨⟨rfl, rfl⟩, ⟨(Nat.le_of_ble_eq_true rfl), (Nat.le_of_ble_eq_true rfl)⟩, ⟨(Nat.le_of_ble_eq_true rfl), (Nat.le_of_ble_eq_true rfl)⟩, (Nat.le_of_ble_eq_true rfl)⟩ hX1.x rfl dX4_readUncut_18 (fun v18 M18 q18 => ?_)
        obtain ⟨rfl, e18⟩ := q18
        replace e18 := e18.symm
        subst e18
        refine V.rf (fun h18 => ?_) (fun a18 h18 => ?_)
        · have hf0 := oA_n h18
          refine v_astore F dX4_readUncut_21 rfl (Nat.le_of_ble_eq_true rfl) (ok2_d rfl) ?_
          refine v_aload F dX4_readUncut_23 rfl rfl ?_
          refine v_ifnonnull_n F dX4_readUncut_25 ?_
          exact v_vret F hr dX4_readUncut_28 (Nat.le_of_ble_eq_true rfl) (Nat.le_of_ble_eq_true rfl) ⟨rfl, g1, by rw [← heq, unc_n hf0, List.append_nil], by rw [← heq, unc_n hf0, List.append_nil]; exact hp1⟩
        · obtain ⟨y, hy, rfl⟩ := oA_s h18
          have hyn : y < n := by have := fbe_le B s1 n; omega
          have hu : (unc B n (24 - j) s1).length = (chn B 24 (y + 1)).length + (unc B n (24 - (j + 1)) (nd s1 (2 ^ y))).length := by rw [show 24 - j = 24 - (j + 1) + 1 by omega, unc_s c13 hy, List.length_append]
          refine v_astore F dX4_readUncut_21 rfl (Nat.le_of_ble_eq_true rfl) (ok2_d rfl) ?_
          refine v_aload F dX4_readUncut_23 rfl rfl ?_
          refine v_ifnonnull_r F 29 dX4_readUncut_25 (by decide) ?_
          refine v_iload_n F dX4_readUncut_29 rfl ?_
          refine v_iconst (v := nI 1) F dX4_readUncut_30 (by decide) ?_
          refine v_aload F dX4_readUncut_31 rfl rfl ?_
          refine v_get F 1 0 fo_X4_readUncut_130 dX4_readUncut_33 (hX1.box hyn) rfl ?_
          refine v_ishl_n F dX4_readUncut_36 (by first | omega | exact Nat.lt_trans (hW _ _) (by decide)) ?_
          refine v_iconst (v := (-1)) F dX4_readUncut_37 (by decide) ?_
          refine v_ixor F dX4_readUncut_38 ?_
          refine v_iand_nd F dX4_readUncut_39 ?_
          refine v_istore_n F dX4_readUncut_40 (Nat.le_of_ble_eq_true rfl) (ok2_d rfl) ?_
          refine v_aload F dX4_readUncut_41 rfl rfl ?_
          refine v_astore F dX4_readUncut_43 rfl (Nat.le_of_ble_eq_true rfl) (ok2_d rfl) ?_
          have lp2 : ∀ f c g2 (l2 : List Nat), (∀ z, c = z + 1 → z < n ∧ ρ z < f) → Pf g2 l2 → l2 ++ chn B f c = l1 ++ chn B 24 (y + 1) → V ω σ (setR ω 3 M (A 2 5) (A 3 5) g2 l2.length) [some (.ref (A 0 0)), some (.int (nI s)), some (.ref (A 2 5)), some (.int (nI (nd s1 (2 ^ y)))), some (.int (nI j)), some (.ref (A 1 y)), some (va_rf (oA A c))] 0 0 (BQ ω σ (fun v M9 => v = none ∧ ∃ g9, M9 = setR ω 3 M (A 2 5) (A 3 5) g9 (lst ++ unc B n 24 s).length ∧ Pf g9 (lst ++ unc B n 24 s)) 0 0) 45 [] := by
            refine loop_pr _ (fun f ih2 => ?_)
            intro c g2 l2 hc hp2 heq2
            have hX2 := hX.setT hA (p := 5) (ci := 3) (by decide) (by decide) g2 l2.length
            have hl2 := congrArg List.length heq2
            rw [List.length_append, List.length_append] at hl2
            rcases c with _ | z
            · have hnext : l2 ++ unc B n (24 - (j + 1)) (nd s1 (2 ^ y)) = lst ++ unc B n 24 s := by
                rw [chn_0, List.append_nil] at heq2
                rw [← heq, show 24 - j = 24 - (j + 1) + 1 by omega, unc_s c13 hy, heq2, List.append_assoc]
              refine v_aload F dX4_readUncut_45 rfl rfl ?_
              refine v_ifnull_n F 69 dX4_readUncut_47 (by decide) ?_
              refine v_iinc1 F dX4_readUncut_69 rfl (ok2_d rfl) ?_
              refine v_goto F 5 dX4_readUncut_72 (by decide) ?_
              exact ih (by omega) _ _ _ _ _ hp2 (nd_lt hs1) hnext
            · obtain ⟨hz, hzf⟩ := hc z rfl
              obtain ⟨f, rfl⟩ : ∃ q, f = q + 1 := ⟨f - 1, by omega⟩
              rw [chn_s] at heq2 hl2
              rw [List.length_cons] at hl2
              have hlt : l2.length < 24 := by omega
              have heq3 : (l2 ++ [z]) ++ chn B f (B z 7) = l1 ++ chn B 24 (y + 1) := by rw [List.append_assoc]; exact heq2
              have hc3 : ∀ z2, B z 7 = z2 + 1 → z2 < n ∧ ρ z2 < f := fun z2 hz2 => ⟨(hB.2.2.2 z z2 hz hz2).1, by have := hρ z z2 hz hz2; omega⟩
              have hgo2 := ih2 f rfl (B z 7) (upd g2 l2.length (nI z)) (l2 ++ [z]) hc3 hp2.snoc heq3
              rw [List.length_append, List.length_singleton] at hgo2
              refine v_aload F dX4_readUncut_45 rfl rfl ?_
              refine v_ifnull_r F dX4_readUncut_47 ?_
              refine v_aload_n F dX4_readUncut_50 rfl rfl ?_
              refine v_aload F dX4_readUncut_51 rfl rfl ?_
              refine v_get F 1 0 fo_X4_readUncut_130 dX4_readUncut_53 (hX2.box hz) rfl ?_
              refine v_callV F 1 [_] rfl rfl rfl (c_X3_add (hX2.rd (p := 5) (by decide)) (hX2.row (p := 5) (by decide)) (by rw [upR_s]; exact hlt)) gX4_readUncut_X3_add rfl hd_X3_add ⟨⟨rfl, rfl⟩, ⟨(Nat.le_of_ble_eq_true rfl), (Nat.le_of_ble_eq_true rfl)⟩, ⟨(Nat.le_of_ble_eq_true rfl), (Nat.le_of_ble_eq_true rfl)⟩, (Nat.le_of_ble_eq_true rfl)⟩ (hX2.rd (p := 5) (by decide)) rfl dX4_readUncut_56 (fun v56 M56 q56 => ?_)
              obtain ⟨rfl, e56⟩ := q56
              replace e56 := e56.symm
              subst e56
              rw [upR_s, setR_set (rd_ne (hX.rd (by decide)) (hX.row (by decide)))]
              refine v_aload F dX4_readUncut_59 rfl rfl ?_
              refine v_get_o (o := oA A (B z 7)) F 1 9 fo_X4_readUncut_104 dX4_readUncut_61 ((hX.setT hA (p := 5) (ci := 3) (by decide) (by decide) _ _).box hz) rfl (fun h61 => ?_) (fun a61 h61 => ?_)
              · refine v_astore F dX4_readUncut_64 rfl (Nat.le_of_ble_eq_true rfl) (ok2_d rfl) ?_
                refine v_goto F 45 dX4_readUncut_66 (by decide) ?_
                first | (rw [show oA A (B z 7) = _ from h61] at hgo2; exact hgo2)
              · refine v_astore F dX4_readUncut_64 rfl (Nat.le_of_ble_eq_true rfl) (ok2_d rfl) ?_
                refine v_goto F 45 dX4_readUncut_66 (by decide) ?_
                first | (rw [show oA A (B z 7) = _ from h61] at hgo2; exact hgo2)
          exact lp2 24 (y + 1) g1 l1 (fun z hz => by rw [show z = y by omega]; exact ⟨hyn, hρ0 y⟩) hp1 rfl
  have hgo := lp1 0 (by decide) (R 5).1 lst s none none hpf hs rfl
  rw [← hlen, setR_id (hX.rd (by decide)) (hX.row (by decide))] at hgo
  exact hgo
def rmRS (f : Nat) : Room := { frames := 20 + 2 * f, cells := 0, slots := 0, locals := 400 + 48 * f }
def rmRP (f : Nat) : Room := { frames := 21 + 2 * f, cells := 0, slots := 0, locals := 424 + 48 * f }
def RSt (l : Launch) (ω : Om) (A B P : FF) (n k f : Nat) : Prop := ∀ (R : Nat → (Nat → Int32) × Nat) (M : MM) (lst : List Nat) (s : Nat), XI ω A B P n k R M → (R 5).2 = lst.length → Pf (R 5).1 lst → s < 2 ^ 24 → lst.length + (rs B n f s).length ≤ 24 →
  Ct l ω yX4_readSet wsX4_readSet (rmRS f) [.ref (A 0 0), .int (nI s), .ref (A 2 5), .int (nI (24 - f))] M (fun v M9 => v = none ∧ ∃ g9, M9 = setR ω 3 M (A 2 5) (A 3 5) g9 (lst ++ rs B n f s).length ∧ Pf g9 (lst ++ rs B n f s)) 0 0
def RPt (l : Launch) (ω : Om) (A B P : FF) (n k f : Nat) : Prop := ∀ (R : Nat → (Nat → Int32) × Nat) (M : MM) (lst : List Nat) (s t : Nat), XI ω A B P n k R M → (R 5).2 = lst.length → Pf (R 5).1 lst → s < 2 ^ 24 → t < 2 ^ 24 → lst.length + (rs B n f s).length + (rs B n f t).length ≤ 24 →
  Ct l ω yX4_readParts wsX4_readParts (rmRP f) [.ref (A 0 0), .int (nI s), .int (nI t), .ref (A 2 5), .int (nI (24 - f))] M (fun v M9 => v = none ∧ ∃ g9, M9 = setR ω 3 M (A 2 5) (A 3 5) g9 (lst ++ rs B n f s ++ rs B n f t).length ∧ Pf g9 (lst ++ rs B n f s ++ rs B n f t)) 0 0
theorem hd_X4_readSet : yX4_readSet.cls = (RX4, TX4, 7).1 ∧ yX4_readSet.cls ≠ "java/lang/invoke/MethodHandle" ∧ yX4_readSet.cls ≠ "java/lang/invoke/VarHandle" ∧ (parseMethodDescriptor yX4_readSet.desc).map (fun d => d.parameters.length) = some 3 := by decide +kernel
theorem hd_X4_readParts : yX4_readParts.cls = (RX4, TX4, 7).1 ∧ yX4_readParts.cls ≠ "java/lang/invoke/MethodHandle" ∧ yX4_readParts.cls ≠ "java/lang/invoke/VarHandle" ∧ (parseMethodDescriptor yX4_readParts.desc).map (fun d => d.parameters.length) = some 4 := by decide +kernel
set_option maxHeartbeats 4000000 in
set_option maxRecDepth 100000 in
theorem c_rp {l : Launch} {ω : Om} {M : MM} {A B P : FF} {n k : Nat} {R : Nat → (Nat → Int32) × Nat} (hX : XI ω A B P n k R M) (hB : WB B n) (hA : AD A) {f : Nat} (hf : f ≤ 24) (ih : RSt l ω A B P n k f) {s t : Nat} (hs : s < 2 ^ 24) (ht : t < 2 ^ 24) {lst : List Nat} (hlen : (R 5).2 = lst.length) (hpf : Pf (R 5).1 lst) (htot : lst.length + (rs B n f s).length + (rs B n f t).length ≤ 24) : Ct l ω yX4_readParts wsX4_readParts (rmRP f) [.ref (A 0 0), .int (nI s), .int (nI t), .ref (A 2 5), .int (nI (24 - f))] M (fun v M9 => v = none ∧ ∃ g9, M9 = setR ω 3 M (A 2 5) (A 3 5) g9 (lst ++ rs B n f s ++ rs B n f t).length ∧ Pf g9 (lst ++ rs B n f s ++ rs B n f t)) 0 0 := by
  refine Ct.ofV (cc := cX4_readParts) (maxL := 5) (ret := none) [some (.ref (A 0 0)), some (.int (nI s)), some (.int (nI t)), some (.ref (A 2 5)), some (.int (nI (24 - f)))] (by decide) rfl (Nat.le_of_ble_eq_true rfl) rfl (Lc.av (av := [.ref (A 0 0), .int (nI s), .int (nI t), .ref (A 2 5), .int (nI (24 - f))]) (k := 0) rfl) ?_
  intro σ F hl hr hname
  have F : Fx ω σ cX4_readParts 5 wsX4_readParts RX4 (rmRP f) := F
  have hn : n ≤ 24 := hB.1
  have hW : ∀ i j, B i j < 128 := hB.2.1
  subst hl
  refine v_aload_n F dX4_readParts_0 rfl rfl ?_
  refine v_iload_n F dX4_readParts_1 rfl ?_
  refine v_aload_n F dX4_readParts_2 rfl rfl ?_
  refine v_iload F dX4_readParts_3 rfl ?_
  refine v_callV F 3 [_, _, _] rfl rfl rfl (ih _ _ lst s hX hlen hpf hs (by omega)) gX4_readParts_X4_readSet rfl hd_X4_readSet ⟨⟨rfl, rfl⟩, ⟨(by show _ + 1 ≤ _; simp only [rmRS, rmRP, rmX4_readUncut, rmX4_cutOff]; omega), (by show 8 + _ + _ ≤ _; simp only [rmRS, rmRP, rmX4_readUncut, rmX4_cutOff]; omega)⟩, ⟨(Nat.le_of_ble_eq_true rfl), (Nat.le_of_ble_eq_true rfl)⟩, (Nat.le_of_ble_eq_true rfl)⟩ hX.x rfl dX4_readParts_5 (fun v5 M5 q5 => ?_)
  obtain ⟨rfl, g5, rfl, hp5⟩ := q5
  have hX1 := hX.setT hA (p := 5) (ci := 3) (by decide) (by decide) g5 (lst ++ rs B n f s).length
  refine v_aload_n F dX4_readParts_8 rfl rfl ?_
  refine v_iload_n F dX4_readParts_9 rfl ?_
  refine v_aload_n F dX4_readParts_10 rfl rfl ?_
  refine v_iload F dX4_readParts_11 rfl ?_
  refine v_callV F 3 [_, _, _] rfl rfl rfl (ih _ _ (lst ++ rs B n f s) t hX1 (by rw [upR_s]) (by rw [upR_s]; exact hp5) ht (by rw [List.length_append]; omega)) gX4_readParts_X4_readSet rfl hd_X4_readSet ⟨⟨rfl, rfl⟩, ⟨(by show _ + 1 ≤ _; simp only [rmRS, rmRP, rmX4_readUncut, rmX4_cutOff]; omega), (by show 8 + _ + _ ≤ _; simp only [rmRS, rmRP, rmX4_readUncut, rmX4_cutOff]; omega)⟩, ⟨(Nat.le_of_ble_eq_true rfl), (Nat.le_of_ble_eq_true rfl)⟩, (Nat.le_of_ble_eq_true rfl)⟩ hX1.x rfl dX4_readParts_13 (fun v13 M13 q13 => ?_)
  obtain ⟨rfl, g13, rfl, hp13⟩ := q13
  exact v_vret F hr dX4_readParts_16 (Nat.le_of_ble_eq_true rfl) (Nat.le_of_ble_eq_true rfl) ⟨rfl, g13, by rw [setR_set (rd_ne (hX.rd (by decide)) (hX.row (by decide)))], hp13⟩
set_option maxHeartbeats 4000000 in
set_option maxRecDepth 100000 in
theorem c_rs0 {l : Launch} {ω : Om} {M : MM} {A B P : FF} {n k : Nat} {R : Nat → (Nat → Int32) × Nat} (hX : XI ω A B P n k R M) (hB : WB B n) (hA : AD A) {f : Nat} (hf : f ≤ 24) (ih : ∀ f2, f = f2 + 1 → RPt l ω A B P n k f2) {s : Nat} (hs : s < 2 ^ 24) {lst : List Nat} (hlen : (R 5).2 = lst.length) (hpf : Pf (R 5).1 lst) (ρ : Nat → Nat) (hρ0 : ∀ i, ρ i < 24) (hρ : ∀ i y, i < n → B i 7 = y + 1 → ρ y < ρ i) (htot : lst.length + (rs B n f s).length ≤ 24) : Ct l ω yX4_readSet wsX4_readSet (rmRS f) [.ref (A 0 0), .int (nI s), .ref (A 2 5), .int (nI (24 - f))] M (fun v M9 => v = none ∧ ∃ g9, M9 = setR ω 3 M (A 2 5) (A 3 5) g9 (lst ++ rs B n f s).length ∧ Pf g9 (lst ++ rs B n f s)) 0 0 := by
  refine Ct.ofV (cc := cX4_readSet) (maxL := 5) (ret := none) [some (.ref (A 0 0)), some (.int (nI s)), some (.ref (A 2 5)), some (.int (nI (24 - f))), none] (by decide) rfl (Nat.le_of_ble_eq_true rfl) rfl (Lc.av (av := [.ref (A 0 0), .int (nI s), .ref (A 2 5), .int (nI (24 - f))]) (k := 1) rfl) ?_
  intro σ F hl hr hname
  have F : Fx ω σ cX4_readSet 5 wsX4_readSet RX4 (rmRS f) := F
  have hn : n ≤ 24 := hB.1
  have hW : ∀ i j, B i j < 128 := hB.2.1
  subst hl
  have hco := cuo_lt B hn s
  rcases (show f = 0 ∨ (∃ f2, f = f2 + 1 ∧ cuo B n s = 0) ∨ (∃ f2, f = f2 + 1 ∧ cuo B n s ≠ 0) from (by cases f with | zero => exact Or.inl rfl | succ f2 => by_cases h : cuo B n s = 0; exact Or.inr (Or.inl ⟨f2, rfl, h⟩); exact Or.inr (Or.inr ⟨f2, rfl, h⟩))) with rfl | ⟨f2, rfl, h0⟩ | ⟨f2, rfl, h0⟩
  · have hrs : rs B n 0 s = unc B n 24 s := rfl
    refine v_iload_n F dX4_readSet_0 rfl ?_
    refine v_bipush (v := nI 24) F dX4_readSet_1 (by decide) ?_
    refine v_icmp_ge_n F 14 dX4_readSet_3 (by decide) (by omega) (by omega) (fun c3 => ?_) (fun c3 => ?_)
    · refine v_iconst (v := nI 0) F dX4_readSet_14 (by decide) ?_
      refine v_istore F dX4_readSet_15 (Nat.le_of_ble_eq_true rfl) (ok2_d rfl) ?_
      refine v_iload F dX4_readSet_17 rfl ?_
      refine v_if_ne_n F 31 dX4_readSet_19 (by decide) (by omega) (fun c19 => ?_) (fun c19 => ?_)
      · exact absurd rfl c19
      · refine v_aload_n F dX4_readSet_22 rfl rfl ?_
        refine v_iload_n F dX4_readSet_23 rfl ?_
        refine v_aload_n F dX4_readSet_24 rfl rfl ?_
        refine v_callV F 2 [_, _] rfl rfl rfl (c_unc hX hB hA hs hlen hpf ρ hρ0 hρ (by rw [← hrs]; exact htot)) gX4_readSet_X4_readUncut rfl hd_X4_readUncut ⟨⟨rfl, rfl⟩, ⟨(by show _ + 1 ≤ _; simp only [rmRS, rmRP, rmX4_readUncut, rmX4_cutOff]; omega), (by show 8 + _ + _ ≤ _; simp only [rmRS, rmRP, rmX4_readUncut, rmX4_cutOff]; omega)⟩, ⟨(Nat.le_of_ble_eq_true rfl), (Nat.le_of_ble_eq_true rfl)⟩, (Nat.le_of_ble_eq_true rfl)⟩ hX.x rfl dX4_readSet_25 (fun v25 M25 q25 => ?_)
        obtain ⟨rfl, g25, rfl, hp25⟩ := q25
        refine v_goto F 47 dX4_readSet_28 (by decide) ?_
        exact v_vret F hr dX4_readSet_47 (Nat.le_of_ble_eq_true rfl) (Nat.le_of_ble_eq_true rfl) ⟨rfl, g25, by rw [hrs], by rw [hrs]; exact hp25⟩
    · exact absurd c3 (by omega)
  · have hrs : rs B n (f2 + 1) s = unc B n 24 s := by simp [rs, h0]
    refine v_iload_n F dX4_readSet_0 rfl ?_
    refine v_bipush (v := nI 24) F dX4_readSet_1 (by decide) ?_
    refine v_icmp_ge_n F 14 dX4_readSet_3 (by decide) (by omega) (by omega) (fun c3 => ?_) (fun c3 => ?_)
    · exact absurd c3 (by omega)
    · refine v_aload_n F dX4_readSet_6 rfl rfl ?_
      refine v_iload_n F dX4_readSet_7 rfl ?_
      refine v_callV F 1 [_] rfl rfl rfl (c_cuo hX hB hs) gX4_readSet_X4_cutOff rfl hd_X4_cutOff ⟨⟨rfl, rfl⟩, ⟨(by show _ + 1 ≤ _; simp only [rmRS, rmRP, rmX4_readUncut, rmX4_cutOff]; omega), (by show 8 + _ + _ ≤ _; simp only [rmRS, rmRP, rmX4_readUncut, rmX4_cutOff]; omega)⟩, ⟨(Nat.le_of_ble_eq_true rfl), (Nat.le_of_ble_eq_true rfl)⟩, (Nat.le_of_ble_eq_true rfl)⟩ hX.x rfl dX4_readSet_8 (fun v8 M8 q8 => ?_)
      obtain ⟨rfl, e8⟩ := q8
      replace e8 := e8.symm
      subst e8
      refine v_goto F 15 dX4_readSet_11 (by decide) ?_
      refine v_istore F dX4_readSet_15 (Nat.le_of_ble_eq_true rfl) (ok2_d rfl) ?_
      refine v_iload F dX4_readSet_17 rfl ?_
      refine v_if_ne_n F 31 dX4_readSet_19 (by decide) (by omega) (fun c19 => ?_) (fun c19 => ?_)
      · exact absurd h0 c19
      · refine v_aload_n F dX4_readSet_22 rfl rfl ?_
        refine v_iload_n F dX4_readSet_23 rfl ?_
        refine v_aload_n F dX4_readSet_24 rfl rfl ?_
        refine v_callV F 2 [_, _] rfl rfl rfl (c_unc hX hB hA hs hlen hpf ρ hρ0 hρ (by rw [← hrs]; exact htot)) gX4_readSet_X4_readUncut rfl hd_X4_readUncut ⟨⟨rfl, rfl⟩, ⟨(by show _ + 1 ≤ _; simp only [rmRS, rmRP, rmX4_readUncut, rmX4_cutOff]; omega), (by show 8 + _ + _ ≤ _; simp only [rmRS, rmRP, rmX4_readUncut, rmX4_cutOff]; omega)⟩, ⟨(Nat.le_of_ble_eq_true rfl), (Nat.le_of_ble_eq_true rfl)⟩, (Nat.le_of_ble_eq_true rfl)⟩ hX.x rfl dX4_readSet_25 (fun v25 M25 q25 => ?_)
        obtain ⟨rfl, g25, rfl, hp25⟩ := q25
        refine v_goto F 47 dX4_readSet_28 (by decide) ?_
        exact v_vret F hr dX4_readSet_47 (Nat.le_of_ble_eq_true rfl) (Nat.le_of_ble_eq_true rfl) ⟨rfl, g25, by rw [hrs], by rw [hrs]; exact hp25⟩
  · have hrs : rs B n (f2 + 1) s = rs B n f2 (cuo B n s) ++ rs B n f2 (nd s (cuo B n s)) := by simp [rs, h0]
    have hf1 := ih f2 rfl
    refine v_iload_n F dX4_readSet_0 rfl ?_
    refine v_bipush (v := nI 24) F dX4_readSet_1 (by decide) ?_
    refine v_icmp_ge_n F 14 dX4_readSet_3 (by decide) (by omega) (by omega) (fun c3 => ?_) (fun c3 => ?_)
    · exact absurd c3 (by omega)
    · refine v_aload_n F dX4_readSet_6 rfl rfl ?_
      refine v_iload_n F dX4_readSet_7 rfl ?_
      refine v_callV F 1 [_] rfl rfl rfl (c_cuo hX hB hs) gX4_readSet_X4_cutOff rfl hd_X4_cutOff ⟨⟨rfl, rfl⟩, ⟨(by show _ + 1 ≤ _; simp only [rmRS, rmRP, rmX4_readUncut, rmX4_cutOff]; omega), (by show 8 + _ + _ ≤ _; simp only [rmRS, rmRP, rmX4_readUncut, rmX4_cutOff]; omega)⟩, ⟨(Nat.le_of_ble_eq_true rfl), (Nat.le_of_ble_eq_true rfl)⟩, (Nat.le_of_ble_eq_true rfl)⟩ hX.x rfl dX4_readSet_8 (fun v8 M8 q8 => ?_)
      obtain ⟨rfl, e8⟩ := q8
      replace e8 := e8.symm
      subst e8
      refine v_goto F 15 dX4_readSet_11 (by decide) ?_
      refine v_istore F dX4_readSet_15 (Nat.le_of_ble_eq_true rfl) (ok2_d rfl) ?_
      refine v_iload F dX4_readSet_17 rfl ?_
      refine v_if_ne_n F 31 dX4_readSet_19 (by decide) (by omega) (fun c19 => ?_) (fun c19 => ?_)
      · refine v_aload_n F dX4_readSet_31 rfl rfl ?_
        refine v_iload F dX4_readSet_32 rfl ?_
        refine v_iload_n F dX4_readSet_34 rfl ?_
        refine v_iload F dX4_readSet_35 rfl ?_
        refine v_iconst (v := (-1)) F dX4_readSet_37 (by decide) ?_
        refine v_ixor F dX4_readSet_38 ?_
        refine v_iand_nd F dX4_readSet_39 ?_
        refine v_aload_n F dX4_readSet_40 rfl rfl ?_
        refine v_iload_n F dX4_readSet_41 rfl ?_
        refine v_iconst (v := nI 1) F dX4_readSet_42 (by decide) ?_
        refine v_iadd_n F dX4_readSet_43 ?_
        refine V.toI (by rw [show 24 - (f2 + 1) + 1 = 24 - f2 by omega]) ?_
        refine v_callV F 4 [_, _, _, _] rfl rfl rfl (hf1 _ _ lst _ _ hX hlen hpf hco (nd_lt hs) (by rw [hrs, List.length_append] at htot; omega)) gX4_readSet_X4_readParts rfl hd_X4_readParts ⟨⟨rfl, rfl⟩, ⟨(by show _ + 1 ≤ _; simp only [rmRS, rmRP, rmX4_readUncut, rmX4_cutOff]; omega), (by show 8 + _ + _ ≤ _; simp only [rmRS, rmRP, rmX4_readUncut, rmX4_cutOff]; omega)⟩, ⟨(Nat.le_of_ble_eq_true rfl), (Nat.le_of_ble_eq_true rfl)⟩, (Nat.le_of_ble_eq_true rfl)⟩ hX.x rfl dX4_readSet_44 (fun v44 M44 q44 => ?_)
        obtain ⟨rfl, g44, rfl, hp44⟩ := q44
        exact v_vret F hr dX4_readSet_47 (Nat.le_of_ble_eq_true rfl) (Nat.le_of_ble_eq_true rfl) ⟨rfl, g44, by rw [hrs, List.append_assoc], by rw [hrs, ← List.append_assoc]; exact hp44⟩
      · exact absurd c19 h0
theorem c_rs {l : Launch} {ω : Om} {A B P : FF} {n k : Nat} (hB : WB B n) (hA : AD A) (ρ : Nat → Nat) (hρ0 : ∀ i, ρ i < 24) (hρ : ∀ i y, i < n → B i 7 = y + 1 → ρ y < ρ i) : ∀ f, f ≤ 24 → RSt l ω A B P n k f := by
  intro f
  induction f with
  | zero =>
    intro _ R M lst s hX hlen hpf hs htot
    exact c_rs0 hX hB hA (Nat.zero_le _) (fun f2 h => by omega) hs hlen hpf ρ hρ0 hρ htot
  | succ f ih =>
    intro hf R M lst s hX hlen hpf hs htot
    refine c_rs0 hX hB hA hf (fun f2 h => ?_) hs hlen hpf ρ hρ0 hρ htot
    have e : f2 = f := by omega
    subst e
    intro R M lst s t hX hlen hpf hs ht htot
    exact c_rp hX hB hA (by omega) (ih (by omega)) hs ht hlen hpf htot
def rmX4_readByCuts : Room := { frames := 71, cells := 0, slots := 0, locals := 1624 }
theorem hd_X4_readByCuts : yX4_readByCuts.cls = (RX4, TX4, 7).1 ∧ yX4_readByCuts.cls ≠ "java/lang/invoke/MethodHandle" ∧ yX4_readByCuts.cls ≠ "java/lang/invoke/VarHandle" ∧ (parseMethodDescriptor yX4_readByCuts.desc).map (fun d => d.parameters.length) = some 2 := by decide +kernel
theorem fp_X4_readByCuts_136 : FP wsX4_readByCuts RX4 136 3 1 .int := ⟨_, _, _, tyX3, rfl, by decide, by decide +kernel, by decide +kernel, tyX3_ok, nmX3, rfl, by decide +kernel⟩
set_option maxHeartbeats 4000000 in
set_option maxRecDepth 100000 in
theorem c_rbc {l : Launch} {ω : Om} {M : MM} {A B P : FF} {n k : Nat} {R : Nat → (Nat → Int32) × Nat} (hX : XI ω A B P n k R M) (hB : WB B n) (hA : AD A) {p : Nat} (hp : p < 5) (ρ : Nat → Nat) (hρ0 : ∀ i, ρ i < 24) (hρ : ∀ i y, i < n → B i 7 = y + 1 → ρ y < ρ i) (htot : (ordF B n p).length ≤ 24) : Ct l ω yX4_readByCuts wsX4_readByCuts rmX4_readByCuts [.ref (A 0 0), .int (nI p), .ref (A 2 5)] M (fun v M9 => v = none ∧ ∃ g9, M9 = setR ω 3 M (A 2 5) (A 3 5) g9 (ordF B n p).length ∧ Pf g9 (ordF B n p)) 0 0 := by
  refine Ct.ofV (cc := cX4_readByCuts) (maxL := 3) (ret := none) [some (.ref (A 0 0)), some (.int (nI p)), some (.ref (A 2 5))] (by decide) rfl (Nat.le_of_ble_eq_true rfl) rfl (Lc.av (av := [.ref (A 0 0), .int (nI p), .ref (A 2 5)]) (k := 0) rfl) ?_
  intro σ F hl hr hname
  have F : Fx ω σ cX4_readByCuts 3 wsX4_readByCuts RX4 rmX4_readByCuts := F
  have hn : n ≤ 24 := hB.1
  have hW : ∀ i j, B i j < 128 := hB.2.1
  subst hl
  have hX1 := hX.setT hA (p := 5) (ci := 3) (by decide) (by decide) (R 5).1 0
  refine v_aload_n F dX4_readByCuts_0 rfl rfl ?_
  refine v_iconst (v := nI 0) F dX4_readByCuts_1 (by decide) ?_
  refine v_put F 3 1 fp_X4_readByCuts_136 dX4_readByCuts_2 (hX.rd (p := 5) (by decide)) rfl rfl (Nat.le_of_ble_eq_true rfl) ?_
  rw [show mup M (A 2 5) (.inr (3, [Value.ref (A 3 5), Value.int (nI (R 5).2)].set 1 (Value.int (nI 0)))) = setR ω 3 M (A 2 5) (A 3 5) (R 5).1 0 from setR_len (hX.rd (p := 5) (by decide)) (hX.row (p := 5) (by decide))]
  refine v_aload_n F dX4_readByCuts_5 rfl rfl ?_
  refine v_aload_n F dX4_readByCuts_6 rfl rfl ?_
  refine v_iload_n F dX4_readByCuts_7 rfl ?_
  refine v_callV F 1 [_] rfl rfl rfl (c_bfn hX1 hB hp) gX4_readByCuts_X4_boxesThatFollowNone rfl hd_X4_boxesThatFollowNone ⟨⟨rfl, rfl⟩, ⟨(Nat.le_of_ble_eq_true rfl), (Nat.le_of_ble_eq_true rfl)⟩, ⟨(Nat.le_of_ble_eq_true rfl), (Nat.le_of_ble_eq_true rfl)⟩, (Nat.le_of_ble_eq_true rfl)⟩ hX1.x rfl dX4_readByCuts_8 (fun v8 M8 q8 => ?_)
  obtain ⟨rfl, e8⟩ := q8
  replace e8 := e8.symm
  subst e8
  refine v_aload_n F dX4_readByCuts_11 rfl rfl ?_
  refine v_iconst (v := nI 0) F dX4_readByCuts_12 (by decide) ?_
  refine v_callV F 3 [_, _, _] rfl rfl rfl (c_rs hB hA ρ hρ0 hρ 24 (Nat.le_refl _) _ _ [] _ hX1 (by rw [upR_s]; rfl) Pf.nil (bfn_lt B p n hn) (by rw [List.length_nil, Nat.zero_add]; exact htot)) gX4_readByCuts_X4_readSet rfl hd_X4_readSet ⟨⟨rfl, rfl⟩, ⟨(Nat.le_of_ble_eq_true rfl), (Nat.le_of_ble_eq_true rfl)⟩, ⟨(Nat.le_of_ble_eq_true rfl), (Nat.le_of_ble_eq_true rfl)⟩, (Nat.le_of_ble_eq_true rfl)⟩ hX1.x rfl dX4_readByCuts_13 (fun v13 M13 q13 => ?_)
  obtain ⟨rfl, g13, rfl, hp13⟩ := q13
  exact v_vret F hr dX4_readByCuts_16 (Nat.le_of_ble_eq_true rfl) (Nat.le_of_ble_eq_true rfl) ⟨rfl, g13, by rw [setR_set (rd_ne (hX.rd (by decide)) (hX.row (by decide)))]; rfl, hp13⟩
/-- the sets put aside: what is read of a pile of sets, and that the pile never grows too high -/
def sa (B : FF) (n : Nat) : Nat → List Nat → List Nat
  | 0, _ => []
  | _ + 1, [] => []
  | f + 1, s :: t => if cuo B n s = 0 then unc B n 24 s ++ sa B n f t else sa B n f (cuo B n s :: nd s (cuo B n s) :: t)
def saO (B : FF) (n : Nat) : Nat → List Nat → Prop
  | 0, _ => True
  | _ + 1, [] => True
  | f + 1, s :: t => if cuo B n s = 0 then saO B n f t else t.length + 2 ≤ 24 ∧ saO B n f (cuo B n s :: nd s (cuo B n s) :: t)
/-- a row holds a pile, its top last -/
def Pl (g : Nat → Int32) (l : List Nat) : Prop := Pf g l.reverse
theorem Pl.push {g : Nat → Int32} {l : List Nat} {x : Nat} (h : Pl g l) : Pl (upd g l.length (nI x)) (x :: l) := by
  unfold Pl at *
  rw [List.reverse_cons, ← List.length_reverse (as := l)]
  exact h.snoc
theorem Pl.top {g : Nat → Int32} {l : List Nat} {x : Nat} (h : Pl g (x :: l)) : g l.length = nI x := by
  have h1 := h l.length (by simp)
  rw [h1]
  congr 1
  simp [List.getD_eq_getElem?_getD, List.getElem?_append_right]
theorem Pl.pop {g : Nat → Int32} {l : List Nat} {x : Nat} (h : Pl g (x :: l)) : Pl g l := by
  intro i hi
  have h1 := h i (by simp at hi ⊢; omega)
  rw [h1]
  congr 1
  rw [List.reverse_cons, List.getD_eq_getElem?_getD, List.getD_eq_getElem?_getD, List.getElem?_append_left hi]
theorem sa_1 {B : FF} {n f s : Nat} {t : List Nat} (h : cuo B n s = 0) : sa B n (f + 1) (s :: t) = unc B n 24 s ++ sa B n f t := by simp [sa, h]
theorem sa_2 {B : FF} {n f s : Nat} {t : List Nat} (h : cuo B n s ≠ 0) : sa B n (f + 1) (s :: t) = sa B n f (cuo B n s :: nd s (cuo B n s) :: t) := by simp [sa, h]
theorem sa_n (B : FF) (n f : Nat) : sa B n f [] = [] := by cases f <;> rfl
theorem saO_1 {B : FF} {n f s : Nat} {t : List Nat} (h : cuo B n s = 0) (h2 : saO B n (f + 1) (s :: t)) : saO B n f t := by simpa [saO, h] using h2
theorem saO_2 {B : FF} {n f s : Nat} {t : List Nat} (h : cuo B n s ≠ 0) (h2 : saO B n (f + 1) (s :: t)) : t.length + 2 ≤ 24 ∧ saO B n f (cuo B n s :: nd s (cuo B n s) :: t) := by simpa [saO, h] using h2
theorem setR_comm {ω : Om} {c1 c2 : Nat} {M : MM} {r rn q qn : Nat} {g h : Nat → Int32} {a b : Nat} (h1 : r ≠ q) (h2 : r ≠ qn) (h3 : rn ≠ q) (h4 : rn ≠ qn) : setR ω c1 (setR ω c2 M q qn h b) r rn g a = setR ω c2 (setR ω c1 M r rn g a) q qn h b := by
  funext x
  unfold setR mup
  by_cases e1 : x = r
  · subst e1; simp [h1, h2]
  · by_cases e2 : x = rn
    · subst e2; simp [h3, h4]
    · simp [e1, e2]
def rmX4_readWithSetsAside : Room := { frames := 3, cells := 0, slots := 0, locals := 80 }
theorem hd_X4_readWithSetsAside : yX4_readWithSetsAside.cls = (RX4, TX4, 7).1 ∧ yX4_readWithSetsAside.cls ≠ "java/lang/invoke/MethodHandle" ∧ yX4_readWithSetsAside.cls ≠ "java/lang/invoke/VarHandle" ∧ (parseMethodDescriptor yX4_readWithSetsAside.desc).map (fun d => d.parameters.length) = some 2 := by decide +kernel
theorem fo_X4_readWithSetsAside_33 : FO wsX4_readWithSetsAside RX4 33 4 4 := ⟨_, _, _, rfl, by decide, by decide +kernel, by decide +kernel⟩
theorem fo_X4_readWithSetsAside_233 : FO wsX4_readWithSetsAside RX4 233 2 1 := ⟨_, _, _, rfl, by decide, by decide +kernel, by decide +kernel⟩
theorem fp_X4_readWithSetsAside_136 : FP wsX4_readWithSetsAside RX4 136 3 1 .int := ⟨_, _, _, tyX3, rfl, by decide, by decide +kernel, by decide +kernel, tyX3_ok, nmX3, rfl, by decide +kernel⟩
theorem fp_X4_readWithSetsAside_233 : FP wsX4_readWithSetsAside RX4 233 2 1 .int := ⟨_, _, _, tyX2, rfl, by decide, by decide +kernel, by decide +kernel, tyX2_ok, nmX2, rfl, by decide +kernel⟩
set_option maxHeartbeats 4000000 in
set_option maxRecDepth 100000 in
theorem c_rwa {l : Launch} {ω : Om} {M : MM} {A B P : FF} {n k : Nat} {R : Nat → (Nat → Int32) × Nat} (hX : XI ω A B P n k R M) (hB : WB B n) (hA : AD A) {p : Nat} (hp : p < 5) (ρ : Nat → Nat) (hρ0 : ∀ i, ρ i < 24) (hρ : ∀ i y, i < n → B i 7 = y + 1 → ρ y < ρ i) (htot : (sa B n 48 [bfn B p n]).length ≤ 24) (hso : saO B n 48 [bfn B p n]) : Ct l ω yX4_readWithSetsAside wsX4_readWithSetsAside rmX4_readWithSetsAside [.ref (A 0 0), .int (nI p), .ref (A 2 5)] M (fun v M9 => v = none ∧ ∃ g9 h9 n9, M9 = setR ω 2 (setR ω 3 M (A 2 5) (A 3 5) g9 (sa B n 48 [bfn B p n]).length) (A 2 6) (A 3 6) h9 n9 ∧ Pf g9 (sa B n 48 [bfn B p n])) 0 0 := by
  refine Ct.ofV (cc := cX4_readWithSetsAside) (maxL := 6) (ret := none) [some (.ref (A 0 0)), some (.int (nI p)), some (.ref (A 2 5)), none, none, none] (by decide) rfl (Nat.le_of_ble_eq_true rfl) rfl (Lc.av (av := [.ref (A 0 0), .int (nI p), .ref (A 2 5)]) (k := 3) rfl) ?_
  intro σ F hl hr hname
  have F : Fx ω σ cX4_readWithSetsAside 6 wsX4_readWithSetsAside RX4 rmX4_readWithSetsAside := F
  have hn : n ≤ 24 := hB.1
  have hW : ∀ i j, B i j < 128 := hB.2.1
  subst hl
  have hX1 := hX.setT hA (p := 5) (ci := 3) (by decide) (by decide) (R 5).1 0
  have hk1 : setR ω 3 M (A 2 5) (A 3 5) (R 5).1 0 (A 2 6) = some (rdE 2 (A 3 6) (R 6).2) := by
    have := hX1.pile
    rwa [upR_n (by decide)] at this
  have hk2 : setR ω 3 M (A 2 5) (A 3 5) (R 5).1 0 (A 3 6) = some (rowE ω (R 6).1) := by
    have := hX1.row (p := 6) (by decide)
    rwa [upR_n (by decide)] at this
  have hX2 := hX1.setT hA (p := 6) (ci := 2) (by decide) (by decide) (R 6).1 0
  have hr5 := rd_ne (hX.rd (p := 5) (by decide)) (hX.row (by decide))
  have hr6 := rd_ne hX.pile (hX.row (by decide))
  obtain ⟨hd1, hd2⟩ := hA 5 6 (by decide) (by decide) (by decide)
  have hd3 : A 2 5 ≠ A 3 6 := fun e => by
    have h1 := hX.rd (p := 5) (by decide)
    rw [e, hX.row (by decide)] at h1
    cases h1
  have hd4 : A 3 5 ≠ A 2 6 := fun e => by
    have h1 := hX.pile
    rw [← e, hX.row (by decide)] at h1
    cases h1
  refine v_aload_n F dX4_readWithSetsAside_0 rfl rfl ?_
  refine v_iconst (v := nI 0) F dX4_readWithSetsAside_1 (by decide) ?_
  refine v_put F 3 1 fp_X4_readWithSetsAside_136 dX4_readWithSetsAside_2 (hX.rd (p := 5) (by decide)) rfl rfl (Nat.le_of_ble_eq_true rfl) ?_
  rw [show mup M (A 2 5) (.inr (3, [Value.ref (A 3 5), Value.int (nI (R 5).2)].set 1 (Value.int (nI 0)))) = setR ω 3 M (A 2 5) (A 3 5) (R 5).1 0 from setR_len (hX.rd (p := 5) (by decide)) (hX.row (p := 5) (by decide))]
  refine v_aload_n F dX4_readWithSetsAside_5 rfl rfl ?_
  refine v_get F 4 4 fo_X4_readWithSetsAside_33 dX4_readWithSetsAside_6 hX1.x rfl ?_
  refine v_iconst (v := nI 0) F dX4_readWithSetsAside_9 (by decide) ?_
  refine v_put F 2 1 fp_X4_readWithSetsAside_233 dX4_readWithSetsAside_10 hk1 rfl rfl (Nat.le_of_ble_eq_true rfl) ?_
  rw [show mup (setR ω 3 M (A 2 5) (A 3 5) (R 5).1 0) (A 2 6) (.inr (2, [Value.ref (A 3 6), Value.int (nI (R 6).2)].set 1 (Value.int (nI 0)))) = setR ω 2 (setR ω 3 M (A 2 5) (A 3 5) (R 5).1 0) (A 2 6) (A 3 6) (R 6).1 0 from setR_len hk1 hk2]
  refine v_aload_n F dX4_readWithSetsAside_13 rfl rfl ?_
  refine v_get F 4 4 fo_X4_readWithSetsAside_33 dX4_readWithSetsAside_14 hX2.x rfl ?_
  refine v_aload_n F dX4_readWithSetsAside_17 rfl rfl ?_
  refine v_iload_n F dX4_readWithSetsAside_18 rfl ?_
  refine v_callV F 1 [_] rfl rfl rfl (c_bfn hX2 hB hp) gX4_readWithSetsAside_X4_boxesThatFollowNone rfl hd_X4_boxesThatFollowNone ⟨⟨rfl, rfl⟩, ⟨(Nat.le_of_ble_eq_true rfl), (Nat.le_of_ble_eq_true rfl)⟩, ⟨(Nat.le_of_ble_eq_true rfl), (Nat.le_of_ble_eq_true rfl)⟩, (Nat.le_of_ble_eq_true rfl)⟩ hX2.x rfl dX4_readWithSetsAside_19 (fun v19 M19 q19 => ?_)
  obtain ⟨rfl, e19⟩ := q19
  replace e19 := e19.symm
  subst e19
  refine v_callV F 1 [_] rfl rfl rfl (c_X2_put (setR_1 hr6) setR_2 (by decide)) gX4_readWithSetsAside_X2_put rfl hd_X2_put ⟨⟨rfl, rfl⟩, ⟨(Nat.le_of_ble_eq_true rfl), (Nat.le_of_ble_eq_true rfl)⟩, ⟨(Nat.le_of_ble_eq_true rfl), (Nat.le_of_ble_eq_true rfl)⟩, (Nat.le_of_ble_eq_true rfl)⟩ (setR_1 hr6) rfl dX4_readWithSetsAside_22 (fun v22 M22 q22 => ?_)
  obtain ⟨rfl, e22⟩ := q22
  replace e22 := e22.symm
  subst e22
  rw [setR_set hr6]
  refine v_iconst (v := nI 0) F dX4_readWithSetsAside_25 (by decide) ?_
  refine v_istore_n F dX4_readWithSetsAside_26 (Nat.le_of_ble_eq_true rfl) (ok2_d rfl) ?_
  have lp1 : ∀ j, j ≤ 48 → ∀ g1 h1 (l1 t1 : List Nat) w4 w5, Pf g1 l1 → Pl h1 t1 → (∀ q, q ∈ t1 → q < 2 ^ 24) → t1.length ≤ 24 → saO B n (48 - j) t1 → l1 ++ sa B n (48 - j) t1 = sa B n 48 [bfn B p n] → V ω σ (setR ω 2 (setR ω 3 M (A 2 5) (A 3 5) g1 l1.length) (A 2 6) (A 3 6) h1 t1.length) [some (.ref (A 0 0)), some (.int (nI p)), some (.ref (A 2 5)), some (.int (nI j)), w4, w5] 0 0 (BQ ω σ (fun v M9 => v = none ∧ ∃ g9 h9 n9, M9 = setR ω 2 (setR ω 3 M (A 2 5) (A 3 5) g9 (sa B n 48 [bfn B p n]).length) (A 2 6) (A 3 6) h9 n9 ∧ Pf g9 (sa B n 48 [bfn B p n])) 0 0) 27 [] := by
    refine loop_up 48 _ (fun j hj ih => ?_)
    intro g1 h1 l1 t1 w4 w5 hpf1 hP1 hq1 ht1 hso1 heq
    have htl := htot
    rw [← heq, List.length_append] at htl
    rcases t1 with _ | ⟨s1, t1⟩
    · have hX3 := (hX.setT hA (p := 5) (ci := 3) (by decide) (by decide) g1 l1.length).setT hA (p := 6) (ci := 2) (by decide) (by decide) h1 0
      refine v_iload_n F dX4_readWithSetsAside_27 rfl ?_
      refine v_bipush (v := nI 48) F dX4_readWithSetsAside_28 (by decide) ?_
      refine v_icmp_ge_n F 104 dX4_readWithSetsAside_30 (by decide) (by first | omega | (have := cuo_lt B hn s1; omega)) (by first | omega | (have := cuo_lt B hn s1; omega)) (fun c30 => ?_) (fun c30 => ?_)
      · have hfin : l1 = sa B n 48 [bfn B p n] := by
          rw [← heq]
          first | rw [sa_n, List.append_nil] | rw [show sa B n (48 - j) _ = [] from by rw [show 48 - j = 0 by omega]; rfl, List.append_nil]
        exact v_vret F hr dX4_readWithSetsAside_104 (Nat.le_of_ble_eq_true rfl) (Nat.le_of_ble_eq_true rfl) ⟨rfl, g1, h1, _, by rw [← hfin], by rw [← hfin]; exact hpf1⟩
      · refine v_aload_n F dX4_readWithSetsAside_33 rfl rfl ?_
        refine v_get F 4 4 fo_X4_readWithSetsAside_33 dX4_readWithSetsAside_34 hX3.x rfl ?_
        refine v_get F 2 1 fo_X4_readWithSetsAside_233 dX4_readWithSetsAside_37 (setR_1 hr6) rfl ?_
        refine v_if_le_n F 104 dX4_readWithSetsAside_40 (by decide) (by first | omega | (have := cuo_lt B hn s1; omega)) (fun c40 => ?_) (fun c40 => ?_)
        · have hfin : l1 = sa B n 48 [bfn B p n] := by
            rw [← heq]
            first | rw [sa_n, List.append_nil] | rw [show sa B n (48 - j) _ = [] from by rw [show 48 - j = 0 by omega]; rfl, List.append_nil]
          exact v_vret F hr dX4_readWithSetsAside_104 (Nat.le_of_ble_eq_true rfl) (Nat.le_of_ble_eq_true rfl) ⟨rfl, g1, h1, _, by rw [← hfin], by rw [← hfin]; exact hpf1⟩
        · exact absurd rfl c40
    · have hX3 := (hX.setT hA (p := 5) (ci := 3) (by decide) (by decide) g1 l1.length).setT hA (p := 6) (ci := 2) (by decide) (by decide) h1 (t1.length + 1)
      have hX4 := (hX.setT hA (p := 5) (ci := 3) (by decide) (by decide) g1 l1.length).setT hA (p := 6) (ci := 2) (by decide) (by decide) h1 t1.length
      have hs1 := hq1 s1 List.mem_cons_self
      rw [List.length_cons] at ht1
      have hlt : t1.length < 24 := by omega
      show V ω σ (setR ω 2 (setR ω 3 M (A 2 5) (A 3 5) g1 l1.length) (A 2 6) (A 3 6) h1 (t1.length + 1)) _ _ _ _ _ _
      refine v_iload_n F dX4_readWithSetsAside_27 rfl ?_
      refine v_bipush (v := nI 48) F dX4_readWithSetsAside_28 (by decide) ?_
      refine v_icmp_ge_n F 104 dX4_readWithSetsAside_30 (by decide) (by first | omega | (have := cuo_lt B hn s1; omega)) (by first | omega | (have := cuo_lt B hn s1; omega)) (fun c30 => ?_) (fun c30 => ?_)
      · have hfin : l1 = sa B n 48 [bfn B p n] := by
          rw [← heq]
          first | rw [sa_n, List.append_nil] | rw [show sa B n (48 - j) _ = [] from by rw [show 48 - j = 0 by omega]; rfl, List.append_nil]
        exact v_vret F hr dX4_readWithSetsAside_104 (Nat.le_of_ble_eq_true rfl) (Nat.le_of_ble_eq_true rfl) ⟨rfl, g1, h1, _, by rw [← hfin], by rw [← hfin]; exact hpf1⟩
      · refine v_aload_n F dX4_readWithSetsAside_33 rfl rfl ?_
        refine v_get F 4 4 fo_X4_readWithSetsAside_33 dX4_readWithSetsAside_34 hX3.x rfl ?_
        refine v_get F 2 1 fo_X4_readWithSetsAside_233 dX4_readWithSetsAside_37 (setR_1 hr6) rfl ?_
        refine v_if_le_n F 104 dX4_readWithSetsAside_40 (by decide) (by first | omega | (have := cuo_lt B hn s1; omega)) (fun c40 => ?_) (fun c40 => ?_)
        · exact absurd c40 (by omega)
        · refine v_aload_n F dX4_readWithSetsAside_43 rfl rfl ?_
          refine v_get F 4 4 fo_X4_readWithSetsAside_33 dX4_readWithSetsAside_44 hX3.x rfl ?_
          rw [show 48 - j = 48 - (j + 1) + 1 by omega] at hso1 heq htl
          refine v_callV F 0 [] rfl rfl rfl (c_X2_take (setR_1 hr6) setR_2 (by omega)) gX4_readWithSetsAside_X2_take rfl hd_X2_take ⟨⟨rfl, rfl⟩, ⟨(Nat.le_of_ble_eq_true rfl), (Nat.le_of_ble_eq_true rfl)⟩, ⟨(Nat.le_of_ble_eq_true rfl), (Nat.le_of_ble_eq_true rfl)⟩, (Nat.le_of_ble_eq_true rfl)⟩ (setR_1 hr6) rfl dX4_readWithSetsAside_47 (fun v47 M47 q47 => ?_)
          obtain ⟨rfl, e47⟩ := q47
          replace e47 := e47.symm
          subst e47
          rw [setR_len (setR_1 hr6) setR_2, setR_set hr6, hP1.top]
          refine v_istore F dX4_readWithSetsAside_50 (Nat.le_of_ble_eq_true rfl) (ok2_d rfl) ?_
          refine v_aload_n F dX4_readWithSetsAside_52 rfl rfl ?_
          refine v_iload F dX4_readWithSetsAside_53 rfl ?_
          refine v_callV F 1 [_] rfl rfl rfl (c_cuo hX4 hB hs1) gX4_readWithSetsAside_X4_cutOff rfl hd_X4_cutOff ⟨⟨rfl, rfl⟩, ⟨(Nat.le_of_ble_eq_true rfl), (Nat.le_of_ble_eq_true rfl)⟩, ⟨(Nat.le_of_ble_eq_true rfl), (Nat.le_of_ble_eq_true rfl)⟩, (Nat.le_of_ble_eq_true rfl)⟩ hX4.x rfl dX4_readWithSetsAside_55 (fun v55 M55 q55 => ?_)
          obtain ⟨rfl, e55⟩ := q55
          replace e55 := e55.symm
          subst e55
          refine v_istore F dX4_readWithSetsAside_58 (Nat.le_of_ble_eq_true rfl) (ok2_d rfl) ?_
          refine v_iload F dX4_readWithSetsAside_60 rfl ?_
          refine v_if_ne_n F 75 dX4_readWithSetsAside_62 (by decide) (by first | omega | (have := cuo_lt B hn s1; omega)) (fun c62 => ?_) (fun c62 => ?_)
          · refine v_aload_n F dX4_readWithSetsAside_75 rfl rfl ?_
            refine v_get F 4 4 fo_X4_readWithSetsAside_33 dX4_readWithSetsAside_76 hX4.x rfl ?_
            refine v_iload F dX4_readWithSetsAside_79 rfl ?_
            refine v_iload F dX4_readWithSetsAside_81 rfl ?_
            refine v_iconst (v := (-1)) F dX4_readWithSetsAside_83 (by decide) ?_
            refine v_ixor F dX4_readWithSetsAside_84 ?_
            refine v_iand_nd F dX4_readWithSetsAside_85 ?_
            refine v_callV F 1 [_] rfl rfl rfl (c_X2_put (setR_1 hr6) setR_2 hlt) gX4_readWithSetsAside_X2_put rfl hd_X2_put ⟨⟨rfl, rfl⟩, ⟨(Nat.le_of_ble_eq_true rfl), (Nat.le_of_ble_eq_true rfl)⟩, ⟨(Nat.le_of_ble_eq_true rfl), (Nat.le_of_ble_eq_true rfl)⟩, (Nat.le_of_ble_eq_true rfl)⟩ (setR_1 hr6) rfl dX4_readWithSetsAside_86 (fun v86 M86 q86 => ?_)
            obtain ⟨rfl, e86⟩ := q86
            replace e86 := e86.symm
            subst e86
            rw [setR_set hr6]
            have hX5 := (hX.setT hA (p := 5) (ci := 3) (by decide) (by decide) g1 l1.length).setT hA (p := 6) (ci := 2) (by decide) (by decide) (upd h1 t1.length (nI (nd s1 (cuo B n s1)))) (t1.length + 1)
            refine v_aload_n F dX4_readWithSetsAside_89 rfl rfl ?_
            refine v_get F 4 4 fo_X4_readWithSetsAside_33 dX4_readWithSetsAside_90 hX5.x rfl ?_
            refine v_iload F dX4_readWithSetsAside_93 rfl ?_
            refine v_callV F 1 [_] rfl rfl rfl (c_X2_put (setR_1 hr6) setR_2 (by have := (saO_2 c62 hso1).1; omega)) gX4_readWithSetsAside_X2_put rfl hd_X2_put ⟨⟨rfl, rfl⟩, ⟨(Nat.le_of_ble_eq_true rfl), (Nat.le_of_ble_eq_true rfl)⟩, ⟨(Nat.le_of_ble_eq_true rfl), (Nat.le_of_ble_eq_true rfl)⟩, (Nat.le_of_ble_eq_true rfl)⟩ (setR_1 hr6) rfl dX4_readWithSetsAside_95 (fun v95 M95 q95 => ?_)
            obtain ⟨rfl, e95⟩ := q95
            replace e95 := e95.symm
            subst e95
            rw [setR_set hr6]
            refine v_iinc1 F dX4_readWithSetsAside_98 rfl (ok2_d rfl) ?_
            refine v_goto F 27 dX4_readWithSetsAside_101 (by decide) ?_
            first | exact ih (by omega) g69 h1 _ t1 _ _ hp69 hP1.pop (fun q hq => hq1 q (List.mem_cons_of_mem _ hq)) (by omega) (saO_1 c62 hso1) (by rw [← heq, sa_1 c62, List.append_assoc]) | exact ih (by omega) g1 _ l1 (cuo B n s1 :: nd s1 (cuo B n s1) :: t1) _ _ hpf1 hP1.pop.push.push (fun q hq => by rcases List.mem_cons.mp hq with h | h; rw [h]; exact cuo_lt B hn s1; rcases List.mem_cons.mp h with h | h; rw [h]; exact nd_lt hs1; exact hq1 q (List.mem_cons_of_mem _ h)) (saO_2 c62 hso1).1 (saO_2 c62 hso1).2 (by rw [← heq, sa_2 c62])
          · refine v_aload_n F dX4_readWithSetsAside_65 rfl rfl ?_
            refine v_iload F dX4_readWithSetsAside_66 rfl ?_
            refine v_aload_n F dX4_readWithSetsAside_68 rfl rfl ?_
            refine v_callV F 2 [_, _] rfl rfl rfl (c_unc hX4 hB hA hs1 (by rw [upR_n (by decide), upR_s]) (by rw [upR_n (by decide), upR_s]; exact hpf1) ρ hρ0 hρ (by rw [sa_1 c62, List.length_append] at htl; omega)) gX4_readWithSetsAside_X4_readUncut rfl hd_X4_readUncut ⟨⟨rfl, rfl⟩, ⟨(Nat.le_of_ble_eq_true rfl), (Nat.le_of_ble_eq_true rfl)⟩, ⟨(Nat.le_of_ble_eq_true rfl), (Nat.le_of_ble_eq_true rfl)⟩, (Nat.le_of_ble_eq_true rfl)⟩ hX4.x rfl dX4_readWithSetsAside_69 (fun v69 M69 q69 => ?_)
            obtain ⟨rfl, g69, rfl, hp69⟩ := q69
            rw [setR_comm hd1 hd3 hd4 hd2, setR_set hr5]
            refine v_goto F 98 dX4_readWithSetsAside_72 (by decide) ?_
            refine v_iinc1 F dX4_readWithSetsAside_98 rfl (ok2_d rfl) ?_
            refine v_goto F 27 dX4_readWithSetsAside_101 (by decide) ?_
            first | exact ih (by omega) g69 h1 _ t1 _ _ hp69 hP1.pop (fun q hq => hq1 q (List.mem_cons_of_mem _ hq)) (by omega) (saO_1 c62 hso1) (by rw [← heq, sa_1 c62, List.append_assoc]) | exact ih (by omega) g1 _ l1 (cuo B n s1 :: nd s1 (cuo B n s1) :: t1) _ _ hpf1 hP1.pop.push.push (fun q hq => by rcases List.mem_cons.mp hq with h | h; rw [h]; exact cuo_lt B hn s1; rcases List.mem_cons.mp h with h | h; rw [h]; exact nd_lt hs1; exact hq1 q (List.mem_cons_of_mem _ h)) (saO_2 c62 hso1).1 (saO_2 c62 hso1).2 (by rw [← heq, sa_2 c62])
  exact lp1 0 (by decide) (R 5).1 _ [] [bfn B p n] none none Pf.nil (Pl.push (l := []) (fun i hi => absurd hi (Nat.not_lt_zero i))) (fun q hq => by rw [List.mem_singleton.mp hq]; exact bfn_lt B p n hn) (show 1 ≤ 24 by decide) hso rfl
