/-! the class: approvals, a page read again -/
def Fr (Z : Nat → Prop) (M M' : MM) : Prop := ∀ a, ¬ Z a → M' a = M a
theorem Fr.rf {Z : Nat → Prop} {M : MM} : Fr Z M M := fun _ _ => rfl
theorem Fr.tr {Z : Nat → Prop} {M M1 M2 : MM} (h : Fr Z M M1) (h2 : Fr Z M1 M2) : Fr Z M M2 := fun a ha => (h2 a ha).trans (h a ha)
theorem Fr.up {Z : Nat → Prop} {M M1 : MM} (h : Fr Z M M1) {a : Nat} {e : va_E} (ha : Z a) : Fr Z M (mup M1 a e) := fun q hq => (mup_n (fun e9 => hq (by rw [e9]; exact ha))).trans (h q hq)
theorem Fr.setR {Z : Nat → Prop} {ω : Om} {ci : Nat} {M M1 : MM} (h : Fr Z M M1) {r rn len : Nat} {g : Nat → Int32} (h1 : Z r) (h2 : Z rn) : Fr Z M (setR ω ci M1 r rn g len) := (h.up h1).up h2
section
variable {ω : Om} {A B B' P P' : FF} {n k : Nat} {R : Nat → (Nat → Int32) × Nat} {M : MM}
theorem XI.setB (h : XI ω A B P n k R M) (hn : n ≤ 24) {i : Nat} (hi : i < n) (hB : ∀ j, j ≠ i → bxF A B' j = bxF A B j) : XI ω A B' P n k R (mup M (A 1 i) (.inr (1, bxF A B' i))) := by
  have hb := h.box hi
  have e : ∀ {a : Nat} {v : va_E}, M a = some v → (∀ x, v ≠ .inr (1, x)) → mup M (A 1 i) (.inr (1, bxF A B' i)) a = some v := by
    intro a v ha h1
    rw [mup_n]
    · exact ha
    · intro he
      rw [he, hb] at ha
      exact h1 _ (Option.some.inj ha).symm
  refine ⟨e h.x (fun x => by simp), e h.made (fun x => by simp), e h.rds (fun x => by simp), e h.giv (fun x => by simp), fun j hj => ?_, fun q hq => ?_, fun j hj => e (h.app hj) (fun x => by simp)⟩
  · by_cases hji : j = i
    · subst hji; exact mup_s
    · rw [mup_n (fun he => hji (h.inj hn hj hi he)), hB j hji]
      exact h.box hj
  · obtain ⟨s1, s2⟩ := h.2.2.2.2.2.1 q hq
    exact ⟨e s1 (fun x => by simp only [rdE]; split <;> simp), e s2 (fun x => by simp [rowE])⟩
theorem XI.setP (h : XI ω A B P n k R M) (hA4 : ∀ i j, i < k → j < k → A 4 i = A 4 j → i = j) {i : Nat} (hi : i < k) (hP : ∀ j, j < k → j ≠ i → apF P' j = apF P j) : XI ω A B P' n k R (mup M (A 4 i) (.inr (0, apF P' i))) := by
  have hb := h.app hi
  have e : ∀ {a : Nat} {v : va_E}, M a = some v → (∀ x, v ≠ .inr (0, x)) → mup M (A 4 i) (.inr (0, apF P' i)) a = some v := by
    intro a v ha h1
    rw [mup_n]
    · exact ha
    · intro he
      rw [he, hb] at ha
      exact h1 _ (Option.some.inj ha).symm
  refine ⟨e h.x (fun x => by simp), e h.made (fun x => by simp), e h.rds (fun x => by simp), e h.giv (fun x => by simp), fun j hj => e (h.box hj) (fun x => by simp), fun q hq => ?_, fun j hj => ?_⟩
  · obtain ⟨s1, s2⟩ := h.2.2.2.2.2.1 q hq
    exact ⟨e s1 (fun x => by simp only [rdE]; split <;> simp), e s2 (fun x => by simp [rowE])⟩
  · by_cases hji : j = i
    · subst hji; exact mup_s
    · rw [mup_n (fun he => hji (hA4 j i hj hi he)), hP j hj hji]
      exact h.app hj
theorem XI.congP (h : XI ω A B P n k R M) (hP : ∀ j, j < k → apF P' j = apF P j) : XI ω A B P' n k R M := ⟨h.x, h.made, h.rds, h.giv, fun _ hi => h.box hi, h.2.2.2.2.2.1, fun i hi => by rw [hP i hi]; exact h.app hi⟩
end
/-- the approvals of a page that hold, among the first i -/
def cnt (P : FF) (p k : Nat) : Nat → Nat := fl (fun c a => if a < k ∧ P a 2 ≠ 0 ∧ P a 1 = p then c + 1 else c) 0
def lfP (P : FF) (p i : Nat) : FF := fun a b => if b = 2 ∧ a < i ∧ P a 1 = p then 0 else P a b
def msk (P : FF) (p k : Nat) : Nat → Nat := fl (fun m a => if a < k ∧ P a 2 ≠ 0 ∧ P a 1 = p then m ||| 2 ^ P a 0 else m) 0
theorem cnt_le (P : FF) (p k : Nat) : ∀ i, cnt P p k i ≤ i := by
  intro i
  induction i with
  | zero => exact Nat.le_refl 0
  | succ i ih =>
    unfold cnt at ih ⊢
    rw [fl_s]
    split <;> omega
theorem lfP_0 (P : FF) (p : Nat) : lfP P p 0 = P := by
  funext a b
  simp [lfP]
theorem lfP_s {P : FF} {p i : Nat} (h : ¬ (P i 2 ≠ 0 ∧ P i 1 = p)) : lfP P p (i + 1) = lfP P p i := by
  funext a b
  unfold lfP
  by_cases hai : a = i
  · subst hai
    by_cases hb : b = 2
    · subst hb
      by_cases hp : P a 1 = p
      · have h0 : P a 2 = 0 := by
          by_cases h1 : P a 2 = 0
          · exact h1
          · exact absurd ⟨h1, hp⟩ h
        simp [hp, h0]
      · simp [hp]
    · simp [hb]
  · have h2 : a < i + 1 ↔ a < i := by omega
    simp [h2]
theorem lfP_lt {P : FF} (hW : ∀ i j, P i j < 128) (p i : Nat) : ∀ a b, lfP P p i a b < 128 := by
  intro a b
  unfold lfP
  split
  · decide
  · exact hW a b
theorem lfP_at {P : FF} {p i b : Nat} : lfP P p i i b = P i b := by simp [lfP]
theorem listEq {l m : List Nat} : (l.length = m.length ∧ ∀ i, i < l.length → l.getD i 0 = m.getD i 0) ↔ l = m := by
  constructor
  · rintro ⟨h1, h2⟩
    apply List.ext_getElem h1
    intro i hi hj
    have := h2 i hi
    rwa [List.getD_eq_getElem?_getD, List.getD_eq_getElem?_getD, List.getElem?_eq_getElem hi, List.getElem?_eq_getElem hj] at this
  · rintro rfl
    exact ⟨rfl, fun _ _ => rfl⟩
def rmX4_letFall : Room := { frames := 1, cells := 0, slots := 0, locals := 21 }
theorem hd_X4_letFall : yX4_letFall.cls = (RX4, TX4, 7).1 ∧ yX4_letFall.cls ≠ "java/lang/invoke/MethodHandle" ∧ yX4_letFall.cls ≠ "java/lang/invoke/VarHandle" ∧ (parseMethodDescriptor yX4_letFall.desc).map (fun d => d.parameters.length) = some 1 := by decide +kernel
theorem fo_X4_letFall_39 : FO wsX4_letFall RX4 39 4 5 := ⟨_, _, _, rfl, by decide, by decide +kernel, by decide +kernel⟩
theorem fp_X4_letFall_181 : FP wsX4_letFall RX4 181 0 2 .boolean := ⟨_, _, _, tyX0, rfl, by decide, by decide +kernel, by decide +kernel, tyX0_ok, nmX0, rfl, by decide +kernel⟩
set_option maxHeartbeats 4000000 in
set_option maxRecDepth 100000 in
theorem c_letFall {l : Launch} {ω : Om} {M : MM} {A B P : FF} {n k : Nat} {R : Nat → (Nat → Int32) × Nat} (hX : XI ω A B P n k R M) (hB : WB B n) (hA4 : ∀ i j, i < k → j < k → A 4 i = A 4 j → i = j) (hk : k ≤ 20) (hWP : ∀ i j, P i j < 128) {p : Nat} (hp : p < 5) {Z : Nat → Prop} (hZ : ∀ i j, Z (A i j)) : Ct l ω yX4_letFall wsX4_letFall rmX4_letFall [.ref (A 0 0), .int (nI p)] M (fun v M9 => v = some (.int (nI (cnt P p k 20))) ∧ XI ω A B (lfP P p 20) n k R M9 ∧ Fr Z M M9) 0 0 := by
  refine Ct.ofV (cc := cX4_letFall) (maxL := 5) (ret := (some .int)) [some (.ref (A 0 0)), some (.int (nI p)), none, none, none] (by decide) rfl (Nat.le_of_ble_eq_true rfl) rfl (Lc.av (av := [.ref (A 0 0), .int (nI p)]) (k := 3) rfl) ?_
  intro σ F hl hr hname
  have F : Fx ω σ cX4_letFall 5 wsX4_letFall RX4 rmX4_letFall := F
  have hn : n ≤ 24 := hB.1
  have hW : ∀ i j, B i j < 128 := hB.2.1
  refine v_iconst (v := nI 0) F dX4_letFall_0 (by decide) ?_
  refine v_istore_n F dX4_letFall_1 (Nat.le_of_ble_eq_true rfl) (ok2_d rfl) ?_
  refine v_iconst (v := nI 0) F dX4_letFall_2 (by decide) ?_
  refine v_istore_n F dX4_letFall_3 (Nat.le_of_ble_eq_true rfl) (ok2_d rfl) ?_
  have lp : ∀ i, i ≤ 20 → ∀ c w M1, XI ω A B (lfP P p i) n k R M1 → Fr Z M M1 → c = cnt P p k i → V ω σ M1 [some (.ref (A 0 0)), some (.int (nI p)), some (.int (nI c)), some (.int (nI i)), w] 0 0 (BQ ω σ (fun v M9 => v = some (.int (nI (cnt P p k 20))) ∧ XI ω A B (lfP P p 20) n k R M9 ∧ Fr Z M M9) 0 0) 4 [] := by
    refine loop_up 20 _ (fun i hi ih => ?_)
    intro c w M1 hX1 hF1 hc
    refine v_iload_n F dX4_letFall_4 rfl ?_
    refine v_aload_n F dX4_letFall_5 rfl rfl ?_
    refine v_get F 4 5 fo_X4_letFall_39 dX4_letFall_6 hX1.x rfl ?_
    refine v_alen F 5 dX4_letFall_9 hX1.giv rfl ?_
    refine v_icmp_ge_n F 50 dX4_letFall_10 (by decide) (by first | omega | (have := cnt_le P p k i; omega)) (by first | omega | (have := cnt_le P p k i; omega)) (fun c10 => ?_) (fun c10 => ?_)
    · refine v_iload_n F dX4_letFall_50 rfl ?_
      exact v_iret F hr dX4_letFall_51 (Nat.le_of_ble_eq_true rfl) (Nat.le_of_ble_eq_true rfl) ⟨by rw [hc, show i = 20 by omega], by rw [← show i = 20 by omega]; exact hX1, hF1⟩
    · rcases Nat.lt_or_ge i k with hk1 | hk1
      · refine v_aload_n F dX4_letFall_13 rfl rfl ?_
        refine v_get F 4 5 fo_X4_letFall_39 dX4_letFall_14 hX1.x rfl ?_
        refine v_iload_n F dX4_letFall_17 rfl ?_
        refine v_aald_n F 5 dX4_letFall_18 hX1.giv rfl (by first | omega | (have := cnt_le P p k i; omega)) (by decide) (fun h18 => ?_) (fun a18 h18 => ?_)
        · exact absurd h18 (by rw [qa_in hk1]; exact fun h => nomatch h)
        · obtain rfl : a18 = A 4 i := by rw [qa_in hk1] at h18; exact (Option.some.inj h18).symm
          refine v_astore F dX4_letFall_19 rfl (Nat.le_of_ble_eq_true rfl) (ok2_d rfl) ?_
          refine v_aload F dX4_letFall_21 rfl rfl ?_
          refine v_ifnull_r F dX4_letFall_23 ?_
          refine v_aload F dX4_letFall_26 rfl rfl ?_
          refine v_iload_n F dX4_letFall_28 rfl ?_
          refine v_callV F 1 [_] rfl rfl rfl (c_X0_holdsFor (lfP_lt hWP p i) (by omega) (hX1.app hk1)) gX4_letFall_X0_holdsFor rfl hd_X0_holdsFor ⟨⟨rfl, rfl⟩, ⟨(Nat.le_of_ble_eq_true rfl), (Nat.le_of_ble_eq_true rfl)⟩, ⟨(Nat.le_of_ble_eq_true rfl), (Nat.le_of_ble_eq_true rfl)⟩, (Nat.le_of_ble_eq_true rfl)⟩ (hX1.app hk1) rfl dX4_letFall_29 (fun v29 M29 q29 => ?_)
          obtain ⟨rfl, e29⟩ := q29
          replace e29 := e29.symm
          subst e29
          simp only [lfP_at]
          refine v_if_eq_b F 44 dX4_letFall_32 (by decide) (fun c32 => ?_) (fun c32 => ?_)
          · have hcn : ¬ (P i 2 ≠ 0 ∧ P i 1 = p) := of_decide_eq_false c32
            have hgo := ih (by omega) c (some (.ref (A 4 i))) M1 (by rw [lfP_s hcn]; exact hX1) hF1 (by unfold cnt; rw [fl_s, if_neg (fun h => hcn h.2)]; exact hc)
            refine v_iinc1 F dX4_letFall_44 rfl (ok2_d rfl) ?_
            refine v_goto F 4 dX4_letFall_47 (by decide) ?_
            exact hgo
          · have hcn : P i 2 ≠ 0 ∧ P i 1 = p := of_decide_eq_true c32
            refine v_aload F dX4_letFall_35 rfl rfl ?_
            refine v_iconst (v := nI 0) F dX4_letFall_37 (by decide) ?_
            refine v_put F 0 2 fp_X4_letFall_181 dX4_letFall_38 (hX1.app hk1) rfl rfl (Nat.le_of_ble_eq_true rfl) ?_
            have e1 : (apF (lfP P p i) i).set 2 (.int (nI 0)) = apF (lfP P p (i + 1)) i := by simp [apF, lfP, hcn.2]
            rw [e1]
            have hX2 : XI ω A B (lfP P p (i + 1)) n k R (mup M1 (A 4 i) (.inr (0, apF (lfP P p (i + 1)) i))) := hX1.setP hA4 hk1 (fun j hj hji => by
              have h2 : j < i + 1 ↔ j < i := by omega
              simp [apF, lfP, h2])
            have hgo := ih (by omega) (c + 1) (some (.ref (A 4 i))) _ hX2 (hF1.up (hZ 4 i)) (by unfold cnt; rw [fl_s, if_pos ⟨hk1, hcn⟩, hc]; rfl)
            refine v_iinc1 F dX4_letFall_41 rfl (ok2_d rfl) ?_
            refine v_iinc1 F dX4_letFall_44 rfl (ok2_d rfl) ?_
            refine v_goto F 4 dX4_letFall_47 (by decide) ?_
            exact hgo
      · refine v_aload_n F dX4_letFall_13 rfl rfl ?_
        refine v_get F 4 5 fo_X4_letFall_39 dX4_letFall_14 hX1.x rfl ?_
        refine v_iload_n F dX4_letFall_17 rfl ?_
        refine v_aald_n F 5 dX4_letFall_18 hX1.giv rfl (by first | omega | (have := cnt_le P p k i; omega)) (by decide) (fun h18 => ?_) (fun a18 h18 => ?_)
        · have hgo := ih (by omega) c (some .null) M1 (hX1.congP (fun j hj => by
            have h2 : j < i + 1 ↔ j < i := by omega
            simp [apF, lfP, h2])) hF1 (by unfold cnt; rw [fl_s, if_neg (by omega)]; exact hc)
          refine v_astore F dX4_letFall_19 rfl (Nat.le_of_ble_eq_true rfl) (ok2_d rfl) ?_
          refine v_aload F dX4_letFall_21 rfl rfl ?_
          refine v_ifnull_n F 44 dX4_letFall_23 (by decide) ?_
          refine v_iinc1 F dX4_letFall_44 rfl (ok2_d rfl) ?_
          refine v_goto F 4 dX4_letFall_47 (by decide) ?_
          exact hgo
        · exact absurd h18 (by rw [qa_out (by omega)]; exact fun h => nomatch h)
  exact lp 0 (Nat.zero_le _) 0 _ _ (by rw [lfP_0]; exact hX) Fr.rf rfl
def rmX4_countHolding : Room := { frames := 1, cells := 0, slots := 0, locals := 21 }
theorem hd_X4_countHolding : yX4_countHolding.cls = (RX4, TX4, 7).1 ∧ yX4_countHolding.cls ≠ "java/lang/invoke/MethodHandle" ∧ yX4_countHolding.cls ≠ "java/lang/invoke/VarHandle" ∧ (parseMethodDescriptor yX4_countHolding.desc).map (fun d => d.parameters.length) = some 1 := by decide +kernel
theorem fo_X4_countHolding_39 : FO wsX4_countHolding RX4 39 4 5 := ⟨_, _, _, rfl, by decide, by decide +kernel, by decide +kernel⟩
set_option maxHeartbeats 4000000 in
set_option maxRecDepth 100000 in
theorem c_cntH {l : Launch} {ω : Om} {M : MM} {A B P : FF} {n k : Nat} {R : Nat → (Nat → Int32) × Nat} (hX : XI ω A B P n k R M) (hB : WB B n) (hA4 : ∀ i j, i < k → j < k → A 4 i = A 4 j → i = j) (hk : k ≤ 20) (hWP : ∀ i j, P i j < 128) {p : Nat} (hp : p < 5) : Ct l ω yX4_countHolding wsX4_countHolding rmX4_countHolding [.ref (A 0 0), .int (nI p)] M (fun v M9 => v = some (.int (nI (cnt P p k 20))) ∧ M9 = M) 0 0 := by
  refine Ct.ofV (cc := cX4_countHolding) (maxL := 5) (ret := (some .int)) [some (.ref (A 0 0)), some (.int (nI p)), none, none, none] (by decide) rfl (Nat.le_of_ble_eq_true rfl) rfl (Lc.av (av := [.ref (A 0 0), .int (nI p)]) (k := 3) rfl) ?_
  intro σ F hl hr hname
  have F : Fx ω σ cX4_countHolding 5 wsX4_countHolding RX4 rmX4_countHolding := F
  have hn : n ≤ 24 := hB.1
  have hW : ∀ i j, B i j < 128 := hB.2.1
  refine v_iconst (v := nI 0) F dX4_countHolding_0 (by decide) ?_
  refine v_istore_n F dX4_countHolding_1 (Nat.le_of_ble_eq_true rfl) (ok2_d rfl) ?_
  refine v_iconst (v := nI 0) F dX4_countHolding_2 (by decide) ?_
  refine v_istore_n F dX4_countHolding_3 (Nat.le_of_ble_eq_true rfl) (ok2_d rfl) ?_
  have lp : ∀ i, i ≤ 20 → ∀ c w, c = cnt P p k i → V ω σ M [some (.ref (A 0 0)), some (.int (nI p)), some (.int (nI c)), some (.int (nI i)), w] 0 0 (BQ ω σ (fun v M9 => v = some (.int (nI (cnt P p k 20))) ∧ M9 = M) 0 0) 4 [] := by
    refine loop_up 20 _ (fun i hi ih => ?_)
    intro c w hc
    refine v_iload_n F dX4_countHolding_4 rfl ?_
    refine v_aload_n F dX4_countHolding_5 rfl rfl ?_
    refine v_get F 4 5 fo_X4_countHolding_39 dX4_countHolding_6 hX.x rfl ?_
    refine v_alen F 5 dX4_countHolding_9 hX.giv rfl ?_
    refine v_icmp_ge_n F 44 dX4_countHolding_10 (by decide) (by first | omega | (have := cnt_le P p k i; omega)) (by first | omega | (have := cnt_le P p k i; omega)) (fun c10 => ?_) (fun c10 => ?_)
    · refine v_iload_n F dX4_countHolding_44 rfl ?_
      exact v_iret F hr dX4_countHolding_45 (Nat.le_of_ble_eq_true rfl) (Nat.le_of_ble_eq_true rfl) ⟨by rw [hc, show i = 20 by omega], rfl⟩
    · rcases Nat.lt_or_ge i k with hk1 | hk1
      · refine v_aload_n F dX4_countHolding_13 rfl rfl ?_
        refine v_get F 4 5 fo_X4_countHolding_39 dX4_countHolding_14 hX.x rfl ?_
        refine v_iload_n F dX4_countHolding_17 rfl ?_
        refine v_aald_n F 5 dX4_countHolding_18 hX.giv rfl (by first | omega | (have := cnt_le P p k i; omega)) (by decide) (fun h18 => ?_) (fun a18 h18 => ?_)
        · exact absurd h18 (by rw [qa_in hk1]; exact fun h => nomatch h)
        · obtain rfl : a18 = A 4 i := by rw [qa_in hk1] at h18; exact (Option.some.inj h18).symm
          refine v_astore F dX4_countHolding_19 rfl (Nat.le_of_ble_eq_true rfl) (ok2_d rfl) ?_
          refine v_aload F dX4_countHolding_21 rfl rfl ?_
          refine v_ifnull_r F dX4_countHolding_23 ?_
          refine v_aload F dX4_countHolding_26 rfl rfl ?_
          refine v_iload_n F dX4_countHolding_28 rfl ?_
          refine v_callV F 1 [_] rfl rfl rfl (c_X0_holdsFor hWP (by omega) (hX.app hk1)) gX4_countHolding_X0_holdsFor rfl hd_X0_holdsFor ⟨⟨rfl, rfl⟩, ⟨(Nat.le_of_ble_eq_true rfl), (Nat.le_of_ble_eq_true rfl)⟩, ⟨(Nat.le_of_ble_eq_true rfl), (Nat.le_of_ble_eq_true rfl)⟩, (Nat.le_of_ble_eq_true rfl)⟩ (hX.app hk1) rfl dX4_countHolding_29 (fun v29 M29 q29 => ?_)
          obtain ⟨rfl, e29⟩ := q29
          replace e29 := e29.symm
          subst e29
          refine v_if_eq_b F 38 dX4_countHolding_32 (by decide) (fun c32 => ?_) (fun c32 => ?_)
          · have hcn : ¬ (P i 2 ≠ 0 ∧ P i 1 = p) := of_decide_eq_false c32
            have hgo := ih (by omega) c (some (.ref (A 4 i))) (by unfold cnt; rw [fl_s, if_neg (fun h => hcn h.2)]; exact hc)
            refine v_iinc1 F dX4_countHolding_38 rfl (ok2_d rfl) ?_
            refine v_goto F 4 dX4_countHolding_41 (by decide) ?_
            exact hgo
          · have hcn : P i 2 ≠ 0 ∧ P i 1 = p := of_decide_eq_true c32
            have hgo := ih (by omega) (c + 1) (some (.ref (A 4 i))) (by unfold cnt; rw [fl_s, if_pos ⟨hk1, hcn⟩, hc]; rfl)
            refine v_iinc1 F dX4_countHolding_35 rfl (ok2_d rfl) ?_
            refine v_iinc1 F dX4_countHolding_38 rfl (ok2_d rfl) ?_
            refine v_goto F 4 dX4_countHolding_41 (by decide) ?_
            exact hgo
      · refine v_aload_n F dX4_countHolding_13 rfl rfl ?_
        refine v_get F 4 5 fo_X4_countHolding_39 dX4_countHolding_14 hX.x rfl ?_
        refine v_iload_n F dX4_countHolding_17 rfl ?_
        refine v_aald_n F 5 dX4_countHolding_18 hX.giv rfl (by first | omega | (have := cnt_le P p k i; omega)) (by decide) (fun h18 => ?_) (fun a18 h18 => ?_)
        · have hgo := ih (by omega) c (some .null) (by unfold cnt; rw [fl_s, if_neg (by omega)]; exact hc)
          refine v_astore F dX4_countHolding_19 rfl (Nat.le_of_ble_eq_true rfl) (ok2_d rfl) ?_
          refine v_aload F dX4_countHolding_21 rfl rfl ?_
          refine v_ifnull_n F 38 dX4_countHolding_23 (by decide) ?_
          refine v_iinc1 F dX4_countHolding_38 rfl (ok2_d rfl) ?_
          refine v_goto F 4 dX4_countHolding_41 (by decide) ?_
          exact hgo
        · exact absurd h18 (by rw [qa_out (by omega)]; exact fun h => nomatch h)
  exact lp 0 (Nat.zero_le _) 0 _ rfl
def rmX4_readAgain : Room := { frames := 72, cells := 1, slots := 6, locals := 1646 }
theorem hd_X4_readAgain : yX4_readAgain.cls = (RX4, TX4, 7).1 ∧ yX4_readAgain.cls ≠ "java/lang/invoke/MethodHandle" ∧ yX4_readAgain.cls ≠ "java/lang/invoke/VarHandle" ∧ (parseMethodDescriptor yX4_readAgain.desc).map (fun d => d.parameters.length) = some 1 := by decide +kernel
theorem fo_X4_readAgain_26 : FO wsX4_readAgain RX4 26 4 3 := ⟨_, _, _, rfl, by decide, by decide +kernel, by decide +kernel⟩
set_option maxHeartbeats 4000000 in
set_option maxRecDepth 100000 in
theorem c_readAgain {l : Launch} {ω : Om} {M : MM} (hl9 : l.stackTraces = false) {A B P : FF} {n k : Nat} {R : Nat → (Nat → Int32) × Nat} (hX : XI ω A B P n k R M) (hB : WB B n) (hA4 : ∀ i j, i < k → j < k → A 4 i = A 4 j → i = j) (hk : k ≤ 20) (hWP : ∀ i j, P i j < 128) (hA : AD A) {p : Nat} (hp : p < 5) {Z : Nat → Prop} (hZ : ∀ i j, Z (A i j)) (ρ : Nat → Nat) (hρ0 : ∀ i, ρ i < 24) (hρ : ∀ i y, i < n → B i 7 = y + 1 → ρ y < ρ i) (htot : (ordF B n p).length ≤ 24) (hnx : ∀ x, x ∈ ordF B n p → x < n) {u : List Nat} (hlen : (R p).2 = u.length) (hl24 : u.length ≤ 24) (hpf : Pf (R p).1 u) (hlt : ∀ x, x ∈ u → x < n) : Ct l ω yX4_readAgain wsX4_readAgain rmX4_readAgain [.ref (A 0 0), .int (nI p)] M (fun v M9 => ∃ R9 P9 c9, v = some (.int (nI c9)) ∧ XI ω A B P9 n k R9 M9 ∧ Fr Z M M9 ∧ (R9 p).2 = (ordF B n p).length ∧ Pf (R9 p).1 (ordF B n p) ∧ (∀ q, q < 5 → q ≠ p → R9 q = R q) ∧ ((ordF B n p = u ∧ c9 = 0 ∧ P9 = P) ∨ (ordF B n p ≠ u ∧ c9 = cnt P p k 20 ∧ P9 = lfP P p 20))) 1 6 := by
  refine Ct.ofV (cc := cX4_readAgain) (maxL := 3) (ret := (some .int)) [some (.ref (A 0 0)), some (.int (nI p)), none] (by decide) rfl (Nat.le_of_ble_eq_true rfl) rfl (Lc.av (av := [.ref (A 0 0), .int (nI p)]) (k := 1) rfl) ?_
  intro σ F hl hr hname
  have F : Fx ω σ cX4_readAgain 3 wsX4_readAgain RX4 rmX4_readAgain := F
  have hn : n ≤ 24 := hB.1
  have hW : ∀ i j, B i j < 128 := hB.2.1
  have hu : ∀ i, i < u.length → u.getD i 0 < 128 := fun i hi => Nat.lt_of_lt_of_le (hlt _ (getD_mem hi)) (by omega)
  have ho : ∀ i, i < (ordF B n p).length → (ordF B n p).getD i 0 < 128 := fun i hi => Nat.lt_of_lt_of_le (hnx _ (getD_mem hi)) (by omega)
  refine v_aload_n F dX4_readAgain_0 rfl rfl ?_
  refine v_iload_n F dX4_readAgain_1 rfl ?_
  refine v_callV F 1 [_] rfl rfl rfl ((c_readingOf_ok (by rw [hl]; exact hl9) hX hB hp).noX (fun _ h => h)) gX4_readAgain_X4_readingOf rfl hd_X4_readingOf ⟨⟨rfl, rfl⟩, ⟨(Nat.le_of_ble_eq_true rfl), (Nat.le_of_ble_eq_true rfl)⟩, ⟨(Nat.le_of_ble_eq_true rfl), (Nat.le_of_ble_eq_true rfl)⟩, (Nat.le_of_ble_eq_true rfl)⟩ hX.x rfl dX4_readAgain_2 (fun v2 M2 q2 => ?_)
  obtain ⟨rfl, e2⟩ := q2
  replace e2 := e2.symm
  subst e2
  refine v_astore_n F dX4_readAgain_5 rfl (Nat.le_of_ble_eq_true rfl) (ok2_d rfl) ?_
  refine v_aload_n F dX4_readAgain_6 rfl rfl ?_
  refine v_iload_n F dX4_readAgain_7 rfl ?_
  refine v_aload_n F dX4_readAgain_8 rfl rfl ?_
  refine v_get F 4 3 fo_X4_readAgain_26 dX4_readAgain_9 hX.x rfl ?_
  refine v_callV F 2 [_, _] rfl rfl rfl (c_rbc hX hB hA hp ρ hρ0 hρ htot) gX4_readAgain_X4_readByCuts rfl hd_X4_readByCuts ⟨⟨rfl, rfl⟩, ⟨(Nat.le_of_ble_eq_true rfl), (Nat.le_of_ble_eq_true rfl)⟩, ⟨(Nat.le_of_ble_eq_true rfl), (Nat.le_of_ble_eq_true rfl)⟩, (Nat.le_of_ble_eq_true rfl)⟩ hX.x rfl dX4_readAgain_12 (fun v12 M12 q12 => ?_)
  obtain ⟨rfl, g12, rfl, hp12⟩ := q12
  have hX1 := hX.setT hA (p := 5) (ci := 3) (by decide) (by decide) g12 (ordF B n p).length
  have hr5 := rd_ne (hX.rd (p := 5) (by decide)) (hX.row (by decide))
  have hrp : setR ω 3 M (A 2 5) (A 3 5) g12 (ordF B n p).length (A 2 p) = some (rdE 3 (A 3 p) u.length) := by have := hX1.rd (p := p) (by omega); rwa [upR_n (by omega), hlen] at this
  have hrw : setR ω 3 M (A 2 5) (A 3 5) g12 (ordF B n p).length (A 3 p) = some (rowE ω (R p).1) := by have := hX1.row (p := p) (by omega); rwa [upR_n (by omega)] at this
  refine v_aload_n F dX4_readAgain_15 rfl rfl ?_
  refine v_get F 4 3 fo_X4_readAgain_26 dX4_readAgain_16 hX1.x rfl ?_
  refine v_aload_n F dX4_readAgain_19 rfl rfl ?_
  refine v_callV F 1 [_] rfl rfl rfl (c_X3_isSameAs (o := fun i => (ordF B n p).getD i 0) (o2 := fun i => u.getD i 0) (setR_1 hr5) setR_2 htot hrp hrw hl24 hp12 ho hpf hu) gX4_readAgain_X3_isSameAs rfl hd_X3_isSameAs ⟨⟨rfl, rfl⟩, ⟨(Nat.le_of_ble_eq_true rfl), (Nat.le_of_ble_eq_true rfl)⟩, ⟨(Nat.le_of_ble_eq_true rfl), (Nat.le_of_ble_eq_true rfl)⟩, (Nat.le_of_ble_eq_true rfl)⟩ (setR_1 hr5) rfl dX4_readAgain_20 (fun v20 M20 q20 => ?_)
  obtain ⟨⟨b20, rfl, hb20⟩, e20⟩ := q20
  replace e20 := e20.symm
  subst e20
  rw [listEq] at hb20
  refine v_if_eq_b F 28 dX4_readAgain_23 (by decide) (fun c23 => ?_) (fun c23 => ?_)
  · refine v_aload_n F dX4_readAgain_28 rfl rfl ?_
    refine v_aload_n F dX4_readAgain_29 rfl rfl ?_
    refine v_get F 4 3 fo_X4_readAgain_26 dX4_readAgain_30 hX1.x rfl ?_
    refine v_callV F 1 [_] rfl rfl rfl (c_X3_become hrp hrw (setR_1 hr5) setR_2 htot (hA 5 p (by decide) (by omega) (by omega)).1 (hA 5 p (by decide) (by omega) (by omega)).2) gX4_readAgain_X3_become rfl hd_X3_become ⟨⟨rfl, rfl⟩, ⟨(Nat.le_of_ble_eq_true rfl), (Nat.le_of_ble_eq_true rfl)⟩, ⟨(Nat.le_of_ble_eq_true rfl), (Nat.le_of_ble_eq_true rfl)⟩, (Nat.le_of_ble_eq_true rfl)⟩ hrp rfl dX4_readAgain_33 (fun v33 M33 q33 => ?_)
    obtain ⟨rfl, g33, rfl, hp33⟩ := q33
    have hX2 := hX1.setT hA (p := p) (ci := 3) (by omega) (by rw [if_neg (by omega)]) g33 (ordF B n p).length
    refine v_aload_n F dX4_readAgain_36 rfl rfl ?_
    refine v_iload_n F dX4_readAgain_37 rfl ?_
    refine v_callV F 1 [_] rfl rfl rfl (c_letFall hX2 hB hA4 hk hWP hp hZ) gX4_readAgain_X4_letFall rfl hd_X4_letFall ⟨⟨rfl, rfl⟩, ⟨(Nat.le_of_ble_eq_true rfl), (Nat.le_of_ble_eq_true rfl)⟩, ⟨(Nat.le_of_ble_eq_true rfl), (Nat.le_of_ble_eq_true rfl)⟩, (Nat.le_of_ble_eq_true rfl)⟩ hX2.x rfl dX4_readAgain_38 (fun v38 M38 q38 => ?_)
    obtain ⟨rfl, hX38, hF38⟩ := q38
    exact v_iret F hr dX4_readAgain_41 (Nat.le_of_ble_eq_true rfl) (Nat.le_of_ble_eq_true rfl) ⟨_, _, _, rfl, hX38, ((Fr.rf.setR (hZ 2 5) (hZ 3 5)).setR (hZ 2 p) (hZ 3 p)).tr hF38, by rw [upR_s], by rw [upR_s]; exact fun i hi => (hp33 i hi).trans (hp12 i hi), fun q hq hqp => by rw [upR_n hqp, upR_n (by omega)], Or.inr ⟨fun h => by rw [hb20.mpr h] at c23; exact Bool.noConfusion c23, rfl, rfl⟩⟩
  · refine v_iconst (v := nI 0) F dX4_readAgain_26 (by decide) ?_
    exact v_iret F hr dX4_readAgain_27 (Nat.le_of_ble_eq_true rfl) (Nat.le_of_ble_eq_true rfl) ⟨_, P, 0, rfl, hX1, Fr.rf.setR (hZ 2 5) (hZ 3 5), by rw [upR_n (by omega), hlen, hb20.mp c23], by rw [upR_n (by omega), hb20.mp c23]; exact hpf, fun q hq _ => upR_n (by omega), Or.inl ⟨hb20.mp c23, rfl, rfl⟩⟩
