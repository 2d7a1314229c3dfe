/-! the reference: its object Y 0, its rows Y f by the numbers of the fields; C f what a row holds, T f what a number is -/
def moF (Y : Nat → Nat) (T : Nat → Nat) : List Value := [.int (nI (T 0)), .ref (Y 1), .ref (Y 2), .ref (Y 3), .ref (Y 4), .ref (Y 5), .ref (Y 6), .ref (Y 7), .ref (Y 8), .ref (Y 9), .int (nI (T 10)), .ref (Y 11), .ref (Y 12), .ref (Y 13), .int (nI (T 14)), .ref (Y 15), .int (nI (T 16)), .ref (Y 17), .int (nI (T 18)), .ref (Y 19), .int (nI (T 20))]
def mfz (f : Nat) : Nat := if f = 19 then 25 else if f = 11 ∨ f = 12 ∨ f = 13 then 20 else 24
def mfb (f : Nat) : Nat := if f = 9 ∨ f = 13 then 1 else 0
def isRow (f : Nat) : Prop := f = 1 ∨ f = 2 ∨ f = 3 ∨ f = 4 ∨ f = 5 ∨ f = 6 ∨ f = 7 ∨ f = 8 ∨ f = 9 ∨ f = 11 ∨ f = 12 ∨ f = 13 ∨ f = 15 ∨ f = 17 ∨ f = 19
def MI (ω : Om) (Y : Nat → Nat) (C : Nat → Nat → Int32) (T : Nat → Nat) (M : MM) : Prop := M (Y 0) = some (.inr (5, moF Y T)) ∧ (∀ f, isRow f → M (Y f) = some (.inl (ω.2.2 (mfb f), mfz f, .inl (C f)))) ∧ (∀ f g, isRow f → isRow g → f ≠ g → Y f ≠ Y g)
def uT (T : Nat → Nat) (f v : Nat) : Nat → Nat := fun q => if q = f then v else T q
def uC (C : Nat → Nat → Int32) (f : Nat) (r : Nat → Int32) : Nat → Nat → Int32 := fun q => if q = f then r else C q
theorem uT_s {T : Nat → Nat} {f v : Nat} : uT T f v f = v := by simp [uT]
theorem uT_n {T : Nat → Nat} {f v q : Nat} (h : q ≠ f) : uT T f v q = T q := by simp [uT, h]
theorem uC_s {C : Nat → Nat → Int32} {f : Nat} {r : Nat → Int32} : uC C f r f = r := by simp [uC]
theorem uC_n {C : Nat → Nat → Int32} {f q : Nat} {r : Nat → Int32} (h : q ≠ f) : uC C f r q = C q := by simp [uC, h]
theorem MI.x {ω : Om} {Y : Nat → Nat} {C : Nat → Nat → Int32} {T : Nat → Nat} {M : MM} (h : MI ω Y C T M) : M (Y 0) = some (.inr (5, moF Y T)) := h.1
theorem MI.r {ω : Om} {Y : Nat → Nat} {C : Nat → Nat → Int32} {T : Nat → Nat} {M : MM} (h : MI ω Y C T M) {f sz bl : Nat} (hf : isRow f) (hz : mfz f = sz) (hb : mfb f = bl) : M (Y f) = some (.inl (ω.2.2 bl, sz, .inl (C f))) := by rw [← hz, ← hb]; exact h.2.1 f hf
theorem MI.setC {ω : Om} {Y : Nat → Nat} {C : Nat → Nat → Int32} {T : Nat → Nat} {M : MM} (h : MI ω Y C T M) {f sz bl : Nat} (hf : isRow f) (hz : mfz f = sz) (hb : mfb f = bl) (r : Nat → Int32) : MI ω Y (uC C f r) T (mup M (Y f) (.inl (ω.2.2 bl, sz, .inl r))) := by
  subst hz; subst hb
  obtain ⟨h1, h2, h3⟩ := h
  refine ⟨?_, fun g hg => ?_, h3⟩
  · rw [mup_n]
    · exact h1
    · intro e; rw [e, h2 f hf] at h1; cases h1
  · by_cases hgf : g = f
    · subst hgf; rw [mup_s, uC_s]
    · rw [mup_n (h3 g f hg hf hgf), uC_n hgf]; exact h2 g hg
theorem MI.setT {ω : Om} {Y : Nat → Nat} {C : Nat → Nat → Int32} {T : Nat → Nat} {M : MM} (h : MI ω Y C T M) {f v : Nat} {l : List Value} (hl : l = moF Y (uT T f v)) : MI ω Y C (uT T f v) (mup M (Y 0) (.inr (5, l))) := by
  subst hl
  obtain ⟨h1, h2, h3⟩ := h
  refine ⟨mup_s, fun g hg => ?_, h3⟩
  rw [mup_n]
  · exact h2 g hg
  · intro e; have := h2 g hg; rw [e, h1] at this; cases this
/-- the rows are those of a state -/
def oI (x : Nat) : Int32 := match x with
  | 0 => -1
  | y + 1 => nI y
def CB (C : Nat → Nat → Int32) (B : FF) (n : Nat) : Prop := ∀ i, i < n → C 1 i = nI (B i 0) ∧ C 2 i = nI (B i 1) ∧ C 3 i = nI (B i 2) ∧ C 4 i = nI (B i 3) ∧ C 5 i = nI (B i 4) ∧ C 6 i = nI (B i 5) ∧ C 7 i = oI (B i 6) ∧ C 8 i = oI (B i 7) ∧ C 9 i = nI (B i 8)
def CPP (C : Nat → Nat → Int32) (P : FF) (k : Nat) : Prop := ∀ i, i < k → C 11 i = nI (P i 0) ∧ C 12 i = nI (P i 1) ∧ C 13 i = nI (1 - P i 2)
def rmX5_thrown : Room := { frames := 0, cells := 0, slots := 0, locals := 0 }
theorem hd_X5_thrown : yX5_thrown.cls = (RX5, TX5, 21).1 ∧ yX5_thrown.cls ≠ "java/lang/invoke/MethodHandle" ∧ yX5_thrown.cls ≠ "java/lang/invoke/VarHandle" ∧ (parseMethodDescriptor yX5_thrown.desc).map (fun d => d.parameters.length) = some 0 := by decide +kernel
theorem fo_X5_thrown_56 : FO wsX5_thrown RX5 56 5 20 := ⟨_, _, _, rfl, by decide, by decide +kernel, by decide +kernel⟩
set_option maxHeartbeats 4000000 in
set_option maxRecDepth 100000 in
theorem c_X5_thrown {l : Launch} {ω : Om} {M : MM} {Y : Nat → Nat} {C : Nat → Nat → Int32} {T : Nat → Nat} (hI : MI ω Y C T M) : Ct l ω yX5_thrown wsX5_thrown rmX5_thrown [.ref (Y 0)] M (fun v M9 => v = some (.int (nI (T 20))) ∧ M9 = M) 0 0 := by
  refine Ct.ofV (cc := cX5_thrown) (maxL := 1) (ret := (some .int)) [some (.ref (Y 0))] (by decide) rfl (Nat.le_of_ble_eq_true rfl) rfl (Lc.av (av := [.ref (Y 0)]) (k := 0) rfl) ?_
  intro σ F hl hr hname
  have F : Fx ω σ cX5_thrown 1 wsX5_thrown RX5 rmX5_thrown := F
  refine v_aload_n F dX5_thrown_0 rfl rfl ?_
  refine v_get F 5 20 fo_X5_thrown_56 dX5_thrown_1 hI.x rfl ?_
  exact v_iret F hr dX5_thrown_4 (Nat.le_of_ble_eq_true rfl) (Nat.le_of_ble_eq_true rfl) ⟨rfl, rfl⟩
def rmX5_in : Room := { frames := 0, cells := 0, slots := 0, locals := 0 }
theorem hd_X5_in : yX5_in.cls ≠ "java/lang/invoke/MethodHandle" ∧ yX5_in.cls ≠ "java/lang/invoke/VarHandle" ∧ (parseMethodDescriptor yX5_in.desc).map (fun d => d.parameters.length) = some 3 := by decide +kernel
set_option maxHeartbeats 4000000 in
set_option maxRecDepth 100000 in
theorem c_in_t {l : Launch} {ω : Om} {M : MM} {y a b : Int32} (h1 : ¬ y < a) (h2 : ¬ b < y) : Ct l ω yX5_in wsX5_in rmX5_in [.int y, .int a, .int b] M (fun v M9 => v = some (.int (bI true)) ∧ M9 = M) 0 0 := by
  refine Ct.ofV (cc := cX5_in) (maxL := 3) (ret := (some .boolean)) [some (.int y), some (.int a), some (.int b)] (by decide) rfl (Nat.le_of_ble_eq_true rfl) rfl (Lc.av (av := [.int y, .int a, .int b]) (k := 0) rfl) ?_
  intro σ F hl hr hname
  have F : Fx ω σ cX5_in 3 wsX5_in RX5 rmX5_in := F
  refine v_iload_n F dX5_in_0 rfl ?_
  refine v_iload_n F dX5_in_1 rfl ?_
  refine v_icmp_lt F 14 dX5_in_2 (by decide) (fun c2 => ?_) (fun c2 => ?_)
  · exact absurd c2 h1
  · refine v_iload_n F dX5_in_5 rfl ?_
    refine v_iload_n F dX5_in_6 rfl ?_
    refine v_icmp_gt F 14 dX5_in_7 (by decide) (fun c7 => ?_) (fun c7 => ?_)
    · exact absurd c7 h2
    · refine v_iconst (v := nI 1) F dX5_in_10 (by decide) ?_
      refine v_goto F 15 dX5_in_11 (by decide) ?_
      exact v_zret F hr dX5_in_15 rfl (Nat.le_of_ble_eq_true rfl) (Nat.le_of_ble_eq_true rfl) ⟨rfl, rfl⟩
set_option maxHeartbeats 4000000 in
set_option maxRecDepth 100000 in
theorem c_in_f {l : Launch} {ω : Om} {M : MM} {y a b : Int32} (h : y < a ∨ b < y) : Ct l ω yX5_in wsX5_in rmX5_in [.int y, .int a, .int b] M (fun v M9 => v = some (.int (bI false)) ∧ M9 = M) 0 0 := by
  refine Ct.ofV (cc := cX5_in) (maxL := 3) (ret := (some .boolean)) [some (.int y), some (.int a), some (.int b)] (by decide) rfl (Nat.le_of_ble_eq_true rfl) rfl (Lc.av (av := [.int y, .int a, .int b]) (k := 0) rfl) ?_
  intro σ F hl hr hname
  have F : Fx ω σ cX5_in 3 wsX5_in RX5 rmX5_in := F
  refine v_iload_n F dX5_in_0 rfl ?_
  refine v_iload_n F dX5_in_1 rfl ?_
  refine v_icmp_lt F 14 dX5_in_2 (by decide) (fun c2 => ?_) (fun c2 => ?_)
  · refine v_iconst (v := nI 0) F dX5_in_14 (by decide) ?_
    exact v_zret F hr dX5_in_15 rfl (Nat.le_of_ble_eq_true rfl) (Nat.le_of_ble_eq_true rfl) ⟨rfl, rfl⟩
  · refine v_iload_n F dX5_in_5 rfl ?_
    refine v_iload_n F dX5_in_6 rfl ?_
    refine v_icmp_gt F 14 dX5_in_7 (by decide) (fun c7 => ?_) (fun c7 => ?_)
    · refine v_iconst (v := nI 0) F dX5_in_14 (by decide) ?_
      exact v_zret F hr dX5_in_15 rfl (Nat.le_of_ble_eq_true rfl) (Nat.le_of_ble_eq_true rfl) ⟨rfl, rfl⟩
    · exact absurd h (by rintro (h | h); exact c2 h; exact c7 h)
def thr (a b c : Bool) : Nat := if a = false then 1 else if b = false then 2 else if c = false then 3 else 0
def rmX5_goes : Room := { frames := 0, cells := 0, slots := 0, locals := 0 }
theorem hd_X5_goes : yX5_goes.cls = (RX5, TX5, 21).1 ∧ yX5_goes.cls ≠ "java/lang/invoke/MethodHandle" ∧ yX5_goes.cls ≠ "java/lang/invoke/VarHandle" ∧ (parseMethodDescriptor yX5_goes.desc).map (fun d => d.parameters.length) = some 3 := by decide +kernel
theorem fo_X5_goes_56 : FO wsX5_goes RX5 56 5 20 := ⟨_, _, _, rfl, by decide, by decide +kernel, by decide +kernel⟩
theorem fp_X5_goes_56 : FP wsX5_goes RX5 56 5 20 .int := ⟨_, _, _, tyX5, rfl, by decide, by decide +kernel, by decide +kernel, tyX5_ok, nmX5, rfl, by decide +kernel⟩
set_option maxHeartbeats 4000000 in
set_option maxRecDepth 100000 in
theorem c_X5_goes {l : Launch} {ω : Om} {M : MM} {Y : Nat → Nat} {C : Nat → Nat → Int32} {T : Nat → Nat} (hI : MI ω Y C T M) {W : Nat → Prop} (hW : ∀ f, W (Y f)) {a b c : Bool} : Ct l ω yX5_goes wsX5_goes rmX5_goes [.ref (Y 0), .int (bI a), .int (bI b), .int (bI c)] M (fun v M9 => v = some (.int (bI (a && b && c))) ∧ MI ω Y C (uT T 20 (thr a b c)) M9 ∧ Fr W M M9) 0 0 := by
  refine Ct.ofV (cc := cX5_goes) (maxL := 4) (ret := (some .boolean)) [some (.ref (Y 0)), some (.int (bI a)), some (.int (bI b)), some (.int (bI c))] (by decide) rfl (Nat.le_of_ble_eq_true rfl) rfl (Lc.av (av := [.ref (Y 0), .int (bI a), .int (bI b), .int (bI c)]) (k := 0) rfl) ?_
  intro σ F hl hr hname
  have F : Fx ω σ cX5_goes 4 wsX5_goes RX5 rmX5_goes := F
  refine v_aload_n F dX5_goes_0 rfl rfl ?_
  refine v_iload_n F dX5_goes_1 rfl ?_
  refine v_if_ne_b F 9 dX5_goes_2 (by decide) (fun c2 => ?_) (fun c2 => ?_)
  · refine v_iload_n F dX5_goes_9 rfl ?_
    refine v_if_ne_b F 17 dX5_goes_10 (by decide) (fun c10 => ?_) (fun c10 => ?_)
    · refine v_iload_n F dX5_goes_17 rfl ?_
      refine v_if_ne_b F 25 dX5_goes_18 (by decide) (fun c18 => ?_) (fun c18 => ?_)
      · refine v_iconst (v := nI 0) F dX5_goes_25 (by decide) ?_
        refine v_put F 5 20 fp_X5_goes_56 dX5_goes_26 hI.x rfl rfl (Nat.le_of_ble_eq_true rfl) ?_
        refine v_aload_n F dX5_goes_29 rfl rfl ?_
        refine v_get F 5 20 fo_X5_goes_56 dX5_goes_30 mup_s rfl ?_
        refine v_if_ne_n F 40 dX5_goes_33 (by decide) (by decide) (fun c33 => ?_) (fun c33 => ?_)
        · refine v_iconst (v := nI 0) F dX5_goes_40 (by decide) ?_
          exact v_zret F hr dX5_goes_41 rfl (Nat.le_of_ble_eq_true rfl) (Nat.le_of_ble_eq_true rfl) (by first | exact absurd c33 (by decide) | (subst_vars; refine ⟨rfl, ?_, Fr.rf.up (hW 0)⟩; exact hI.setT rfl))
        · refine v_iconst (v := nI 1) F dX5_goes_36 (by decide) ?_
          refine v_goto F 41 dX5_goes_37 (by decide) ?_
          exact v_zret F hr dX5_goes_41 rfl (Nat.le_of_ble_eq_true rfl) (Nat.le_of_ble_eq_true rfl) (by first | exact absurd c33 (by decide) | (subst_vars; refine ⟨rfl, ?_, Fr.rf.up (hW 0)⟩; exact hI.setT rfl))
      · refine v_iconst (v := nI 3) F dX5_goes_21 (by decide) ?_
        refine v_goto F 26 dX5_goes_22 (by decide) ?_
        refine v_put F 5 20 fp_X5_goes_56 dX5_goes_26 hI.x rfl rfl (Nat.le_of_ble_eq_true rfl) ?_
        refine v_aload_n F dX5_goes_29 rfl rfl ?_
        refine v_get F 5 20 fo_X5_goes_56 dX5_goes_30 mup_s rfl ?_
        refine v_if_ne_n F 40 dX5_goes_33 (by decide) (by decide) (fun c33 => ?_) (fun c33 => ?_)
        · refine v_iconst (v := nI 0) F dX5_goes_40 (by decide) ?_
          exact v_zret F hr dX5_goes_41 rfl (Nat.le_of_ble_eq_true rfl) (Nat.le_of_ble_eq_true rfl) (by first | exact absurd c33 (by decide) | (subst_vars; refine ⟨rfl, ?_, Fr.rf.up (hW 0)⟩; exact hI.setT rfl))
        · refine v_iconst (v := nI 1) F dX5_goes_36 (by decide) ?_
          refine v_goto F 41 dX5_goes_37 (by decide) ?_
          exact v_zret F hr dX5_goes_41 rfl (Nat.le_of_ble_eq_true rfl) (Nat.le_of_ble_eq_true rfl) (by first | exact absurd c33 (by decide) | (subst_vars; refine ⟨rfl, ?_, Fr.rf.up (hW 0)⟩; exact hI.setT rfl))
    · refine v_iconst (v := nI 2) F dX5_goes_13 (by decide) ?_
      refine v_goto F 26 dX5_goes_14 (by decide) ?_
      refine v_put F 5 20 fp_X5_goes_56 dX5_goes_26 hI.x rfl rfl (Nat.le_of_ble_eq_true rfl) ?_
      refine v_aload_n F dX5_goes_29 rfl rfl ?_
      refine v_get F 5 20 fo_X5_goes_56 dX5_goes_30 mup_s rfl ?_
      refine v_if_ne_n F 40 dX5_goes_33 (by decide) (by decide) (fun c33 => ?_) (fun c33 => ?_)
      · refine v_iconst (v := nI 0) F dX5_goes_40 (by decide) ?_
        exact v_zret F hr dX5_goes_41 rfl (Nat.le_of_ble_eq_true rfl) (Nat.le_of_ble_eq_true rfl) (by first | exact absurd c33 (by decide) | (subst_vars; refine ⟨rfl, ?_, Fr.rf.up (hW 0)⟩; exact hI.setT rfl))
      · refine v_iconst (v := nI 1) F dX5_goes_36 (by decide) ?_
        refine v_goto F 41 dX5_goes_37 (by decide) ?_
        exact v_zret F hr dX5_goes_41 rfl (Nat.le_of_ble_eq_true rfl) (Nat.le_of_ble_eq_true rfl) (by first | exact absurd c33 (by decide) | (subst_vars; refine ⟨rfl, ?_, Fr.rf.up (hW 0)⟩; exact hI.setT rfl))
  · refine v_iconst (v := nI 1) F dX5_goes_5 (by decide) ?_
    refine v_goto F 26 dX5_goes_6 (by decide) ?_
    refine v_put F 5 20 fp_X5_goes_56 dX5_goes_26 hI.x rfl rfl (Nat.le_of_ble_eq_true rfl) ?_
    refine v_aload_n F dX5_goes_29 rfl rfl ?_
    refine v_get F 5 20 fo_X5_goes_56 dX5_goes_30 mup_s rfl ?_
    refine v_if_ne_n F 40 dX5_goes_33 (by decide) (by decide) (fun c33 => ?_) (fun c33 => ?_)
    · refine v_iconst (v := nI 0) F dX5_goes_40 (by decide) ?_
      exact v_zret F hr dX5_goes_41 rfl (Nat.le_of_ble_eq_true rfl) (Nat.le_of_ble_eq_true rfl) (by first | exact absurd c33 (by decide) | (subst_vars; refine ⟨rfl, ?_, Fr.rf.up (hW 0)⟩; exact hI.setT rfl))
    · refine v_iconst (v := nI 1) F dX5_goes_36 (by decide) ?_
      refine v_goto F 41 dX5_goes_37 (by decide) ?_
      exact v_zret F hr dX5_goes_41 rfl (Nat.le_of_ble_eq_true rfl) (Nat.le_of_ble_eq_true rfl) (by first | exact absurd c33 (by decide) | (subst_vars; refine ⟨rfl, ?_, Fr.rf.up (hW 0)⟩; exact hI.setT rfl))
def rmX5_isPage : Room := { frames := 1, cells := 0, slots := 0, locals := 22 }
theorem hd_X5_isPage : yX5_isPage.cls ≠ "java/lang/invoke/MethodHandle" ∧ yX5_isPage.cls ≠ "java/lang/invoke/VarHandle" ∧ (parseMethodDescriptor yX5_isPage.desc).map (fun d => d.parameters.length) = some 1 := by decide +kernel
set_option maxHeartbeats 4000000 in
set_option maxRecDepth 100000 in
theorem c_isPage_t {l : Launch} {ω : Om} {M : MM} {p : Nat} (hp : p < 5) : Ct l ω yX5_isPage wsX5_isPage rmX5_isPage [.int (nI p)] M (fun v M9 => v = some (.int (bI true)) ∧ M9 = M) 0 0 := by
  refine Ct.ofV (cc := cX5_isPage) (maxL := 1) (ret := (some .boolean)) [some (.int (nI p))] (by decide) rfl (Nat.le_of_ble_eq_true rfl) rfl (Lc.av (av := [.int (nI p)]) (k := 0) rfl) ?_
  intro σ F hl hr hname
  have F : Fx ω σ cX5_isPage 1 wsX5_isPage RX5 rmX5_isPage := F
  refine v_iload_n F dX5_isPage_0 rfl ?_
  refine v_iconst (v := nI 0) F dX5_isPage_1 (by decide) ?_
  refine v_iconst (v := nI 4) F dX5_isPage_2 (by decide) ?_
  refine v_callS F 3 [_, _, _] rfl rfl rfl (c_in_t (nI_nlt (a := p) (b := 0) (by omega) (by omega)) (nI_nlt (a := 4) (b := p) (by omega) (by omega))) gX5_isPage_X5_in rfl hd_X5_in ⟨⟨rfl, rfl⟩, ⟨(Nat.le_of_ble_eq_true rfl), (Nat.le_of_ble_eq_true rfl)⟩, ⟨(Nat.le_of_ble_eq_true rfl), (Nat.le_of_ble_eq_true rfl)⟩, (Nat.le_of_ble_eq_true rfl)⟩ dX5_isPage_3 (fun v3 M3 q3 => ?_)
  obtain ⟨rfl, e3⟩ := q3
  replace e3 := e3.symm
  subst e3
  exact v_zret F hr dX5_isPage_6 bI_n (Nat.le_of_ble_eq_true rfl) (Nat.le_of_ble_eq_true rfl) ⟨rfl, rfl⟩
theorem int4 {y : Int32} (h : y < 0 ∨ nI 5 ≤ y) : y < nI 0 ∨ nI 4 < y := by
  rcases h with h | h
  · exact Or.inl h
  · refine Or.inr ?_
    rw [Int32.lt_iff_toInt_lt]
    rw [Int32.le_iff_toInt_le] at h
    have h1 : (nI 5).toInt = 5 := by decide
    have h2 : (nI 4).toInt = 4 := by decide
    omega
theorem int24 {n : Nat} (hn : n ≤ 24) {y : Int32} (h : y < 0 ∨ nI n ≤ y) : y < nI 0 ∨ nI n - nI 1 < y := by
  rcases h with h | h
  · exact Or.inl h
  · refine Or.inr ?_
    rw [Int32.lt_iff_toInt_lt]
    rw [Int32.le_iff_toInt_le] at h
    have h1 : (nI n).toInt = n := nI_toInt (by omega)
    have h2 : (nI n - nI 1).toInt = (n : Int) - 1 := pk_sub_toInt (by omega) (by decide)
    omega
theorem int24i {n j : Nat} (hn : n ≤ 24) (hj : j < n) : ¬ nI j < nI 0 ∧ ¬ nI n - nI 1 < nI j := by
  refine ⟨nI_nlt (Nat.zero_le _) (by omega), ?_⟩
  rw [pk_sub (by omega)]
  exact nI_nlt (by omega) (by omega)
set_option maxHeartbeats 4000000 in
set_option maxRecDepth 100000 in
theorem c_isPage_f {l : Launch} {ω : Om} {M : MM} {y : Int32} (hy : y < 0 ∨ nI 5 ≤ y) : Ct l ω yX5_isPage wsX5_isPage rmX5_isPage [.int y] M (fun v M9 => v = some (.int (bI false)) ∧ M9 = M) 0 0 := by
  refine Ct.ofV (cc := cX5_isPage) (maxL := 1) (ret := (some .boolean)) [some (.int y)] (by decide) rfl (Nat.le_of_ble_eq_true rfl) rfl (Lc.av (av := [.int y]) (k := 0) rfl) ?_
  intro σ F hl hr hname
  have F : Fx ω σ cX5_isPage 1 wsX5_isPage RX5 rmX5_isPage := F
  refine v_iload_n F dX5_isPage_0 rfl ?_
  refine v_iconst (v := nI 0) F dX5_isPage_1 (by decide) ?_
  refine v_iconst (v := nI 4) F dX5_isPage_2 (by decide) ?_
  refine v_callS F 3 [_, _, _] rfl rfl rfl (c_in_f (int4 hy)) gX5_isPage_X5_in rfl hd_X5_in ⟨⟨rfl, rfl⟩, ⟨(Nat.le_of_ble_eq_true rfl), (Nat.le_of_ble_eq_true rfl)⟩, ⟨(Nat.le_of_ble_eq_true rfl), (Nat.le_of_ble_eq_true rfl)⟩, (Nat.le_of_ble_eq_true rfl)⟩ dX5_isPage_3 (fun v3 M3 q3 => ?_)
  obtain ⟨rfl, e3⟩ := q3
  replace e3 := e3.symm
  subst e3
  exact v_zret F hr dX5_isPage_6 bI_n (Nat.le_of_ble_eq_true rfl) (Nat.le_of_ble_eq_true rfl) ⟨rfl, rfl⟩
def rmX5_isBox : Room := { frames := 1, cells := 0, slots := 0, locals := 22 }
theorem hd_X5_isBox : yX5_isBox.cls = (RX5, TX5, 21).1 ∧ yX5_isBox.cls ≠ "java/lang/invoke/MethodHandle" ∧ yX5_isBox.cls ≠ "java/lang/invoke/VarHandle" ∧ (parseMethodDescriptor yX5_isBox.desc).map (fun d => d.parameters.length) = some 1 := by decide +kernel
theorem fo_X5_isBox_34 : FO wsX5_isBox RX5 34 5 9 := ⟨_, _, _, rfl, by decide, by decide +kernel, by decide +kernel⟩
theorem fo_X5_isBox_64 : FO wsX5_isBox RX5 64 5 0 := ⟨_, _, _, rfl, by decide, by decide +kernel, by decide +kernel⟩
set_option maxHeartbeats 4000000 in
set_option maxRecDepth 100000 in
theorem c_isBox_in {l : Launch} {ω : Om} {M : MM} {Y : Nat → Nat} {C : Nat → Nat → Int32} {T : Nat → Nat} (hI : MI ω Y C T M) {B : FF} {n : Nat} (hT0 : T 0 = n) (hCB : CB C B n) (hB : WB B n) {j : Nat} (hj : j < n) : Ct l ω yX5_isBox wsX5_isBox rmX5_isBox [.ref (Y 0), .int (nI j)] M (fun v M9 => v = some (.int (bI (decide (B j 8 = 0)))) ∧ M9 = M) 0 0 := by
  refine Ct.ofV (cc := cX5_isBox) (maxL := 2) (ret := (some .boolean)) [some (.ref (Y 0)), some (.int (nI j))] (by decide) rfl (Nat.le_of_ble_eq_true rfl) rfl (Lc.av (av := [.ref (Y 0), .int (nI j)]) (k := 0) rfl) ?_
  intro σ F hl hr hname
  have F : Fx ω σ cX5_isBox 2 wsX5_isBox RX5 rmX5_isBox := F
  have hn : n ≤ 24 := hB.1
  have hW : ∀ i j, B i j < 128 := hB.2.1
  refine v_iload_n F dX5_isBox_0 rfl ?_
  refine v_iconst (v := nI 0) F dX5_isBox_1 (by decide) ?_
  refine v_aload_n F dX5_isBox_2 rfl rfl ?_
  refine v_get F 5 0 fo_X5_isBox_64 dX5_isBox_3 hI.x rfl ?_
  refine V.toI (show nI (T 0) = nI n by rw [hT0]) ?_
  refine v_iconst (v := nI 1) F dX5_isBox_6 (by decide) ?_
  refine v_isub F dX5_isBox_7 ?_
  refine v_callS F 3 [_, _, _] rfl rfl rfl (c_in_t (int24i hn hj).1 (int24i hn hj).2) gX5_isBox_X5_in rfl hd_X5_in ⟨⟨rfl, rfl⟩, ⟨(Nat.le_of_ble_eq_true rfl), (Nat.le_of_ble_eq_true rfl)⟩, ⟨(Nat.le_of_ble_eq_true rfl), (Nat.le_of_ble_eq_true rfl)⟩, (Nat.le_of_ble_eq_true rfl)⟩ dX5_isBox_8 (fun v8 M8 q8 => ?_)
  obtain ⟨rfl, e8⟩ := q8
  replace e8 := e8.symm
  subst e8
  refine v_if_eq_b F 27 dX5_isBox_11 (by decide) (fun c11 => ?_) (fun c11 => ?_)
  · exact absurd c11 (by decide)
  · refine v_aload_n F dX5_isBox_14 rfl rfl ?_
    refine v_get F 5 9 fo_X5_isBox_34 dX5_isBox_15 hI.x rfl ?_
    refine v_iload_n F dX5_isBox_18 rfl ?_
    refine v_zald_n F dX5_isBox_19 (hI.r (f := 9) (sz := 24) (bl := 1) (by simp [isRow]) (by decide) (by decide)) (by first | omega | exact Nat.lt_trans (hW _ _) (by decide)) (by decide) ?_
    refine V.toI ((hCB j hj).2.2.2.2.2.2.2.2) ?_
    refine v_if_ne_n F 27 dX5_isBox_20 (by decide) (by first | omega | exact Nat.lt_trans (hW _ _) (by decide)) (fun c20 => ?_) (fun c20 => ?_)
    · refine v_iconst (v := nI 0) F dX5_isBox_27 (by decide) ?_
      exact v_zret F hr dX5_isBox_28 rfl (Nat.le_of_ble_eq_true rfl) (Nat.le_of_ble_eq_true rfl) (by first | (refine ⟨zl1 ?_, rfl⟩; simp [*]; done) | (refine ⟨zl1 ?_, rfl⟩; simp [*]; omega) | (refine ⟨zl0 ?_, rfl⟩; simp [*]; done) | (refine ⟨zl0 ?_, rfl⟩; simp [*]; omega))
    · refine v_iconst (v := nI 1) F dX5_isBox_23 (by decide) ?_
      refine v_goto F 28 dX5_isBox_24 (by decide) ?_
      exact v_zret F hr dX5_isBox_28 rfl (Nat.le_of_ble_eq_true rfl) (Nat.le_of_ble_eq_true rfl) (by first | (refine ⟨zl1 ?_, rfl⟩; simp [*]; done) | (refine ⟨zl1 ?_, rfl⟩; simp [*]; omega) | (refine ⟨zl0 ?_, rfl⟩; simp [*]; done) | (refine ⟨zl0 ?_, rfl⟩; simp [*]; omega))
set_option maxHeartbeats 4000000 in
set_option maxRecDepth 100000 in
theorem c_isBox_out {l : Launch} {ω : Om} {M : MM} {Y : Nat → Nat} {C : Nat → Nat → Int32} {T : Nat → Nat} (hI : MI ω Y C T M) {B : FF} {n : Nat} (hT0 : T 0 = n) (hCB : CB C B n) (hB : WB B n) {y : Int32} (hy : y < 0 ∨ nI n ≤ y) : Ct l ω yX5_isBox wsX5_isBox rmX5_isBox [.ref (Y 0), .int y] M (fun v M9 => v = some (.int (bI false)) ∧ M9 = M) 0 0 := by
  refine Ct.ofV (cc := cX5_isBox) (maxL := 2) (ret := (some .boolean)) [some (.ref (Y 0)), some (.int y)] (by decide) rfl (Nat.le_of_ble_eq_true rfl) rfl (Lc.av (av := [.ref (Y 0), .int y]) (k := 0) rfl) ?_
  intro σ F hl hr hname
  have F : Fx ω σ cX5_isBox 2 wsX5_isBox RX5 rmX5_isBox := F
  have hn : n ≤ 24 := hB.1
  have hW : ∀ i j, B i j < 128 := hB.2.1
  refine v_iload_n F dX5_isBox_0 rfl ?_
  refine v_iconst (v := nI 0) F dX5_isBox_1 (by decide) ?_
  refine v_aload_n F dX5_isBox_2 rfl rfl ?_
  refine v_get F 5 0 fo_X5_isBox_64 dX5_isBox_3 hI.x rfl ?_
  refine V.toI (show nI (T 0) = nI n by rw [hT0]) ?_
  refine v_iconst (v := nI 1) F dX5_isBox_6 (by decide) ?_
  refine v_isub F dX5_isBox_7 ?_
  refine v_callS F 3 [_, _, _] rfl rfl rfl (c_in_f (int24 hn hy)) gX5_isBox_X5_in rfl hd_X5_in ⟨⟨rfl, rfl⟩, ⟨(Nat.le_of_ble_eq_true rfl), (Nat.le_of_ble_eq_true rfl)⟩, ⟨(Nat.le_of_ble_eq_true rfl), (Nat.le_of_ble_eq_true rfl)⟩, (Nat.le_of_ble_eq_true rfl)⟩ dX5_isBox_8 (fun v8 M8 q8 => ?_)
  obtain ⟨rfl, e8⟩ := q8
  replace e8 := e8.symm
  subst e8
  refine v_if_eq_b F 27 dX5_isBox_11 (by decide) (fun c11 => ?_) (fun c11 => ?_)
  · refine v_iconst (v := nI 0) F dX5_isBox_27 (by decide) ?_
    exact v_zret F hr dX5_isBox_28 rfl (Nat.le_of_ble_eq_true rfl) (Nat.le_of_ble_eq_true rfl) ⟨rfl, rfl⟩
  · exact absurd c11 (by decide)
def inPm (x y w h : Int32) : Prop := ¬ x < 0 ∧ ¬ y < 0 ∧ ¬ w < nI 1 ∧ ¬ h < nI 1 ∧ ¬ nI 60 - x < w ∧ ¬ nI 80 - y < h
theorem inPm_iff {x y w h : Int32} : inPm x y w h ↔ inPg x y w h := by
  have s : ∀ {z : Int32} {c : Nat}, c < 2 ^ 30 → ¬ z < 0 → (nI c - z).toInt = c - z.toInt := by
    intro z c hc hz
    obtain ⟨j, hj, rfl⟩ := nI_of hz
    rw [Int32.toInt_sub, nI_toInt (by omega), nI_toInt (by omega)]
    rw [Int.bmod_eq_of_le] <;> omega
  have e60 : (nI 60).toInt = 60 := by decide
  have e80 : (nI 80).toInt = 80 := by decide
  have e1 : (nI 1).toInt = 1 := by decide
  have e0 : (0 : Int32).toInt = 0 := by decide
  constructor
  · rintro ⟨h1, h2, h3, h4, h5, h6⟩
    have s1 := s (c := 60) (by decide) h1
    have s2 := s (c := 80) (by decide) h2
    refine ⟨h1, h2, h3, h4, ?_, h5, ?_, ?_⟩ <;>
      (simp only [Int32.lt_iff_toInt_lt, Int32.le_iff_toInt_le, e60, e80, e1, e0, s1, s2] at *; omega)
  · rintro ⟨h1, h2, h3, h4, h5, h6, h7, h8⟩
    refine ⟨h1, h2, h3, h4, h6, ?_⟩
    simp only [Int32.lt_iff_toInt_lt, Int32.le_iff_toInt_le] at *
    omega
def rmX5_isWithin : Room := { frames := 0, cells := 0, slots := 0, locals := 0 }
theorem hd_X5_isWithin : yX5_isWithin.cls ≠ "java/lang/invoke/MethodHandle" ∧ yX5_isWithin.cls ≠ "java/lang/invoke/VarHandle" ∧ (parseMethodDescriptor yX5_isWithin.desc).map (fun d => d.parameters.length) = some 4 := by decide +kernel
set_option maxHeartbeats 4000000 in
set_option maxRecDepth 100000 in
theorem c_isWithin_t {l : Launch} {ω : Om} {M : MM} {x y w h : Int32} (hb : inPm x y w h) : Ct l ω yX5_isWithin wsX5_isWithin rmX5_isWithin [.int x, .int y, .int w, .int h] M (fun v M9 => v = some (.int (bI true)) ∧ M9 = M) 0 0 := by
  refine Ct.ofV (cc := cX5_isWithin) (maxL := 4) (ret := (some .boolean)) [some (.int x), some (.int y), some (.int w), some (.int h)] (by decide) rfl (Nat.le_of_ble_eq_true rfl) rfl (Lc.av (av := [.int x, .int y, .int w, .int h]) (k := 0) rfl) ?_
  intro σ F hl hr hname
  have F : Fx ω σ cX5_isWithin 4 wsX5_isWithin RX5 rmX5_isWithin := F
  obtain ⟨q1, q2, q3, q4, q5, q6⟩ := hb
  refine v_iload_n F dX5_isWithin_0 rfl ?_
  refine v_if_lt F 38 dX5_isWithin_1 (by decide) (fun c1 => ?_) (fun c1 => ?_)
  · exact absurd c1 q1
  · refine v_iload_n F dX5_isWithin_4 rfl ?_
    refine v_if_lt F 38 dX5_isWithin_5 (by decide) (fun c5 => ?_) (fun c5 => ?_)
    · exact absurd c5 q2
    · refine v_iload_n F dX5_isWithin_8 rfl ?_
      refine v_iconst (v := nI 1) F dX5_isWithin_9 (by decide) ?_
      refine v_icmp_lt F 38 dX5_isWithin_10 (by decide) (fun c10 => ?_) (fun c10 => ?_)
      · exact absurd c10 q3
      · refine v_iload_n F dX5_isWithin_13 rfl ?_
        refine v_iconst (v := nI 1) F dX5_isWithin_14 (by decide) ?_
        refine v_icmp_lt F 38 dX5_isWithin_15 (by decide) (fun c15 => ?_) (fun c15 => ?_)
        · exact absurd c15 q4
        · refine v_iload_n F dX5_isWithin_18 rfl ?_
          refine v_bipush (v := nI 60) F dX5_isWithin_19 (by decide) ?_
          refine v_iload_n F dX5_isWithin_21 rfl ?_
          refine v_isub F dX5_isWithin_22 ?_
          refine v_icmp_gt F 38 dX5_isWithin_23 (by decide) (fun c23 => ?_) (fun c23 => ?_)
          · exact absurd c23 q5
          · refine v_iload_n F dX5_isWithin_26 rfl ?_
            refine v_bipush (v := nI 80) F dX5_isWithin_27 (by decide) ?_
            refine v_iload_n F dX5_isWithin_29 rfl ?_
            refine v_isub F dX5_isWithin_30 ?_
            refine v_icmp_gt F 38 dX5_isWithin_31 (by decide) (fun c31 => ?_) (fun c31 => ?_)
            · exact absurd c31 q6
            · refine v_iconst (v := nI 1) F dX5_isWithin_34 (by decide) ?_
              refine v_goto F 39 dX5_isWithin_35 (by decide) ?_
              exact v_zret F hr dX5_isWithin_39 rfl (Nat.le_of_ble_eq_true rfl) (Nat.le_of_ble_eq_true rfl) ⟨rfl, rfl⟩
set_option maxHeartbeats 4000000 in
set_option maxRecDepth 100000 in
theorem c_isWithin_f {l : Launch} {ω : Om} {M : MM} {x y w h : Int32} (hb : ¬ inPm x y w h) : Ct l ω yX5_isWithin wsX5_isWithin rmX5_isWithin [.int x, .int y, .int w, .int h] M (fun v M9 => v = some (.int (bI false)) ∧ M9 = M) 0 0 := by
  refine Ct.ofV (cc := cX5_isWithin) (maxL := 4) (ret := (some .boolean)) [some (.int x), some (.int y), some (.int w), some (.int h)] (by decide) rfl (Nat.le_of_ble_eq_true rfl) rfl (Lc.av (av := [.int x, .int y, .int w, .int h]) (k := 0) rfl) ?_
  intro σ F hl hr hname
  have F : Fx ω σ cX5_isWithin 4 wsX5_isWithin RX5 rmX5_isWithin := F
  refine v_iload_n F dX5_isWithin_0 rfl ?_
  refine v_if_lt F 38 dX5_isWithin_1 (by decide) (fun c1 => ?_) (fun c1 => ?_)
  · refine v_iconst (v := nI 0) F dX5_isWithin_38 (by decide) ?_
    exact v_zret F hr dX5_isWithin_39 rfl (Nat.le_of_ble_eq_true rfl) (Nat.le_of_ble_eq_true rfl) ⟨rfl, rfl⟩
  · refine v_iload_n F dX5_isWithin_4 rfl ?_
    refine v_if_lt F 38 dX5_isWithin_5 (by decide) (fun c5 => ?_) (fun c5 => ?_)
    · refine v_iconst (v := nI 0) F dX5_isWithin_38 (by decide) ?_
      exact v_zret F hr dX5_isWithin_39 rfl (Nat.le_of_ble_eq_true rfl) (Nat.le_of_ble_eq_true rfl) ⟨rfl, rfl⟩
    · refine v_iload_n F dX5_isWithin_8 rfl ?_
      refine v_iconst (v := nI 1) F dX5_isWithin_9 (by decide) ?_
      refine v_icmp_lt F 38 dX5_isWithin_10 (by decide) (fun c10 => ?_) (fun c10 => ?_)
      · refine v_iconst (v := nI 0) F dX5_isWithin_38 (by decide) ?_
        exact v_zret F hr dX5_isWithin_39 rfl (Nat.le_of_ble_eq_true rfl) (Nat.le_of_ble_eq_true rfl) ⟨rfl, rfl⟩
      · refine v_iload_n F dX5_isWithin_13 rfl ?_
        refine v_iconst (v := nI 1) F dX5_isWithin_14 (by decide) ?_
        refine v_icmp_lt F 38 dX5_isWithin_15 (by decide) (fun c15 => ?_) (fun c15 => ?_)
        · refine v_iconst (v := nI 0) F dX5_isWithin_38 (by decide) ?_
          exact v_zret F hr dX5_isWithin_39 rfl (Nat.le_of_ble_eq_true rfl) (Nat.le_of_ble_eq_true rfl) ⟨rfl, rfl⟩
        · refine v_iload_n F dX5_isWithin_18 rfl ?_
          refine v_bipush (v := nI 60) F dX5_isWithin_19 (by decide) ?_
          refine v_iload_n F dX5_isWithin_21 rfl ?_
          refine v_isub F dX5_isWithin_22 ?_
          refine v_icmp_gt F 38 dX5_isWithin_23 (by decide) (fun c23 => ?_) (fun c23 => ?_)
          · refine v_iconst (v := nI 0) F dX5_isWithin_38 (by decide) ?_
            exact v_zret F hr dX5_isWithin_39 rfl (Nat.le_of_ble_eq_true rfl) (Nat.le_of_ble_eq_true rfl) ⟨rfl, rfl⟩
          · refine v_iload_n F dX5_isWithin_26 rfl ?_
            refine v_bipush (v := nI 80) F dX5_isWithin_27 (by decide) ?_
            refine v_iload_n F dX5_isWithin_29 rfl ?_
            refine v_isub F dX5_isWithin_30 ?_
            refine v_icmp_gt F 38 dX5_isWithin_31 (by decide) (fun c31 => ?_) (fun c31 => ?_)
            · refine v_iconst (v := nI 0) F dX5_isWithin_38 (by decide) ?_
              exact v_zret F hr dX5_isWithin_39 rfl (Nat.le_of_ble_eq_true rfl) (Nat.le_of_ble_eq_true rfl) ⟨rfl, rfl⟩
            · exact absurd ⟨c1, c5, c10, c15, c23, c31⟩ hb
theorem tb1 (s j : Nat) : (s / 2 ^ j &&& 1 = 1) ↔ s.testBit j = true := by
  rw [tb_div]
  cases s.testBit j <;> simp
def rmX5_has : Room := { frames := 0, cells := 0, slots := 0, locals := 0 }
theorem hd_X5_has : yX5_has.cls ≠ "java/lang/invoke/MethodHandle" ∧ yX5_has.cls ≠ "java/lang/invoke/VarHandle" ∧ (parseMethodDescriptor yX5_has.desc).map (fun d => d.parameters.length) = some 2 := by decide +kernel
set_option maxHeartbeats 4000000 in
set_option maxRecDepth 100000 in
theorem c_X5_has {l : Launch} {ω : Om} {M : MM} {s j : Nat} (hs : s < 2 ^ 24) (hj : j < 24) : Ct l ω yX5_has wsX5_has rmX5_has [.int (nI s), .int (nI j)] M (fun v M9 => v = some (.int (bI (s.testBit j))) ∧ M9 = M) 0 0 := by
  refine Ct.ofV (cc := cX5_has) (maxL := 2) (ret := (some .boolean)) [some (.int (nI s)), some (.int (nI j))] (by decide) rfl (Nat.le_of_ble_eq_true rfl) rfl (Lc.av (av := [.int (nI s), .int (nI j)]) (k := 0) rfl) ?_
  intro σ F hl hr hname
  have F : Fx ω σ cX5_has 2 wsX5_has RX5 rmX5_has := F
  refine v_iload_n F dX5_has_0 rfl ?_
  refine v_iload_n F dX5_has_1 rfl ?_
  refine v_ishr_n F dX5_has_2 (by first | omega | exact Nat.lt_of_le_of_lt Nat.and_le_right (by decide)) (by first | omega | exact Nat.lt_of_le_of_lt Nat.and_le_right (by decide)) ?_
  refine v_iconst (v := nI 1) F dX5_has_3 (by decide) ?_
  refine v_iand_n F dX5_has_4 ?_
  refine v_iconst (v := nI 1) F dX5_has_5 (by decide) ?_
  refine v_icmp_ne_n F 13 dX5_has_6 (by decide) (by first | omega | exact Nat.lt_of_le_of_lt Nat.and_le_right (by decide)) (by first | omega | exact Nat.lt_of_le_of_lt Nat.and_le_right (by decide)) (fun c6 => ?_) (fun c6 => ?_)
  · refine v_iconst (v := nI 0) F dX5_has_13 (by decide) ?_
    exact v_zret F hr dX5_has_14 rfl (Nat.le_of_ble_eq_true rfl) (Nat.le_of_ble_eq_true rfl) (by first | exact ⟨zl1 ((tb1 s j).mp c6), rfl⟩ | exact ⟨zl0 (by rw [Bool.eq_false_iff]; exact fun h => c6 ((tb1 s j).mpr h)), rfl⟩)
  · refine v_iconst (v := nI 1) F dX5_has_9 (by decide) ?_
    refine v_goto F 14 dX5_has_10 (by decide) ?_
    exact v_zret F hr dX5_has_14 rfl (Nat.le_of_ble_eq_true rfl) (Nat.le_of_ble_eq_true rfl) (by first | exact ⟨zl1 ((tb1 s j).mp c6), rfl⟩ | exact ⟨zl0 (by rw [Bool.eq_false_iff]; exact fun h => c6 ((tb1 s j).mpr h)), rfl⟩)
def rmX5_near : Room := { frames := 0, cells := 0, slots := 0, locals := 0 }
theorem hd_X5_near : yX5_near.cls = (RX5, TX5, 21).1 ∧ yX5_near.cls ≠ "java/lang/invoke/MethodHandle" ∧ yX5_near.cls ≠ "java/lang/invoke/VarHandle" ∧ (parseMethodDescriptor yX5_near.desc).map (fun d => d.parameters.length) = some 2 := by decide +kernel
theorem fo_X5_near_13 : FO wsX5_near RX5 13 5 2 := ⟨_, _, _, rfl, by decide, by decide +kernel, by decide +kernel⟩
theorem fo_X5_near_16 : FO wsX5_near RX5 16 5 3 := ⟨_, _, _, rfl, by decide, by decide +kernel, by decide +kernel⟩
set_option maxHeartbeats 4000000 in
set_option maxRecDepth 100000 in
theorem c_X5_near {l : Launch} {ω : Om} {M : MM} {Y : Nat → Nat} {C : Nat → Nat → Int32} {T : Nat → Nat} (hI : MI ω Y C T M) {B : FF} {n : Nat} (hT0 : T 0 = n) (hCB : CB C B n) (hB : WB B n) {i : Nat} {ac : Bool} (hi : i < n) : Ct l ω yX5_near wsX5_near rmX5_near [.ref (Y 0), .int (nI i), .int (bI ac)] M (fun v M9 => v = some (.int (nI (Gb B ac i))) ∧ M9 = M) 0 0 := by
  refine Ct.ofV (cc := cX5_near) (maxL := 3) (ret := (some .int)) [some (.ref (Y 0)), some (.int (nI i)), some (.int (bI ac))] (by decide) rfl (Nat.le_of_ble_eq_true rfl) rfl (Lc.av (av := [.ref (Y 0), .int (nI i), .int (bI ac)]) (k := 0) rfl) ?_
  intro σ F hl hr hname
  have F : Fx ω σ cX5_near 3 wsX5_near RX5 rmX5_near := F
  have hn : n ≤ 24 := hB.1
  have hW : ∀ i j, B i j < 128 := hB.2.1
  refine v_iload_n F dX5_near_0 rfl ?_
  refine v_if_eq_b F 13 dX5_near_1 (by decide) (fun c1 => ?_) (fun c1 => ?_)
  · refine v_aload_n F dX5_near_13 rfl rfl ?_
    refine v_get F 5 2 fo_X5_near_13 dX5_near_14 hI.x rfl ?_
    refine v_iload_n F dX5_near_17 rfl ?_
    refine v_iald_n F dX5_near_18 (hI.r (f := 2) (sz := 24) (bl := 0) (by simp [isRow]) (by decide) (by decide)) (by first | omega | exact Nat.lt_trans (hW _ _) (by decide)) (by decide) ?_
    refine V.toI ((hCB i hi).2.1) ?_
    exact v_iret F hr dX5_near_19 (Nat.le_of_ble_eq_true rfl) (Nat.le_of_ble_eq_true rfl) ⟨by simp [Gb, *], rfl⟩
  · refine v_aload_n F dX5_near_4 rfl rfl ?_
    refine v_get F 5 3 fo_X5_near_16 dX5_near_5 hI.x rfl ?_
    refine v_iload_n F dX5_near_8 rfl ?_
    refine v_iald_n F dX5_near_9 (hI.r (f := 3) (sz := 24) (bl := 0) (by simp [isRow]) (by decide) (by decide)) (by first | omega | exact Nat.lt_trans (hW _ _) (by decide)) (by decide) ?_
    refine V.toI ((hCB i hi).2.2.1) ?_
    refine v_goto F 19 dX5_near_10 (by decide) ?_
    exact v_iret F hr dX5_near_19 (Nat.le_of_ble_eq_true rfl) (Nat.le_of_ble_eq_true rfl) ⟨by simp [Gb, *], rfl⟩
def rmX5_far : Room := { frames := 0, cells := 0, slots := 0, locals := 0 }
theorem hd_X5_far : yX5_far.cls = (RX5, TX5, 21).1 ∧ yX5_far.cls ≠ "java/lang/invoke/MethodHandle" ∧ yX5_far.cls ≠ "java/lang/invoke/VarHandle" ∧ (parseMethodDescriptor yX5_far.desc).map (fun d => d.parameters.length) = some 2 := by decide +kernel
theorem fo_X5_far_13 : FO wsX5_far RX5 13 5 2 := ⟨_, _, _, rfl, by decide, by decide +kernel, by decide +kernel⟩
theorem fo_X5_far_16 : FO wsX5_far RX5 16 5 3 := ⟨_, _, _, rfl, by decide, by decide +kernel, by decide +kernel⟩
theorem fo_X5_far_19 : FO wsX5_far RX5 19 5 4 := ⟨_, _, _, rfl, by decide, by decide +kernel, by decide +kernel⟩
theorem fo_X5_far_22 : FO wsX5_far RX5 22 5 5 := ⟨_, _, _, rfl, by decide, by decide +kernel, by decide +kernel⟩
set_option maxHeartbeats 4000000 in
set_option maxRecDepth 100000 in
theorem c_X5_far {l : Launch} {ω : Om} {M : MM} {Y : Nat → Nat} {C : Nat → Nat → Int32} {T : Nat → Nat} (hI : MI ω Y C T M) {B : FF} {n : Nat} (hT0 : T 0 = n) (hCB : CB C B n) (hB : WB B n) {i : Nat} {ac : Bool} (hi : i < n) : Ct l ω yX5_far wsX5_far rmX5_far [.ref (Y 0), .int (nI i), .int (bI ac)] M (fun v M9 => v = some (.int (nI (Eb B ac i))) ∧ M9 = M) 0 0 := by
  refine Ct.ofV (cc := cX5_far) (maxL := 3) (ret := (some .int)) [some (.ref (Y 0)), some (.int (nI i)), some (.int (bI ac))] (by decide) rfl (Nat.le_of_ble_eq_true rfl) rfl (Lc.av (av := [.ref (Y 0), .int (nI i), .int (bI ac)]) (k := 0) rfl) ?_
  intro σ F hl hr hname
  have F : Fx ω σ cX5_far 3 wsX5_far RX5 rmX5_far := F
  have hn : n ≤ 24 := hB.1
  have hW : ∀ i j, B i j < 128 := hB.2.1
  refine v_iload_n F dX5_far_0 rfl ?_
  refine v_if_eq_b F 20 dX5_far_1 (by decide) (fun c1 => ?_) (fun c1 => ?_)
  · refine v_aload_n F dX5_far_20 rfl rfl ?_
    refine v_get F 5 2 fo_X5_far_13 dX5_far_21 hI.x rfl ?_
    refine v_iload_n F dX5_far_24 rfl ?_
    refine v_iald_n F dX5_far_25 (hI.r (f := 2) (sz := 24) (bl := 0) (by simp [isRow]) (by decide) (by decide)) (by first | omega | exact Nat.lt_trans (hW _ _) (by decide)) (by decide) ?_
    refine V.toI ((hCB i hi).2.1) ?_
    refine v_aload_n F dX5_far_26 rfl rfl ?_
    refine v_get F 5 4 fo_X5_far_19 dX5_far_27 hI.x rfl ?_
    refine v_iload_n F dX5_far_30 rfl ?_
    refine v_iald_n F dX5_far_31 (hI.r (f := 4) (sz := 24) (bl := 0) (by simp [isRow]) (by decide) (by decide)) (by first | omega | exact Nat.lt_trans (hW _ _) (by decide)) (by decide) ?_
    refine V.toI ((hCB i hi).2.2.2.1) ?_
    refine v_iadd_n F dX5_far_32 ?_
    exact v_iret F hr dX5_far_33 (Nat.le_of_ble_eq_true rfl) (Nat.le_of_ble_eq_true rfl) ⟨by simp [Eb, *], rfl⟩
  · refine v_aload_n F dX5_far_4 rfl rfl ?_
    refine v_get F 5 3 fo_X5_far_16 dX5_far_5 hI.x rfl ?_
    refine v_iload_n F dX5_far_8 rfl ?_
    refine v_iald_n F dX5_far_9 (hI.r (f := 3) (sz := 24) (bl := 0) (by simp [isRow]) (by decide) (by decide)) (by first | omega | exact Nat.lt_trans (hW _ _) (by decide)) (by decide) ?_
    refine V.toI ((hCB i hi).2.2.1) ?_
    refine v_aload_n F dX5_far_10 rfl rfl ?_
    refine v_get F 5 5 fo_X5_far_22 dX5_far_11 hI.x rfl ?_
    refine v_iload_n F dX5_far_14 rfl ?_
    refine v_iald_n F dX5_far_15 (hI.r (f := 5) (sz := 24) (bl := 0) (by simp [isRow]) (by decide) (by decide)) (by first | omega | exact Nat.lt_trans (hW _ _) (by decide)) (by decide) ?_
    refine V.toI ((hCB i hi).2.2.2.2.1) ?_
    refine v_iadd_n F dX5_far_16 ?_
    refine v_goto F 33 dX5_far_17 (by decide) ?_
    exact v_iret F hr dX5_far_33 (Nat.le_of_ble_eq_true rfl) (Nat.le_of_ble_eq_true rfl) ⟨by simp [Eb, *], rfl⟩
def rmX5_isAhead : Room := { frames := 0, cells := 0, slots := 0, locals := 0 }
theorem hd_X5_isAhead : yX5_isAhead.cls = (RX5, TX5, 21).1 ∧ yX5_isAhead.cls ≠ "java/lang/invoke/MethodHandle" ∧ yX5_isAhead.cls ≠ "java/lang/invoke/VarHandle" ∧ (parseMethodDescriptor yX5_isAhead.desc).map (fun d => d.parameters.length) = some 2 := by decide +kernel
theorem fo_X5_isAhead_13 : FO wsX5_isAhead RX5 13 5 2 := ⟨_, _, _, rfl, by decide, by decide +kernel, by decide +kernel⟩
theorem fo_X5_isAhead_16 : FO wsX5_isAhead RX5 16 5 3 := ⟨_, _, _, rfl, by decide, by decide +kernel, by decide +kernel⟩
set_option maxHeartbeats 4000000 in
set_option maxRecDepth 100000 in
theorem c_X5_isAhead {l : Launch} {ω : Om} {M : MM} {Y : Nat → Nat} {C : Nat → Nat → Int32} {T : Nat → Nat} (hI : MI ω Y C T M) {B : FF} {n : Nat} (hT0 : T 0 = n) (hCB : CB C B n) (hB : WB B n) {i j : Nat} (hi : i < n) (hj : j < n) : Ct l ω yX5_isAhead wsX5_isAhead rmX5_isAhead [.ref (Y 0), .int (nI i), .int (nI j)] M (fun v M9 => v = some (.int (bI (ahd B i j))) ∧ M9 = M) 0 0 := by
  refine Ct.ofV (cc := cX5_isAhead) (maxL := 3) (ret := (some .boolean)) [some (.ref (Y 0)), some (.int (nI i)), some (.int (nI j))] (by decide) rfl (Nat.le_of_ble_eq_true rfl) rfl (Lc.av (av := [.ref (Y 0), .int (nI i), .int (nI j)]) (k := 0) rfl) ?_
  intro σ F hl hr hname
  have F : Fx ω σ cX5_isAhead 3 wsX5_isAhead RX5 rmX5_isAhead := F
  have hn : n ≤ 24 := hB.1
  have hW : ∀ i j, B i j < 128 := hB.2.1
  refine v_aload_n F dX5_isAhead_0 rfl rfl ?_
  refine v_get F 5 3 fo_X5_isAhead_16 dX5_isAhead_1 hI.x rfl ?_
  refine v_iload_n F dX5_isAhead_4 rfl ?_
  refine v_iald_n F dX5_isAhead_5 (hI.r (f := 3) (sz := 24) (bl := 0) (by simp [isRow]) (by decide) (by decide)) (by first | omega | exact Nat.lt_trans (hW _ _) (by decide)) (by decide) ?_
  refine V.toI ((hCB i hi).2.2.1) ?_
  refine v_aload_n F dX5_isAhead_6 rfl rfl ?_
  refine v_get F 5 3 fo_X5_isAhead_16 dX5_isAhead_7 hI.x rfl ?_
  refine v_iload_n F dX5_isAhead_10 rfl ?_
  refine v_iald_n F dX5_isAhead_11 (hI.r (f := 3) (sz := 24) (bl := 0) (by simp [isRow]) (by decide) (by decide)) (by first | omega | exact Nat.lt_trans (hW _ _) (by decide)) (by decide) ?_
  refine V.toI ((hCB j hj).2.2.1) ?_
  refine v_icmp_eq_n F 38 dX5_isAhead_12 (by decide) (by first | omega | exact Nat.lt_trans (hW _ _) (by decide)) (by first | omega | exact Nat.lt_trans (hW _ _) (by decide)) (fun c12 => ?_) (fun c12 => ?_)
  · refine v_aload_n F dX5_isAhead_38 rfl rfl ?_
    refine v_get F 5 2 fo_X5_isAhead_13 dX5_isAhead_39 hI.x rfl ?_
    refine v_iload_n F dX5_isAhead_42 rfl ?_
    refine v_iald_n F dX5_isAhead_43 (hI.r (f := 2) (sz := 24) (bl := 0) (by simp [isRow]) (by decide) (by decide)) (by first | omega | exact Nat.lt_trans (hW _ _) (by decide)) (by decide) ?_
    refine V.toI ((hCB i hi).2.1) ?_
    refine v_aload_n F dX5_isAhead_44 rfl rfl ?_
    refine v_get F 5 2 fo_X5_isAhead_13 dX5_isAhead_45 hI.x rfl ?_
    refine v_iload_n F dX5_isAhead_48 rfl ?_
    refine v_iald_n F dX5_isAhead_49 (hI.r (f := 2) (sz := 24) (bl := 0) (by simp [isRow]) (by decide) (by decide)) (by first | omega | exact Nat.lt_trans (hW _ _) (by decide)) (by decide) ?_
    refine V.toI ((hCB j hj).2.1) ?_
    refine v_icmp_eq_n F 76 dX5_isAhead_50 (by decide) (by first | omega | exact Nat.lt_trans (hW _ _) (by decide)) (by first | omega | exact Nat.lt_trans (hW _ _) (by decide)) (fun c50 => ?_) (fun c50 => ?_)
    · refine v_iload_n F dX5_isAhead_76 rfl ?_
      refine v_iload_n F dX5_isAhead_77 rfl ?_
      refine v_icmp_ge_n F 85 dX5_isAhead_78 (by decide) (by first | omega | exact Nat.lt_trans (hW _ _) (by decide)) (by first | omega | exact Nat.lt_trans (hW _ _) (by decide)) (fun c78 => ?_) (fun c78 => ?_)
      · refine v_iconst (v := nI 0) F dX5_isAhead_85 (by decide) ?_
        exact v_zret F hr dX5_isAhead_86 rfl (Nat.le_of_ble_eq_true rfl) (Nat.le_of_ble_eq_true rfl) (by first | (refine ⟨zl1 ?_, rfl⟩; simp [ahd, *]; done) | (refine ⟨zl1 ?_, rfl⟩; simp [ahd, *]; omega) | (refine ⟨zl0 ?_, rfl⟩; simp [ahd, *]; done) | (refine ⟨zl0 ?_, rfl⟩; simp [ahd, *]; omega))
      · refine v_iconst (v := nI 1) F dX5_isAhead_81 (by decide) ?_
        refine v_goto F 86 dX5_isAhead_82 (by decide) ?_
        exact v_zret F hr dX5_isAhead_86 rfl (Nat.le_of_ble_eq_true rfl) (Nat.le_of_ble_eq_true rfl) (by first | (refine ⟨zl1 ?_, rfl⟩; simp [ahd, *]; done) | (refine ⟨zl1 ?_, rfl⟩; simp [ahd, *]; omega) | (refine ⟨zl0 ?_, rfl⟩; simp [ahd, *]; done) | (refine ⟨zl0 ?_, rfl⟩; simp [ahd, *]; omega))
    · refine v_aload_n F dX5_isAhead_53 rfl rfl ?_
      refine v_get F 5 2 fo_X5_isAhead_13 dX5_isAhead_54 hI.x rfl ?_
      refine v_iload_n F dX5_isAhead_57 rfl ?_
      refine v_iald_n F dX5_isAhead_58 (hI.r (f := 2) (sz := 24) (bl := 0) (by simp [isRow]) (by decide) (by decide)) (by first | omega | exact Nat.lt_trans (hW _ _) (by decide)) (by decide) ?_
      refine V.toI ((hCB i hi).2.1) ?_
      refine v_aload_n F dX5_isAhead_59 rfl rfl ?_
      refine v_get F 5 2 fo_X5_isAhead_13 dX5_isAhead_60 hI.x rfl ?_
      refine v_iload_n F dX5_isAhead_63 rfl ?_
      refine v_iald_n F dX5_isAhead_64 (hI.r (f := 2) (sz := 24) (bl := 0) (by simp [isRow]) (by decide) (by decide)) (by first | omega | exact Nat.lt_trans (hW _ _) (by decide)) (by decide) ?_
      refine V.toI ((hCB j hj).2.1) ?_
      refine v_icmp_ge_n F 72 dX5_isAhead_65 (by decide) (by first | omega | exact Nat.lt_trans (hW _ _) (by decide)) (by first | omega | exact Nat.lt_trans (hW _ _) (by decide)) (fun c65 => ?_) (fun c65 => ?_)
      · refine v_iconst (v := nI 0) F dX5_isAhead_72 (by decide) ?_
        refine v_goto F 86 dX5_isAhead_73 (by decide) ?_
        exact v_zret F hr dX5_isAhead_86 rfl (Nat.le_of_ble_eq_true rfl) (Nat.le_of_ble_eq_true rfl) (by first | (refine ⟨zl1 ?_, rfl⟩; simp [ahd, *]; done) | (refine ⟨zl1 ?_, rfl⟩; simp [ahd, *]; omega) | (refine ⟨zl0 ?_, rfl⟩; simp [ahd, *]; done) | (refine ⟨zl0 ?_, rfl⟩; simp [ahd, *]; omega))
      · refine v_iconst (v := nI 1) F dX5_isAhead_68 (by decide) ?_
        refine v_goto F 86 dX5_isAhead_69 (by decide) ?_
        exact v_zret F hr dX5_isAhead_86 rfl (Nat.le_of_ble_eq_true rfl) (Nat.le_of_ble_eq_true rfl) (by first | (refine ⟨zl1 ?_, rfl⟩; simp [ahd, *]; done) | (refine ⟨zl1 ?_, rfl⟩; simp [ahd, *]; omega) | (refine ⟨zl0 ?_, rfl⟩; simp [ahd, *]; done) | (refine ⟨zl0 ?_, rfl⟩; simp [ahd, *]; omega))
  · refine v_aload_n F dX5_isAhead_15 rfl rfl ?_
    refine v_get F 5 3 fo_X5_isAhead_16 dX5_isAhead_16 hI.x rfl ?_
    refine v_iload_n F dX5_isAhead_19 rfl ?_
    refine v_iald_n F dX5_isAhead_20 (hI.r (f := 3) (sz := 24) (bl := 0) (by simp [isRow]) (by decide) (by decide)) (by first | omega | exact Nat.lt_trans (hW _ _) (by decide)) (by decide) ?_
    refine V.toI ((hCB i hi).2.2.1) ?_
    refine v_aload_n F dX5_isAhead_21 rfl rfl ?_
    refine v_get F 5 3 fo_X5_isAhead_16 dX5_isAhead_22 hI.x rfl ?_
    refine v_iload_n F dX5_isAhead_25 rfl ?_
    refine v_iald_n F dX5_isAhead_26 (hI.r (f := 3) (sz := 24) (bl := 0) (by simp [isRow]) (by decide) (by decide)) (by first | omega | exact Nat.lt_trans (hW _ _) (by decide)) (by decide) ?_
    refine V.toI ((hCB j hj).2.2.1) ?_
    refine v_icmp_ge_n F 34 dX5_isAhead_27 (by decide) (by first | omega | exact Nat.lt_trans (hW _ _) (by decide)) (by first | omega | exact Nat.lt_trans (hW _ _) (by decide)) (fun c27 => ?_) (fun c27 => ?_)
    · refine v_iconst (v := nI 0) F dX5_isAhead_34 (by decide) ?_
      refine v_goto F 86 dX5_isAhead_35 (by decide) ?_
      exact v_zret F hr dX5_isAhead_86 rfl (Nat.le_of_ble_eq_true rfl) (Nat.le_of_ble_eq_true rfl) (by first | (refine ⟨zl1 ?_, rfl⟩; simp [ahd, *]; done) | (refine ⟨zl1 ?_, rfl⟩; simp [ahd, *]; omega) | (refine ⟨zl0 ?_, rfl⟩; simp [ahd, *]; done) | (refine ⟨zl0 ?_, rfl⟩; simp [ahd, *]; omega))
    · refine v_iconst (v := nI 1) F dX5_isAhead_30 (by decide) ?_
      refine v_goto F 86 dX5_isAhead_31 (by decide) ?_
      exact v_zret F hr dX5_isAhead_86 rfl (Nat.le_of_ble_eq_true rfl) (Nat.le_of_ble_eq_true rfl) (by first | (refine ⟨zl1 ?_, rfl⟩; simp [ahd, *]; done) | (refine ⟨zl1 ?_, rfl⟩; simp [ahd, *]; omega) | (refine ⟨zl0 ?_, rfl⟩; simp [ahd, *]; done) | (refine ⟨zl0 ?_, rfl⟩; simp [ahd, *]; omega))
theorem ctAt_lt (B : FF) {n : Nat} (hn : n ≤ 24) (s w : Nat) (ac : Bool) : ctAt B n s w ac < 2 ^ 24 := by
  unfold ctAt
  rw [cta_1]
  split
  · exact enb_lt B w s ac n hn
  · decide
theorem ctm_stop {B : FF} {n s : Nat} {ac : Bool} {i : Nat} (h : ctm B n s ac i ≠ 0) : ∀ {j}, i ≤ j → ctm B n s ac j = ctm B n s ac i := by
  intro j hj
  obtain ⟨k, rfl⟩ : ∃ k, j = i + k := ⟨j - i, by omega⟩
  clear hj
  induction k with
  | zero => rfl
  | succ k ih =>
    have e : ctm B n s ac (i + (k + 1)) = if ctm B n s ac (i + k) = 0 then ctAt B n s (i + k + 1) ac else ctm B n s ac (i + k) := rfl
    rw [e, ih, if_neg h]
def rmX5_cutAt : Room := { frames := 1, cells := 0, slots := 0, locals := 22 }
theorem hd_X5_cutAt : yX5_cutAt.cls = (RX5, TX5, 21).1 ∧ yX5_cutAt.cls ≠ "java/lang/invoke/MethodHandle" ∧ yX5_cutAt.cls ≠ "java/lang/invoke/VarHandle" ∧ (parseMethodDescriptor yX5_cutAt.desc).map (fun d => d.parameters.length) = some 3 := by decide +kernel
theorem fo_X5_cutAt_64 : FO wsX5_cutAt RX5 64 5 0 := ⟨_, _, _, rfl, by decide, by decide +kernel, by decide +kernel⟩
set_option maxHeartbeats 4000000 in
set_option maxRecDepth 100000 in
theorem c_cutAt {l : Launch} {ω : Om} {M : MM} {Y : Nat → Nat} {C : Nat → Nat → Int32} {T : Nat → Nat} (hI : MI ω Y C T M) {B : FF} {n : Nat} (hT0 : T 0 = n) (hCB : CB C B n) (hB : WB B n) {s w : Nat} {ac : Bool} (hs : s < 2 ^ 24) (hw : w < 128) : Ct l ω yX5_cutAt wsX5_cutAt rmX5_cutAt [.ref (Y 0), .int (nI s), .int (nI w), .int (bI ac)] M (fun v M9 => v = some (.int (nI (ctAt B n s w ac))) ∧ M9 = M) 0 0 := by
  refine Ct.ofV (cc := cX5_cutAt) (maxL := 8) (ret := (some .int)) [some (.ref (Y 0)), some (.int (nI s)), some (.int (nI w)), some (.int (bI ac)), none, none, none, none] (by decide) rfl (Nat.le_of_ble_eq_true rfl) rfl (Lc.av (av := [.ref (Y 0), .int (nI s), .int (nI w), .int (bI ac)]) (k := 4) rfl) ?_
  intro σ F hl hr hname
  have F : Fx ω σ cX5_cutAt 8 wsX5_cutAt RX5 rmX5_cutAt := F
  have hn : n ≤ 24 := hB.1
  have hW : ∀ i j, B i j < 128 := hB.2.1
  refine v_iconst (v := nI 0) F dX5_cutAt_0 (by decide) ?_
  refine v_istore F dX5_cutAt_1 (Nat.le_of_ble_eq_true rfl) (ok2_d rfl) ?_
  refine v_iconst (v := nI 1) F dX5_cutAt_3 (by decide) ?_
  refine V.toI (show nI 1 = bI true from rfl) ?_
  refine v_istore F dX5_cutAt_4 (Nat.le_of_ble_eq_true rfl) (ok2_d rfl) ?_
  refine v_iconst (v := nI 0) F dX5_cutAt_6 (by decide) ?_
  refine v_istore F dX5_cutAt_7 (Nat.le_of_ble_eq_true rfl) (ok2_d rfl) ?_
  have lp : ∀ i, i ≤ n → ∀ f cn w7, (f, cn) = cta B s w ac i → V ω σ M [some (.ref (Y 0)), some (.int (nI s)), some (.int (nI w)), some (.int (bI ac)), some (.int (nI f)), some (.int (bI cn)), some (.int (nI i)), w7] 0 0 (BQ ω σ (fun v M9 => v = some (.int (nI (ctAt B n s w ac))) ∧ M9 = M) 0 0) 9 [] := by
    refine loop_up n _ (fun i hi ih => ?_)
    intro f cn w7 hm
    have hfe : f = enb B w s ac i := by rw [← cta_1, ← hm]
    have hf : f < 2 ^ 24 := by rw [hfe]; exact enb_lt B w s ac i (by omega)
    refine v_iload F dX5_cutAt_9 rfl ?_
    refine v_aload_n F dX5_cutAt_11 rfl rfl ?_
    refine v_get F 5 0 fo_X5_cutAt_64 dX5_cutAt_12 hI.x rfl ?_
    refine V.toI (show nI (T 0) = nI n by rw [hT0]) ?_
    refine v_icmp_ge_n F 97 dX5_cutAt_15 (by decide) (by first | omega | exact Nat.lt_trans (Eb_lt hW ac _) (by decide) | exact Nat.lt_trans (Gb_lt hW ac _) (by decide) | decide) (by first | omega | exact Nat.lt_trans (Eb_lt hW ac _) (by decide) | exact Nat.lt_trans (Gb_lt hW ac _) (by decide) | decide) (fun c15 => ?_) (fun c15 => ?_)
    · refine v_iload F dX5_cutAt_97 rfl ?_
      refine v_if_eq_b F 113 dX5_cutAt_99 (by decide) (fun c99 => ?_) (fun c99 => ?_)
      · refine v_iconst (v := nI 0) F dX5_cutAt_113 (by decide) ?_
        exact v_iret F hr dX5_cutAt_114 (Nat.le_of_ble_eq_true rfl) (Nat.le_of_ble_eq_true rfl) ⟨by rw [ctAt, ← show i = n by omega, ← hm]; clear hfe hf hm ih; simp [*], rfl⟩
      · refine v_iload F dX5_cutAt_102 rfl ?_
        refine v_iload_n F dX5_cutAt_104 rfl ?_
        refine v_icmp_eq_n F 113 dX5_cutAt_105 (by decide) (by first | omega | exact Nat.lt_trans (Eb_lt hW ac _) (by decide) | exact Nat.lt_trans (Gb_lt hW ac _) (by decide) | decide) (by first | omega | exact Nat.lt_trans (Eb_lt hW ac _) (by decide) | exact Nat.lt_trans (Gb_lt hW ac _) (by decide) | decide) (fun c105 => ?_) (fun c105 => ?_)
        · refine v_iconst (v := nI 0) F dX5_cutAt_113 (by decide) ?_
          exact v_iret F hr dX5_cutAt_114 (Nat.le_of_ble_eq_true rfl) (Nat.le_of_ble_eq_true rfl) ⟨by rw [ctAt, ← show i = n by omega, ← hm]; clear hfe hf hm ih; simp [*], rfl⟩
        · refine v_iload F dX5_cutAt_108 rfl ?_
          refine v_goto F 114 dX5_cutAt_110 (by decide) ?_
          exact v_iret F hr dX5_cutAt_114 (Nat.le_of_ble_eq_true rfl) (Nat.le_of_ble_eq_true rfl) ⟨by rw [ctAt, ← show i = n by omega, ← hm]; clear hfe hf hm ih; simp [*], rfl⟩
    · refine v_iload_n F dX5_cutAt_18 rfl ?_
      refine v_iload F dX5_cutAt_19 rfl ?_
      refine v_callS F 2 [_, _] rfl rfl rfl (c_X5_has hs (by omega)) gX5_cutAt_X5_has rfl hd_X5_has ⟨⟨rfl, rfl⟩, ⟨(Nat.le_of_ble_eq_true rfl), (Nat.le_of_ble_eq_true rfl)⟩, ⟨(Nat.le_of_ble_eq_true rfl), (Nat.le_of_ble_eq_true rfl)⟩, (Nat.le_of_ble_eq_true rfl)⟩ dX5_cutAt_21 (fun v21 M21 q21 => ?_)
      obtain ⟨rfl, e21⟩ := q21
      replace e21 := e21.symm
      subst e21
      refine v_if_eq_b F 91 dX5_cutAt_24 (by decide) (fun c24 => ?_) (fun c24 => ?_)
      · refine v_iinc1 F dX5_cutAt_91 rfl (ok2_d rfl) ?_
        refine v_goto F 9 dX5_cutAt_94 (by decide) ?_
        exact ih (by omega) _ _ _ (by unfold cta; rw [fl_s, ← cta, ← hm]; clear hm ih hfe hf; first | (exfalso; omega) | ((try rw [Nat.not_lt] at c35); (try rw [Nat.not_lt] at c63); (try have q1 := Nat.not_le.mpr c35); (try have q2 := Nat.not_le.mpr c63); simp [*]))
      · refine v_aload_n F dX5_cutAt_27 rfl rfl ?_
        refine v_iload F dX5_cutAt_28 rfl ?_
        refine v_iload_n F dX5_cutAt_30 rfl ?_
        refine v_callV F 2 [_, _] rfl rfl rfl (c_X5_far hI hT0 hCB hB (by omega)) gX5_cutAt_X5_far rfl hd_X5_far ⟨⟨rfl, rfl⟩, ⟨(Nat.le_of_ble_eq_true rfl), (Nat.le_of_ble_eq_true rfl)⟩, ⟨(Nat.le_of_ble_eq_true rfl), (Nat.le_of_ble_eq_true rfl)⟩, (Nat.le_of_ble_eq_true rfl)⟩ hI.x rfl dX5_cutAt_31 (fun v31 M31 q31 => ?_)
        obtain ⟨rfl, e31⟩ := q31
        replace e31 := e31.symm
        subst e31
        refine v_iload_n F dX5_cutAt_34 rfl ?_
        refine v_icmp_gt_n F 42 dX5_cutAt_35 (by decide) (by first | omega | exact Nat.lt_trans (Eb_lt hW ac _) (by decide) | exact Nat.lt_trans (Gb_lt hW ac _) (by decide) | decide) (by first | omega | exact Nat.lt_trans (Eb_lt hW ac _) (by decide) | exact Nat.lt_trans (Gb_lt hW ac _) (by decide) | decide) (fun c35 => ?_) (fun c35 => ?_)
        · refine v_iconst (v := nI 0) F dX5_cutAt_42 (by decide) ?_
          refine v_istore F dX5_cutAt_43 (Nat.le_of_ble_eq_true rfl) (ok2_d rfl) ?_
          refine v_iload F dX5_cutAt_45 rfl ?_
          refine v_if_eq_b F 70 dX5_cutAt_47 (by decide) (fun c47 => ?_) (fun c47 => ?_)
          · refine v_iconst (v := nI 0) F dX5_cutAt_70 (by decide) ?_
            first | refine V.toI (show nI 1 = bI true from rfl) ?_ | refine V.toI (show nI 0 = bI false from rfl) ?_
            refine v_istore F dX5_cutAt_71 (Nat.le_of_ble_eq_true rfl) (ok2_d rfl) ?_
            refine v_iload F dX5_cutAt_73 rfl ?_
            refine v_iload F dX5_cutAt_75 rfl ?_
            refine v_if_eq_n F 87 dX5_cutAt_77 (by decide) (by first | omega | exact Nat.lt_trans (Eb_lt hW ac _) (by decide) | exact Nat.lt_trans (Gb_lt hW ac _) (by decide) | decide) (fun c77 => ?_) (fun c77 => ?_)
            · refine v_iconst (v := nI 0) F dX5_cutAt_87 (by decide) ?_
              refine v_ior_n F dX5_cutAt_88 ?_
              refine v_istore F dX5_cutAt_89 (Nat.le_of_ble_eq_true rfl) (ok2_d rfl) ?_
              refine v_iinc1 F dX5_cutAt_91 rfl (ok2_d rfl) ?_
              refine v_goto F 9 dX5_cutAt_94 (by decide) ?_
              exact ih (by omega) _ _ _ (by unfold cta; rw [fl_s, ← cta, ← hm]; clear hm ih hfe hf; first | (exfalso; omega) | ((try rw [Nat.not_lt] at c35); (try rw [Nat.not_lt] at c63); (try have q1 := Nat.not_le.mpr c35); (try have q2 := Nat.not_le.mpr c63); simp [*]))
            · refine v_iconst (v := nI 1) F dX5_cutAt_80 (by decide) ?_
              refine v_iload F dX5_cutAt_81 rfl ?_
              refine v_ishl_n F dX5_cutAt_83 (by first | omega | exact Nat.lt_trans (Eb_lt hW ac _) (by decide) | exact Nat.lt_trans (Gb_lt hW ac _) (by decide) | decide) ?_
              refine v_goto F 88 dX5_cutAt_84 (by decide) ?_
              refine v_ior_n F dX5_cutAt_88 ?_
              refine v_istore F dX5_cutAt_89 (Nat.le_of_ble_eq_true rfl) (ok2_d rfl) ?_
              refine v_iinc1 F dX5_cutAt_91 rfl (ok2_d rfl) ?_
              refine v_goto F 9 dX5_cutAt_94 (by decide) ?_
              exact ih (by omega) _ _ _ (by unfold cta; rw [fl_s, ← cta, ← hm]; clear hm ih hfe hf; first | (exfalso; omega) | ((try rw [Nat.not_lt] at c35); (try rw [Nat.not_lt] at c63); (try have q1 := Nat.not_le.mpr c35); (try have q2 := Nat.not_le.mpr c63); simp [*]))
          · refine v_iload F dX5_cutAt_50 rfl ?_
            refine v_if_ne_n F 66 dX5_cutAt_52 (by decide) (by first | omega | exact Nat.lt_trans (Eb_lt hW ac _) (by decide) | exact Nat.lt_trans (Gb_lt hW ac _) (by decide) | decide) (fun c52 => ?_) (fun c52 => ?_)
            · refine v_iconst (v := nI 1) F dX5_cutAt_66 (by decide) ?_
              refine v_goto F 71 dX5_cutAt_67 (by decide) ?_
              first | refine V.toI (show nI 1 = bI true from rfl) ?_ | refine V.toI (show nI 0 = bI false from rfl) ?_
              refine v_istore F dX5_cutAt_71 (Nat.le_of_ble_eq_true rfl) (ok2_d rfl) ?_
              refine v_iload F dX5_cutAt_73 rfl ?_
              refine v_iload F dX5_cutAt_75 rfl ?_
              refine v_if_eq_n F 87 dX5_cutAt_77 (by decide) (by first | omega | exact Nat.lt_trans (Eb_lt hW ac _) (by decide) | exact Nat.lt_trans (Gb_lt hW ac _) (by decide) | decide) (fun c77 => ?_) (fun c77 => ?_)
              · refine v_iconst (v := nI 0) F dX5_cutAt_87 (by decide) ?_
                refine v_ior_n F dX5_cutAt_88 ?_
                refine v_istore F dX5_cutAt_89 (Nat.le_of_ble_eq_true rfl) (ok2_d rfl) ?_
                refine v_iinc1 F dX5_cutAt_91 rfl (ok2_d rfl) ?_
                refine v_goto F 9 dX5_cutAt_94 (by decide) ?_
                exact ih (by omega) _ _ _ (by unfold cta; rw [fl_s, ← cta, ← hm]; clear hm ih hfe hf; first | (exfalso; omega) | ((try rw [Nat.not_lt] at c35); (try rw [Nat.not_lt] at c63); (try have q1 := Nat.not_le.mpr c35); (try have q2 := Nat.not_le.mpr c63); simp [*]))
              · refine v_iconst (v := nI 1) F dX5_cutAt_80 (by decide) ?_
                refine v_iload F dX5_cutAt_81 rfl ?_
                refine v_ishl_n F dX5_cutAt_83 (by first | omega | exact Nat.lt_trans (Eb_lt hW ac _) (by decide) | exact Nat.lt_trans (Gb_lt hW ac _) (by decide) | decide) ?_
                refine v_goto F 88 dX5_cutAt_84 (by decide) ?_
                refine v_ior_n F dX5_cutAt_88 ?_
                refine v_istore F dX5_cutAt_89 (Nat.le_of_ble_eq_true rfl) (ok2_d rfl) ?_
                refine v_iinc1 F dX5_cutAt_91 rfl (ok2_d rfl) ?_
                refine v_goto F 9 dX5_cutAt_94 (by decide) ?_
                exact ih (by omega) _ _ _ (by unfold cta; rw [fl_s, ← cta, ← hm]; clear hm ih hfe hf; first | (exfalso; omega) | ((try rw [Nat.not_lt] at c35); (try rw [Nat.not_lt] at c63); (try have q1 := Nat.not_le.mpr c35); (try have q2 := Nat.not_le.mpr c63); simp [*]))
            · refine v_aload_n F dX5_cutAt_55 rfl rfl ?_
              refine v_iload F dX5_cutAt_56 rfl ?_
              refine v_iload_n F dX5_cutAt_58 rfl ?_
              refine v_callV F 2 [_, _] rfl rfl rfl (c_X5_near hI hT0 hCB hB (by omega)) gX5_cutAt_X5_near rfl hd_X5_near ⟨⟨rfl, rfl⟩, ⟨(Nat.le_of_ble_eq_true rfl), (Nat.le_of_ble_eq_true rfl)⟩, ⟨(Nat.le_of_ble_eq_true rfl), (Nat.le_of_ble_eq_true rfl)⟩, (Nat.le_of_ble_eq_true rfl)⟩ hI.x rfl dX5_cutAt_59 (fun v59 M59 q59 => ?_)
              obtain ⟨rfl, e59⟩ := q59
              replace e59 := e59.symm
              subst e59
              refine v_iload_n F dX5_cutAt_62 rfl ?_
              refine v_icmp_lt_n F 70 dX5_cutAt_63 (by decide) (by first | omega | exact Nat.lt_trans (Eb_lt hW ac _) (by decide) | exact Nat.lt_trans (Gb_lt hW ac _) (by decide) | decide) (by first | omega | exact Nat.lt_trans (Eb_lt hW ac _) (by decide) | exact Nat.lt_trans (Gb_lt hW ac _) (by decide) | decide) (fun c63 => ?_) (fun c63 => ?_)
              · refine v_iconst (v := nI 0) F dX5_cutAt_70 (by decide) ?_
                first | refine V.toI (show nI 1 = bI true from rfl) ?_ | refine V.toI (show nI 0 = bI false from rfl) ?_
                refine v_istore F dX5_cutAt_71 (Nat.le_of_ble_eq_true rfl) (ok2_d rfl) ?_
                refine v_iload F dX5_cutAt_73 rfl ?_
                refine v_iload F dX5_cutAt_75 rfl ?_
                refine v_if_eq_n F 87 dX5_cutAt_77 (by decide) (by first | omega | exact Nat.lt_trans (Eb_lt hW ac _) (by decide) | exact Nat.lt_trans (Gb_lt hW ac _) (by decide) | decide) (fun c77 => ?_) (fun c77 => ?_)
                · refine v_iconst (v := nI 0) F dX5_cutAt_87 (by decide) ?_
                  refine v_ior_n F dX5_cutAt_88 ?_
                  refine v_istore F dX5_cutAt_89 (Nat.le_of_ble_eq_true rfl) (ok2_d rfl) ?_
                  refine v_iinc1 F dX5_cutAt_91 rfl (ok2_d rfl) ?_
                  refine v_goto F 9 dX5_cutAt_94 (by decide) ?_
                  exact ih (by omega) _ _ _ (by unfold cta; rw [fl_s, ← cta, ← hm]; clear hm ih hfe hf; first | (exfalso; omega) | ((try rw [Nat.not_lt] at c35); (try rw [Nat.not_lt] at c63); (try have q1 := Nat.not_le.mpr c35); (try have q2 := Nat.not_le.mpr c63); simp [*]))
                · refine v_iconst (v := nI 1) F dX5_cutAt_80 (by decide) ?_
                  refine v_iload F dX5_cutAt_81 rfl ?_
                  refine v_ishl_n F dX5_cutAt_83 (by first | omega | exact Nat.lt_trans (Eb_lt hW ac _) (by decide) | exact Nat.lt_trans (Gb_lt hW ac _) (by decide) | decide) ?_
                  refine v_goto F 88 dX5_cutAt_84 (by decide) ?_
                  refine v_ior_n F dX5_cutAt_88 ?_
                  refine v_istore F dX5_cutAt_89 (Nat.le_of_ble_eq_true rfl) (ok2_d rfl) ?_
                  refine v_iinc1 F dX5_cutAt_91 rfl (ok2_d rfl) ?_
                  refine v_goto F 9 dX5_cutAt_94 (by decide) ?_
                  exact ih (by omega) _ _ _ (by unfold cta; rw [fl_s, ← cta, ← hm]; clear hm ih hfe hf; first | (exfalso; omega) | ((try rw [Nat.not_lt] at c35); (try rw [Nat.not_lt] at c63); (try have q1 := Nat.not_le.mpr c35); (try have q2 := Nat.not_le.mpr c63); simp [*]))
              · refine v_iconst (v := nI 1) F dX5_cutAt_66 (by decide) ?_
                refine v_goto F 71 dX5_cutAt_67 (by decide) ?_
                first | refine V.toI (show nI 1 = bI true from rfl) ?_ | refine V.toI (show nI 0 = bI false from rfl) ?_
                refine v_istore F dX5_cutAt_71 (Nat.le_of_ble_eq_true rfl) (ok2_d rfl) ?_
                refine v_iload F dX5_cutAt_73 rfl ?_
                refine v_iload F dX5_cutAt_75 rfl ?_
                refine v_if_eq_n F 87 dX5_cutAt_77 (by decide) (by first | omega | exact Nat.lt_trans (Eb_lt hW ac _) (by decide) | exact Nat.lt_trans (Gb_lt hW ac _) (by decide) | decide) (fun c77 => ?_) (fun c77 => ?_)
                · refine v_iconst (v := nI 0) F dX5_cutAt_87 (by decide) ?_
                  refine v_ior_n F dX5_cutAt_88 ?_
                  refine v_istore F dX5_cutAt_89 (Nat.le_of_ble_eq_true rfl) (ok2_d rfl) ?_
                  refine v_iinc1 F dX5_cutAt_91 rfl (ok2_d rfl) ?_
                  refine v_goto F 9 dX5_cutAt_94 (by decide) ?_
                  exact ih (by omega) _ _ _ (by unfold cta; rw [fl_s, ← cta, ← hm]; clear hm ih hfe hf; first | (exfalso; omega) | ((try rw [Nat.not_lt] at c35); (try rw [Nat.not_lt] at c63); (try have q1 := Nat.not_le.mpr c35); (try have q2 := Nat.not_le.mpr c63); simp [*]))
                · refine v_iconst (v := nI 1) F dX5_cutAt_80 (by decide) ?_
                  refine v_iload F dX5_cutAt_81 rfl ?_
                  refine v_ishl_n F dX5_cutAt_83 (by first | omega | exact Nat.lt_trans (Eb_lt hW ac _) (by decide) | exact Nat.lt_trans (Gb_lt hW ac _) (by decide) | decide) ?_
                  refine v_goto F 88 dX5_cutAt_84 (by decide) ?_
                  refine v_ior_n F dX5_cutAt_88 ?_
                  refine v_istore F dX5_cutAt_89 (Nat.le_of_ble_eq_true rfl) (ok2_d rfl) ?_
                  refine v_iinc1 F dX5_cutAt_91 rfl (ok2_d rfl) ?_
                  refine v_goto F 9 dX5_cutAt_94 (by decide) ?_
                  exact ih (by omega) _ _ _ (by unfold cta; rw [fl_s, ← cta, ← hm]; clear hm ih hfe hf; first | (exfalso; omega) | ((try rw [Nat.not_lt] at c35); (try rw [Nat.not_lt] at c63); (try have q1 := Nat.not_le.mpr c35); (try have q2 := Nat.not_le.mpr c63); simp [*]))
        · refine v_iconst (v := nI 1) F dX5_cutAt_38 (by decide) ?_
          refine v_goto F 43 dX5_cutAt_39 (by decide) ?_
          refine v_istore F dX5_cutAt_43 (Nat.le_of_ble_eq_true rfl) (ok2_d rfl) ?_
          refine v_iload F dX5_cutAt_45 rfl ?_
          refine v_if_eq_b F 70 dX5_cutAt_47 (by decide) (fun c47 => ?_) (fun c47 => ?_)
          · refine v_iconst (v := nI 0) F dX5_cutAt_70 (by decide) ?_
            first | refine V.toI (show nI 1 = bI true from rfl) ?_ | refine V.toI (show nI 0 = bI false from rfl) ?_
            refine v_istore F dX5_cutAt_71 (Nat.le_of_ble_eq_true rfl) (ok2_d rfl) ?_
            refine v_iload F dX5_cutAt_73 rfl ?_
            refine v_iload F dX5_cutAt_75 rfl ?_
            refine v_if_eq_n F 87 dX5_cutAt_77 (by decide) (by first | omega | exact Nat.lt_trans (Eb_lt hW ac _) (by decide) | exact Nat.lt_trans (Gb_lt hW ac _) (by decide) | decide) (fun c77 => ?_) (fun c77 => ?_)
            · refine v_iconst (v := nI 0) F dX5_cutAt_87 (by decide) ?_
              refine v_ior_n F dX5_cutAt_88 ?_
              refine v_istore F dX5_cutAt_89 (Nat.le_of_ble_eq_true rfl) (ok2_d rfl) ?_
              refine v_iinc1 F dX5_cutAt_91 rfl (ok2_d rfl) ?_
              refine v_goto F 9 dX5_cutAt_94 (by decide) ?_
              exact ih (by omega) _ _ _ (by unfold cta; rw [fl_s, ← cta, ← hm]; clear hm ih hfe hf; first | (exfalso; omega) | ((try rw [Nat.not_lt] at c35); (try rw [Nat.not_lt] at c63); (try have q1 := Nat.not_le.mpr c35); (try have q2 := Nat.not_le.mpr c63); simp [*]))
            · refine v_iconst (v := nI 1) F dX5_cutAt_80 (by decide) ?_
              refine v_iload F dX5_cutAt_81 rfl ?_
              refine v_ishl_n F dX5_cutAt_83 (by first | omega | exact Nat.lt_trans (Eb_lt hW ac _) (by decide) | exact Nat.lt_trans (Gb_lt hW ac _) (by decide) | decide) ?_
              refine v_goto F 88 dX5_cutAt_84 (by decide) ?_
              refine v_ior_n F dX5_cutAt_88 ?_
              refine v_istore F dX5_cutAt_89 (Nat.le_of_ble_eq_true rfl) (ok2_d rfl) ?_
              refine v_iinc1 F dX5_cutAt_91 rfl (ok2_d rfl) ?_
              refine v_goto F 9 dX5_cutAt_94 (by decide) ?_
              exact ih (by omega) _ _ _ (by unfold cta; rw [fl_s, ← cta, ← hm]; clear hm ih hfe hf; first | (exfalso; omega) | ((try rw [Nat.not_lt] at c35); (try rw [Nat.not_lt] at c63); (try have q1 := Nat.not_le.mpr c35); (try have q2 := Nat.not_le.mpr c63); simp [*]))
          · refine v_iload F dX5_cutAt_50 rfl ?_
            refine v_if_ne_n F 66 dX5_cutAt_52 (by decide) (by first | omega | exact Nat.lt_trans (Eb_lt hW ac _) (by decide) | exact Nat.lt_trans (Gb_lt hW ac _) (by decide) | decide) (fun c52 => ?_) (fun c52 => ?_)
            · refine v_iconst (v := nI 1) F dX5_cutAt_66 (by decide) ?_
              refine v_goto F 71 dX5_cutAt_67 (by decide) ?_
              first | refine V.toI (show nI 1 = bI true from rfl) ?_ | refine V.toI (show nI 0 = bI false from rfl) ?_
              refine v_istore F dX5_cutAt_71 (Nat.le_of_ble_eq_true rfl) (ok2_d rfl) ?_
              refine v_iload F dX5_cutAt_73 rfl ?_
              refine v_iload F dX5_cutAt_75 rfl ?_
              refine v_if_eq_n F 87 dX5_cutAt_77 (by decide) (by first | omega | exact Nat.lt_trans (Eb_lt hW ac _) (by decide) | exact Nat.lt_trans (Gb_lt hW ac _) (by decide) | decide) (fun c77 => ?_) (fun c77 => ?_)
              · refine v_iconst (v := nI 0) F dX5_cutAt_87 (by decide) ?_
                refine v_ior_n F dX5_cutAt_88 ?_
                refine v_istore F dX5_cutAt_89 (Nat.le_of_ble_eq_true rfl) (ok2_d rfl) ?_
                refine v_iinc1 F dX5_cutAt_91 rfl (ok2_d rfl) ?_
                refine v_goto F 9 dX5_cutAt_94 (by decide) ?_
                exact ih (by omega) _ _ _ (by unfold cta; rw [fl_s, ← cta, ← hm]; clear hm ih hfe hf; first | (exfalso; omega) | ((try rw [Nat.not_lt] at c35); (try rw [Nat.not_lt] at c63); (try have q1 := Nat.not_le.mpr c35); (try have q2 := Nat.not_le.mpr c63); simp [*]))
              · refine v_iconst (v := nI 1) F dX5_cutAt_80 (by decide) ?_
                refine v_iload F dX5_cutAt_81 rfl ?_
                refine v_ishl_n F dX5_cutAt_83 (by first | omega | exact Nat.lt_trans (Eb_lt hW ac _) (by decide) | exact Nat.lt_trans (Gb_lt hW ac _) (by decide) | decide) ?_
                refine v_goto F 88 dX5_cutAt_84 (by decide) ?_
                refine v_ior_n F dX5_cutAt_88 ?_
                refine v_istore F dX5_cutAt_89 (Nat.le_of_ble_eq_true rfl) (ok2_d rfl) ?_
                refine v_iinc1 F dX5_cutAt_91 rfl (ok2_d rfl) ?_
                refine v_goto F 9 dX5_cutAt_94 (by decide) ?_
                exact ih (by omega) _ _ _ (by unfold cta; rw [fl_s, ← cta, ← hm]; clear hm ih hfe hf; first | (exfalso; omega) | ((try rw [Nat.not_lt] at c35); (try rw [Nat.not_lt] at c63); (try have q1 := Nat.not_le.mpr c35); (try have q2 := Nat.not_le.mpr c63); simp [*]))
            · refine v_aload_n F dX5_cutAt_55 rfl rfl ?_
              refine v_iload F dX5_cutAt_56 rfl ?_
              refine v_iload_n F dX5_cutAt_58 rfl ?_
              refine v_callV F 2 [_, _] rfl rfl rfl (c_X5_near hI hT0 hCB hB (by omega)) gX5_cutAt_X5_near rfl hd_X5_near ⟨⟨rfl, rfl⟩, ⟨(Nat.le_of_ble_eq_true rfl), (Nat.le_of_ble_eq_true rfl)⟩, ⟨(Nat.le_of_ble_eq_true rfl), (Nat.le_of_ble_eq_true rfl)⟩, (Nat.le_of_ble_eq_true rfl)⟩ hI.x rfl dX5_cutAt_59 (fun v59 M59 q59 => ?_)
              obtain ⟨rfl, e59⟩ := q59
              replace e59 := e59.symm
              subst e59
              refine v_iload_n F dX5_cutAt_62 rfl ?_
              refine v_icmp_lt_n F 70 dX5_cutAt_63 (by decide) (by first | omega | exact Nat.lt_trans (Eb_lt hW ac _) (by decide) | exact Nat.lt_trans (Gb_lt hW ac _) (by decide) | decide) (by first | omega | exact Nat.lt_trans (Eb_lt hW ac _) (by decide) | exact Nat.lt_trans (Gb_lt hW ac _) (by decide) | decide) (fun c63 => ?_) (fun c63 => ?_)
              · refine v_iconst (v := nI 0) F dX5_cutAt_70 (by decide) ?_
                first | refine V.toI (show nI 1 = bI true from rfl) ?_ | refine V.toI (show nI 0 = bI false from rfl) ?_
                refine v_istore F dX5_cutAt_71 (Nat.le_of_ble_eq_true rfl) (ok2_d rfl) ?_
                refine v_iload F dX5_cutAt_73 rfl ?_
                refine v_iload F dX5_cutAt_75 rfl ?_
                refine v_if_eq_n F 87 dX5_cutAt_77 (by decide) (by first | omega | exact Nat.lt_trans (Eb_lt hW ac _) (by decide) | exact Nat.lt_trans (Gb_lt hW ac _) (by decide) | decide) (fun c77 => ?_) (fun c77 => ?_)
                · refine v_iconst (v := nI 0) F dX5_cutAt_87 (by decide) ?_
                  refine v_ior_n F dX5_cutAt_88 ?_
                  refine v_istore F dX5_cutAt_89 (Nat.le_of_ble_eq_true rfl) (ok2_d rfl) ?_
                  refine v_iinc1 F dX5_cutAt_91 rfl (ok2_d rfl) ?_
                  refine v_goto F 9 dX5_cutAt_94 (by decide) ?_
                  exact ih (by omega) _ _ _ (by unfold cta; rw [fl_s, ← cta, ← hm]; clear hm ih hfe hf; first | (exfalso; omega) | ((try rw [Nat.not_lt] at c35); (try rw [Nat.not_lt] at c63); (try have q1 := Nat.not_le.mpr c35); (try have q2 := Nat.not_le.mpr c63); simp [*]))
                · refine v_iconst (v := nI 1) F dX5_cutAt_80 (by decide) ?_
                  refine v_iload F dX5_cutAt_81 rfl ?_
                  refine v_ishl_n F dX5_cutAt_83 (by first | omega | exact Nat.lt_trans (Eb_lt hW ac _) (by decide) | exact Nat.lt_trans (Gb_lt hW ac _) (by decide) | decide) ?_
                  refine v_goto F 88 dX5_cutAt_84 (by decide) ?_
                  refine v_ior_n F dX5_cutAt_88 ?_
                  refine v_istore F dX5_cutAt_89 (Nat.le_of_ble_eq_true rfl) (ok2_d rfl) ?_
                  refine v_iinc1 F dX5_cutAt_91 rfl (ok2_d rfl) ?_
                  refine v_goto F 9 dX5_cutAt_94 (by decide) ?_
                  exact ih (by omega) _ _ _ (by unfold cta; rw [fl_s, ← cta, ← hm]; clear hm ih hfe hf; first | (exfalso; omega) | ((try rw [Nat.not_lt] at c35); (try rw [Nat.not_lt] at c63); (try have q1 := Nat.not_le.mpr c35); (try have q2 := Nat.not_le.mpr c63); simp [*]))
              · refine v_iconst (v := nI 1) F dX5_cutAt_66 (by decide) ?_
                refine v_goto F 71 dX5_cutAt_67 (by decide) ?_
                first | refine V.toI (show nI 1 = bI true from rfl) ?_ | refine V.toI (show nI 0 = bI false from rfl) ?_
                refine v_istore F dX5_cutAt_71 (Nat.le_of_ble_eq_true rfl) (ok2_d rfl) ?_
                refine v_iload F dX5_cutAt_73 rfl ?_
                refine v_iload F dX5_cutAt_75 rfl ?_
                refine v_if_eq_n F 87 dX5_cutAt_77 (by decide) (by first | omega | exact Nat.lt_trans (Eb_lt hW ac _) (by decide) | exact Nat.lt_trans (Gb_lt hW ac _) (by decide) | decide) (fun c77 => ?_) (fun c77 => ?_)
                · refine v_iconst (v := nI 0) F dX5_cutAt_87 (by decide) ?_
                  refine v_ior_n F dX5_cutAt_88 ?_
                  refine v_istore F dX5_cutAt_89 (Nat.le_of_ble_eq_true rfl) (ok2_d rfl) ?_
                  refine v_iinc1 F dX5_cutAt_91 rfl (ok2_d rfl) ?_
                  refine v_goto F 9 dX5_cutAt_94 (by decide) ?_
                  exact ih (by omega) _ _ _ (by unfold cta; rw [fl_s, ← cta, ← hm]; clear hm ih hfe hf; first | (exfalso; omega) | ((try rw [Nat.not_lt] at c35); (try rw [Nat.not_lt] at c63); (try have q1 := Nat.not_le.mpr c35); (try have q2 := Nat.not_le.mpr c63); simp [*]))
                · refine v_iconst (v := nI 1) F dX5_cutAt_80 (by decide) ?_
                  refine v_iload F dX5_cutAt_81 rfl ?_
                  refine v_ishl_n F dX5_cutAt_83 (by first | omega | exact Nat.lt_trans (Eb_lt hW ac _) (by decide) | exact Nat.lt_trans (Gb_lt hW ac _) (by decide) | decide) ?_
                  refine v_goto F 88 dX5_cutAt_84 (by decide) ?_
                  refine v_ior_n F dX5_cutAt_88 ?_
                  refine v_istore F dX5_cutAt_89 (Nat.le_of_ble_eq_true rfl) (ok2_d rfl) ?_
                  refine v_iinc1 F dX5_cutAt_91 rfl (ok2_d rfl) ?_
                  refine v_goto F 9 dX5_cutAt_94 (by decide) ?_
                  exact ih (by omega) _ _ _ (by unfold cta; rw [fl_s, ← cta, ← hm]; clear hm ih hfe hf; first | (exfalso; omega) | ((try rw [Nat.not_lt] at c35); (try rw [Nat.not_lt] at c63); (try have q1 := Nat.not_le.mpr c35); (try have q2 := Nat.not_le.mpr c63); simp [*]))
  exact lp 0 (Nat.zero_le _) 0 true _ rfl
def rmX5_cut : Room := { frames := 2, cells := 0, slots := 0, locals := 49 }
theorem hd_X5_cut : yX5_cut.cls = (RX5, TX5, 21).1 ∧ yX5_cut.cls ≠ "java/lang/invoke/MethodHandle" ∧ yX5_cut.cls ≠ "java/lang/invoke/VarHandle" ∧ (parseMethodDescriptor yX5_cut.desc).map (fun d => d.parameters.length) = some 2 := by decide +kernel
set_option maxHeartbeats 4000000 in
set_option maxRecDepth 100000 in
theorem c_cut {l : Launch} {ω : Om} {M : MM} {Y : Nat → Nat} {C : Nat → Nat → Int32} {T : Nat → Nat} (hI : MI ω Y C T M) {B : FF} {n : Nat} (hT0 : T 0 = n) (hCB : CB C B n) (hB : WB B n) {s : Nat} {ac : Bool} (hs : s < 2 ^ 24) : Ct l ω yX5_cut wsX5_cut rmX5_cut [.ref (Y 0), .int (nI s), .int (bI ac)] M (fun v M9 => v = some (.int (nI (ctm B n s ac 79))) ∧ M9 = M) 0 0 := by
  refine Ct.ofV (cc := cX5_cut) (maxL := 5) (ret := (some .int)) [some (.ref (Y 0)), some (.int (nI s)), some (.int (bI ac)), none, none] (by decide) rfl (Nat.le_of_ble_eq_true rfl) rfl (Lc.av (av := [.ref (Y 0), .int (nI s), .int (bI ac)]) (k := 2) rfl) ?_
  intro σ F hl hr hname
  have F : Fx ω σ cX5_cut 5 wsX5_cut RX5 rmX5_cut := F
  have hn : n ≤ 24 := hB.1
  have hW : ∀ i j, B i j < 128 := hB.2.1
  refine v_iconst (v := nI 0) F dX5_cut_0 (by decide) ?_
  refine v_istore_n F dX5_cut_1 (Nat.le_of_ble_eq_true rfl) (ok2_d rfl) ?_
  refine v_iconst (v := nI 1) F dX5_cut_2 (by decide) ?_
  refine v_istore F dX5_cut_3 (Nat.le_of_ble_eq_true rfl) (ok2_d rfl) ?_
  have lp : ∀ i, i ≤ 79 → ∀ f, f = ctm B n s ac i → f < 2 ^ 24 → V ω σ M [some (.ref (Y 0)), some (.int (nI s)), some (.int (bI ac)), some (.int (nI f)), some (.int (nI (i + 1)))] 0 0 (BQ ω σ (fun v M9 => v = some (.int (nI (ctm B n s ac 79))) ∧ M9 = M) 0 0) 5 [] := by
    refine loop_up 79 _ (fun i hi ih => ?_)
    intro f hm hf
    refine v_iload F dX5_cut_5 rfl ?_
    refine v_bipush (v := nI 80) F dX5_cut_7 (by decide) ?_
    refine v_icmp_ge_n F 31 dX5_cut_9 (by decide) (by first | omega) (by first | omega) (fun c9 => ?_) (fun c9 => ?_)
    · refine v_iload_n F dX5_cut_31 rfl ?_
      exact v_iret F hr dX5_cut_32 (Nat.le_of_ble_eq_true rfl) (Nat.le_of_ble_eq_true rfl) ⟨congrArg (fun z => some (Value.int (nI z))) (by by_cases h79 : i = 79; rw [hm, h79]; rw [hm]; exact (ctm_stop (by rw [← hm]; exact (fun h0 => by omega)) hi).symm), rfl⟩
    · refine v_iload_n F dX5_cut_12 rfl ?_
      refine v_if_ne_n F 31 dX5_cut_13 (by decide) (by first | omega) (fun c13 => ?_) (fun c13 => ?_)
      · refine v_iload_n F dX5_cut_31 rfl ?_
        exact v_iret F hr dX5_cut_32 (Nat.le_of_ble_eq_true rfl) (Nat.le_of_ble_eq_true rfl) ⟨congrArg (fun z => some (Value.int (nI z))) (by by_cases h79 : i = 79; rw [hm, h79]; rw [hm]; exact (ctm_stop (by rw [← hm]; exact (fun h0 => by omega)) hi).symm), rfl⟩
      · refine v_aload_n F dX5_cut_16 rfl rfl ?_
        refine v_iload_n F dX5_cut_17 rfl ?_
        refine v_iload F dX5_cut_18 rfl ?_
        refine v_iload_n F dX5_cut_20 rfl ?_
        refine v_callV F 3 [_, _, _] rfl rfl rfl (c_cutAt hI hT0 hCB hB hs (by omega)) gX5_cut_X5_cutAt rfl hd_X5_cutAt ⟨⟨rfl, rfl⟩, ⟨(Nat.le_of_ble_eq_true rfl), (Nat.le_of_ble_eq_true rfl)⟩, ⟨(Nat.le_of_ble_eq_true rfl), (Nat.le_of_ble_eq_true rfl)⟩, (Nat.le_of_ble_eq_true rfl)⟩ hI.x rfl dX5_cut_21 (fun v21 M21 q21 => ?_)
        obtain ⟨rfl, e21⟩ := q21
        replace e21 := e21.symm
        subst e21
        refine v_istore_n F dX5_cut_24 (Nat.le_of_ble_eq_true rfl) (ok2_d rfl) ?_
        refine v_iinc1 F dX5_cut_25 rfl (ok2_d rfl) ?_
        refine v_goto F 5 dX5_cut_28 (by decide) ?_
        exact ih (by omega) _ (by unfold ctm; rw [fl_s, ← ctm, ← hm, if_pos c13]) (ctAt_lt B hn s (i + 1) ac)
  exact lp 0 (Nat.zero_le _) 0 rfl (by decide)
