/-! the class: cuts -/
theorem v_mmin_n {ω : Om} {σ : Sg} {cc : ByteArray} {nL : Nat} {Ts : List Cond} {own : String} {rm : Room} {M : MM} {L : List (Option Value)} {kc ks : Nat} {Q : State → Prop} {pc : Nat} {st : List Value} (F : Fx ω σ cc nL Ts own rm) {a b idx : Nat} (ha : a < 2 ^ 31) (hb : b < 2 ^ 31) (hLn : L.length = nL) (hl : Cond.methodLink own idx Lib.Math.min.name ∈ Ts) (hs : Cond.static Lib.Math.min.name ∈ Ts) (hi : Cond.initialized "java/lang/Math" ∈ Ts) (hcd : Cond.code Lib.Math.min.name Lib.Math.min.code 2 (some .int) ∈ Ts) (d : decode cc pc = .ok (.invokestatic idx, 3)) (hR : 1 ≤ rm.frames ∧ (st.map fun v => v.category).sum + 13 ≤ rm.locals ∧ kc ≤ rm.cells ∧ ks ≤ rm.slots)
    (k : V ω σ M L kc ks Q (pc + 3) (.int (nI (if b < a then b else a)) :: st)) : V ω σ M L kc ks Q pc (.int (nI b) :: .int (nI a) :: st) := by
  obtain ⟨p, l, e, R, s, m, args, below, meth, c⟩ := σ
  intro H locs ls h1 h2 h3
  obtain ⟨hx, hb9, hml, hown, hts, hK, hlk, hRr, hz⟩ := F
  cases hRr
  refine va_mmin hx hb9 (hml.trans (hLn.symm.trans h3.1.symm)) hown (hts _ hl) (hts _ hs) (hts _ hi) (hts _ hcd) hR.1 hR.2.1 hR.2.2.1 hR.2.2.2 d ?_
  have e : (if nI b < nI a then nI b else nI a) = nI (if b < a then b else a) := by
    by_cases h : b < a
    · rw [if_pos h, if_pos ((nI_ltI hb ha).mpr h)]
    · rw [if_neg h, if_neg (fun q => h ((nI_ltI hb ha).mp q))]
  rw [e]
  exact k H locs ls h1 h2 h3
/-- the boxes of a page that follow none -/
def bfn (B : FF) (p : Nat) : Nat → Nat := fl (fun m i => if B i 8 = 0 ∧ B i 0 = p ∧ B i 6 = 0 then m ||| 2 ^ i else m) 0
def Eb (B : FF) (ac : Bool) (i : Nat) : Nat := if ac then B i 2 + B i 4 else B i 1 + B i 3
def Gb (B : FF) (ac : Bool) (i : Nat) : Nat := B i (if ac then 2 else 1)
def c0 (ac : Bool) : Nat := if ac then 80 else 60
def lc1 (B : FF) (s : Nat) (ac : Bool) : Nat → Nat := fl (fun c i => if s.testBit i then (if Eb B ac i < c then Eb B ac i else c) else c) (c0 ac)
def lcp (B : FF) (s : Nat) (ac : Bool) (c : Nat) : Nat → Nat × Nat := fl (fun cm i => if s.testBit i ∧ Gb B ac i < cm.1 ∧ cm.1 < Eb B ac i then (Eb B ac i, 1) else cm) (c, 0)
def lcs (B : FF) (s : Nat) (ac : Bool) (n : Nat) : Nat → Nat × Nat → Nat
  | 0, cm => cm.1
  | f + 1, cm => if cm.2 = 0 then cm.1 else lcs B s ac n f (lcp B s ac cm.1 n)
def lcut (B : FF) (n s : Nat) (ac : Bool) : Nat := lcs B s ac n 24 (lc1 B s ac n, 1)
def enb (B : FF) (cut s : Nat) (ac : Bool) : Nat → Nat := fl (fun m i => if s.testBit i ∧ Eb B ac i ≤ cut then m ||| 2 ^ i else m) 0
def cuo (B : FF) (n s : Nat) : Nat := if enb B (lcut B n s true) s true n = s then (if enb B (lcut B n s false) s false n = s then 0 else enb B (lcut B n s false) s false n) else enb B (lcut B n s true) s true n
/-- the first by its edges of a set, and 1; 0 of none -/
def fbe (B : FF) (s : Nat) : Nat → Nat := fl (fun f i => if s.testBit i ∧ (f = 0 ∨ ahd B i (f - 1) = true) then i + 1 else f) 0
def chn (B : FF) : Nat → Nat → List Nat
  | 0, _ => []
  | _ + 1, 0 => []
  | f + 1, x + 1 => x :: chn B f (B x 7)
def unc (B : FF) (n : Nat) : Nat → Nat → List Nat
  | 0, _ => []
  | f + 1, s => if s = 0 then [] else match fbe B s n with
    | 0 => []
    | x + 1 => chn B 24 (x + 1) ++ unc B n f (nd s (2 ^ x))
def rs (B : FF) (n : Nat) : Nat → Nat → List Nat
  | 0, s => unc B n 24 s
  | f + 1, s => if cuo B n s = 0 then unc B n 24 s else rs B n f (cuo B n s) ++ rs B n f (nd s (cuo B n s))
def ordF (B : FF) (n p : Nat) : List Nat := rs B n 24 (bfn B p n)
theorem or_lt {m i k : Nat} (h : m < 2 ^ k) (hi : i < k) : m ||| 2 ^ i < 2 ^ k := Nat.or_lt_two_pow h (Nat.pow_lt_pow_right (by decide) hi)
theorem bfn_lt (B : FF) (p : Nat) : ∀ n, n ≤ 24 → bfn B p n < 2 ^ 24 := by
  intro n hn
  induction n with
  | zero => exact Nat.two_pow_pos 24
  | succ n ih =>
    have h := ih (by omega)
    unfold bfn at h ⊢
    rw [fl_s]
    split
    · exact or_lt h (by omega)
    · exact h
theorem enb_lt (B : FF) (cut s : Nat) (ac : Bool) : ∀ n, n ≤ 24 → enb B cut s ac n < 2 ^ 24 := by
  intro n hn
  induction n with
  | zero => exact Nat.two_pow_pos 24
  | succ n ih =>
    have h := ih (by omega)
    unfold enb at h ⊢
    rw [fl_s]
    split
    · exact or_lt h (by omega)
    · exact h
theorem Eb_lt {B : FF} (hW : ∀ i j, B i j < 128) (ac : Bool) (i : Nat) : Eb B ac i < 256 := by
  have h1 := hW i 1; have h2 := hW i 2; have h3 := hW i 3; have h4 := hW i 4
  unfold Eb; split <;> omega
theorem Gb_lt {B : FF} (hW : ∀ i j, B i j < 128) (ac : Bool) (i : Nat) : Gb B ac i < 128 := hW _ _
theorem lc1_lt {B : FF} (s : Nat) (ac : Bool) : ∀ n, lc1 B s ac n < 256 := by
  intro n
  induction n with
  | zero => show c0 ac < 256; unfold c0; split <;> decide
  | succ n ih =>
    unfold lc1 at ih ⊢
    rw [fl_s]
    split
    · split <;> omega
    · exact ih
theorem lcp_lt {B : FF} (hW : ∀ i j, B i j < 128) (s : Nat) (ac : Bool) {c : Nat} (hc : c < 256) : ∀ n, (lcp B s ac c n).1 < 256 ∧ (lcp B s ac c n).2 < 2 := by
  intro n
  induction n with
  | zero => exact ⟨hc, by show (0 : Nat) < 2; decide⟩
  | succ n ih =>
    unfold lcp at ih ⊢
    rw [fl_s]
    split
    · exact ⟨Eb_lt hW ac n, by show (1 : Nat) < 2; decide⟩
    · exact ih
theorem lcs_lt {B : FF} (hW : ∀ i j, B i j < 128) (s : Nat) (ac : Bool) (n : Nat) : ∀ f (cm : Nat × Nat), cm.1 < 256 → lcs B s ac n f cm < 256 := by
  intro f
  induction f with
  | zero => intro cm h; exact h
  | succ f ih =>
    intro cm h
    unfold lcs
    split
    · exact h
    · exact ih _ (lcp_lt hW s ac h n).1
theorem lcut_lt {B : FF} (hW : ∀ i j, B i j < 128) (n s : Nat) (ac : Bool) : lcut B n s ac < 256 := lcs_lt hW s ac n 24 _ (lc1_lt s ac n)
theorem cuo_lt (B : FF) {n : Nat} (hn : n ≤ 24) (s : Nat) : cuo B n s < 2 ^ 24 := by
  have h1 := enb_lt B (lcut B n s true) s true n hn
  have h2 := enb_lt B (lcut B n s false) s false n hn
  unfold cuo
  split
  · split
    · decide
    · exact h2
  · exact h1
theorem nd_lt {s f : Nat} (h : s < 2 ^ 24) : nd s f < 2 ^ 24 := by
  apply Nat.lt_pow_two_of_testBit
  intro i hi
  rw [nd_tb, Nat.testBit_lt_two_pow (Nat.lt_of_lt_of_le h (Nat.pow_le_pow_right (by decide) hi))]
  rfl
theorem fbe_le (B : FF) (s : Nat) : ∀ n, fbe B s n ≤ n := by
  intro n
  induction n with
  | zero => exact Nat.le_refl 0
  | succ n ih =>
    unfold fbe at ih ⊢
    rw [fl_s]
    split <;> omega
def Pf (g : Nat → Int32) (l : List Nat) : Prop := ∀ i, i < l.length → g i = nI (l.getD i 0)
theorem Pf.nil {g : Nat → Int32} : Pf g [] := fun i h => absurd h (Nat.not_lt_zero i)
theorem Pf.snoc {g : Nat → Int32} {l : List Nat} {x : Nat} (h : Pf g l) : Pf (upd g l.length (nI x)) (l ++ [x]) := by
  intro i hi
  rw [List.length_append, List.length_singleton] at hi
  by_cases h1 : i = l.length
  · subst h1
    rw [pk_us]
    simp [List.getD_eq_getElem?_getD]
  · rw [pk_un h1, h i (by omega)]
    have h2 : i < l.length := by omega
    simp [List.getD_eq_getElem?_getD, List.getElem?_append_left h2]
def rmX4_boxesThatFollowNone : Room := { frames := 1, cells := 0, slots := 0, locals := 21 }
theorem hd_X4_boxesThatFollowNone : yX4_boxesThatFollowNone.cls = (RX4, TX4, 7).1 ∧ yX4_boxesThatFollowNone.cls ≠ "java/lang/invoke/MethodHandle" ∧ yX4_boxesThatFollowNone.cls ≠ "java/lang/invoke/VarHandle" ∧ (parseMethodDescriptor yX4_boxesThatFollowNone.desc).map (fun d => d.parameters.length) = some 1 := by decide +kernel
theorem fo_X4_boxesThatFollowNone_15 : FO wsX4_boxesThatFollowNone RX4 15 4 1 := ⟨_, _, _, rfl, by decide, by decide +kernel, by decide +kernel⟩
theorem fo_X4_boxesThatFollowNone_89 : FO wsX4_boxesThatFollowNone RX4 89 1 1 := ⟨_, _, _, rfl, by decide, by decide +kernel, by decide +kernel⟩
theorem fo_X4_boxesThatFollowNone_98 : FO wsX4_boxesThatFollowNone RX4 98 1 7 := ⟨_, _, _, rfl, by decide, by decide +kernel, by decide +kernel⟩
theorem fo_X4_boxesThatFollowNone_108 : FO wsX4_boxesThatFollowNone RX4 108 1 8 := ⟨_, _, _, rfl, by decide, by decide +kernel, by decide +kernel⟩
set_option maxHeartbeats 4000000 in
set_option maxRecDepth 100000 in
theorem c_bfn {l : Launch} {ω : Om} {M : MM} {A B P : FF} {n k : Nat} {R : Nat → (Nat → Int32) × Nat} (hX : XI ω A B P n k R M) (hB : WB B n) {p : Nat} (hp : p < 5) : Ct l ω yX4_boxesThatFollowNone wsX4_boxesThatFollowNone rmX4_boxesThatFollowNone [.ref (A 0 0), .int (nI p)] M (fun v M9 => v = some (.int (nI (bfn B p n))) ∧ M9 = M) 0 0 := by
  refine Ct.ofV (cc := cX4_boxesThatFollowNone) (maxL := 5) (ret := (some .int)) [some (.ref (A 0 0)), some (.int (nI p)), none, none, none] (by decide) rfl (Nat.le_of_ble_eq_true rfl) rfl (Lc.av (av := [.ref (A 0 0), .int (nI p)]) (k := 3) rfl) ?_
  intro σ F hl hr hname
  have F : Fx ω σ cX4_boxesThatFollowNone 5 wsX4_boxesThatFollowNone RX4 rmX4_boxesThatFollowNone := F
  have hn : n ≤ 24 := hB.1
  have hW : ∀ i j, B i j < 128 := hB.2.1
  refine v_iconst (v := nI 0) F dX4_boxesThatFollowNone_0 (by decide) ?_
  refine v_istore_n F dX4_boxesThatFollowNone_1 (Nat.le_of_ble_eq_true rfl) (ok2_d rfl) ?_
  refine v_iconst (v := nI 0) F dX4_boxesThatFollowNone_2 (by decide) ?_
  refine v_istore_n F dX4_boxesThatFollowNone_3 (Nat.le_of_ble_eq_true rfl) (ok2_d rfl) ?_
  have lp : ∀ i, i ≤ n → ∀ m w, m = bfn B p i → V ω σ M [some (.ref (A 0 0)), some (.int (nI p)), some (.int (nI m)), some (.int (nI i)), w] 0 0 (BQ ω σ (fun v M9 => v = some (.int (nI (bfn B p n))) ∧ M9 = M) 0 0) 4 [] := by
    refine loop_up n _ (fun i hi ih => ?_)
    intro m w hm
    refine v_iload_n F dX4_boxesThatFollowNone_4 rfl ?_
    refine v_aload_n F dX4_boxesThatFollowNone_5 rfl rfl ?_
    refine v_get F 4 1 fo_X4_boxesThatFollowNone_15 dX4_boxesThatFollowNone_6 hX.x rfl ?_
    refine v_icmp_ge_n F 61 dX4_boxesThatFollowNone_9 (by decide) (by first | omega | exact Nat.lt_trans (hW _ _) (by decide)) (by first | omega | exact Nat.lt_trans (hW _ _) (by decide)) (fun c9 => ?_) (fun c9 => ?_)
    · refine v_iload_n F dX4_boxesThatFollowNone_61 rfl ?_
      exact v_iret F hr dX4_boxesThatFollowNone_62 (Nat.le_of_ble_eq_true rfl) (Nat.le_of_ble_eq_true rfl) ⟨by rw [hm, show i = n by omega], rfl⟩
    · have hi2 : i < n := by omega
      refine v_aload_n F dX4_boxesThatFollowNone_12 rfl rfl ?_
      refine v_iload_n F dX4_boxesThatFollowNone_13 rfl ?_
      refine v_callV F 1 [_] rfl rfl rfl (c_madeBox_in hX hB hi2) gX4_boxesThatFollowNone_X4_madeBox rfl hd_X4_madeBox ⟨⟨rfl, rfl⟩, ⟨(Nat.le_of_ble_eq_true rfl), (Nat.le_of_ble_eq_true rfl)⟩, ⟨(Nat.le_of_ble_eq_true rfl), (Nat.le_of_ble_eq_true rfl)⟩, (Nat.le_of_ble_eq_true rfl)⟩ hX.x rfl dX4_boxesThatFollowNone_14 (fun v14 M14 q14 => ?_)
      obtain ⟨rfl, e14⟩ := q14
      replace e14 := e14.symm
      subst e14
      refine v_astore F dX4_boxesThatFollowNone_17 rfl (Nat.le_of_ble_eq_true rfl) (ok2_d rfl) ?_
      refine v_aload F dX4_boxesThatFollowNone_19 rfl rfl ?_
      refine v_ifnull_r F dX4_boxesThatFollowNone_21 ?_
      refine v_aload F dX4_boxesThatFollowNone_24 rfl rfl ?_
      refine v_get F 1 7 fo_X4_boxesThatFollowNone_98 dX4_boxesThatFollowNone_26 (hX.box hi2) rfl ?_
      refine v_if_ne_n F 55 dX4_boxesThatFollowNone_29 (by decide) (by first | omega | exact Nat.lt_trans (hW _ _) (by decide)) (fun c29 => ?_) (fun c29 => ?_)
      · refine v_iinc1 F dX4_boxesThatFollowNone_55 rfl (ok2_d rfl) ?_
        refine v_goto F 4 dX4_boxesThatFollowNone_58 (by decide) ?_
        exact ih (by omega) _ _ (by simp only [bfn, fl_s]; rw [← bfn, ← hm]; simp [*])
      · refine v_aload F dX4_boxesThatFollowNone_32 rfl rfl ?_
        refine v_get F 1 1 fo_X4_boxesThatFollowNone_89 dX4_boxesThatFollowNone_34 (hX.box hi2) rfl ?_
        refine v_iload_n F dX4_boxesThatFollowNone_37 rfl ?_
        refine v_icmp_ne_n F 55 dX4_boxesThatFollowNone_38 (by decide) (by first | omega | exact Nat.lt_trans (hW _ _) (by decide)) (by first | omega | exact Nat.lt_trans (hW _ _) (by decide)) (fun c38 => ?_) (fun c38 => ?_)
        · refine v_iinc1 F dX4_boxesThatFollowNone_55 rfl (ok2_d rfl) ?_
          refine v_goto F 4 dX4_boxesThatFollowNone_58 (by decide) ?_
          exact ih (by omega) _ _ (by simp only [bfn, fl_s]; rw [← bfn, ← hm]; simp [*])
        · refine v_aload F dX4_boxesThatFollowNone_41 rfl rfl ?_
          refine v_get_o (o := oA A (B i 6)) F 1 8 fo_X4_boxesThatFollowNone_108 dX4_boxesThatFollowNone_43 (hX.box hi2) rfl (fun h43 => ?_) (fun a43 h43 => ?_)
          · have h6 : B i 6 = 0 := by cases hq : B i 6 with | zero => rfl | succ y => rw [hq] at h43; exact nomatch h43
            refine v_ifnonnull_n F dX4_boxesThatFollowNone_46 ?_
            refine v_iload_n F dX4_boxesThatFollowNone_49 rfl ?_
            refine v_iconst (v := nI 1) F dX4_boxesThatFollowNone_50 (by decide) ?_
            refine v_iload_n F dX4_boxesThatFollowNone_51 rfl ?_
            refine v_ishl_n F dX4_boxesThatFollowNone_52 (by first | omega | exact Nat.lt_trans (hW _ _) (by decide)) ?_
            refine v_ior_n F dX4_boxesThatFollowNone_53 ?_
            refine v_istore_n F dX4_boxesThatFollowNone_54 (Nat.le_of_ble_eq_true rfl) (ok2_d rfl) ?_
            refine v_iinc1 F dX4_boxesThatFollowNone_55 rfl (ok2_d rfl) ?_
            refine v_goto F 4 dX4_boxesThatFollowNone_58 (by decide) ?_
            exact ih (by omega) _ _ (by simp only [bfn, fl_s]; rw [← bfn, ← hm]; simp [*])
          · have h6 : ¬ B i 6 = 0 := fun hq => by rw [hq] at h43; exact nomatch h43
            refine v_ifnonnull_r F 55 dX4_boxesThatFollowNone_46 (by decide) ?_
            refine v_iinc1 F dX4_boxesThatFollowNone_55 rfl (ok2_d rfl) ?_
            refine v_goto F 4 dX4_boxesThatFollowNone_58 (by decide) ?_
            exact ih (by omega) _ _ (by simp only [bfn, fl_s]; rw [← bfn, ← hm]; simp [*])
  exact lp 0 (Nat.zero_le _) _ _ rfl
def rmX4_endedBy : Room := { frames := 1, cells := 0, slots := 0, locals := 23 }
theorem hd_X4_endedBy : yX4_endedBy.cls = (RX4, TX4, 7).1 ∧ yX4_endedBy.cls ≠ "java/lang/invoke/MethodHandle" ∧ yX4_endedBy.cls ≠ "java/lang/invoke/VarHandle" ∧ (parseMethodDescriptor yX4_endedBy.desc).map (fun d => d.parameters.length) = some 3 := by decide +kernel
theorem fo_X4_endedBy_15 : FO wsX4_endedBy RX4 15 4 1 := ⟨_, _, _, rfl, by decide, by decide +kernel, by decide +kernel⟩
set_option maxHeartbeats 4000000 in
set_option maxRecDepth 100000 in
theorem c_enb {l : Launch} {ω : Om} {M : MM} {A B P : FF} {n k : Nat} {R : Nat → (Nat → Int32) × Nat} (hX : XI ω A B P n k R M) (hB : WB B n) {c s : Nat} {ac : Bool} (hc : c < 256) (hs : s < 2 ^ 24) : Ct l ω yX4_endedBy wsX4_endedBy rmX4_endedBy [.ref (A 0 0), .int (nI c), .int (nI s), .int (bI ac)] M (fun v M9 => v = some (.int (nI (enb B c s ac n))) ∧ M9 = M) 0 0 := by
  refine Ct.ofV (cc := cX4_endedBy) (maxL := 7) (ret := (some .int)) [some (.ref (A 0 0)), some (.int (nI c)), some (.int (nI s)), some (.int (bI ac)), none, none, none] (by decide) rfl (Nat.le_of_ble_eq_true rfl) rfl (Lc.av (av := [.ref (A 0 0), .int (nI c), .int (nI s), .int (bI ac)]) (k := 3) rfl) ?_
  intro σ F hl hr hname
  have F : Fx ω σ cX4_endedBy 7 wsX4_endedBy RX4 rmX4_endedBy := F
  have hn : n ≤ 24 := hB.1
  have hW : ∀ i j, B i j < 128 := hB.2.1
  refine v_iconst (v := nI 0) F dX4_endedBy_0 (by decide) ?_
  refine v_istore F dX4_endedBy_1 (Nat.le_of_ble_eq_true rfl) (ok2_d rfl) ?_
  refine v_iconst (v := nI 0) F dX4_endedBy_3 (by decide) ?_
  refine v_istore F dX4_endedBy_4 (Nat.le_of_ble_eq_true rfl) (ok2_d rfl) ?_
  have lp : ∀ i, i ≤ n → ∀ m w, m = enb B c s ac i → V ω σ M [some (.ref (A 0 0)), some (.int (nI c)), some (.int (nI s)), some (.int (bI ac)), some (.int (nI m)), some (.int (nI i)), w] 0 0 (BQ ω σ (fun v M9 => v = some (.int (nI (enb B c s ac n))) ∧ M9 = M) 0 0) 6 [] := by
    refine loop_up n _ (fun i hi ih => ?_)
    intro m w hm
    refine v_iload F dX4_endedBy_6 rfl ?_
    refine v_aload_n F dX4_endedBy_8 rfl rfl ?_
    refine v_get F 4 1 fo_X4_endedBy_15 dX4_endedBy_9 hX.x rfl ?_
    refine v_icmp_ge_n F 54 dX4_endedBy_12 (by decide) (by first | omega | exact Nat.lt_trans (hW _ _) (by decide) | exact Nat.lt_trans (Eb_lt hW ac _) (by decide) | exact Nat.lt_trans (Gb_lt hW ac _) (by decide)) (by first | omega | exact Nat.lt_trans (hW _ _) (by decide) | exact Nat.lt_trans (Eb_lt hW ac _) (by decide) | exact Nat.lt_trans (Gb_lt hW ac _) (by decide)) (fun c12 => ?_) (fun c12 => ?_)
    · refine v_iload F dX4_endedBy_54 rfl ?_
      exact v_iret F hr dX4_endedBy_56 (Nat.le_of_ble_eq_true rfl) (Nat.le_of_ble_eq_true rfl) ⟨by rw [hm, show i = n by omega], rfl⟩
    · have hi2 : i < n := by omega
      rcases hb : s.testBit i with _ | _
      · refine v_aload_n F dX4_endedBy_15 rfl rfl ?_
        refine v_iload_n F dX4_endedBy_16 rfl ?_
        refine v_iload F dX4_endedBy_17 rfl ?_
        refine v_callV F 2 [_, _] rfl rfl rfl (c_boxOfSet_out hX hB hs hi2 hb) gX4_endedBy_X4_boxOfSet rfl hd_X4_boxOfSet ⟨⟨rfl, rfl⟩, ⟨(Nat.le_of_ble_eq_true rfl), (Nat.le_of_ble_eq_true rfl)⟩, ⟨(Nat.le_of_ble_eq_true rfl), (Nat.le_of_ble_eq_true rfl)⟩, (Nat.le_of_ble_eq_true rfl)⟩ hX.x rfl dX4_endedBy_19 (fun v19 M19 q19 => ?_)
        obtain ⟨rfl, e19⟩ := q19
        replace e19 := e19.symm
        subst e19
        refine v_astore F dX4_endedBy_22 rfl (Nat.le_of_ble_eq_true rfl) (ok2_d rfl) ?_
        refine v_aload F dX4_endedBy_24 rfl rfl ?_
        refine v_ifnull_n F 48 dX4_endedBy_26 (by decide) ?_
        refine v_iinc1 F dX4_endedBy_48 rfl (ok2_d rfl) ?_
        refine v_goto F 6 dX4_endedBy_51 (by decide) ?_
        exact ih (by omega) _ _ (by simp only [enb, fl_s]; rw [← enb, ← hm]; simp only [hb, Bool.false_eq_true, false_and, true_and, if_false, ↓reduceIte]; try (split <;> first | rfl | (exfalso; omega)))
      · refine v_aload_n F dX4_endedBy_15 rfl rfl ?_
        refine v_iload_n F dX4_endedBy_16 rfl ?_
        refine v_iload F dX4_endedBy_17 rfl ?_
        refine v_callV F 2 [_, _] rfl rfl rfl (c_boxOfSet_in hX hB hs hi2 hb) gX4_endedBy_X4_boxOfSet rfl hd_X4_boxOfSet ⟨⟨rfl, rfl⟩, ⟨(Nat.le_of_ble_eq_true rfl), (Nat.le_of_ble_eq_true rfl)⟩, ⟨(Nat.le_of_ble_eq_true rfl), (Nat.le_of_ble_eq_true rfl)⟩, (Nat.le_of_ble_eq_true rfl)⟩ hX.x rfl dX4_endedBy_19 (fun v19 M19 q19 => ?_)
        obtain ⟨rfl, e19⟩ := q19
        replace e19 := e19.symm
        subst e19
        refine v_astore F dX4_endedBy_22 rfl (Nat.le_of_ble_eq_true rfl) (ok2_d rfl) ?_
        refine v_aload F dX4_endedBy_24 rfl rfl ?_
        refine v_ifnull_r F dX4_endedBy_26 ?_
        refine v_aload F dX4_endedBy_29 rfl rfl ?_
        refine v_iload_n F dX4_endedBy_31 rfl ?_
        refine v_callV F 1 [_] rfl rfl rfl (c_X1_end hW (hX.box hi2)) gX4_endedBy_X1_end rfl hd_X1_end ⟨⟨rfl, rfl⟩, ⟨(Nat.le_of_ble_eq_true rfl), (Nat.le_of_ble_eq_true rfl)⟩, ⟨(Nat.le_of_ble_eq_true rfl), (Nat.le_of_ble_eq_true rfl)⟩, (Nat.le_of_ble_eq_true rfl)⟩ (hX.box hi2) rfl dX4_endedBy_32 (fun v32 M32 q32 => ?_)
        obtain ⟨rfl, e32⟩ := q32
        replace e32 := e32.symm
        subst e32
        rw [show (if ac = true then B i 2 + B i 4 else B i 1 + B i 3) = Eb B ac i from rfl]
        refine v_iload_n F dX4_endedBy_35 rfl ?_
        refine v_icmp_gt_n F 48 dX4_endedBy_36 (by decide) (by first | omega | exact Nat.lt_trans (hW _ _) (by decide) | exact Nat.lt_trans (Eb_lt hW ac _) (by decide) | exact Nat.lt_trans (Gb_lt hW ac _) (by decide)) (by first | omega | exact Nat.lt_trans (hW _ _) (by decide) | exact Nat.lt_trans (Eb_lt hW ac _) (by decide) | exact Nat.lt_trans (Gb_lt hW ac _) (by decide)) (fun c36 => ?_) (fun c36 => ?_)
        · refine v_iinc1 F dX4_endedBy_48 rfl (ok2_d rfl) ?_
          refine v_goto F 6 dX4_endedBy_51 (by decide) ?_
          exact ih (by omega) _ _ (by simp only [enb, fl_s]; rw [← enb, ← hm]; simp only [hb, Bool.false_eq_true, false_and, true_and, if_false, ↓reduceIte]; try (split <;> first | rfl | (exfalso; omega)))
        · refine v_iload F dX4_endedBy_39 rfl ?_
          refine v_iconst (v := nI 1) F dX4_endedBy_41 (by decide) ?_
          refine v_iload F dX4_endedBy_42 rfl ?_
          refine v_ishl_n F dX4_endedBy_44 (by first | omega | exact Nat.lt_trans (hW _ _) (by decide) | exact Nat.lt_trans (Eb_lt hW ac _) (by decide) | exact Nat.lt_trans (Gb_lt hW ac _) (by decide)) ?_
          refine v_ior_n F dX4_endedBy_45 ?_
          refine v_istore F dX4_endedBy_46 (Nat.le_of_ble_eq_true rfl) (ok2_d rfl) ?_
          refine v_iinc1 F dX4_endedBy_48 rfl (ok2_d rfl) ?_
          refine v_goto F 6 dX4_endedBy_51 (by decide) ?_
          exact ih (by omega) _ _ (by simp only [enb, fl_s]; rw [← enb, ← hm]; simp only [hb, Bool.false_eq_true, false_and, true_and, if_false, ↓reduceIte]; try (split <;> first | rfl | (exfalso; omega)))
  exact lp 0 (Nat.zero_le _) _ _ rfl
def rmX4_leastCut : Room := { frames := 1, cells := 0, slots := 0, locals := 30 }
theorem hd_X4_leastCut : yX4_leastCut.cls = (RX4, TX4, 7).1 ∧ yX4_leastCut.cls ≠ "java/lang/invoke/MethodHandle" ∧ yX4_leastCut.cls ≠ "java/lang/invoke/VarHandle" ∧ (parseMethodDescriptor yX4_leastCut.desc).map (fun d => d.parameters.length) = some 2 := by decide +kernel
theorem fo_X4_leastCut_15 : FO wsX4_leastCut RX4 15 4 1 := ⟨_, _, _, rfl, by decide, by decide +kernel, by decide +kernel⟩
set_option maxHeartbeats 4000000 in
set_option maxRecDepth 100000 in
theorem c_lcut {l : Launch} {ω : Om} {M : MM} {A B P : FF} {n k : Nat} {R : Nat → (Nat → Int32) × Nat} (hX : XI ω A B P n k R M) (hB : WB B n) {s : Nat} {ac : Bool} (hs : s < 2 ^ 24) : Ct l ω yX4_leastCut wsX4_leastCut rmX4_leastCut [.ref (A 0 0), .int (nI s), .int (bI ac)] M (fun v M9 => v = some (.int (nI (lcut B n s ac))) ∧ M9 = M) 0 0 := by
  refine Ct.ofV (cc := cX4_leastCut) (maxL := 8) (ret := (some .int)) [some (.ref (A 0 0)), some (.int (nI s)), some (.int (bI ac)), none, none, none, none, none] (by decide) rfl (Nat.le_of_ble_eq_true rfl) rfl (Lc.av (av := [.ref (A 0 0), .int (nI s), .int (bI ac)]) (k := 5) rfl) ?_
  intro σ F hl hr hname
  have F : Fx ω σ cX4_leastCut 8 wsX4_leastCut RX4 rmX4_leastCut := F
  have hn : n ≤ 24 := hB.1
  have hW : ∀ i j, B i j < 128 := hB.2.1
  refine v_iload_n F dX4_leastCut_0 rfl ?_
  refine v_if_eq_b F 9 dX4_leastCut_1 (by decide) (fun c1 => ?_) (fun c1 => ?_)
  · refine v_bipush (v := nI 60) F dX4_leastCut_9 (by decide) ?_
    refine V.toI (show nI _ = nI (c0 ac) by simp [c0, c1]) ?_
    refine v_istore_n F dX4_leastCut_11 (Nat.le_of_ble_eq_true rfl) (ok2_d rfl) ?_
    refine v_iconst (v := nI 0) F dX4_leastCut_12 (by decide) ?_
    refine v_istore F dX4_leastCut_13 (Nat.le_of_ble_eq_true rfl) (ok2_d rfl) ?_
    have lp1 : ∀ i, i ≤ n → ∀ c w, c = lc1 B s ac i → V ω σ M [some (.ref (A 0 0)), some (.int (nI s)), some (.int (bI ac)), some (.int (nI c)), some (.int (nI i)), w, none, none] 0 0 (BQ ω σ (fun v M9 => v = some (.int (nI (lcut B n s ac))) ∧ M9 = M) 0 0) 15 [] := by
      refine loop_up n _ (fun i hi ih => ?_)
      intro c w hm
      have hc : c < 256 := by rw [hm]; exact lc1_lt s ac i
      refine v_iload F dX4_leastCut_15 rfl ?_
      refine v_aload_n F dX4_leastCut_17 rfl rfl ?_
      refine v_get F 4 1 fo_X4_leastCut_15 dX4_leastCut_18 hX.x rfl ?_
      refine v_icmp_ge_n F 59 dX4_leastCut_21 (by decide) (by first | omega | exact Nat.lt_trans (hW _ _) (by decide) | exact Nat.lt_trans (Eb_lt hW ac _) (by decide) | exact Nat.lt_trans (Gb_lt hW ac _) (by decide)) (by first | omega | exact Nat.lt_trans (hW _ _) (by decide) | exact Nat.lt_trans (Eb_lt hW ac _) (by decide) | exact Nat.lt_trans (Gb_lt hW ac _) (by decide)) (fun c21 => ?_) (fun c21 => ?_)
      · refine v_iconst (v := nI 1) F dX4_leastCut_59 (by decide) ?_
        refine v_istore F dX4_leastCut_60 (Nat.le_of_ble_eq_true rfl) (ok2_d rfl) ?_
        refine v_iconst (v := nI 0) F dX4_leastCut_62 (by decide) ?_
        refine v_istore F dX4_leastCut_63 (Nat.le_of_ble_eq_true rfl) (ok2_d rfl) ?_
        have lp2 : ∀ j, j ≤ 24 → ∀ c mv w6 w7, c < 256 → mv < 2 → lcs B s ac n (24 - j) (c, mv) = lcut B n s ac → V ω σ M [some (.ref (A 0 0)), some (.int (nI s)), some (.int (bI ac)), some (.int (nI c)), some (.int (nI mv)), some (.int (nI j)), w6, w7] 0 0 (BQ ω σ (fun v M9 => v = some (.int (nI (lcut B n s ac))) ∧ M9 = M) 0 0) 65 [] := by
          refine loop_up 24 _ (fun j hj ih2 => ?_)
          intro c mv w6 w7 hc hmv hl
          refine v_iload F dX4_leastCut_65 rfl ?_
          refine v_bipush (v := nI 24) F dX4_leastCut_67 (by decide) ?_
          refine v_icmp_ge_n F 148 dX4_leastCut_69 (by decide) (by first | omega | exact Nat.lt_trans (hW _ _) (by decide) | exact Nat.lt_trans (Eb_lt hW ac _) (by decide) | exact Nat.lt_trans (Gb_lt hW ac _) (by decide)) (by first | omega | exact Nat.lt_trans (hW _ _) (by decide) | exact Nat.lt_trans (Eb_lt hW ac _) (by decide) | exact Nat.lt_trans (Gb_lt hW ac _) (by decide)) (fun c69 => ?_) (fun c69 => ?_)
          · refine v_iload_n F dX4_leastCut_148 rfl ?_
            exact v_iret F hr dX4_leastCut_149 (Nat.le_of_ble_eq_true rfl) (Nat.le_of_ble_eq_true rfl) ⟨by rw [← hl]; first | (rw [show 24 - j = 0 by omega]; rfl) | (cases 24 - j with | zero => rfl | succ f => simp [lcs, *]), rfl⟩
          · refine v_iload F dX4_leastCut_72 rfl ?_
            refine v_if_eq_n F 148 dX4_leastCut_74 (by decide) (by first | omega | exact Nat.lt_trans (hW _ _) (by decide) | exact Nat.lt_trans (Eb_lt hW ac _) (by decide) | exact Nat.lt_trans (Gb_lt hW ac _) (by decide)) (fun c74 => ?_) (fun c74 => ?_)
            · refine v_iload_n F dX4_leastCut_148 rfl ?_
              exact v_iret F hr dX4_leastCut_149 (Nat.le_of_ble_eq_true rfl) (Nat.le_of_ble_eq_true rfl) ⟨by rw [← hl]; first | (rw [show 24 - j = 0 by omega]; rfl) | (cases 24 - j with | zero => rfl | succ f => simp [lcs, *]), rfl⟩
            · refine v_iconst (v := nI 0) F dX4_leastCut_77 (by decide) ?_
              refine v_istore F dX4_leastCut_78 (Nat.le_of_ble_eq_true rfl) (ok2_d rfl) ?_
              refine v_iconst (v := nI 0) F dX4_leastCut_80 (by decide) ?_
              refine v_istore F dX4_leastCut_81 (Nat.le_of_ble_eq_true rfl) (ok2_d rfl) ?_
              have lp3 : ∀ i, i ≤ n → ∀ c2 mv2 w7, (c2, mv2) = lcp B s ac c i → V ω σ M [some (.ref (A 0 0)), some (.int (nI s)), some (.int (bI ac)), some (.int (nI c2)), some (.int (nI mv2)), some (.int (nI j)), some (.int (nI i)), w7] 0 0 (BQ ω σ (fun v M9 => v = some (.int (nI (lcut B n s ac))) ∧ M9 = M) 0 0) 83 [] := by
                refine loop_up n _ (fun i hi ih => ?_)
                intro c2 mv2 w7 hm
                have hh := lcp_lt hW s ac hc i
                rw [← hm] at hh
                obtain ⟨hc2, hmv2⟩ := hh
                have hc2 : c2 < 256 := hc2
                have hmv2 : mv2 < 2 := hmv2
                refine v_iload F dX4_leastCut_83 rfl ?_
                refine v_aload_n F dX4_leastCut_85 rfl rfl ?_
                refine v_get F 4 1 fo_X4_leastCut_15 dX4_leastCut_86 hX.x rfl ?_
                refine v_icmp_ge_n F 142 dX4_leastCut_89 (by decide) (by first | omega | exact Nat.lt_trans (hW _ _) (by decide) | exact Nat.lt_trans (Eb_lt hW ac _) (by decide) | exact Nat.lt_trans (Gb_lt hW ac _) (by decide)) (by first | omega | exact Nat.lt_trans (hW _ _) (by decide) | exact Nat.lt_trans (Eb_lt hW ac _) (by decide) | exact Nat.lt_trans (Gb_lt hW ac _) (by decide)) (fun c89 => ?_) (fun c89 => ?_)
                · refine v_iinc1 F dX4_leastCut_142 rfl (ok2_d rfl) ?_
                  refine v_goto F 65 dX4_leastCut_145 (by decide) ?_
                  exact ih2 (by omega) _ _ _ _ hc2 hmv2 (by rw [← hl, show 24 - j = 24 - (j + 1) + 1 by omega, lcs, if_neg c74, ← show i = n by omega, ← hm])
                · have hi2 : i < n := by omega
                  rcases hb : s.testBit i with _ | _
                  · refine v_aload_n F dX4_leastCut_92 rfl rfl ?_
                    refine v_iload_n F dX4_leastCut_93 rfl ?_
                    refine v_iload F dX4_leastCut_94 rfl ?_
                    refine v_callV F 2 [_, _] rfl rfl rfl (c_boxOfSet_out hX hB hs hi2 hb) gX4_leastCut_X4_boxOfSet rfl hd_X4_boxOfSet ⟨⟨rfl, rfl⟩, ⟨(Nat.le_of_ble_eq_true rfl), (Nat.le_of_ble_eq_true rfl)⟩, ⟨(Nat.le_of_ble_eq_true rfl), (Nat.le_of_ble_eq_true rfl)⟩, (Nat.le_of_ble_eq_true rfl)⟩ hX.x rfl dX4_leastCut_96 (fun v96 M96 q96 => ?_)
                    obtain ⟨rfl, e96⟩ := q96
                    replace e96 := e96.symm
                    subst e96
                    refine v_astore F dX4_leastCut_99 rfl (Nat.le_of_ble_eq_true rfl) (ok2_d rfl) ?_
                    refine v_aload F dX4_leastCut_101 rfl rfl ?_
                    refine v_ifnull_n F 136 dX4_leastCut_103 (by decide) ?_
                    refine v_iinc1 F dX4_leastCut_136 rfl (ok2_d rfl) ?_
                    refine v_goto F 83 dX4_leastCut_139 (by decide) ?_
                    exact ih (by omega) _ _ _ (by simp only [lcp, fl_s]; rw [← lcp, ← hm]; simp only [hb, Bool.false_eq_true, false_and, true_and, if_false, ↓reduceIte]; try (split <;> first | rfl | (exfalso; omega)))
                  · refine v_aload_n F dX4_leastCut_92 rfl rfl ?_
                    refine v_iload_n F dX4_leastCut_93 rfl ?_
                    refine v_iload F dX4_leastCut_94 rfl ?_
                    refine v_callV F 2 [_, _] rfl rfl rfl (c_boxOfSet_in hX hB hs hi2 hb) gX4_leastCut_X4_boxOfSet rfl hd_X4_boxOfSet ⟨⟨rfl, rfl⟩, ⟨(Nat.le_of_ble_eq_true rfl), (Nat.le_of_ble_eq_true rfl)⟩, ⟨(Nat.le_of_ble_eq_true rfl), (Nat.le_of_ble_eq_true rfl)⟩, (Nat.le_of_ble_eq_true rfl)⟩ hX.x rfl dX4_leastCut_96 (fun v96 M96 q96 => ?_)
                    obtain ⟨rfl, e96⟩ := q96
                    replace e96 := e96.symm
                    subst e96
                    refine v_astore F dX4_leastCut_99 rfl (Nat.le_of_ble_eq_true rfl) (ok2_d rfl) ?_
                    refine v_aload F dX4_leastCut_101 rfl rfl ?_
                    refine v_ifnull_r F dX4_leastCut_103 ?_
                    refine v_aload F dX4_leastCut_106 rfl rfl ?_
                    refine v_iload_n F dX4_leastCut_108 rfl ?_
                    refine v_callV F 1 [_] rfl rfl rfl (c_X1_begin hW (hX.box hi2)) gX4_leastCut_X1_begin rfl hd_X1_begin ⟨⟨rfl, rfl⟩, ⟨(Nat.le_of_ble_eq_true rfl), (Nat.le_of_ble_eq_true rfl)⟩, ⟨(Nat.le_of_ble_eq_true rfl), (Nat.le_of_ble_eq_true rfl)⟩, (Nat.le_of_ble_eq_true rfl)⟩ (hX.box hi2) rfl dX4_leastCut_109 (fun v109 M109 q109 => ?_)
                    obtain ⟨rfl, e109⟩ := q109
                    replace e109 := e109.symm
                    subst e109
                    rw [show B i (if ac = true then 2 else 1) = Gb B ac i from rfl]
                    refine v_iload_n F dX4_leastCut_112 rfl ?_
                    refine v_icmp_ge_n F 136 dX4_leastCut_113 (by decide) (by first | omega | exact Nat.lt_trans (hW _ _) (by decide) | exact Nat.lt_trans (Eb_lt hW ac _) (by decide) | exact Nat.lt_trans (Gb_lt hW ac _) (by decide)) (by first | omega | exact Nat.lt_trans (hW _ _) (by decide) | exact Nat.lt_trans (Eb_lt hW ac _) (by decide) | exact Nat.lt_trans (Gb_lt hW ac _) (by decide)) (fun c113 => ?_) (fun c113 => ?_)
                    · refine v_iinc1 F dX4_leastCut_136 rfl (ok2_d rfl) ?_
                      refine v_goto F 83 dX4_leastCut_139 (by decide) ?_
                      exact ih (by omega) _ _ _ (by simp only [lcp, fl_s]; rw [← lcp, ← hm]; simp only [hb, Bool.false_eq_true, false_and, true_and, if_false, ↓reduceIte]; try (split <;> first | rfl | (exfalso; omega)))
                    · refine v_aload F dX4_leastCut_116 rfl rfl ?_
                      refine v_iload_n F dX4_leastCut_118 rfl ?_
                      refine v_callV F 1 [_] rfl rfl rfl (c_X1_end hW (hX.box hi2)) gX4_leastCut_X1_end rfl hd_X1_end ⟨⟨rfl, rfl⟩, ⟨(Nat.le_of_ble_eq_true rfl), (Nat.le_of_ble_eq_true rfl)⟩, ⟨(Nat.le_of_ble_eq_true rfl), (Nat.le_of_ble_eq_true rfl)⟩, (Nat.le_of_ble_eq_true rfl)⟩ (hX.box hi2) rfl dX4_leastCut_119 (fun v119 M119 q119 => ?_)
                      obtain ⟨rfl, e119⟩ := q119
                      replace e119 := e119.symm
                      subst e119
                      rw [show (if ac = true then B i 2 + B i 4 else B i 1 + B i 3) = Eb B ac i from rfl]
                      refine v_iload_n F dX4_leastCut_122 rfl ?_
                      refine v_icmp_le_n F 136 dX4_leastCut_123 (by decide) (by first | omega | exact Nat.lt_trans (hW _ _) (by decide) | exact Nat.lt_trans (Eb_lt hW ac _) (by decide) | exact Nat.lt_trans (Gb_lt hW ac _) (by decide)) (by first | omega | exact Nat.lt_trans (hW _ _) (by decide) | exact Nat.lt_trans (Eb_lt hW ac _) (by decide) | exact Nat.lt_trans (Gb_lt hW ac _) (by decide)) (fun c123 => ?_) (fun c123 => ?_)
                      · refine v_iinc1 F dX4_leastCut_136 rfl (ok2_d rfl) ?_
                        refine v_goto F 83 dX4_leastCut_139 (by decide) ?_
                        exact ih (by omega) _ _ _ (by simp only [lcp, fl_s]; rw [← lcp, ← hm]; simp only [hb, Bool.false_eq_true, false_and, true_and, if_false, ↓reduceIte]; try (split <;> first | rfl | (exfalso; omega)))
                      · refine v_aload F dX4_leastCut_126 rfl rfl ?_
                        refine v_iload_n F dX4_leastCut_128 rfl ?_
                        refine v_callV F 1 [_] rfl rfl rfl (c_X1_end hW (hX.box hi2)) gX4_leastCut_X1_end rfl hd_X1_end ⟨⟨rfl, rfl⟩, ⟨(Nat.le_of_ble_eq_true rfl), (Nat.le_of_ble_eq_true rfl)⟩, ⟨(Nat.le_of_ble_eq_true rfl), (Nat.le_of_ble_eq_true rfl)⟩, (Nat.le_of_ble_eq_true rfl)⟩ (hX.box hi2) rfl dX4_leastCut_129 (fun v129 M129 q129 => ?_)
                        obtain ⟨rfl, e129⟩ := q129
                        replace e129 := e129.symm
                        subst e129
                        rw [show (if ac = true then B i 2 + B i 4 else B i 1 + B i 3) = Eb B ac i from rfl]
                        refine v_istore_n F dX4_leastCut_132 (Nat.le_of_ble_eq_true rfl) (ok2_d rfl) ?_
                        refine v_iconst (v := nI 1) F dX4_leastCut_133 (by decide) ?_
                        refine v_istore F dX4_leastCut_134 (Nat.le_of_ble_eq_true rfl) (ok2_d rfl) ?_
                        refine v_iinc1 F dX4_leastCut_136 rfl (ok2_d rfl) ?_
                        refine v_goto F 83 dX4_leastCut_139 (by decide) ?_
                        exact ih (by omega) _ _ _ (by simp only [lcp, fl_s]; rw [← lcp, ← hm]; simp only [hb, Bool.false_eq_true, false_and, true_and, if_false, ↓reduceIte]; try (split <;> first | rfl | (exfalso; omega)))
              exact lp3 0 (Nat.zero_le _) _ _ _ rfl
        exact lp2 0 (Nat.zero_le _) _ _ _ _ hc (by decide) (by rw [hm, show i = n by omega]; rfl)
      · have hi2 : i < n := by omega
        rcases hb : s.testBit i with _ | _
        · refine v_aload_n F dX4_leastCut_24 rfl rfl ?_
          refine v_iload_n F dX4_leastCut_25 rfl ?_
          refine v_iload F dX4_leastCut_26 rfl ?_
          refine v_callV F 2 [_, _] rfl rfl rfl (c_boxOfSet_out hX hB hs hi2 hb) gX4_leastCut_X4_boxOfSet rfl hd_X4_boxOfSet ⟨⟨rfl, rfl⟩, ⟨(Nat.le_of_ble_eq_true rfl), (Nat.le_of_ble_eq_true rfl)⟩, ⟨(Nat.le_of_ble_eq_true rfl), (Nat.le_of_ble_eq_true rfl)⟩, (Nat.le_of_ble_eq_true rfl)⟩ hX.x rfl dX4_leastCut_28 (fun v28 M28 q28 => ?_)
          obtain ⟨rfl, e28⟩ := q28
          replace e28 := e28.symm
          subst e28
          refine v_astore F dX4_leastCut_31 rfl (Nat.le_of_ble_eq_true rfl) (ok2_d rfl) ?_
          refine v_aload F dX4_leastCut_33 rfl rfl ?_
          refine v_ifnull_n F 51 dX4_leastCut_35 (by decide) ?_
          refine v_iload_n F dX4_leastCut_51 rfl ?_
          refine v_istore_n F dX4_leastCut_52 (Nat.le_of_ble_eq_true rfl) (ok2_d rfl) ?_
          refine v_iinc1 F dX4_leastCut_53 rfl (ok2_d rfl) ?_
          refine v_goto F 15 dX4_leastCut_56 (by decide) ?_
          exact ih (by omega) _ _ (by simp only [lc1, fl_s]; rw [← lc1, ← hm]; simp [hb])
        · refine v_aload_n F dX4_leastCut_24 rfl rfl ?_
          refine v_iload_n F dX4_leastCut_25 rfl ?_
          refine v_iload F dX4_leastCut_26 rfl ?_
          refine v_callV F 2 [_, _] rfl rfl rfl (c_boxOfSet_in hX hB hs hi2 hb) gX4_leastCut_X4_boxOfSet rfl hd_X4_boxOfSet ⟨⟨rfl, rfl⟩, ⟨(Nat.le_of_ble_eq_true rfl), (Nat.le_of_ble_eq_true rfl)⟩, ⟨(Nat.le_of_ble_eq_true rfl), (Nat.le_of_ble_eq_true rfl)⟩, (Nat.le_of_ble_eq_true rfl)⟩ hX.x rfl dX4_leastCut_28 (fun v28 M28 q28 => ?_)
          obtain ⟨rfl, e28⟩ := q28
          replace e28 := e28.symm
          subst e28
          refine v_astore F dX4_leastCut_31 rfl (Nat.le_of_ble_eq_true rfl) (ok2_d rfl) ?_
          refine v_aload F dX4_leastCut_33 rfl rfl ?_
          refine v_ifnull_r F dX4_leastCut_35 ?_
          refine v_iload_n F dX4_leastCut_38 rfl ?_
          refine v_aload F dX4_leastCut_39 rfl rfl ?_
          refine v_iload_n F dX4_leastCut_41 rfl ?_
          refine v_callV F 1 [_] rfl rfl rfl (c_X1_end hW (hX.box hi2)) gX4_leastCut_X1_end rfl hd_X1_end ⟨⟨rfl, rfl⟩, ⟨(Nat.le_of_ble_eq_true rfl), (Nat.le_of_ble_eq_true rfl)⟩, ⟨(Nat.le_of_ble_eq_true rfl), (Nat.le_of_ble_eq_true rfl)⟩, (Nat.le_of_ble_eq_true rfl)⟩ (hX.box hi2) rfl dX4_leastCut_42 (fun v42 M42 q42 => ?_)
          obtain ⟨rfl, e42⟩ := q42
          replace e42 := e42.symm
          subst e42
          rw [show (if ac = true then B i 2 + B i 4 else B i 1 + B i 3) = Eb B ac i from rfl]
          refine v_mmin_n F (by omega) (Nat.lt_trans (Eb_lt hW ac _) (by decide)) rfl (by decide +kernel) (by decide +kernel) (by decide +kernel) (by decide +kernel) dX4_leastCut_45 ⟨Nat.le_of_ble_eq_true rfl, Nat.le_of_ble_eq_true rfl, Nat.le_of_ble_eq_true rfl, Nat.le_of_ble_eq_true rfl⟩ ?_
          refine v_goto F 52 dX4_leastCut_48 (by decide) ?_
          refine v_istore_n F dX4_leastCut_52 (Nat.le_of_ble_eq_true rfl) (ok2_d rfl) ?_
          refine v_iinc1 F dX4_leastCut_53 rfl (ok2_d rfl) ?_
          refine v_goto F 15 dX4_leastCut_56 (by decide) ?_
          exact ih (by omega) _ _ (by simp only [lc1, fl_s]; rw [← lc1, ← hm]; simp [hb])
    exact lp1 0 (Nat.zero_le _) _ _ rfl
  · refine v_bipush (v := nI 80) F dX4_leastCut_4 (by decide) ?_
    refine v_goto F 11 dX4_leastCut_6 (by decide) ?_
    refine V.toI (show nI _ = nI (c0 ac) by simp [c0, c1]) ?_
    refine v_istore_n F dX4_leastCut_11 (Nat.le_of_ble_eq_true rfl) (ok2_d rfl) ?_
    refine v_iconst (v := nI 0) F dX4_leastCut_12 (by decide) ?_
    refine v_istore F dX4_leastCut_13 (Nat.le_of_ble_eq_true rfl) (ok2_d rfl) ?_
    have lp1 : ∀ i, i ≤ n → ∀ c w, c = lc1 B s ac i → V ω σ M [some (.ref (A 0 0)), some (.int (nI s)), some (.int (bI ac)), some (.int (nI c)), some (.int (nI i)), w, none, none] 0 0 (BQ ω σ (fun v M9 => v = some (.int (nI (lcut B n s ac))) ∧ M9 = M) 0 0) 15 [] := by
      refine loop_up n _ (fun i hi ih => ?_)
      intro c w hm
      have hc : c < 256 := by rw [hm]; exact lc1_lt s ac i
      refine v_iload F dX4_leastCut_15 rfl ?_
      refine v_aload_n F dX4_leastCut_17 rfl rfl ?_
      refine v_get F 4 1 fo_X4_leastCut_15 dX4_leastCut_18 hX.x rfl ?_
      refine v_icmp_ge_n F 59 dX4_leastCut_21 (by decide) (by first | omega | exact Nat.lt_trans (hW _ _) (by decide) | exact Nat.lt_trans (Eb_lt hW ac _) (by decide) | exact Nat.lt_trans (Gb_lt hW ac _) (by decide)) (by first | omega | exact Nat.lt_trans (hW _ _) (by decide) | exact Nat.lt_trans (Eb_lt hW ac _) (by decide) | exact Nat.lt_trans (Gb_lt hW ac _) (by decide)) (fun c21 => ?_) (fun c21 => ?_)
      · refine v_iconst (v := nI 1) F dX4_leastCut_59 (by decide) ?_
        refine v_istore F dX4_leastCut_60 (Nat.le_of_ble_eq_true rfl) (ok2_d rfl) ?_
        refine v_iconst (v := nI 0) F dX4_leastCut_62 (by decide) ?_
        refine v_istore F dX4_leastCut_63 (Nat.le_of_ble_eq_true rfl) (ok2_d rfl) ?_
        have lp2 : ∀ j, j ≤ 24 → ∀ c mv w6 w7, c < 256 → mv < 2 → lcs B s ac n (24 - j) (c, mv) = lcut B n s ac → V ω σ M [some (.ref (A 0 0)), some (.int (nI s)), some (.int (bI ac)), some (.int (nI c)), some (.int (nI mv)), some (.int (nI j)), w6, w7] 0 0 (BQ ω σ (fun v M9 => v = some (.int (nI (lcut B n s ac))) ∧ M9 = M) 0 0) 65 [] := by
          refine loop_up 24 _ (fun j hj ih2 => ?_)
          intro c mv w6 w7 hc hmv hl
          refine v_iload F dX4_leastCut_65 rfl ?_
          refine v_bipush (v := nI 24) F dX4_leastCut_67 (by decide) ?_
          refine v_icmp_ge_n F 148 dX4_leastCut_69 (by decide) (by first | omega | exact Nat.lt_trans (hW _ _) (by decide) | exact Nat.lt_trans (Eb_lt hW ac _) (by decide) | exact Nat.lt_trans (Gb_lt hW ac _) (by decide)) (by first | omega | exact Nat.lt_trans (hW _ _) (by decide) | exact Nat.lt_trans (Eb_lt hW ac _) (by decide) | exact Nat.lt_trans (Gb_lt hW ac _) (by decide)) (fun c69 => ?_) (fun c69 => ?_)
          · refine v_iload_n F dX4_leastCut_148 rfl ?_
            exact v_iret F hr dX4_leastCut_149 (Nat.le_of_ble_eq_true rfl) (Nat.le_of_ble_eq_true rfl) ⟨by rw [← hl]; first | (rw [show 24 - j = 0 by omega]; rfl) | (cases 24 - j with | zero => rfl | succ f => simp [lcs, *]), rfl⟩
          · refine v_iload F dX4_leastCut_72 rfl ?_
            refine v_if_eq_n F 148 dX4_leastCut_74 (by decide) (by first | omega | exact Nat.lt_trans (hW _ _) (by decide) | exact Nat.lt_trans (Eb_lt hW ac _) (by decide) | exact Nat.lt_trans (Gb_lt hW ac _) (by decide)) (fun c74 => ?_) (fun c74 => ?_)
            · refine v_iload_n F dX4_leastCut_148 rfl ?_
              exact v_iret F hr dX4_leastCut_149 (Nat.le_of_ble_eq_true rfl) (Nat.le_of_ble_eq_true rfl) ⟨by rw [← hl]; first | (rw [show 24 - j = 0 by omega]; rfl) | (cases 24 - j with | zero => rfl | succ f => simp [lcs, *]), rfl⟩
            · refine v_iconst (v := nI 0) F dX4_leastCut_77 (by decide) ?_
              refine v_istore F dX4_leastCut_78 (Nat.le_of_ble_eq_true rfl) (ok2_d rfl) ?_
              refine v_iconst (v := nI 0) F dX4_leastCut_80 (by decide) ?_
              refine v_istore F dX4_leastCut_81 (Nat.le_of_ble_eq_true rfl) (ok2_d rfl) ?_
              have lp3 : ∀ i, i ≤ n → ∀ c2 mv2 w7, (c2, mv2) = lcp B s ac c i → V ω σ M [some (.ref (A 0 0)), some (.int (nI s)), some (.int (bI ac)), some (.int (nI c2)), some (.int (nI mv2)), some (.int (nI j)), some (.int (nI i)), w7] 0 0 (BQ ω σ (fun v M9 => v = some (.int (nI (lcut B n s ac))) ∧ M9 = M) 0 0) 83 [] := by
                refine loop_up n _ (fun i hi ih => ?_)
                intro c2 mv2 w7 hm
                have hh := lcp_lt hW s ac hc i
                rw [← hm] at hh
                obtain ⟨hc2, hmv2⟩ := hh
                have hc2 : c2 < 256 := hc2
                have hmv2 : mv2 < 2 := hmv2
                refine v_iload F dX4_leastCut_83 rfl ?_
                refine v_aload_n F dX4_leastCut_85 rfl rfl ?_
                refine v_get F 4 1 fo_X4_leastCut_15 dX4_leastCut_86 hX.x rfl ?_
                refine v_icmp_ge_n F 142 dX4_leastCut_89 (by decide) (by first | omega | exact Nat.lt_trans (hW _ _) (by decide) | exact Nat.lt_trans (Eb_lt hW ac _) (by decide) | exact Nat.lt_trans (Gb_lt hW ac _) (by decide)) (by first | omega | exact Nat.lt_trans (hW _ _) (by decide) | exact Nat.lt_trans (Eb_lt hW ac _) (by decide) | exact Nat.lt_trans (Gb_lt hW ac _) (by decide)) (fun c89 => ?_) (fun c89 => ?_)
                · refine v_iinc1 F dX4_leastCut_142 rfl (ok2_d rfl) ?_
                  refine v_goto F 65 dX4_leastCut_145 (by decide) ?_
                  exact ih2 (by omega) _ _ _ _ hc2 hmv2 (by rw [← hl, show 24 - j = 24 - (j + 1) + 1 by omega, lcs, if_neg c74, ← show i = n by omega, ← hm])
                · have hi2 : i < n := by omega
                  rcases hb : s.testBit i with _ | _
                  · refine v_aload_n F dX4_leastCut_92 rfl rfl ?_
                    refine v_iload_n F dX4_leastCut_93 rfl ?_
                    refine v_iload F dX4_leastCut_94 rfl ?_
                    refine v_callV F 2 [_, _] rfl rfl rfl (c_boxOfSet_out hX hB hs hi2 hb) gX4_leastCut_X4_boxOfSet rfl hd_X4_boxOfSet ⟨⟨rfl, rfl⟩, ⟨(Nat.le_of_ble_eq_true rfl), (Nat.le_of_ble_eq_true rfl)⟩, ⟨(Nat.le_of_ble_eq_true rfl), (Nat.le_of_ble_eq_true rfl)⟩, (Nat.le_of_ble_eq_true rfl)⟩ hX.x rfl dX4_leastCut_96 (fun v96 M96 q96 => ?_)
                    obtain ⟨rfl, e96⟩ := q96
                    replace e96 := e96.symm
                    subst e96
                    refine v_astore F dX4_leastCut_99 rfl (Nat.le_of_ble_eq_true rfl) (ok2_d rfl) ?_
                    refine v_aload F dX4_leastCut_101 rfl rfl ?_
                    refine v_ifnull_n F 136 dX4_leastCut_103 (by decide) ?_
                    refine v_iinc1 F dX4_leastCut_136 rfl (ok2_d rfl) ?_
                    refine v_goto F 83 dX4_leastCut_139 (by decide) ?_
                    exact ih (by omega) _ _ _ (by simp only [lcp, fl_s]; rw [← lcp, ← hm]; simp only [hb, Bool.false_eq_true, false_and, true_and, if_false, ↓reduceIte]; try (split <;> first | rfl | (exfalso; omega)))
                  · refine v_aload_n F dX4_leastCut_92 rfl rfl ?_
                    refine v_iload_n F dX4_leastCut_93 rfl ?_
                    refine v_iload F dX4_leastCut_94 rfl ?_
                    refine v_callV F 2 [_, _] rfl rfl rfl (c_boxOfSet_in hX hB hs hi2 hb) gX4_leastCut_X4_boxOfSet rfl hd_X4_boxOfSet ⟨⟨rfl, rfl⟩, ⟨(Nat.le_of_ble_eq_true rfl), (Nat.le_of_ble_eq_true rfl)⟩, ⟨(Nat.le_of_ble_eq_true rfl), (Nat.le_of_ble_eq_true rfl)⟩, (Nat.le_of_ble_eq_true rfl)⟩ hX.x rfl dX4_leastCut_96 (fun v96 M96 q96 => ?_)
                    obtain ⟨rfl, e96⟩ := q96
                    replace e96 := e96.symm
                    subst e96
                    refine v_astore F dX4_leastCut_99 rfl (Nat.le_of_ble_eq_true rfl) (ok2_d rfl) ?_
                    refine v_aload F dX4_leastCut_101 rfl rfl ?_
                    refine v_ifnull_r F dX4_leastCut_103 ?_
                    refine v_aload F dX4_leastCut_106 rfl rfl ?_
                    refine v_iload_n F dX4_leastCut_108 rfl ?_
                    refine v_callV F 1 [_] rfl rfl rfl (c_X1_begin hW (hX.box hi2)) gX4_leastCut_X1_begin rfl hd_X1_begin ⟨⟨rfl, rfl⟩, ⟨(Nat.le_of_ble_eq_true rfl), (Nat.le_of_ble_eq_true rfl)⟩, ⟨(Nat.le_of_ble_eq_true rfl), (Nat.le_of_ble_eq_true rfl)⟩, (Nat.le_of_ble_eq_true rfl)⟩ (hX.box hi2) rfl dX4_leastCut_109 (fun v109 M109 q109 => ?_)
                    obtain ⟨rfl, e109⟩ := q109
                    replace e109 := e109.symm
                    subst e109
                    rw [show B i (if ac = true then 2 else 1) = Gb B ac i from rfl]
                    refine v_iload_n F dX4_leastCut_112 rfl ?_
                    refine v_icmp_ge_n F 136 dX4_leastCut_113 (by decide) (by first | omega | exact Nat.lt_trans (hW _ _) (by decide) | exact Nat.lt_trans (Eb_lt hW ac _) (by decide) | exact Nat.lt_trans (Gb_lt hW ac _) (by decide)) (by first | omega | exact Nat.lt_trans (hW _ _) (by decide) | exact Nat.lt_trans (Eb_lt hW ac _) (by decide) | exact Nat.lt_trans (Gb_lt hW ac _) (by decide)) (fun c113 => ?_) (fun c113 => ?_)
                    · refine v_iinc1 F dX4_leastCut_136 rfl (ok2_d rfl) ?_
                      refine v_goto F 83 dX4_leastCut_139 (by decide) ?_
                      exact ih (by omega) _ _ _ (by simp only [lcp, fl_s]; rw [← lcp, ← hm]; simp only [hb, Bool.false_eq_true, false_and, true_and, if_false, ↓reduceIte]; try (split <;> first | rfl | (exfalso; omega)))
                    · refine v_aload F dX4_leastCut_116 rfl rfl ?_
                      refine v_iload_n F dX4_leastCut_118 rfl ?_
                      refine v_callV F 1 [_] rfl rfl rfl (c_X1_end hW (hX.box hi2)) gX4_leastCut_X1_end rfl hd_X1_end ⟨⟨rfl, rfl⟩, ⟨(Nat.le_of_ble_eq_true rfl), (Nat.le_of_ble_eq_true rfl)⟩, ⟨(Nat.le_of_ble_eq_true rfl), (Nat.le_of_ble_eq_true rfl)⟩, (Nat.le_of_ble_eq_true rfl)⟩ (hX.box hi2) rfl dX4_leastCut_119 (fun v119 M119 q119 => ?_)
                      obtain ⟨rfl, e119⟩ := q119
                      replace e119 := e119.symm
                      subst e119
                      rw [show (if ac = true then B i 2 + B i 4 else B i 1 + B i 3) = Eb B ac i from rfl]
                      refine v_iload_n F dX4_leastCut_122 rfl ?_
                      refine v_icmp_le_n F 136 dX4_leastCut_123 (by decide) (by first | omega | exact Nat.lt_trans (hW _ _) (by decide) | exact Nat.lt_trans (Eb_lt hW ac _) (by decide) | exact Nat.lt_trans (Gb_lt hW ac _) (by decide)) (by first | omega | exact Nat.lt_trans (hW _ _) (by decide) | exact Nat.lt_trans (Eb_lt hW ac _) (by decide) | exact Nat.lt_trans (Gb_lt hW ac _) (by decide)) (fun c123 => ?_) (fun c123 => ?_)
                      · refine v_iinc1 F dX4_leastCut_136 rfl (ok2_d rfl) ?_
                        refine v_goto F 83 dX4_leastCut_139 (by decide) ?_
                        exact ih (by omega) _ _ _ (by simp only [lcp, fl_s]; rw [← lcp, ← hm]; simp only [hb, Bool.false_eq_true, false_and, true_and, if_false, ↓reduceIte]; try (split <;> first | rfl | (exfalso; omega)))
                      · refine v_aload F dX4_leastCut_126 rfl rfl ?_
                        refine v_iload_n F dX4_leastCut_128 rfl ?_
                        refine v_callV F 1 [_] rfl rfl rfl (c_X1_end hW (hX.box hi2)) gX4_leastCut_X1_end rfl hd_X1_end ⟨⟨rfl, rfl⟩, ⟨(Nat.le_of_ble_eq_true rfl), (Nat.le_of_ble_eq_true rfl)⟩, ⟨(Nat.le_of_ble_eq_true rfl), (Nat.le_of_ble_eq_true rfl)⟩, (Nat.le_of_ble_eq_true rfl)⟩ (hX.box hi2) rfl dX4_leastCut_129 (fun v129 M129 q129 => ?_)
                        obtain ⟨rfl, e129⟩ := q129
                        replace e129 := e129.symm
                        subst e129
                        rw [show (if ac = true then B i 2 + B i 4 else B i 1 + B i 3) = Eb B ac i from rfl]
                        refine v_istore_n F dX4_leastCut_132 (Nat.le_of_ble_eq_true rfl) (ok2_d rfl) ?_
                        refine v_iconst (v := nI 1) F dX4_leastCut_133 (by decide) ?_
                        refine v_istore F dX4_leastCut_134 (Nat.le_of_ble_eq_true rfl) (ok2_d rfl) ?_
                        refine v_iinc1 F dX4_leastCut_136 rfl (ok2_d rfl) ?_
                        refine v_goto F 83 dX4_leastCut_139 (by decide) ?_
                        exact ih (by omega) _ _ _ (by simp only [lcp, fl_s]; rw [← lcp, ← hm]; simp only [hb, Bool.false_eq_true, false_and, true_and, if_false, ↓reduceIte]; try (split <;> first | rfl | (exfalso; omega)))
              exact lp3 0 (Nat.zero_le _) _ _ _ rfl
        exact lp2 0 (Nat.zero_le _) _ _ _ _ hc (by decide) (by rw [hm, show i = n by omega]; rfl)
      · have hi2 : i < n := by omega
        rcases hb : s.testBit i with _ | _
        · refine v_aload_n F dX4_leastCut_24 rfl rfl ?_
          refine v_iload_n F dX4_leastCut_25 rfl ?_
          refine v_iload F dX4_leastCut_26 rfl ?_
          refine v_callV F 2 [_, _] rfl rfl rfl (c_boxOfSet_out hX hB hs hi2 hb) gX4_leastCut_X4_boxOfSet rfl hd_X4_boxOfSet ⟨⟨rfl, rfl⟩, ⟨(Nat.le_of_ble_eq_true rfl), (Nat.le_of_ble_eq_true rfl)⟩, ⟨(Nat.le_of_ble_eq_true rfl), (Nat.le_of_ble_eq_true rfl)⟩, (Nat.le_of_ble_eq_true rfl)⟩ hX.x rfl dX4_leastCut_28 (fun v28 M28 q28 => ?_)
          obtain ⟨rfl, e28⟩ := q28
          replace e28 := e28.symm
          subst e28
          refine v_astore F dX4_leastCut_31 rfl (Nat.le_of_ble_eq_true rfl) (ok2_d rfl) ?_
          refine v_aload F dX4_leastCut_33 rfl rfl ?_
          refine v_ifnull_n F 51 dX4_leastCut_35 (by decide) ?_
          refine v_iload_n F dX4_leastCut_51 rfl ?_
          refine v_istore_n F dX4_leastCut_52 (Nat.le_of_ble_eq_true rfl) (ok2_d rfl) ?_
          refine v_iinc1 F dX4_leastCut_53 rfl (ok2_d rfl) ?_
          refine v_goto F 15 dX4_leastCut_56 (by decide) ?_
          exact ih (by omega) _ _ (by simp only [lc1, fl_s]; rw [← lc1, ← hm]; simp [hb])
        · refine v_aload_n F dX4_leastCut_24 rfl rfl ?_
          refine v_iload_n F dX4_leastCut_25 rfl ?_
          refine v_iload F dX4_leastCut_26 rfl ?_
          refine v_callV F 2 [_, _] rfl rfl rfl (c_boxOfSet_in hX hB hs hi2 hb) gX4_leastCut_X4_boxOfSet rfl hd_X4_boxOfSet ⟨⟨rfl, rfl⟩, ⟨(Nat.le_of_ble_eq_true rfl), (Nat.le_of_ble_eq_true rfl)⟩, ⟨(Nat.le_of_ble_eq_true rfl), (Nat.le_of_ble_eq_true rfl)⟩, (Nat.le_of_ble_eq_true rfl)⟩ hX.x rfl dX4_leastCut_28 (fun v28 M28 q28 => ?_)
          obtain ⟨rfl, e28⟩ := q28
          replace e28 := e28.symm
          subst e28
          refine v_astore F dX4_leastCut_31 rfl (Nat.le_of_ble_eq_true rfl) (ok2_d rfl) ?_
          refine v_aload F dX4_leastCut_33 rfl rfl ?_
          refine v_ifnull_r F dX4_leastCut_35 ?_
          refine v_iload_n F dX4_leastCut_38 rfl ?_
          refine v_aload F dX4_leastCut_39 rfl rfl ?_
          refine v_iload_n F dX4_leastCut_41 rfl ?_
          refine v_callV F 1 [_] rfl rfl rfl (c_X1_end hW (hX.box hi2)) gX4_leastCut_X1_end rfl hd_X1_end ⟨⟨rfl, rfl⟩, ⟨(Nat.le_of_ble_eq_true rfl), (Nat.le_of_ble_eq_true rfl)⟩, ⟨(Nat.le_of_ble_eq_true rfl), (Nat.le_of_ble_eq_true rfl)⟩, (Nat.le_of_ble_eq_true rfl)⟩ (hX.box hi2) rfl dX4_leastCut_42 (fun v42 M42 q42 => ?_)
          obtain ⟨rfl, e42⟩ := q42
          replace e42 := e42.symm
          subst e42
          rw [show (if ac = true then B i 2 + B i 4 else B i 1 + B i 3) = Eb B ac i from rfl]
          refine v_mmin_n F (by omega) (Nat.lt_trans (Eb_lt hW ac _) (by decide)) rfl (by decide +kernel) (by decide +kernel) (by decide +kernel) (by decide +kernel) dX4_leastCut_45 ⟨Nat.le_of_ble_eq_true rfl, Nat.le_of_ble_eq_true rfl, Nat.le_of_ble_eq_true rfl, Nat.le_of_ble_eq_true rfl⟩ ?_
          refine v_goto F 52 dX4_leastCut_48 (by decide) ?_
          refine v_istore_n F dX4_leastCut_52 (Nat.le_of_ble_eq_true rfl) (ok2_d rfl) ?_
          refine v_iinc1 F dX4_leastCut_53 rfl (ok2_d rfl) ?_
          refine v_goto F 15 dX4_leastCut_56 (by decide) ?_
          exact ih (by omega) _ _ (by simp only [lc1, fl_s]; rw [← lc1, ← hm]; simp [hb])
    exact lp1 0 (Nat.zero_le _) _ _ rfl
def rmX4_cutOff : Room := { frames := 2, cells := 0, slots := 0, locals := 57 }
theorem hd_X4_cutOff : yX4_cutOff.cls = (RX4, TX4, 7).1 ∧ yX4_cutOff.cls ≠ "java/lang/invoke/MethodHandle" ∧ yX4_cutOff.cls ≠ "java/lang/invoke/VarHandle" ∧ (parseMethodDescriptor yX4_cutOff.desc).map (fun d => d.parameters.length) = some 1 := by decide +kernel
set_option maxHeartbeats 4000000 in
set_option maxRecDepth 100000 in
theorem c_cuo {l : Launch} {ω : Om} {M : MM} {A B P : FF} {n k : Nat} {R : Nat → (Nat → Int32) × Nat} (hX : XI ω A B P n k R M) (hB : WB B n) {s : Nat} (hs : s < 2 ^ 24) : Ct l ω yX4_cutOff wsX4_cutOff rmX4_cutOff [.ref (A 0 0), .int (nI s)] M (fun v M9 => v = some (.int (nI (cuo B n s))) ∧ M9 = M) 0 0 := by
  refine Ct.ofV (cc := cX4_cutOff) (maxL := 4) (ret := (some .int)) [some (.ref (A 0 0)), some (.int (nI s)), none, none] (by decide) rfl (Nat.le_of_ble_eq_true rfl) rfl (Lc.av (av := [.ref (A 0 0), .int (nI s)]) (k := 2) rfl) ?_
  intro σ F hl hr hname
  have F : Fx ω σ cX4_cutOff 4 wsX4_cutOff RX4 rmX4_cutOff := F
  have hn : n ≤ 24 := hB.1
  have hW : ∀ i j, B i j < 128 := hB.2.1
  refine v_aload_n F dX4_cutOff_0 rfl rfl ?_
  refine v_aload_n F dX4_cutOff_1 rfl rfl ?_
  refine v_iload_n F dX4_cutOff_2 rfl ?_
  refine v_iconst (v := nI 1) F dX4_cutOff_3 (by decide) ?_
  refine v_callV F 2 [_, _] rfl rfl rfl (c_lcut (ac := true) hX hB hs) gX4_cutOff_X4_leastCut rfl hd_X4_leastCut ⟨⟨rfl, rfl⟩, ⟨(Nat.le_of_ble_eq_true rfl), (Nat.le_of_ble_eq_true rfl)⟩, ⟨(Nat.le_of_ble_eq_true rfl), (Nat.le_of_ble_eq_true rfl)⟩, (Nat.le_of_ble_eq_true rfl)⟩ hX.x rfl dX4_cutOff_4 (fun v4 M4 q4 => ?_)
  obtain ⟨rfl, e4⟩ := q4
  replace e4 := e4.symm
  subst e4
  refine v_iload_n F dX4_cutOff_7 rfl ?_
  refine v_iconst (v := nI 1) F dX4_cutOff_8 (by decide) ?_
  refine v_callV F 3 [_, _, _] rfl rfl rfl (c_enb (ac := true) hX hB (lcut_lt hW n s true) hs) gX4_cutOff_X4_endedBy rfl hd_X4_endedBy ⟨⟨rfl, rfl⟩, ⟨(Nat.le_of_ble_eq_true rfl), (Nat.le_of_ble_eq_true rfl)⟩, ⟨(Nat.le_of_ble_eq_true rfl), (Nat.le_of_ble_eq_true rfl)⟩, (Nat.le_of_ble_eq_true rfl)⟩ hX.x rfl dX4_cutOff_9 (fun v9 M9 q9 => ?_)
  obtain ⟨rfl, e9⟩ := q9
  replace e9 := e9.symm
  subst e9
  refine v_istore_n F dX4_cutOff_12 (Nat.le_of_ble_eq_true rfl) (ok2_d rfl) ?_
  refine v_iload_n F dX4_cutOff_13 rfl ?_
  refine v_iload_n F dX4_cutOff_14 rfl ?_
  refine v_icmp_eq_n F 20 dX4_cutOff_15 (by decide) (by first | omega | exact Nat.lt_trans (enb_lt _ _ _ _ n hn) (by decide)) (by first | omega | exact Nat.lt_trans (enb_lt _ _ _ _ n hn) (by decide)) (fun c15 => ?_) (fun c15 => ?_)
  · refine v_aload_n F dX4_cutOff_20 rfl rfl ?_
    refine v_aload_n F dX4_cutOff_21 rfl rfl ?_
    refine v_iload_n F dX4_cutOff_22 rfl ?_
    refine v_iconst (v := nI 0) F dX4_cutOff_23 (by decide) ?_
    refine v_callV F 2 [_, _] rfl rfl rfl (c_lcut (ac := false) hX hB hs) gX4_cutOff_X4_leastCut rfl hd_X4_leastCut ⟨⟨rfl, rfl⟩, ⟨(Nat.le_of_ble_eq_true rfl), (Nat.le_of_ble_eq_true rfl)⟩, ⟨(Nat.le_of_ble_eq_true rfl), (Nat.le_of_ble_eq_true rfl)⟩, (Nat.le_of_ble_eq_true rfl)⟩ hX.x rfl dX4_cutOff_24 (fun v24 M24 q24 => ?_)
    obtain ⟨rfl, e24⟩ := q24
    replace e24 := e24.symm
    subst e24
    refine v_iload_n F dX4_cutOff_27 rfl ?_
    refine v_iconst (v := nI 0) F dX4_cutOff_28 (by decide) ?_
    refine v_callV F 3 [_, _, _] rfl rfl rfl (c_enb (ac := false) hX hB (lcut_lt hW n s false) hs) gX4_cutOff_X4_endedBy rfl hd_X4_endedBy ⟨⟨rfl, rfl⟩, ⟨(Nat.le_of_ble_eq_true rfl), (Nat.le_of_ble_eq_true rfl)⟩, ⟨(Nat.le_of_ble_eq_true rfl), (Nat.le_of_ble_eq_true rfl)⟩, (Nat.le_of_ble_eq_true rfl)⟩ hX.x rfl dX4_cutOff_29 (fun v29 M29 q29 => ?_)
    obtain ⟨rfl, e29⟩ := q29
    replace e29 := e29.symm
    subst e29
    refine v_istore_n F dX4_cutOff_32 (Nat.le_of_ble_eq_true rfl) (ok2_d rfl) ?_
    refine v_iload_n F dX4_cutOff_33 rfl ?_
    refine v_iload_n F dX4_cutOff_34 rfl ?_
    refine v_icmp_eq_n F 42 dX4_cutOff_35 (by decide) (by first | omega | exact Nat.lt_trans (enb_lt _ _ _ _ n hn) (by decide)) (by first | omega | exact Nat.lt_trans (enb_lt _ _ _ _ n hn) (by decide)) (fun c35 => ?_) (fun c35 => ?_)
    · refine v_iconst (v := nI 0) F dX4_cutOff_42 (by decide) ?_
      exact v_iret F hr dX4_cutOff_43 (Nat.le_of_ble_eq_true rfl) (Nat.le_of_ble_eq_true rfl) ⟨by simp only [cuo]; simp [*], rfl⟩
    · refine v_iload_n F dX4_cutOff_38 rfl ?_
      refine v_goto F 43 dX4_cutOff_39 (by decide) ?_
      exact v_iret F hr dX4_cutOff_43 (Nat.le_of_ble_eq_true rfl) (Nat.le_of_ble_eq_true rfl) ⟨by simp only [cuo]; simp [*], rfl⟩
  · refine v_iload_n F dX4_cutOff_18 rfl ?_
    exact v_iret F hr dX4_cutOff_19 (Nat.le_of_ble_eq_true rfl) (Nat.le_of_ble_eq_true rfl) ⟨by simp only [cuo]; simp [*], rfl⟩
def rmX4_firstByEdges : Room := { frames := 1, cells := 0, slots := 0, locals := 23 }
theorem hd_X4_firstByEdges : yX4_firstByEdges.cls = (RX4, TX4, 7).1 ∧ yX4_firstByEdges.cls ≠ "java/lang/invoke/MethodHandle" ∧ yX4_firstByEdges.cls ≠ "java/lang/invoke/VarHandle" ∧ (parseMethodDescriptor yX4_firstByEdges.desc).map (fun d => d.parameters.length) = some 1 := by decide +kernel
theorem fo_X4_firstByEdges_15 : FO wsX4_firstByEdges RX4 15 4 1 := ⟨_, _, _, rfl, by decide, by decide +kernel, by decide +kernel⟩
set_option maxHeartbeats 4000000 in
set_option maxRecDepth 100000 in
theorem c_fbe {l : Launch} {ω : Om} {M : MM} {A B P : FF} {n k : Nat} {R : Nat → (Nat → Int32) × Nat} (hX : XI ω A B P n k R M) (hB : WB B n) {s : Nat} (hs : s < 2 ^ 24) : Ct l ω yX4_firstByEdges wsX4_firstByEdges rmX4_firstByEdges [.ref (A 0 0), .int (nI s)] M (fun v M9 => v = some (va_rf (oA A (fbe B s n))) ∧ M9 = M) 0 0 := by
  refine Ct.ofV (cc := cX4_firstByEdges) (maxL := 5) (ret := (some (.object "Readingorder$Box"))) [some (.ref (A 0 0)), some (.int (nI s)), none, none, none] (by decide) rfl (Nat.le_of_ble_eq_true rfl) rfl (Lc.av (av := [.ref (A 0 0), .int (nI s)]) (k := 3) rfl) ?_
  intro σ F hl hr hname
  have F : Fx ω σ cX4_firstByEdges 5 wsX4_firstByEdges RX4 rmX4_firstByEdges := F
  have hn : n ≤ 24 := hB.1
  have hW : ∀ i j, B i j < 128 := hB.2.1
  refine v_null F dX4_firstByEdges_0 ?_
  refine v_astore_n F dX4_firstByEdges_1 rfl (Nat.le_of_ble_eq_true rfl) (ok2_d rfl) ?_
  refine v_iconst (v := nI 0) F dX4_firstByEdges_2 (by decide) ?_
  refine v_istore_n F dX4_firstByEdges_3 (Nat.le_of_ble_eq_true rfl) (ok2_d rfl) ?_
  have lp : ∀ i, i ≤ n → ∀ f w, f = fbe B s i → f ≤ n → V ω σ M [some (.ref (A 0 0)), some (.int (nI s)), some (va_rf (oA A f)), some (.int (nI i)), w] 0 0 (BQ ω σ (fun v M9 => v = some (va_rf (oA A (fbe B s n))) ∧ M9 = M) 0 0) 4 [] := by
    refine loop_up n _ (fun i hi ih => ?_)
    intro f w hm hf
    rcases f with _ | y
    · have hy : True := trivial
      refine v_iload_n F dX4_firstByEdges_4 rfl ?_
      refine v_aload_n F dX4_firstByEdges_5 rfl rfl ?_
      refine v_get F 4 1 fo_X4_firstByEdges_15 dX4_firstByEdges_6 hX.x rfl ?_
      refine v_icmp_ge_n F 47 dX4_firstByEdges_9 (by decide) (by first | omega | exact Nat.lt_trans (hW _ _) (by decide)) (by first | omega | exact Nat.lt_trans (hW _ _) (by decide)) (fun c9 => ?_) (fun c9 => ?_)
      · refine v_aload_n F dX4_firstByEdges_47 rfl rfl ?_
        exact v_aret F hr dX4_firstByEdges_48 rfl (Nat.le_of_ble_eq_true rfl) (Nat.le_of_ble_eq_true rfl) ⟨by rw [← show i = n by omega, ← hm], rfl⟩
      · have hi2 : i < n := by omega
        rcases hb : s.testBit i with _ | _
        · refine v_aload_n F dX4_firstByEdges_12 rfl rfl ?_
          refine v_iload_n F dX4_firstByEdges_13 rfl ?_
          refine v_iload_n F dX4_firstByEdges_14 rfl ?_
          refine v_callV F 2 [_, _] rfl rfl rfl (c_boxOfSet_out hX hB hs hi2 hb) gX4_firstByEdges_X4_boxOfSet rfl hd_X4_boxOfSet ⟨⟨rfl, rfl⟩, ⟨(Nat.le_of_ble_eq_true rfl), (Nat.le_of_ble_eq_true rfl)⟩, ⟨(Nat.le_of_ble_eq_true rfl), (Nat.le_of_ble_eq_true rfl)⟩, (Nat.le_of_ble_eq_true rfl)⟩ hX.x rfl dX4_firstByEdges_15 (fun v15 M15 q15 => ?_)
          obtain ⟨rfl, e15⟩ := q15
          replace e15 := e15.symm
          subst e15
          refine v_astore F dX4_firstByEdges_18 rfl (Nat.le_of_ble_eq_true rfl) (ok2_d rfl) ?_
          refine v_aload F dX4_firstByEdges_20 rfl rfl ?_
          refine v_ifnull_n F 41 dX4_firstByEdges_22 (by decide) ?_
          refine v_iinc1 F dX4_firstByEdges_41 rfl (ok2_d rfl) ?_
          refine v_goto F 4 dX4_firstByEdges_44 (by decide) ?_
          first | exact ih (by omega) 0 _ (by simp only [fbe, fl_s]; rw [← fbe, ← hm]; clear hm ih; simp [*]) (by omega) | exact ih (by omega) (i + 1) _ (by simp only [fbe, fl_s]; rw [← fbe, ← hm]; clear hm ih; simp [*]) (by omega) | exact ih (by omega) (y + 1) _ (by simp only [fbe, fl_s]; rw [← fbe, ← hm]; clear hm ih; simp [*]) (by omega)
        · refine v_aload_n F dX4_firstByEdges_12 rfl rfl ?_
          refine v_iload_n F dX4_firstByEdges_13 rfl ?_
          refine v_iload_n F dX4_firstByEdges_14 rfl ?_
          refine v_callV F 2 [_, _] rfl rfl rfl (c_boxOfSet_in hX hB hs hi2 hb) gX4_firstByEdges_X4_boxOfSet rfl hd_X4_boxOfSet ⟨⟨rfl, rfl⟩, ⟨(Nat.le_of_ble_eq_true rfl), (Nat.le_of_ble_eq_true rfl)⟩, ⟨(Nat.le_of_ble_eq_true rfl), (Nat.le_of_ble_eq_true rfl)⟩, (Nat.le_of_ble_eq_true rfl)⟩ hX.x rfl dX4_firstByEdges_15 (fun v15 M15 q15 => ?_)
          obtain ⟨rfl, e15⟩ := q15
          replace e15 := e15.symm
          subst e15
          refine v_astore F dX4_firstByEdges_18 rfl (Nat.le_of_ble_eq_true rfl) (ok2_d rfl) ?_
          refine v_aload F dX4_firstByEdges_20 rfl rfl ?_
          refine v_ifnull_r F dX4_firstByEdges_22 ?_
          refine v_aload_n F dX4_firstByEdges_25 rfl rfl ?_
          refine v_ifnull_n F 38 dX4_firstByEdges_26 (by decide) ?_
          refine v_aload F dX4_firstByEdges_38 rfl rfl ?_
          refine v_astore_n F dX4_firstByEdges_40 rfl (Nat.le_of_ble_eq_true rfl) (ok2_d rfl) ?_
          refine v_iinc1 F dX4_firstByEdges_41 rfl (ok2_d rfl) ?_
          refine v_goto F 4 dX4_firstByEdges_44 (by decide) ?_
          first | exact ih (by omega) 0 _ (by simp only [fbe, fl_s]; rw [← fbe, ← hm]; clear hm ih; simp [*]) (by omega) | exact ih (by omega) (i + 1) _ (by simp only [fbe, fl_s]; rw [← fbe, ← hm]; clear hm ih; simp [*]) (by omega) | exact ih (by omega) (y + 1) _ (by simp only [fbe, fl_s]; rw [← fbe, ← hm]; clear hm ih; simp [*]) (by omega)
    · have hy : y < n := by omega
      refine v_iload_n F dX4_firstByEdges_4 rfl ?_
      refine v_aload_n F dX4_firstByEdges_5 rfl rfl ?_
      refine v_get F 4 1 fo_X4_firstByEdges_15 dX4_firstByEdges_6 hX.x rfl ?_
      refine v_icmp_ge_n F 47 dX4_firstByEdges_9 (by decide) (by first | omega | exact Nat.lt_trans (hW _ _) (by decide)) (by first | omega | exact Nat.lt_trans (hW _ _) (by decide)) (fun c9 => ?_) (fun c9 => ?_)
      · refine v_aload_n F dX4_firstByEdges_47 rfl rfl ?_
        exact v_aret F hr dX4_firstByEdges_48 rfl (Nat.le_of_ble_eq_true rfl) (Nat.le_of_ble_eq_true rfl) ⟨by rw [← show i = n by omega, ← hm], rfl⟩
      · have hi2 : i < n := by omega
        rcases hb : s.testBit i with _ | _
        · refine v_aload_n F dX4_firstByEdges_12 rfl rfl ?_
          refine v_iload_n F dX4_firstByEdges_13 rfl ?_
          refine v_iload_n F dX4_firstByEdges_14 rfl ?_
          refine v_callV F 2 [_, _] rfl rfl rfl (c_boxOfSet_out hX hB hs hi2 hb) gX4_firstByEdges_X4_boxOfSet rfl hd_X4_boxOfSet ⟨⟨rfl, rfl⟩, ⟨(Nat.le_of_ble_eq_true rfl), (Nat.le_of_ble_eq_true rfl)⟩, ⟨(Nat.le_of_ble_eq_true rfl), (Nat.le_of_ble_eq_true rfl)⟩, (Nat.le_of_ble_eq_true rfl)⟩ hX.x rfl dX4_firstByEdges_15 (fun v15 M15 q15 => ?_)
          obtain ⟨rfl, e15⟩ := q15
          replace e15 := e15.symm
          subst e15
          refine v_astore F dX4_firstByEdges_18 rfl (Nat.le_of_ble_eq_true rfl) (ok2_d rfl) ?_
          refine v_aload F dX4_firstByEdges_20 rfl rfl ?_
          refine v_ifnull_n F 41 dX4_firstByEdges_22 (by decide) ?_
          refine v_iinc1 F dX4_firstByEdges_41 rfl (ok2_d rfl) ?_
          refine v_goto F 4 dX4_firstByEdges_44 (by decide) ?_
          first | exact ih (by omega) 0 _ (by simp only [fbe, fl_s]; rw [← fbe, ← hm]; clear hm ih; simp [*]) (by omega) | exact ih (by omega) (i + 1) _ (by simp only [fbe, fl_s]; rw [← fbe, ← hm]; clear hm ih; simp [*]) (by omega) | exact ih (by omega) (y + 1) _ (by simp only [fbe, fl_s]; rw [← fbe, ← hm]; clear hm ih; simp [*]) (by omega)
        · refine v_aload_n F dX4_firstByEdges_12 rfl rfl ?_
          refine v_iload_n F dX4_firstByEdges_13 rfl ?_
          refine v_iload_n F dX4_firstByEdges_14 rfl ?_
          refine v_callV F 2 [_, _] rfl rfl rfl (c_boxOfSet_in hX hB hs hi2 hb) gX4_firstByEdges_X4_boxOfSet rfl hd_X4_boxOfSet ⟨⟨rfl, rfl⟩, ⟨(Nat.le_of_ble_eq_true rfl), (Nat.le_of_ble_eq_true rfl)⟩, ⟨(Nat.le_of_ble_eq_true rfl), (Nat.le_of_ble_eq_true rfl)⟩, (Nat.le_of_ble_eq_true rfl)⟩ hX.x rfl dX4_firstByEdges_15 (fun v15 M15 q15 => ?_)
          obtain ⟨rfl, e15⟩ := q15
          replace e15 := e15.symm
          subst e15
          refine v_astore F dX4_firstByEdges_18 rfl (Nat.le_of_ble_eq_true rfl) (ok2_d rfl) ?_
          refine v_aload F dX4_firstByEdges_20 rfl rfl ?_
          refine v_ifnull_r F dX4_firstByEdges_22 ?_
          refine v_aload_n F dX4_firstByEdges_25 rfl rfl ?_
          refine v_ifnull_r F dX4_firstByEdges_26 ?_
          refine v_aload F dX4_firstByEdges_29 rfl rfl ?_
          refine v_aload_n F dX4_firstByEdges_31 rfl rfl ?_
          refine v_callV F 1 [_] rfl rfl rfl (c_X1_isAheadByEdges hW (hX.box hi2) (hX.box hy) (by omega) (by omega)) gX4_firstByEdges_X1_isAheadByEdges rfl hd_X1_isAheadByEdges ⟨⟨rfl, rfl⟩, ⟨(Nat.le_of_ble_eq_true rfl), (Nat.le_of_ble_eq_true rfl)⟩, ⟨(Nat.le_of_ble_eq_true rfl), (Nat.le_of_ble_eq_true rfl)⟩, (Nat.le_of_ble_eq_true rfl)⟩ (hX.box hi2) rfl dX4_firstByEdges_32 (fun v32 M32 q32 => ?_)
          obtain ⟨rfl, e32⟩ := q32
          replace e32 := e32.symm
          subst e32
          refine v_if_eq_b F 41 dX4_firstByEdges_35 (by decide) (fun c35 => ?_) (fun c35 => ?_)
          · refine v_iinc1 F dX4_firstByEdges_41 rfl (ok2_d rfl) ?_
            refine v_goto F 4 dX4_firstByEdges_44 (by decide) ?_
            first | exact ih (by omega) 0 _ (by simp only [fbe, fl_s]; rw [← fbe, ← hm]; clear hm ih; simp [*]) (by omega) | exact ih (by omega) (i + 1) _ (by simp only [fbe, fl_s]; rw [← fbe, ← hm]; clear hm ih; simp [*]) (by omega) | exact ih (by omega) (y + 1) _ (by simp only [fbe, fl_s]; rw [← fbe, ← hm]; clear hm ih; simp [*]) (by omega)
          · refine v_aload F dX4_firstByEdges_38 rfl rfl ?_
            refine v_astore_n F dX4_firstByEdges_40 rfl (Nat.le_of_ble_eq_true rfl) (ok2_d rfl) ?_
            refine v_iinc1 F dX4_firstByEdges_41 rfl (ok2_d rfl) ?_
            refine v_goto F 4 dX4_firstByEdges_44 (by decide) ?_
            first | exact ih (by omega) 0 _ (by simp only [fbe, fl_s]; rw [← fbe, ← hm]; clear hm ih; simp [*]) (by omega) | exact ih (by omega) (i + 1) _ (by simp only [fbe, fl_s]; rw [← fbe, ← hm]; clear hm ih; simp [*]) (by omega) | exact ih (by omega) (y + 1) _ (by simp only [fbe, fl_s]; rw [← fbe, ← hm]; clear hm ih; simp [*]) (by omega)
  exact lp 0 (Nat.zero_le _) 0 _ rfl (Nat.zero_le _)
