/-! the rows over numbers that are known to be small and not negative -/
def bI (b : Bool) : Int32 := if b then 1 else 0
theorem bI_t : bI true = 1 := rfl
theorem bI_f : bI false = 0 := rfl
theorem bI_0 {b : Bool} : bI b = 0 ↔ b = false := by cases b <;> decide
theorem bI_n {b : Bool} : narrow .boolean (.int (bI b)) = .int (bI b) := by cases b <;> rfl
theorem bI_fit {b : Bool} : fits .boolean (.int (bI b)) = true := by cases b <;> rfl
def nd (s f : Nat) : Nat := s ^^^ (s &&& f)
theorem nd_tb (s f i : Nat) : (nd s f).testBit i = (s.testBit i && !f.testBit i) := by
  unfold nd
  rw [Nat.testBit_xor, Nat.testBit_and]
  cases s.testBit i <;> cases f.testBit i <;> rfl
theorem nI_bv (n : Nat) : (nI n).toBitVec = BitVec.ofNat 32 n := rfl
theorem nI_or (a b : Nat) : nI a ||| nI b = nI (a ||| b) := by
  apply Int32.toBitVec_inj.mp
  apply BitVec.eq_of_getLsbD_eq
  intro i hi
  simp [nI_bv, Nat.testBit_or]
theorem nI_and (a b : Nat) : nI a &&& nI b = nI (a &&& b) := by
  apply Int32.toBitVec_inj.mp
  apply BitVec.eq_of_getLsbD_eq
  intro i hi
  simp [nI_bv, Nat.testBit_and]
theorem nI_nd (s f : Nat) : nI s &&& (nI f ^^^ (-1)) = nI (nd s f) := by
  apply Int32.toBitVec_inj.mp
  apply BitVec.eq_of_getLsbD_eq
  intro i hi
  have h1 : ((-1 : Int32)).toBitVec = BitVec.allOnes 32 := by decide
  have e : ∀ n : Nat, (BitVec.ofNat 32 n)[i] = n.testBit i := fun n => by simp [← BitVec.getLsbD_eq_getElem, BitVec.getLsbD_ofNat, hi]
  simp [nI_bv, h1, hi]
  rw [e, e, e, nd_tb]
theorem nI_shl1 : ∀ j, j < 31 → (nI 1 <<< (nI j &&& 31)) = nI (2 ^ j) := by decide +kernel
theorem nI_s31 : ∀ j, j < 31 → ((nI j &&& 31).toBitVec.smod 32).toNat = j := by decide +kernel
theorem nI_shr {s j : Nat} (hs : s < 2 ^ 31) (hj : j < 31) : (nI s >>> (nI j &&& 31)) = nI (s / 2 ^ j) := pk_shrN hs _ j (nI_s31 j hj)
theorem tb_div (s j : Nat) : ((s / 2 ^ j) &&& 1) = if s.testBit j then 1 else 0 := by
  rw [Nat.testBit_eq_decide_div_mod_eq, Nat.and_one_is_mod]
  have h : s / 2 ^ j % 2 < 2 := Nat.mod_lt _ (by decide)
  by_cases h1 : s / 2 ^ j % 2 = 1
  · simp [h1]
  · have h0 : s / 2 ^ j % 2 = 0 := by omega
    simp [h0]
theorem v_iadd_n {ω : Om} {σ : Sg} {cc : ByteArray} {nL : Nat} {Ts : List Cond} {own : String} {rm : Room} {M : MM} {L : List (Option Value)} {kc ks : Nat} {Q : State → Prop} {pc : Nat} {st : List Value} (F : Fx ω σ cc nL Ts own rm) {a b : Nat} (d : decode cc pc = .ok (.iadd, 1)) (k : V ω σ M L kc ks Q (pc + 1) (.int (nI (a + b)) :: st)) : V ω σ M L kc ks Q (pc) (.int (nI b) :: .int (nI a) :: st) := v_iadd F d (by rw [nI_add]; exact k)
theorem v_isub_n {ω : Om} {σ : Sg} {cc : ByteArray} {nL : Nat} {Ts : List Cond} {own : String} {rm : Room} {M : MM} {L : List (Option Value)} {kc ks : Nat} {Q : State → Prop} {pc : Nat} {st : List Value} (F : Fx ω σ cc nL Ts own rm) {a b : Nat} (d : decode cc pc = .ok (.isub, 1)) (h : b ≤ a) (k : V ω σ M L kc ks Q (pc + 1) (.int (nI (a - b)) :: st)) : V ω σ M L kc ks Q (pc) (.int (nI b) :: .int (nI a) :: st) := v_isub F d (by rw [pk_sub h]; exact k)
theorem v_ior_n {ω : Om} {σ : Sg} {cc : ByteArray} {nL : Nat} {Ts : List Cond} {own : String} {rm : Room} {M : MM} {L : List (Option Value)} {kc ks : Nat} {Q : State → Prop} {pc : Nat} {st : List Value} (F : Fx ω σ cc nL Ts own rm) {a b : Nat} (d : decode cc pc = .ok (.ior, 1)) (k : V ω σ M L kc ks Q (pc + 1) (.int (nI (a ||| b)) :: st)) : V ω σ M L kc ks Q (pc) (.int (nI b) :: .int (nI a) :: st) := v_ior F d (by rw [nI_or]; exact k)
theorem v_iand_n {ω : Om} {σ : Sg} {cc : ByteArray} {nL : Nat} {Ts : List Cond} {own : String} {rm : Room} {M : MM} {L : List (Option Value)} {kc ks : Nat} {Q : State → Prop} {pc : Nat} {st : List Value} (F : Fx ω σ cc nL Ts own rm) {a b : Nat} (d : decode cc pc = .ok (.iand, 1)) (k : V ω σ M L kc ks Q (pc + 1) (.int (nI (a &&& b)) :: st)) : V ω σ M L kc ks Q (pc) (.int (nI b) :: .int (nI a) :: st) := v_iand F d (by rw [nI_and]; exact k)
theorem v_iand_nd {ω : Om} {σ : Sg} {cc : ByteArray} {nL : Nat} {Ts : List Cond} {own : String} {rm : Room} {M : MM} {L : List (Option Value)} {kc ks : Nat} {Q : State → Prop} {pc : Nat} {st : List Value} (F : Fx ω σ cc nL Ts own rm) {a b : Nat} (d : decode cc pc = .ok (.iand, 1)) (k : V ω σ M L kc ks Q (pc + 1) (.int (nI (nd a b)) :: st)) : V ω σ M L kc ks Q (pc) (.int (nI b ^^^ (-1)) :: .int (nI a) :: st) := v_iand F d (by rw [nI_nd]; exact k)
theorem v_ishl_n {ω : Om} {σ : Sg} {cc : ByteArray} {nL : Nat} {Ts : List Cond} {own : String} {rm : Room} {M : MM} {L : List (Option Value)} {kc ks : Nat} {Q : State → Prop} {pc : Nat} {st : List Value} (F : Fx ω σ cc nL Ts own rm) {b : Nat} (d : decode cc pc = .ok (.ishl, 1)) (hb : b < 31) (k : V ω σ M L kc ks Q (pc + 1) (.int (nI (2 ^ b)) :: st)) : V ω σ M L kc ks Q (pc) (.int (nI b) :: .int (nI 1) :: st) := v_ishl F d (by rw [nI_shl1 b hb]; exact k)
theorem v_ishr_n {ω : Om} {σ : Sg} {cc : ByteArray} {nL : Nat} {Ts : List Cond} {own : String} {rm : Room} {M : MM} {L : List (Option Value)} {kc ks : Nat} {Q : State → Prop} {pc : Nat} {st : List Value} (F : Fx ω σ cc nL Ts own rm) {a b : Nat} (d : decode cc pc = .ok (.ishr, 1)) (ha : a < 2 ^ 31) (hb : b < 31) (k : V ω σ M L kc ks Q (pc + 1) (.int (nI (a / 2 ^ b)) :: st)) : V ω σ M L kc ks Q (pc) (.int (nI b) :: .int (nI a) :: st) := v_ishr F d (by rw [nI_shr ha hb]; exact k)
theorem v_idiv_n {ω : Om} {σ : Sg} {cc : ByteArray} {nL : Nat} {Ts : List Cond} {own : String} {rm : Room} {M : MM} {L : List (Option Value)} {kc ks : Nat} {Q : State → Prop} {pc : Nat} {st : List Value} (F : Fx ω σ cc nL Ts own rm) {a b : Nat} (d : decode cc pc = .ok (.idiv, 1)) (ha : a < 2 ^ 31) (h0 : 0 < b) (hb : b < 2 ^ 31) (k : V ω σ M L kc ks Q (pc + 1) (.int (nI (a / b)) :: st)) : V ω σ M L kc ks Q (pc) (.int (nI b) :: .int (nI a) :: st) := v_idiv F d (nI_ne0 h0 hb) (by rw [pk_div ha h0 hb]; exact k)
theorem v_icmp_eq_n {ω : Om} {σ : Sg} {cc : ByteArray} {nL : Nat} {Ts : List Cond} {own : String} {rm : Room} {M : MM} {L : List (Option Value)} {kc ks : Nat} {Q : State → Prop} {pc : Nat} {st : List Value} (F : Fx ω σ cc nL Ts own rm) {a b : Nat} {off : Int} (tgt : Nat) (d : decode cc pc = .ok (.if_icmp .eq off, 3)) (ht : (pc : Int) + off = (tgt : Int)) (ha : a < 2 ^ 31) (hb : b < 2 ^ 31) (kt : a = b → V ω σ M L kc ks Q (tgt) (st)) (kf : ¬ a = b → V ω σ M L kc ks Q (pc + 3) (st)) : V ω σ M L kc ks Q (pc) (.int (nI b) :: .int (nI a) :: st) := v_icmp_eq F tgt d ht (fun q => kt ((nI_eq ha hb).mp q)) (fun q => kf (fun q2 => q ((nI_eq ha hb).mpr q2)))
theorem v_icmp_ne_n {ω : Om} {σ : Sg} {cc : ByteArray} {nL : Nat} {Ts : List Cond} {own : String} {rm : Room} {M : MM} {L : List (Option Value)} {kc ks : Nat} {Q : State → Prop} {pc : Nat} {st : List Value} (F : Fx ω σ cc nL Ts own rm) {a b : Nat} {off : Int} (tgt : Nat) (d : decode cc pc = .ok (.if_icmp .ne off, 3)) (ht : (pc : Int) + off = (tgt : Int)) (ha : a < 2 ^ 31) (hb : b < 2 ^ 31) (kt : ¬ a = b → V ω σ M L kc ks Q (tgt) (st)) (kf : a = b → V ω σ M L kc ks Q (pc + 3) (st)) : V ω σ M L kc ks Q (pc) (.int (nI b) :: .int (nI a) :: st) := v_icmp_ne F tgt d ht (fun q => kt (fun q2 => q ((nI_eq ha hb).mpr q2))) (fun q => kf ((nI_eq ha hb).mp q))
theorem v_icmp_lt_n {ω : Om} {σ : Sg} {cc : ByteArray} {nL : Nat} {Ts : List Cond} {own : String} {rm : Room} {M : MM} {L : List (Option Value)} {kc ks : Nat} {Q : State → Prop} {pc : Nat} {st : List Value} (F : Fx ω σ cc nL Ts own rm) {a b : Nat} {off : Int} (tgt : Nat) (d : decode cc pc = .ok (.if_icmp .lt off, 3)) (ht : (pc : Int) + off = (tgt : Int)) (ha : a < 2 ^ 31) (hb : b < 2 ^ 31) (kt : a < b → V ω σ M L kc ks Q (tgt) (st)) (kf : ¬ a < b → V ω σ M L kc ks Q (pc + 3) (st)) : V ω σ M L kc ks Q (pc) (.int (nI b) :: .int (nI a) :: st) := v_icmp_lt F tgt d ht (fun q => kt ((nI_ltI ha hb).mp q)) (fun q => kf (fun q2 => q ((nI_ltI ha hb).mpr q2)))
theorem v_icmp_ge_n {ω : Om} {σ : Sg} {cc : ByteArray} {nL : Nat} {Ts : List Cond} {own : String} {rm : Room} {M : MM} {L : List (Option Value)} {kc ks : Nat} {Q : State → Prop} {pc : Nat} {st : List Value} (F : Fx ω σ cc nL Ts own rm) {a b : Nat} {off : Int} (tgt : Nat) (d : decode cc pc = .ok (.if_icmp .ge off, 3)) (ht : (pc : Int) + off = (tgt : Int)) (ha : a < 2 ^ 31) (hb : b < 2 ^ 31) (kt : b ≤ a → V ω σ M L kc ks Q (tgt) (st)) (kf : ¬ b ≤ a → V ω σ M L kc ks Q (pc + 3) (st)) : V ω σ M L kc ks Q (pc) (.int (nI b) :: .int (nI a) :: st) := v_icmp_ge F tgt d ht (fun q => kt ((nI_leI hb ha).mp q)) (fun q => kf (fun q2 => q ((nI_leI hb ha).mpr q2)))
theorem v_icmp_gt_n {ω : Om} {σ : Sg} {cc : ByteArray} {nL : Nat} {Ts : List Cond} {own : String} {rm : Room} {M : MM} {L : List (Option Value)} {kc ks : Nat} {Q : State → Prop} {pc : Nat} {st : List Value} (F : Fx ω σ cc nL Ts own rm) {a b : Nat} {off : Int} (tgt : Nat) (d : decode cc pc = .ok (.if_icmp .gt off, 3)) (ht : (pc : Int) + off = (tgt : Int)) (ha : a < 2 ^ 31) (hb : b < 2 ^ 31) (kt : b < a → V ω σ M L kc ks Q (tgt) (st)) (kf : ¬ b < a → V ω σ M L kc ks Q (pc + 3) (st)) : V ω σ M L kc ks Q (pc) (.int (nI b) :: .int (nI a) :: st) := v_icmp_gt F tgt d ht (fun q => kt ((nI_ltI hb ha).mp q)) (fun q => kf (fun q2 => q ((nI_ltI hb ha).mpr q2)))
theorem v_icmp_le_n {ω : Om} {σ : Sg} {cc : ByteArray} {nL : Nat} {Ts : List Cond} {own : String} {rm : Room} {M : MM} {L : List (Option Value)} {kc ks : Nat} {Q : State → Prop} {pc : Nat} {st : List Value} (F : Fx ω σ cc nL Ts own rm) {a b : Nat} {off : Int} (tgt : Nat) (d : decode cc pc = .ok (.if_icmp .le off, 3)) (ht : (pc : Int) + off = (tgt : Int)) (ha : a < 2 ^ 31) (hb : b < 2 ^ 31) (kt : a ≤ b → V ω σ M L kc ks Q (tgt) (st)) (kf : ¬ a ≤ b → V ω σ M L kc ks Q (pc + 3) (st)) : V ω σ M L kc ks Q (pc) (.int (nI b) :: .int (nI a) :: st) := v_icmp_le F tgt d ht (fun q => kt ((nI_leI ha hb).mp q)) (fun q => kf (fun q2 => q ((nI_leI ha hb).mpr q2)))
theorem v_if_eq_n {ω : Om} {σ : Sg} {cc : ByteArray} {nL : Nat} {Ts : List Cond} {own : String} {rm : Room} {M : MM} {L : List (Option Value)} {kc ks : Nat} {Q : State → Prop} {pc : Nat} {st : List Value} (F : Fx ω σ cc nL Ts own rm) {a : Nat} {off : Int} (tgt : Nat) (d : decode cc pc = .ok (.ifCond .eq off, 3)) (ht : (pc : Int) + off = (tgt : Int)) (ha : a < 2 ^ 31) (kt : a = 0 → V ω σ M L kc ks Q (tgt) (st)) (kf : ¬ a = 0 → V ω σ M L kc ks Q (pc + 3) (st)) : V ω σ M L kc ks Q (pc) (.int (nI a) :: st) := v_if_eq F tgt d ht (fun q => kt ((nI_eq ha (by decide) (b := 0)).mp q)) (fun q => kf (fun q2 => q (by rw [q2]; rfl)))
theorem v_if_ne_n {ω : Om} {σ : Sg} {cc : ByteArray} {nL : Nat} {Ts : List Cond} {own : String} {rm : Room} {M : MM} {L : List (Option Value)} {kc ks : Nat} {Q : State → Prop} {pc : Nat} {st : List Value} (F : Fx ω σ cc nL Ts own rm) {a : Nat} {off : Int} (tgt : Nat) (d : decode cc pc = .ok (.ifCond .ne off, 3)) (ht : (pc : Int) + off = (tgt : Int)) (ha : a < 2 ^ 31) (kt : ¬ a = 0 → V ω σ M L kc ks Q (tgt) (st)) (kf : a = 0 → V ω σ M L kc ks Q (pc + 3) (st)) : V ω σ M L kc ks Q (pc) (.int (nI a) :: st) := v_if_ne F tgt d ht (fun q => kt (fun q2 => q (by rw [q2]; rfl))) (fun q => kf ((nI_eq ha (by decide) (b := 0)).mp q))
theorem v_if_gt_n {ω : Om} {σ : Sg} {cc : ByteArray} {nL : Nat} {Ts : List Cond} {own : String} {rm : Room} {M : MM} {L : List (Option Value)} {kc ks : Nat} {Q : State → Prop} {pc : Nat} {st : List Value} (F : Fx ω σ cc nL Ts own rm) {a : Nat} {off : Int} (tgt : Nat) (d : decode cc pc = .ok (.ifCond .gt off, 3)) (ht : (pc : Int) + off = (tgt : Int)) (ha : a < 2 ^ 31) (kt : 0 < a → V ω σ M L kc ks Q (tgt) (st)) (kf : ¬ 0 < a → V ω σ M L kc ks Q (pc + 3) (st)) : V ω σ M L kc ks Q (pc) (.int (nI a) :: st) := v_if_gt F tgt d ht (fun q => kt ((nI_ltI (a := 0) (by decide) ha).mp q)) (fun q => kf (fun q2 => q ((nI_ltI (a := 0) (by decide) ha).mpr q2)))
theorem v_if_le_n {ω : Om} {σ : Sg} {cc : ByteArray} {nL : Nat} {Ts : List Cond} {own : String} {rm : Room} {M : MM} {L : List (Option Value)} {kc ks : Nat} {Q : State → Prop} {pc : Nat} {st : List Value} (F : Fx ω σ cc nL Ts own rm) {a : Nat} {off : Int} (tgt : Nat) (d : decode cc pc = .ok (.ifCond .le off, 3)) (ht : (pc : Int) + off = (tgt : Int)) (ha : a < 2 ^ 31) (kt : a = 0 → V ω σ M L kc ks Q (tgt) (st)) (kf : ¬ a = 0 → V ω σ M L kc ks Q (pc + 3) (st)) : V ω σ M L kc ks Q (pc) (.int (nI a) :: st) := v_if_le F tgt d ht (fun q => kt (Nat.le_zero.mp ((nI_leI (b := 0) ha (by decide)).mp q))) (fun q => kf (fun q2 => q (by rw [q2]; decide)))
theorem v_if_lt_n {ω : Om} {σ : Sg} {cc : ByteArray} {nL : Nat} {Ts : List Cond} {own : String} {rm : Room} {M : MM} {L : List (Option Value)} {kc ks : Nat} {Q : State → Prop} {pc : Nat} {st : List Value} (F : Fx ω σ cc nL Ts own rm) {a : Nat} {off : Int} (tgt : Nat) (d : decode cc pc = .ok (.ifCond .lt off, 3)) (ht : (pc : Int) + off = (tgt : Int)) (ha : a < 2 ^ 31) (k : V ω σ M L kc ks Q (pc + 3) (st)) : V ω σ M L kc ks Q (pc) (.int (nI a) :: st) := v_if_lt F tgt d ht (fun q => absurd q (nI_pos ha)) (fun _ => k)
theorem v_if_ge_n {ω : Om} {σ : Sg} {cc : ByteArray} {nL : Nat} {Ts : List Cond} {own : String} {rm : Room} {M : MM} {L : List (Option Value)} {kc ks : Nat} {Q : State → Prop} {pc : Nat} {st : List Value} (F : Fx ω σ cc nL Ts own rm) {a : Nat} {off : Int} (tgt : Nat) (d : decode cc pc = .ok (.ifCond .ge off, 3)) (ht : (pc : Int) + off = (tgt : Int)) (ha : a < 2 ^ 31) (k : V ω σ M L kc ks Q (tgt) (st)) : V ω σ M L kc ks Q (pc) (.int (nI a) :: st) := v_if_ge F tgt d ht (fun _ => k) (fun q => absurd (nI_pos' ha) q)
theorem v_if_eq_b {ω : Om} {σ : Sg} {cc : ByteArray} {nL : Nat} {Ts : List Cond} {own : String} {rm : Room} {M : MM} {L : List (Option Value)} {kc ks : Nat} {Q : State → Prop} {pc : Nat} {st : List Value} (F : Fx ω σ cc nL Ts own rm) {b : Bool} {off : Int} (tgt : Nat) (d : decode cc pc = .ok (.ifCond .eq off, 3)) (ht : (pc : Int) + off = (tgt : Int)) (kt : b = false → V ω σ M L kc ks Q (tgt) (st)) (kf : b = true → V ω σ M L kc ks Q (pc + 3) (st)) : V ω σ M L kc ks Q (pc) (.int (bI b) :: st) := v_if_eq F tgt d ht (fun q => kt (bI_0.mp q)) (fun q => kf (by cases b; exact absurd rfl q; rfl))
theorem v_if_ne_b {ω : Om} {σ : Sg} {cc : ByteArray} {nL : Nat} {Ts : List Cond} {own : String} {rm : Room} {M : MM} {L : List (Option Value)} {kc ks : Nat} {Q : State → Prop} {pc : Nat} {st : List Value} (F : Fx ω σ cc nL Ts own rm) {b : Bool} {off : Int} (tgt : Nat) (d : decode cc pc = .ok (.ifCond .ne off, 3)) (ht : (pc : Int) + off = (tgt : Int)) (kt : b = true → V ω σ M L kc ks Q (tgt) (st)) (kf : b = false → V ω σ M L kc ks Q (pc + 3) (st)) : V ω σ M L kc ks Q (pc) (.int (bI b) :: st) := v_if_ne F tgt d ht (fun q => kt (by cases b; exact absurd rfl q; rfl)) (fun q => kf (bI_0.mp q))
theorem v_iald_n {ω : Om} {σ : Sg} {cc : ByteArray} {nL : Nat} {Ts : List Cond} {own : String} {rm : Room} {M : MM} {L : List (Option Value)} {kc ks : Nat} {Q : State → Prop} {pc : Nat} {st : List Value} (F : Fx ω σ cc nL Ts own rm) {a n j : Nat} {g : Nat → Int32} (d : decode cc pc = .ok (.iaload, 1)) (hM : M a = some (.inl (ω.2.2 0, n, .inl g))) (hj : j < n) (hn : n < 2 ^ 31) (k : V ω σ M L kc ks Q (pc + 1) (.int (g j) :: st)) : V ω σ M L kc ks Q (pc) (.int (nI j) :: .ref a :: st) := v_iald F d hM (vp_in_nI hj hn) (by rw [nI_clamp (Nat.lt_trans hj hn)]; exact k)
theorem v_aald_n {ω : Om} {σ : Sg} {cc : ByteArray} {nL : Nat} {Ts : List Cond} {own : String} {rm : Room} {M : MM} {L : List (Option Value)} {kc ks : Nat} {Q : State → Prop} {pc : Nat} {st : List Value} (F : Fx ω σ cc nL Ts own rm) {a n j : Nat} {g : Nat → Option Nat} {cA : ClassId} {C : String} (t0 : Nat) (d : decode cc pc = .ok (.aaload, 1)) (hM : M a = some (.inl (cA, n, .inr (.inr (.inr (.inr g)))))) (ht : (tysO ω)[t0]? = some (cA, .object C)) (hj : j < n) (hn : n < 2 ^ 31) (kn : g j = none → V ω σ M L kc ks Q (pc + 1) (.null :: st)) (kr : ∀ b, g j = some b → V ω σ M L kc ks Q (pc + 1) (.ref b :: st)) : V ω σ M L kc ks Q (pc) (.int (nI j) :: .ref a :: st) := v_aald F t0 d hM ht (vp_in_nI hj hn) (by rw [nI_clamp (Nat.lt_trans hj hn)]; cases hg : g j with | none => exact kn hg | some b => exact kr b hg)
theorem v_get_o {ω : Om} {σ : Sg} {cc : ByteArray} {nL : Nat} {Ts : List Cond} {own : String} {rm : Room} {M : MM} {L : List (Option Value)} {kc ks : Nat} {Q : State → Prop} {pc : Nat} {st : List Value} (F : Fx ω σ cc nL Ts own rm) {a : Nat} (ci kf : Nat) {idx : Nat} {fs : List Value} {o : Option Nat} (f : FO Ts own idx ci kf) (d : decode cc pc = .ok (.getfield idx, 3)) (hM : M a = some (.inr (ci, fs))) (hv : fs[kf]? = some (va_rf o)) (kn : o = none → V ω σ M L kc ks Q (pc + 3) (.null :: st)) (kr : ∀ b, o = some b → V ω σ M L kc ks Q (pc + 3) (.ref b :: st)) : V ω σ M L kc ks Q (pc) (.ref a :: st) := v_get F ci kf f d hM hv (by cases o with | none => exact kn rfl | some b => exact kr b rfl)
theorem v_iast_n {ω : Om} {σ : Sg} {cc : ByteArray} {nL : Nat} {Ts : List Cond} {own : String} {rm : Room} {M : MM} {L : List (Option Value)} {kc ks : Nat} {Q : State → Prop} {pc : Nat} {st : List Value} (F : Fx ω σ cc nL Ts own rm) {a n j : Nat} {g : Nat → Int32} {x : Int32} (d : decode cc pc = .ok (.iastore, 1)) (hM : M a = some (.inl (ω.2.2 0, n, .inl g))) (hj : j < n) (hn : n < 2 ^ 31) (k : V ω σ (mup M a (.inl (ω.2.2 0, n, .inl (upd g j x)))) L kc ks Q (pc + 1) (st)) : V ω σ M L kc ks Q (pc) (.int x :: .int (nI j) :: .ref a :: st) := v_iast F d hM (vp_in_nI hj hn) (by rw [nI_clamp (Nat.lt_trans hj hn)]; exact k)
theorem v_iinc1 {ω : Om} {σ : Sg} {cc : ByteArray} {nL : Nat} {Ts : List Cond} {own : String} {rm : Room} {M : MM} {L : List (Option Value)} {kc ks : Nat} {Q : State → Prop} {pc : Nat} {st : List Value} (F : Fx ω σ cc nL Ts own rm) {j x : Nat} (d : decode cc pc = .ok (.iinc j 1, 3)) (hl : L[j]? = some (some (.int (nI x)))) (hc : ok2 L j) (k : V ω σ M (L.set j (some (.int (nI (x + 1))))) kc ks Q (pc + 3) (st)) : V ω σ M L kc ks Q (pc) (st) := v_iinc F d hl (nI_1 x) hc k
theorem V.rf {ω : Om} {σ : Sg} {M : MM} {L : List (Option Value)} {kc ks : Nat} {Q : State → Prop} {pc : Nat} {st : List Value} {o : Option Nat} (kn : o = none → V ω σ M L kc ks Q pc (.null :: st)) (kr : ∀ b, o = some b → V ω σ M L kc ks Q pc (.ref b :: st)) : V ω σ M L kc ks Q pc ((some (va_rf o)).toList ++ st) := by
  cases o with
  | none => exact kn rfl
  | some b => exact kr b rfl
theorem V.toI {ω : Om} {σ : Sg} {M : MM} {L : List (Option Value)} {kc ks : Nat} {Q : State → Prop} {pc : Nat} {st : List Value} {x y : Int32} (h : x = y) (k : V ω σ M L kc ks Q pc (.int y :: st)) : V ω σ M L kc ks Q pc (.int x :: st) := by rw [h]; exact k
theorem lv_args_get : ∀ (vs : List Value) (n : Nat), (∀ v ∈ vs, v.category ≠ 2) → ∀ (i : Nat) (v : Value), vs[i]? = some v → (n + i, v) ∈ lv_args n vs := by
  intro vs
  induction vs with
  | nil => intro n _ i v h; cases h
  | cons x xs ih =>
    intro n hc i v h
    have hx : ¬ x.category = 2 := hc x List.mem_cons_self
    cases i with
    | zero =>
      cases h
      exact List.mem_cons_self
    | succ i =>
      refine List.mem_cons_of_mem _ ?_
      rw [if_neg hx]
      have := ih (n + 1) (fun v hv => hc v (List.mem_cons_of_mem _ hv)) i v h
      rwa [show n + 1 + i = n + (i + 1) by omega] at this
theorem Lc.av {av : List Value} {k : Nat} (hc : all1 (av.map some) = true) : ∀ (i : Nat) (v : Value), (av.map some ++ List.replicate k none)[i]? = some (some v) → (i, v) ∈ lv_args 0 av := by
  intro i v hi
  have h1 : av[i]? = some v := by
    by_cases h : i < av.length
    · rw [List.getElem?_append_left (by simpa using h), List.getElem?_map] at hi
      cases h2 : av[i]? with
      | none => rw [h2] at hi; cases hi
      | some w => rw [h2] at hi; cases hi; rfl
    · rw [List.getElem?_append_right (by simpa using h)] at hi
      have := List.mem_of_getElem? hi
      rw [List.mem_replicate] at this
      cases this.2
  have h2 : ∀ v ∈ av, v.category ≠ 2 := by
    intro v hv
    have h3 := List.all_eq_true.mp hc (some v) (List.mem_map.mpr ⟨v, hv, rfl⟩)
    simpa [is1] using h3
  have := lv_args_get av 0 h2 i v h1
  rwa [Nat.zero_add] at this
