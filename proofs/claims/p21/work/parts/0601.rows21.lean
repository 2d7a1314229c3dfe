/-! rows that this law wants: constants, remainders, pairs on the stack; methods without a table that call such with one; the script in a callee -/
section
variable {ω : Om} {σ : Sg} {cc : ByteArray} {nL : Nat} {Ts : List Cond} {own : String} {rm : Room} {M : MM} {L : List (Option Value)} {kc ks : Nat} {Q : State → Prop} {pc : Nat} {st stk : List Value}
theorem v_ldc (F : Fx ω σ cc nL Ts own rm) {idx : Nat} {v : Int32} (hc : Cond.constant own idx v ∈ Ts) (d : decode cc pc = .ok (.ldc idx, 2)) (k : V ω σ M L kc ks Q (pc + 2) (.int v :: st)) : V ω σ M L kc ks Q pc st := fun H locs ls h1 h2 h3 => W.ldc F.1 F.2.1 F.2.2.2.1 (F.2.2.2.2.1 _ hc) rfl d (k H locs ls h1 h2 h3)
theorem v_irem (F : Fx ω σ cc nL Ts own rm) {x y : Int32} (d : decode cc pc = .ok (.irem, 1)) (hne : ¬ y = 0) (k : V ω σ M L kc ks Q (pc + 1) (.int (x - x / y * y) :: st)) : V ω σ M L kc ks Q pc (.int y :: .int x :: st) := fun H locs ls h1 h2 h3 => lv_irem F.1 F.2.1 d hne (k H locs ls h1 h2 h3)
theorem v_irem_n (F : Fx ω σ cc nL Ts own rm) {a b : Nat} (d : decode cc pc = .ok (.irem, 1)) (ha : a < 2 ^ 31) (h0 : 0 < b) (hb : b < 2 ^ 31) (k : V ω σ M L kc ks Q (pc + 1) (.int (nI (a % b)) :: st)) : V ω σ M L kc ks Q pc (.int (nI b) :: .int (nI a) :: st) := v_irem F d (nI_ne0 h0 hb) (by rw [pk_rem ha h0 hb]; exact k)
theorem v_imul (F : Fx ω σ cc nL Ts own rm) {x y : Int32} (d : decode cc pc = .ok (.imul, 1)) (k : V ω σ M L kc ks Q (pc + 1) (.int (x * y) :: st)) : V ω σ M L kc ks Q pc (.int y :: .int x :: st) := fun H locs ls h1 h2 h3 => lv_imul F.1 F.2.1 d (k H locs ls h1 h2 h3)
theorem v_imul_n (F : Fx ω σ cc nL Ts own rm) {a b : Nat} (d : decode cc pc = .ok (.imul, 1)) (k : V ω σ M L kc ks Q (pc + 1) (.int (nI (a * b)) :: st)) : V ω σ M L kc ks Q pc (.int (nI b) :: .int (nI a) :: st) := v_imul F d (by rw [pk_mul]; exact k)
theorem v_dup2 (F : Fx ω σ cc nL Ts own rm) {va vb : Value} (d : decode cc pc = .ok (.dup2, 1)) (ha : va.category = 1) (hb : vb.category = 1) (k : V ω σ M L kc ks Q (pc + 1) (va :: vb :: va :: vb :: st)) : V ω σ M L kc ks Q pc (va :: vb :: st) := fun H locs ls h1 h2 h3 => lv_dup2_11 F.1 F.2.1 d ha hb (k H locs ls h1 h2 h3)
variable {y : MethodName} {ws' ws'' : List Cond} {rm' : Room} {PQ : Option Value → MM → Prop} {mc ms idx maxL : Nat} {bytes : ByteArray} {ret : Option FieldType}
theorem v_callSM (F : Fx ω σ cc nL Ts own rm) (hN : Nc3 σ.2.2.2.2.1) (n : Nat) (As : List Value) (hst : stk = As.reverse ++ st) (hn : As.length = n) (hLn : L.length = nL) (hM : CtN σ.2.1 ω y ws' rm' As M PQ mc ms) (hG : GoodIn Ts (va_wsS own idx y ws')) (hw : ws' = Cond.code y bytes maxL ret :: ws'')
    (hd : y.cls ≠ "java/lang/invoke/MethodHandle" ∧ y.cls ≠ "java/lang/invoke/VarHandle" ∧ (parseMethodDescriptor y.desc).map (fun d => d.parameters.length) = some n) (hR : RmOk rm' rm maxL mc ms kc ks st) (d : decode cc pc = .ok (.invokestatic idx, 3))
    (k : ∀ (v : Option Value) (M' : MM), PQ v M' → V ω σ M' L (kc + mc) (ks + ms) Q (pc + 3) (v.toList ++ st)) : V ω σ M L kc ks Q pc stk := by
  subst hst
  obtain ⟨p, l, e, R, s, m, args, below, meth, c⟩ := σ
  intro H locs ls h1 h2 h3
  obtain ⟨hx, hb9, hml, hown, hts, hK, hlk, hRr, hz⟩ := F
  cases hRr
  exact run_go (va_runS (nL := nL) (y := y) (ws := ws') (rm := rm') (n := n) (As := As) (rest := st) ⟨hx, hb9, hml, hown, hts⟩ hM (va_cwS n hts hG hw hR.1.1 hR.1.2 hd hR.2.1) ⟨PcN.blind, fun U hU hW => by
    obtain ⟨q1, q2, q3⟩ := PcO.at (σ := (p, l, e, R, s, m, args, below, meth, c)) (av := As) hK h1 h2 U hU hW
    exact ⟨q1, q2, q3, hN.moved hW.alike⟩⟩ rfl hn (h3.1.trans hLn) rfl (lv_room (m := m) (pc := 0) (ls := #[]) (rest := []) hR.2.2.2) d hR.2.2.1) h2 (fun v M' H1 locs1 hp hm1 hs1 => k v M' hp H1 locs1 ls hm1 hs1 h3)
/-- the script in a callee -/
def PcS (ω : Om) (av : List Value) (M : MM) (b n : Nat) (xs : Nat → Int32) : Array Value → State → Prop := va_Pc av (fun U => hm ω M U.heap ∧ Kw ω U U.heap ∧ va_X b n xs U U.heap)
def CtS (l : Launch) (ω : Om) (y : MethodName) (ws : List Cond) (rm : Room) (av : List Value) (M : MM) (b n : Nat) (xs : Nat → Int32) (PQ : Option Value → MM → Prop) (mc ms : Nat) : Prop := Met l y ws rm (PcS ω av M b n xs) (QcO ω PQ) mc ms (zA ω)
theorem PcS.blind {ω : Om} {av : List Value} {M : MM} {b n : Nat} {xs : Nat → Int32} : FrameBlind (PcS ω av M b n xs) := by
  intro a U g mk h
  obtain ⟨h1, h2, h3, h4⟩ := h
  obtain ⟨-, k2, k3⟩ := PcO.blind (ω := ω) (av := av) (M := M) a U g mk ⟨h1, h2, h3⟩
  exact ⟨h1, k2, k3, h4.moved (u := U) (U := U.calling g mk a) (Vm.Alike.refl U.vm)⟩
theorem CtS.ofV {l : Launch} {ω : Om} {y : MethodName} {ws ws' : List Cond} {rm : Room} {av : List Value} {M : MM} {b n : Nat} {xs : Nat → Int32} {PQ : Option Value → MM → Prop} {mc ms : Nat} {cc : ByteArray} {maxL : Nat} {ret : Option FieldType} (L : List (Option Value))
    (hy : plainName y.cls = true) (hw : ws = Cond.code y cc maxL ret :: ws') (hsl : (lg_sl av).length ≤ maxL) (hL : L.length = maxL) (hav : ∀ (i : Nat) (v : Value), L[i]? = some (some v) → (i, v) ∈ lv_args 0 av)
    (body : ∀ σ : Sg, Fx ω σ cc maxL ws y.cls rm → σ.2.1 = l → σ.2.2.2.2.2.2.2.2.1.sig.returnType = ret → va_X b n xs σ.2.2.2.2.1 σ.2.2.2.2.1.heap → V ω σ M L 0 0 (BQ ω σ PQ mc ms) 0 []) : CtS l ω y ws rm av M b n xs PQ mc ms := by
  refine Met.ofW (cc := cc) (maxL := maxL) (ret := ret) hy hw ?_
  intro p e s m args below meth c s₁ B hml hv
  obtain ⟨rfl, hM, hK, hN⟩ := hv
  have hl := lv_entry av (n := maxL) hsl
  rw [lg_entry_eq]
  generalize (lg_sl av ++ List.replicate (maxL - (lg_sl av).length) Slot.unset).toArray = ls at hl ⊢
  exact body (p, l, e, rm, s, m, av.toArray, below, meth, c) ⟨B.exec, B.bytes, hml, findClass_of_methodNamed B.named, atoms_spec (ws := ws) B.pre, hK, B.notSynchronized, rfl, hM.1⟩ rfl B.returns hN
    s.heap [] ls hM va_S.rf (Lc.of (by rw [hL]; exact hl) hav)
theorem CtN.ofC {l : Launch} {ω : Om} {y : MethodName} {ws ws' : List Cond} {rm : Room} {av : List Value} {M : MM} {PQ : Option Value → MM → Prop} {mc ms : Nat} {cc : ByteArray} {maxL : Nat} {ret : Option FieldType} (L : List (Option Value))
    (hy : plainName y.cls = true) (hw : ws = Cond.code y cc maxL ret :: ws') (hsl : (lg_sl av).length ≤ maxL) (hL : L.length = maxL) (hav : ∀ (i : Nat) (v : Value), L[i]? = some (some v) → (i, v) ∈ lv_args 0 av)
    (body : ∀ σ : Sg, Fx ω σ cc maxL ws y.cls rm → σ.2.1 = l → σ.2.2.2.2.2.2.2.2.1.sig.returnType = ret → Nc3 σ.2.2.2.2.1 → V ω σ M L 0 0 (BQ ω σ PQ mc ms) 0 []) : CtN l ω y ws rm av M PQ mc ms := by
  refine Met.ofW (cc := cc) (maxL := maxL) (ret := ret) hy hw ?_
  intro p e s m args below meth c s₁ B hml hv
  obtain ⟨rfl, hM, hK, hN⟩ := hv
  have hl := lv_entry av (n := maxL) hsl
  rw [lg_entry_eq]
  generalize (lg_sl av ++ List.replicate (maxL - (lg_sl av).length) Slot.unset).toArray = ls at hl ⊢
  exact body (p, l, e, rm, s, m, av.toArray, below, meth, c) ⟨B.exec, B.bytes, hml, findClass_of_methodNamed B.named, atoms_spec (ws := ws) B.pre, hK, B.notSynchronized, rfl, hM.1⟩ rfl B.returns hN
    s.heap [] ls hM va_S.rf (Lc.of (by rw [hL]; exact hl) hav)
theorem v_callSS {b n : Nat} {xs : Nat → Int32} (F : Fx ω σ cc nL Ts own rm) (hX : va_X b n xs σ.2.2.2.2.1 σ.2.2.2.2.1.heap) (hb : b < σ.2.2.2.2.1.heap.size) (hz : b < ω.2.1) (na : Nat) (As : List Value) (hst : stk = As.reverse ++ st) (hn : As.length = na) (hLn : L.length = nL) (hM : CtS σ.2.1 ω y ws' rm' As M b n xs PQ mc ms) (hG : GoodIn Ts (va_wsS own idx y ws')) (hw : ws' = Cond.code y bytes maxL ret :: ws'')
    (hd : y.cls ≠ "java/lang/invoke/MethodHandle" ∧ y.cls ≠ "java/lang/invoke/VarHandle" ∧ (parseMethodDescriptor y.desc).map (fun d => d.parameters.length) = some na) (hR : RmOk rm' rm maxL mc ms kc ks st) (d : decode cc pc = .ok (.invokestatic idx, 3))
    (k : ∀ (v : Option Value) (M' : MM), PQ v M' → V ω σ M' L (kc + mc) (ks + ms) Q (pc + 3) (v.toList ++ st)) : V ω σ M L kc ks Q pc stk := by
  subst hst
  obtain ⟨p, l, e, R, s, m, args, below, meth, c⟩ := σ
  intro H locs ls h1 h2 h3
  obtain ⟨hx, hb9, hml, hown, hts, hK, hlk, hRr, hz9⟩ := F
  cases hRr
  exact run_go (va_runS (nL := nL) (y := y) (ws := ws') (rm := rm') (n := na) (As := As) (rest := st) ⟨hx, hb9, hml, hown, hts⟩ hM (va_cwS na hts hG hw hR.1.1 hR.1.2 hd hR.2.1) ⟨PcS.blind, fun U hU hW => by
    obtain ⟨q1, q2, q3⟩ := PcO.at (σ := (p, l, e, R, s, m, args, below, meth, c)) (av := As) hK h1 h2 U hU hW
    refine ⟨q1, q2, q3, (hX.moved hW.alike).kept ?_⟩
    rw [hU]
    exact h2.2.1 b hb (fun h => absurd h (by show ¬ ω.2.1 ≤ b; omega))⟩ rfl hn (h3.1.trans hLn) rfl (lv_room (m := m) (pc := 0) (ls := #[]) (rest := []) hR.2.2.2) d hR.2.2.1) h2 (fun v M' H1 locs1 hp hm1 hs1 => k v M' hp H1 locs1 ls hm1 hs1 h3)
theorem v_sldE (F : Fx ω σ cc nL Ts own rm) {b n : Nat} {xs : Nat → Int32} (hX : va_X b n xs σ.2.2.2.2.1 σ.2.2.2.2.1.heap) (hz : b < ω.2.1) {i : Int32} (hin : vp_in i n) (d : decode cc pc = .ok (.iaload, 1)) (k : V ω σ M L kc ks Q (pc + 1) (.int (xs i.toNatClampNeg) :: st)) : V ω σ M L kc ks Q pc (.int i :: .ref b :: st) := by
  intro H locs ls h1 h2 h3
  exact va_sld F.1 F.2.1 hX (Nat.lt_of_lt_of_le hz F.2.2.2.2.2.2.2.2) (fun h => absurd h (by show ¬ ω.2.1 ≤ b; omega)) h2 hin d (k H locs ls h1 h2 h3)
theorem v_slenE (F : Fx ω σ cc nL Ts own rm) {b n : Nat} {xs : Nat → Int32} (hX : va_X b n xs σ.2.2.2.2.1 σ.2.2.2.2.1.heap) (hz : b < ω.2.1) (d : decode cc pc = .ok (.arraylength, 1)) (k : V ω σ M L kc ks Q (pc + 1) (.int (nI n) :: st)) : V ω σ M L kc ks Q pc (.ref b :: st) := by
  intro H locs ls h1 h2 h3
  exact va_slen F.1 F.2.1 hX (Nat.lt_of_lt_of_le hz F.2.2.2.2.2.2.2.2) (fun h => absurd h (by show ¬ ω.2.1 ≤ b; omega)) h2 d (k H locs ls h1 h2 h3)
end
theorem Ct.imp {l : Launch} {ω : Om} {y : MethodName} {ws : List Cond} {rm : Room} {av : List Value} {M : MM} {PQ PQ' : Option Value → MM → Prop} {mc ms : Nat} (h : Ct l ω y ws rm av M PQ mc ms) (hi : ∀ v M9, PQ v M9 → PQ' v M9) : Ct l ω y ws rm av M PQ' mc ms := by
  intro p e ha hc hk s m args below hf happ hP hK
  obtain ⟨n, o, h1, h2, h3, ⟨⟨v, M', e1, e2, e3⟩, hF⟩, h5⟩ := h p e ha hc hk s m args below hf happ hP hK
  exact ⟨n, o, h1, h2, h3, ⟨⟨v, M', e1, hi _ _ e2, e3⟩, hF⟩, h5⟩
theorem CtN.imp {l : Launch} {ω : Om} {y : MethodName} {ws : List Cond} {rm : Room} {av : List Value} {M : MM} {PQ PQ' : Option Value → MM → Prop} {mc ms : Nat} (h : CtN l ω y ws rm av M PQ mc ms) (hi : ∀ v M9, PQ v M9 → PQ' v M9) : CtN l ω y ws rm av M PQ' mc ms := by
  intro p e ha hc hk s m args below hf happ hP hK
  obtain ⟨n, o, h1, h2, h3, ⟨⟨v, M', e1, e2, e3⟩, hF⟩, h5⟩ := h p e ha hc hk s m args below hf happ hP hK
  exact ⟨n, o, h1, h2, h3, ⟨⟨v, M', e1, hi _ _ e2, e3⟩, hF⟩, h5⟩
