/-! the law's helpers: methods with a table, calls whose throw is caught -/
theorem met_ofWH {l : Launch} {y : MethodName} {ws ws' : List Cond} {rm : Room} {Pc : Array Value → State → Prop} {Qc : Array Value → State → Outcome → State → Prop} {mc ms : Nat} {free : Addr → Prop} {cc : ByteArray} {maxL : Nat} {ret : Option FieldType} {hh : List (Nat × Nat × Nat × Nat)}
    (hy : plainName y.cls = true) (hw : ws = Cond.codeWith y cc maxL ret hh :: ws')
    (body : ∀ p e s m args below meth c s₁, BodyLoose p l y (headSpec ws rm) cc maxL ret e s m args below meth c s₁ → c.maxLocals = maxL → c.exceptionTable.toList = tableOf hh → Pc args s →
      W p l e (headSpec ws rm).room s m args below meth c s.heap [] 0 0 (MQ below Qc args s mc ms free) (entryFrame m args maxL)) : Met l y ws rm Pc Qc mc ms free := by
  refine MetFree.of_bodyS (code := cc) (maxLocals := maxL) (ret := ret) hy ?_ ?_
  · intro args s m h hn
    obtain ⟨m9, meth, c, hn9, h1, h2, h3, h4, -, h5, h6, -⟩ := Cond.codeWith_spec (atoms_spec (ws := ws) h _ (by rw [hw]; exact List.mem_cons_self))
    cases hn.symm.trans hn9
    exact ⟨meth, c, h1, h2, h3, h4, h5, h6⟩
  · intro p e s m args below meth c s₁ B hml hP _
    have hh0 : s₁.heap = s.heap := by rw [B.state]; rfl
    have htab : c.exceptionTable.toList = tableOf hh := vx_table (x := y) (ret := ret) B (atoms_spec (ws := ws) B.pre _ (by rw [hw]; exact List.mem_cons_self))
    obtain ⟨t, a1, o, b1, b2, b3, b4⟩ := body p e s m args below meth c s₁ B hml htab hP s₁ hh0 (Stand.of_body B)
    exact ⟨t, o, a1, b1, b2, b3, b4⟩
/-- the three exceptions are no kin of each other -/
def Nc3 (U : State) : Prop := va_Nc "java/lang/IllegalArgumentException" "java/lang/IndexOutOfBoundsException" U ∧ va_Nc "java/lang/IllegalStateException" "java/lang/IndexOutOfBoundsException" U ∧ va_Nc "java/lang/IllegalStateException" "java/lang/IllegalArgumentException" U
theorem Nc3.moved {u U : State} (hvm : u.vm.Alike U.vm) (h : Nc3 u) : Nc3 U := ⟨h.1.moved hvm, h.2.1.moved hvm, h.2.2.moved hvm⟩
def PcN (ω : Om) (av : List Value) (M : MM) : Array Value → State → Prop := va_Pc av (fun U => hm ω M U.heap ∧ Kw ω U U.heap ∧ Nc3 U)
def CtN (l : Launch) (ω : Om) (y : MethodName) (ws : List Cond) (rm : Room) (av : List Value) (M : MM) (PQ : Option Value → MM → Prop) (mc ms : Nat) : Prop := Met l y ws rm (PcN ω av M) (QcO ω PQ) mc ms (zA ω)
theorem PcN.blind {ω : Om} {av : List Value} {M : MM} : FrameBlind (PcN ω av M) := by
  intro a U g mk h
  obtain ⟨h1, h2, h3, h4⟩ := h
  obtain ⟨-, k2, k3⟩ := PcO.blind (ω := ω) (av := av) (M := M) a U g mk ⟨h1, h2, h3⟩
  exact ⟨h1, k2, k3, h4.moved (u := U) (U := U.calling g mk a) (Vm.Alike.refl U.vm)⟩
theorem CtN.ofV {l : Launch} {ω : Om} {y : MethodName} {ws ws' : List Cond} {rm : Room} {av : List Value} {M : MM} {PQ : Option Value → MM → Prop} {mc ms : Nat} {cc : ByteArray} {maxL : Nat} {ret : Option FieldType} {hh : List (Nat × Nat × Nat × Nat)} (L : List (Option Value))
    (hy : plainName y.cls = true) (hw : ws = Cond.codeWith y cc maxL ret hh :: ws') (hsl : (lg_sl av).length ≤ maxL) (hL : L.length = maxL) (hav : ∀ (i : Nat) (v : Value), L[i]? = some (some v) → (i, v) ∈ lv_args 0 av)
    (body : ∀ σ : Sg, Fx ω σ cc maxL ws y.cls rm → σ.2.1 = l → σ.2.2.2.2.2.2.2.2.1.sig.returnType = ret → σ.2.2.2.2.2.2.2.2.2.exceptionTable.toList = tableOf hh → Nc3 σ.2.2.2.2.1 → V ω σ M L 0 0 (BQ ω σ PQ mc ms) 0 []) : CtN l ω y ws rm av M PQ mc ms := by
  refine met_ofWH (cc := cc) (maxL := maxL) (ret := ret) hy hw ?_
  intro p e s m args below meth c s₁ B hml htab hv
  obtain ⟨rfl, hM, hK, hN⟩ := hv
  have hl := lv_entry av (n := maxL) hsl
  rw [lg_entry_eq]
  generalize (lg_sl av ++ List.replicate (maxL - (lg_sl av).length) Slot.unset).toArray = ls at hl ⊢
  exact body (p, l, e, rm, s, m, av.toArray, below, meth, c) ⟨B.exec, B.bytes, hml, findClass_of_methodNamed B.named, atoms_spec (ws := ws) B.pre, hK, B.notSynchronized, rfl, hM.1⟩ rfl B.returns htab hN
    s.heap [] ls hM va_S.rf (Lc.of (by rw [hL]; exact hl) hav)
/-- what is thrown at pc is caught at hp -/
def CatchOk (σ : Sg) (own : String) (pc : Nat) (E : String) (hp : Nat) : Prop := ∃ (pre : List ExceptionTableEntry) (x : ExceptionTableEntry) (suf : List ExceptionTableEntry) (name : String), σ.2.2.2.2.2.2.2.2.2.exceptionTable.toList = pre ++ x :: suf ∧
  (∀ z ∈ pre, covers z pc = false ∨ (z.catchType ≠ 0 ∧ ∃ nm : String, (Cond.classLink own z.catchType nm).before σ.2.2.2.2.2.2.1 σ.2.2.2.2.1 = true ∧ va_Nc E nm σ.2.2.2.2.1)) ∧ covers x pc = true ∧ x.catchType ≠ 0 ∧
  (Cond.classLink own x.catchType name).before σ.2.2.2.2.2.2.1 σ.2.2.2.2.1 = true ∧ (Cond.castable E name).before σ.2.2.2.2.2.2.1 σ.2.2.2.2.1 = true ∧ x.handlerPc = hp
section
variable {ω : Om} {σ : Sg} {cc : ByteArray} {nL : Nat} {Ts : List Cond} {own : String} {rm : Room} {M : MM} {L : List (Option Value)} {kc ks : Nat} {Q : State → Prop} {pc : Nat} {st stk : List Value}
theorem Fx.cast (F : Fx ω σ cc nL Ts own rm) {w : Cond} (h : w ∈ nwL) : w.before σ.2.2.2.2.2.2.1 σ.2.2.2.2.1 = true := va_Nw.use (nwL_on w h) (F.2.2.2.2.2.1.2.2.2.2 w h)
theorem CatchOk.c1 (F : Fx ω σ cc nL Ts own rm) {a b h t : Nat} {r : List (Nat × Nat × Nat × Nat)} {E : String} (ht : σ.2.2.2.2.2.2.2.2.2.exceptionTable.toList = tableOf ((a, b, h, t) :: r)) (hc : covers ⟨a, b, h, t⟩ pc = true) (h0 : t ≠ 0) (hl : Cond.classLink own t E ∈ Ts) (hE : Cond.castable E E ∈ nwL) : CatchOk σ own pc E h :=
  ⟨[], ⟨a, b, h, t⟩, tableOf r, E, ht, fun z hz => (by cases hz), hc, h0, F.2.2.2.2.1 _ hl, F.cast hE, rfl⟩
theorem CatchOk.c2 (F : Fx ω σ cc nL Ts own rm) {a b h t a1 b1 h1 t1 : Nat} {r : List (Nat × Nat × Nat × Nat)} {E nm : String} (ht : σ.2.2.2.2.2.2.2.2.2.exceptionTable.toList = tableOf ((a1, b1, h1, t1) :: (a, b, h, t) :: r)) (hc : covers ⟨a, b, h, t⟩ pc = true) (h0 : t ≠ 0) (h01 : t1 ≠ 0) (hl : Cond.classLink own t E ∈ Ts) (hl1 : Cond.classLink own t1 nm ∈ Ts) (hN : va_Nc E nm σ.2.2.2.2.1) (hE : Cond.castable E E ∈ nwL) : CatchOk σ own pc E h := by
  refine ⟨[⟨a1, b1, h1, t1⟩], ⟨a, b, h, t⟩, tableOf r, E, ht, fun z hz => ?_, hc, h0, F.2.2.2.2.1 _ hl, F.cast hE, rfl⟩
  rw [List.mem_singleton.mp hz]
  exact Or.inr ⟨h01, nm, F.2.2.2.2.1 _ hl1, hN⟩
theorem CatchOk.c3 (F : Fx ω σ cc nL Ts own rm) {a b h t a1 b1 h1 t1 a2 b2 h2 t2 : Nat} {r : List (Nat × Nat × Nat × Nat)} {E nm nm2 : String} (ht : σ.2.2.2.2.2.2.2.2.2.exceptionTable.toList = tableOf ((a1, b1, h1, t1) :: (a2, b2, h2, t2) :: (a, b, h, t) :: r)) (hc : covers ⟨a, b, h, t⟩ pc = true) (h0 : t ≠ 0) (h01 : t1 ≠ 0) (h02 : t2 ≠ 0) (hl : Cond.classLink own t E ∈ Ts) (hl1 : Cond.classLink own t1 nm ∈ Ts) (hl2 : Cond.classLink own t2 nm2 ∈ Ts) (hN : va_Nc E nm σ.2.2.2.2.1) (hN2 : va_Nc E nm2 σ.2.2.2.2.1) (hE : Cond.castable E E ∈ nwL) : CatchOk σ own pc E h := by
  refine ⟨[⟨a1, b1, h1, t1⟩, ⟨a2, b2, h2, t2⟩], ⟨a, b, h, t⟩, tableOf r, E, ht, fun z hz => ?_, hc, h0, F.2.2.2.2.1 _ hl, F.cast hE, rfl⟩
  rcases List.mem_cons.mp hz with rfl | hz
  · exact Or.inr ⟨h01, nm, F.2.2.2.2.1 _ hl1, hN⟩
  · rw [List.mem_singleton.mp hz]
    exact Or.inr ⟨h02, nm2, F.2.2.2.2.1 _ hl2, hN2⟩
variable {y : MethodName} {ws' ws'' : List Cond} {rm' : Room} {PQ : Option Value → MM → Prop} {mc ms idx ci b maxL : Nat} {bytes : ByteArray} {ret : Option FieldType} {fs : List Value} {q : vw_C} {PX : String → Prop}
theorem v_callVC (F : Fx ω σ cc nL Ts own rm) (n : Nat) (As : List Value) (hst : stk = As.reverse ++ .ref b :: st) (hn : As.length = n) (hLn : L.length = nL) (hM : CtX σ.2.1 ω y ws' rm' (.ref b :: As) M PQ PX mc ms) (hG : GoodIn Ts (wsV own idx q.1 y ws')) (hw : ws' = Cond.code y bytes maxL ret :: ws'')
    (hd : y.cls = q.1 ∧ y.cls ≠ "java/lang/invoke/MethodHandle" ∧ y.cls ≠ "java/lang/invoke/VarHandle" ∧ (parseMethodDescriptor y.desc).map (fun d => d.parameters.length) = some n) (hR : RmOk rm' rm maxL mc ms kc ks st) (hb : M b = some (.inr (ci, fs))) (hc : vwCl[ci]? = some q) (d : decode cc pc = .ok (.invokevirtual idx, 3))
    (kx : ∀ E, PX E → ∃ hp, CatchOk σ own pc E hp ∧ ∀ q9 : Nat, V ω σ M L (kc + mc) (ks + ms) Q hp [.ref q9])
    (k : ∀ (v : Option Value) (M' : MM), PQ v M' → V ω σ M' L (kc + mc) (ks + ms) Q (pc + 3) (v.toList ++ st)) : V ω σ M L kc ks Q pc stk := by
  subst hst
  obtain ⟨p, l, e, R, s, m, args, below, meth, c⟩ := σ
  intro H locs ls h1 h2 h3
  obtain ⟨hx, hb9, hml, hown, hts, hK, hlk, hRr, hz⟩ := F
  cases hRr
  have hr := vx_runV (nL := nL) (y := y) (ws := ws') (rm := rm') (n := n) (As := As) (rest := st) (H := H) (locs := locs) (cells := kc) (slots := ks) (below := below) (meth := meth) (e := e) (g := F0 m pc ls (As.reverse ++ .ref b :: st)) ⟨hx, hb9, hml, hown, hts⟩ hM (cwV n hts hG hw hR.1.1 hR.1.2 hd hR.2.1) ⟨PcO.blind, hm.recv (σ := (p, l, e, R, s, m, args, below, meth, c)) hK h1 hb hc, PcO.at (σ := (p, l, e, R, s, m, args, below, meth, c)) hK h1 h2⟩ rfl hn (h3.1.trans hLn) rfl (lv_room (m := m) (pc := 0) (ls := #[]) (rest := []) hR.2.2.2) d hR.2.2.1
  have h2 : va_S (zA ω) s.heap H locs := h2
  intro T hT X
  have keep : ∀ {st₀ t T' : State} {L9 : List Loc}, st₀.heap = H → T'.heap = t.heap → (∀ q ∈ L9, zA ω q.base) → va_F (zA ω) st₀ t → va_S (zA ω) s.heap T'.heap (locs ++ L9) := by
    intro st₀ t T' L9 h0 e1 hL hF
    obtain ⟨hz, hk⟩ := hF
    rw [h0] at hz hk
    exact ⟨Nat.le_trans h2.1 (by rw [e1]; exact hz), fun q h1 hn => by rw [e1, hk q (Nat.lt_of_lt_of_le h1 h2.1) hn]; exact h2.2.1 q h1 hn, fun q hq => by
      rcases List.mem_append.mp hq with h | h
      · exact h2.2.2 q h
      · exact hL q h⟩
  rcases hr T hT X with ⟨v, st₀, t, T', L9, h0, X', hL, e1, e2, ⟨⟨v', M', hv, hp, hb2⟩, hF⟩, stp⟩ | ⟨q9, st₀, t, T', L9, E, ce, h0, X', hL, e1, e2, ⟨hp, hb2, hF⟩, hce, hcv, hcl, stp⟩
  · cases hv
    obtain ⟨t2, a1, b1⟩ := k v M' hp T'.heap (locs ++ L9) ls (by rw [e1]; exact hb2) (keep h0 e1 hL hF) h3 T' rfl X'
    exact ⟨t2, stp t2 a1, b1⟩
  · obtain ⟨hp9, ⟨pre, x, suf, name, c1, c2, c3, c4, c5, c6, rfl⟩, kk⟩ := kx E hp
    obtain ⟨t2, a1, b1⟩ := vx_catch (name := name) (pc := pc) (rest := st) hown pre x suf c1 c2 c3 c4 c5 c6 (by rw [e1]; exact hce) hcv hcl (kk q9 T'.heap (locs ++ L9) ls (by rw [e1]; exact hb2) (keep h0 e1 hL hF) h3) T' rfl X'
    exact ⟨t2, stp.trans a1, b1⟩
theorem v_callSN {hh : List (Nat × Nat × Nat × Nat)} (F : Fx ω σ cc nL Ts own rm) (hN : Nc3 σ.2.2.2.2.1) (n : Nat) (As : List Value) (hst : stk = As.reverse ++ st) (hn : As.length = n) (hLn : L.length = nL) (hM : CtN σ.2.1 ω y ws' rm' As M PQ mc ms) (hG : GoodIn Ts (va_wsS own idx y ws')) (hw : ws' = Cond.codeWith y bytes maxL ret hh :: ws'')
    (hd : y.cls ≠ "java/lang/invoke/MethodHandle" ∧ y.cls ≠ "java/lang/invoke/VarHandle" ∧ (parseMethodDescriptor y.desc).map (fun d => d.parameters.length) = some n) (hR : RmOk rm' rm maxL mc ms kc ks st) (d : decode cc pc = .ok (.invokestatic idx, 3))
    (k : ∀ (v : Option Value) (M' : MM), PQ v M' → V ω σ M' L (kc + mc) (ks + ms) Q (pc + 3) (v.toList ++ st)) : V ω σ M L kc ks Q pc stk := by
  subst hst
  obtain ⟨p, l, e, R, s, m, args, below, meth, c⟩ := σ
  intro H locs ls h1 h2 h3
  obtain ⟨hx, hb9, hml, hown, hts, hK, hlk, hRr, hz⟩ := F
  cases hRr
  exact run_go (vx_runSW (nL := nL) (y := y) (ws := ws') (rm := rm') (n := n) (As := As) (rest := st) ⟨hx, hb9, hml, hown, hts⟩ hM (vx_cwSW n hts hG hw hR.1.1 hR.1.2 hd hR.2.1) ⟨PcN.blind, fun U hU hW => by
    obtain ⟨q1, q2, q3⟩ := PcO.at (σ := (p, l, e, R, s, m, args, below, meth, c)) (av := As) hK h1 h2 U hU hW
    exact ⟨q1, q2, q3, hN.moved hW.alike⟩⟩ rfl hn (h3.1.trans hLn) rfl (lv_room (m := m) (pc := 0) (ls := #[]) (rest := []) hR.2.2.2) d hR.2.2.1) h2 (fun v M' H1 locs1 hp hm1 hs1 => k v M' hp H1 locs1 ls hm1 hs1 h3)
/-- the law's own row of numbers, which lies outside the world -/
theorem v_sld (F : Fx ω σ cc nL Ts own rm) {b n : Nat} {xs : Nat → Int32} (hX : va_X b n xs σ.2.2.2.2.1 σ.2.2.2.2.1.heap) (hb : b < σ.2.2.2.2.1.heap.size) (hz : ω.2.1 = σ.2.2.2.2.1.heap.size) {i : Int32} (hin : vp_in i n) (d : decode cc pc = .ok (.iaload, 1)) (k : V ω σ M L kc ks Q (pc + 1) (.int (xs i.toNatClampNeg) :: st)) : V ω σ M L kc ks Q pc (.int i :: .ref b :: st) := by
  intro H locs ls h1 h2 h3
  exact va_sld F.1 F.2.1 hX hb (fun h => absurd h (by show ¬ ω.2.1 ≤ b; omega)) h2 hin d (k H locs ls h1 h2 h3)
theorem v_slen (F : Fx ω σ cc nL Ts own rm) {b n : Nat} {xs : Nat → Int32} (hX : va_X b n xs σ.2.2.2.2.1 σ.2.2.2.2.1.heap) (hb : b < σ.2.2.2.2.1.heap.size) (hz : ω.2.1 = σ.2.2.2.2.1.heap.size) (d : decode cc pc = .ok (.arraylength, 1)) (k : V ω σ M L kc ks Q (pc + 1) (.int (nI n) :: st)) : V ω σ M L kc ks Q pc (.ref b :: st) := by
  intro H locs ls h1 h2 h3
  exact va_slen F.1 F.2.1 hX hb (fun h => absurd h (by show ¬ ω.2.1 ≤ b; omega)) h2 d (k H locs ls h1 h2 h3)
end
