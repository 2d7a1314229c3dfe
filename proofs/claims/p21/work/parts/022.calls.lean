/-! contracts over worlds as maps; calls and ends in the judgement V -/
theorem Kw.go {ω : Om} {s U : State} {H H1 : Heap} {locs : List Loc} (h : Kw ω s H) (hS : va_S (zA ω) H H1 locs) (hW : s.WarmedH U.vm) : Kw ω U H1 := by
  obtain ⟨h1, h2, h3, h4, h5⟩ := h
  have hv := hW.alike
  exact ⟨va_K.moved hv h1, vx_Zq.moved hv (h2.kept fun a ha hn => hS.2.1 a ha hn), vx_Zq.moved hv (h3.kept fun a ha hn => hS.2.1 a ha hn), fun q hq => (h4 q hq).imp fun sa h => vk_R.warm hW h, h5.warm hW⟩
def PcO (ω : Om) (av : List Value) (M : MM) : Array Value → State → Prop := va_Pc av (fun U => hm ω M U.heap ∧ Kw ω U U.heap)
def QcO (ω : Om) (PQ : Option Value → MM → Prop) : Array Value → State → Outcome → State → Prop := fun _ st oc t => (∃ (v : Option Value) (M' : MM), oc = .returned v ∧ PQ v M' ∧ hm ω M' t.heap) ∧ va_F (zA ω) st t
def Ct (l : Launch) (ω : Om) (y : MethodName) (ws : List Cond) (rm : Room) (av : List Value) (M : MM) (PQ : Option Value → MM → Prop) (mc ms : Nat) : Prop := Met l y ws rm (PcO ω av M) (QcO ω PQ) mc ms (zA ω)
def BQ (ω : Om) (σ : Sg) (PQ : Option Value → MM → Prop) (mc ms : Nat) : State → Prop := MQ σ.2.2.2.2.2.2.2.1 (QcO ω PQ) σ.2.2.2.2.2.2.1 σ.2.2.2.2.1 mc ms (zA ω)
theorem PcO.blind {ω : Om} {av : List Value} {M : MM} : FrameBlind (PcO ω av M) := by
  intro a U g mk h
  obtain ⟨h1, h2, h3, h4, h5, h6, h7⟩ := h
  exact ⟨h1, h2, va_K.moved (u := U) (U := U.calling g mk a) (Vm.Alike.refl U.vm) h3, vx_Zq.moved (u := U) (U := U.calling g mk a) (Vm.Alike.refl U.vm) h4, vx_Zq.moved (u := U) (U := U.calling g mk a) (Vm.Alike.refl U.vm) h5, fun q hq => (h6 q hq).imp fun sa h => vk_R.same (u := U) (U := U.calling g mk a) rfl h, Nw3.same (s := U) (U := U.calling g mk a) rfl h7⟩
theorem Ct.ofV {l : Launch} {ω : Om} {y : MethodName} {ws ws' : List Cond} {rm : Room} {av : List Value} {M : MM} {PQ : Option Value → MM → Prop} {mc ms : Nat} {cc : ByteArray} {maxL : Nat} {ret : Option FieldType} (L : List (Option Value))
    (hy : plainName y.cls = true) (hw : ws = Cond.code y cc maxL ret :: ws') (hsl : (lg_sl av).length ≤ maxL) (hL : L.length = maxL) (hav : ∀ (i : Nat) (v : Value), L[i]? = some (some v) → (i, v) ∈ lv_args 0 av)
    (body : ∀ σ : Sg, Fx ω σ cc maxL ws y.cls rm → σ.2.1 = l → σ.2.2.2.2.2.2.2.2.1.sig.returnType = ret → σ.2.2.2.2.2.2.2.2.1.name = y.name → V ω σ M L 0 0 (BQ ω σ PQ mc ms) 0 []) : Ct l ω y ws rm av M PQ mc ms := by
  refine Met.ofW (cc := cc) (maxL := maxL) (ret := ret) hy hw ?_
  intro p e s m args below meth c s₁ B hml hv
  obtain ⟨rfl, hM, hK⟩ := hv
  have hl := lv_entry av (n := maxL) hsl
  rw [lg_entry_eq]
  generalize (lg_sl av ++ List.replicate (maxL - (lg_sl av).length) Slot.unset).toArray = ls at hl ⊢
  exact body (p, l, e, rm, s, m, av.toArray, below, meth, c) ⟨B.exec, B.bytes, hml, findClass_of_methodNamed B.named, atoms_spec (ws := ws) B.pre, hK, B.notSynchronized, rfl, hM.1⟩ rfl B.returns (name_of_methodNamed B.named B.method).1
    s.heap [] ls hM va_S.rf (Lc.of (by rw [hL]; exact hl) hav)
theorem run_go {p : Program} {l : Launch} {e : Env} {R : Room} {s : State} {m : MethodId} {args : Array Value} {below : List Frame} {meth : Method} {c : Code} {H : Heap} {locs : List Loc} {kc ks mc ms : Nat} {Q : State → Prop} {pc : Nat} {ls : Array Slot} {st0 st : List Value} {ω : Om} {PQ : Option Value → MM → Prop} {a : Array Value}
    (hr : va_Run p l e R s m args below meth c H locs kc ks mc ms (F0 m pc ls st0) st (QcO ω PQ a) (zA ω)) (h2 : va_S (zA ω) s.heap H locs)
    (kk : ∀ (v : Option Value) (M' : MM) (H1 : Heap) (locs1 : List Loc), PQ v M' → hm ω M' H1 → va_S (zA ω) s.heap H1 locs1 → W p l e R s m args below meth c H1 locs1 (kc + mc) (ks + ms) Q (F0 m (pc + 3) ls (v.toList ++ st))) : W p l e R s m args below meth c H locs kc ks Q (F0 m pc ls st0) := by
  intro T hT X
  obtain ⟨v, st₀, t, T', L, h0, X', hL, e1, e2, ⟨⟨v', M', hv, hp, hb⟩, hz, hk⟩, stp⟩ := hr T hT X
  cases hv
  rw [h0] at hz hk
  obtain ⟨t2, a1, b1⟩ := kk v M' T'.heap (locs ++ L) hp (by rw [e1]; exact hb)
    ⟨Nat.le_trans h2.1 (by rw [e1]; exact hz), fun q h1 hn => by rw [e1, hk q (Nat.lt_of_lt_of_le h1 h2.1) hn]; exact h2.2.1 q h1 hn, fun q hq => by
      rcases List.mem_append.mp hq with h | h
      · exact h2.2.2 q h
      · exact hL q h⟩ T' rfl X'
  exact ⟨t2, stp t2 a1, b1⟩
theorem PcO.at {ω : Om} {σ : Sg} {M : MM} {H : Heap} {locs : List Loc} {av : List Value} (hK : Kw ω σ.2.2.2.2.1 σ.2.2.2.2.1.heap) (h1 : hm ω M H) (h2 : va_S (zA ω) σ.2.2.2.2.1.heap H locs) : ∀ U : State, U.heap = H → σ.2.2.2.2.1.WarmedH U.vm → PcO ω av M av.toArray U := by
  intro U hU hW
  subst hU
  exact ⟨rfl, h1, hK.go h2 hW⟩
theorem hm.recv {ω : Om} {σ : Sg} {M : MM} {H : Heap} (hK : Kw ω σ.2.2.2.2.1 σ.2.2.2.2.1.heap) (h1 : hm ω M H) {b ci : Nat} {fs : List Value} {q : vw_C} (hb : M b = some (.inr (ci, fs))) (hc : vwCl[ci]? = some q) : ∃ cell : Cell, H[b]? = some cell ∧ cell.vm.isStatics = false ∧ σ.2.2.2.2.1.vm.findClass q.1 = some cell.cls := va_recv (q0 := 0) hK.1 (h1.P1 hb) hc rfl
/-- contracts of methods that may throw: a call that throws leaves the world as it was -/
def XcO (ω : Om) (PX : String → Prop) (M : MM) : String → State → State → Prop := fun E st t => PX E ∧ hm ω M t.heap ∧ va_F (zA ω) st t
def CtX (l : Launch) (ω : Om) (y : MethodName) (ws : List Cond) (rm : Room) (av : List Value) (M : MM) (PQ : Option Value → MM → Prop) (PX : String → Prop) (mc ms : Nat) : Prop := vx_Met l y ws rm (PcO ω av M) (QcO ω PQ) (XcO ω PX M) mc ms (zA ω)
def BX (ω : Om) (σ : Sg) (PQ : Option Value → MM → Prop) (PX : String → Prop) (M : MM) (mc ms : Nat) : State → Prop := vx_MQ σ.2.2.2.2.2.2.2.1 (QcO ω PQ) (XcO ω PX M) σ.2.2.2.2.2.2.1 σ.2.2.2.2.1 mc ms (zA ω)
theorem CtX.ofV {l : Launch} {ω : Om} {y : MethodName} {ws ws' : List Cond} {rm : Room} {av : List Value} {M : MM} {PQ : Option Value → MM → Prop} {PX : String → Prop} {mc ms : Nat} {cc : ByteArray} {maxL : Nat} {ret : Option FieldType} (L : List (Option Value))
    (hy : plainName y.cls = true) (hw : ws = Cond.code y cc maxL ret :: ws') (hsl : (lg_sl av).length ≤ maxL) (hL : L.length = maxL) (hav : ∀ (i : Nat) (v : Value), L[i]? = some (some v) → (i, v) ∈ lv_args 0 av)
    (body : ∀ σ : Sg, Fx ω σ cc maxL ws y.cls rm → σ.2.1 = l → σ.2.2.2.2.2.2.2.2.1.sig.returnType = ret → (∀ x ∈ σ.2.2.2.2.2.2.2.2.2.exceptionTable.toList, False) → V ω σ M L 0 0 (BX ω σ PQ PX M mc ms) 0 []) : CtX l ω y ws rm av M PQ PX mc ms := by
  refine vx_ofW (cc := cc) (maxL := maxL) (ret := ret) hy hw ?_
  intro p e s m args below meth c s₁ B hml hnx hv
  obtain ⟨rfl, hM, hK⟩ := hv
  have hl := lv_entry av (n := maxL) hsl
  rw [lg_entry_eq]
  generalize (lg_sl av ++ List.replicate (maxL - (lg_sl av).length) Slot.unset).toArray = ls at hl ⊢
  exact body (p, l, e, rm, s, m, av.toArray, below, meth, c) ⟨B.exec, B.bytes, hml, findClass_of_methodNamed B.named, atoms_spec (ws := ws) B.pre, hK, B.notSynchronized, rfl, hM.1⟩ rfl B.returns hnx
    s.heap [] ls hM va_S.rf (Lc.of (by rw [hL]; exact hl) hav)
/-- what never throws is a contract without throws -/
theorem CtX.noX {l : Launch} {ω : Om} {y : MethodName} {ws : List Cond} {rm : Room} {av : List Value} {M : MM} {PQ : Option Value → MM → Prop} {PX : String → Prop} {mc ms : Nat} (h : CtX l ω y ws rm av M PQ PX mc ms) (hx : ∀ E, ¬ PX E) : Ct l ω y ws rm av M PQ mc ms := by
  intro p e ha hc hk s m args below hf happ hP hK
  obtain ⟨n, o, h1, h2, h3, h4⟩ := h p e ha hc hk s m args below hf happ hP hK
  rcases h4 with h4 | ⟨q, -, E, ce, L, hX, -⟩
  · exact ⟨n, o, h1, h2, h3, h4⟩
  · exact absurd hX.1 (hx E)
theorem runX_go {p : Program} {l : Launch} {e : Env} {R : Room} {s : State} {m : MethodId} {args : Array Value} {below : List Frame} {meth : Method} {c : Code} {H : Heap} {locs : List Loc} {kc ks mc ms mc0 ms0 : Nat} {pc : Nat} {ls : Array Slot} {st0 st : List Value} {ω : Om} {PQ PQ0 : Option Value → MM → Prop} {PX PX0 : String → Prop} {M : MM} {a : Array Value}
    (hnx : ∀ x ∈ c.exceptionTable.toList, False) (hlk : meth.locks = false) (hr : vx_Run p l e R s m args below meth c H locs kc ks mc ms (F0 m pc ls st0) st (QcO ω PQ a) (XcO ω PX M) (zA ω)) (h2 : va_S (zA ω) s.heap H locs)
    (kk : ∀ (v : Option Value) (M' : MM) (H1 : Heap) (locs1 : List Loc), PQ v M' → hm ω M' H1 → va_S (zA ω) s.heap H1 locs1 → W p l e R s m args below meth c H1 locs1 (kc + mc) (ks + ms) (vx_MQ below (QcO ω PQ0) (XcO ω PX0 M) args s mc0 ms0 (zA ω)) (F0 m (pc + 3) ls (v.toList ++ st)))
    (hxs : ∀ E, PX E → PX0 E) (hck : kc + mc ≤ mc0) (hsk : ks + ms ≤ ms0) : W p l e R s m args below meth c H locs kc ks (vx_MQ below (QcO ω PQ0) (XcO ω PX0 M) args s mc0 ms0 (zA ω)) (F0 m pc ls st0) := by
  intro T hT X
  have keep : ∀ {st₀ t T' : State} {L : List Loc}, st₀.heap = H → T'.heap = t.heap → (∀ q ∈ L, zA ω q.base) → va_F (zA ω) st₀ t → va_S (zA ω) s.heap T'.heap (locs ++ L) := by
    intro st₀ t T' L h0 e1 hL hF
    obtain ⟨hz, hk⟩ := hF
    rw [h0] at hz hk
    exact ⟨Nat.le_trans h2.1 (by rw [e1]; exact hz), fun q h1 hn => by rw [e1, hk q (Nat.lt_of_lt_of_le h1 h2.1) hn]; exact h2.2.1 q h1 hn, fun q hq => by
      rcases List.mem_append.mp hq with h | h
      · exact h2.2.2 q h
      · exact hL q h⟩
  rcases hr T hT X with ⟨v, st₀, t, T', L, h0, X', hL, e1, e2, ⟨⟨v', M', hv, hp, hb⟩, hF⟩, stp⟩ | ⟨q, st₀, t, T', L, E, ce, h0, X', hL, e1, e2, ⟨hp, hb, hF⟩, hce, hcv, hcl, stp⟩
  · cases hv
    obtain ⟨t2, a1, b1⟩ := kk v M' T'.heap (locs ++ L) hp (by rw [e1]; exact hb) (keep h0 e1 hL hF) T' rfl X'
    exact ⟨t2, stp t2 a1, b1⟩
  · have hS := keep h0 e1 hL hF
    obtain ⟨t2, a1, b1⟩ := vx_out (ls := ls) (rest := st) (pc := pc) (mc := mc0) (ms := ms0) (Qc := QcO ω PQ0) (XC := XcO ω PX0 M) (free := zA ω) (H := T'.heap) (fun x hx => (hnx x hx).elim) hlk (by rw [e1]; exact hce) hcv hcl
      (fun t9 ht9 _ => ⟨hxs E hp, by rw [ht9, e1]; exact hb, hS.F ht9⟩) hS.2.2 hck hsk T' rfl X'
    exact ⟨t2, stp.trans a1, b1⟩
section CALLS
variable {ω : Om} {σ : Sg} {cc : ByteArray} {nL : Nat} {Ts : List Cond} {own : String} {rm : Room} {M : MM} {L : List (Option Value)} {kc ks : Nat} {Q : State → Prop} {pc : Nat} {st stk : List Value}
variable {y : MethodName} {ws' ws'' : List Cond} {rm' : Room} {PQ : Option Value → MM → Prop} {mc ms idx ci b maxL : Nat} {bytes : ByteArray} {ret : Option FieldType} {fs : List Value} {q : vw_C} {PQ0 : Option Value → MM → Prop} {PX PX0 : String → Prop} {mc0 ms0 : Nat}
/-- what a call asks of the two rooms and of the stack below -/
def RmOk (rm' rm : Room) (maxL mc ms kc ks : Nat) (st : List Value) : Prop := (rm'.cells = mc ∧ rm'.slots = ms) ∧ (rm'.frames + 1 ≤ rm.frames ∧ 8 + (maxL + 11) + rm'.locals ≤ rm.locals) ∧ (kc + mc ≤ rm.cells ∧ ks + ms ≤ rm.slots) ∧ (st.map fun v => v.category).sum ≤ 8
theorem v_callV (F : Fx ω σ cc nL Ts own rm) (n : Nat) (As : List Value) (hst : stk = As.reverse ++ .ref b :: st) (hn : As.length = n) (hLn : L.length = nL) (hM : Ct σ.2.1 ω y ws' rm' (.ref b :: As) M PQ mc ms) (hG : GoodIn Ts (wsV own idx q.1 y ws')) (hw : ws' = Cond.code y bytes maxL ret :: ws'')
    (hd : y.cls = q.1 ∧ y.cls ≠ "java/lang/invoke/MethodHandle" ∧ y.cls ≠ "java/lang/invoke/VarHandle" ∧ (parseMethodDescriptor y.desc).map (fun d => d.parameters.length) = some n) (hR : RmOk rm' rm maxL mc ms kc ks st) (hb : M b = some (.inr (ci, fs))) (hc : vwCl[ci]? = some q) (d : decode cc pc = .ok (.invokevirtual idx, 3)) 
    (k : ∀ (v : Option Value) (M' : MM), PQ v M' → V ω σ M' L (kc + mc) (ks + ms) Q (pc + 3) (v.toList ++ st)) : V ω σ M L kc ks Q pc stk := by
  subst hst
  obtain ⟨p, l, e, R, s, m, args, below, meth, c⟩ := σ
  intro H locs ls h1 h2 h3
  obtain ⟨hx, hb9, hml, hown, hts, hK, hlk, hRr, hz⟩ := F
  cases hRr
  exact run_go (va_runV (nL := nL) (y := y) (ws := ws') (rm := rm') (n := n) (As := As) (rest := st) ⟨hx, hb9, hml, hown, hts⟩ hM (cwV n hts hG hw hR.1.1 hR.1.2 hd hR.2.1) ⟨PcO.blind, hm.recv (σ := (p, l, e, R, s, m, args, below, meth, c)) hK h1 hb hc, PcO.at (σ := (p, l, e, R, s, m, args, below, meth, c)) hK h1 h2⟩ rfl hn (h3.1.trans hLn) rfl (lv_room (m := m) (pc := 0) (ls := #[]) (rest := []) hR.2.2.2) d hR.2.2.1) h2 (fun v M' H1 locs1 hp hm1 hs1 => k v M' hp H1 locs1 ls hm1 hs1 h3)
theorem v_callS (F : Fx ω σ cc nL Ts own rm) (n : Nat) (As : List Value) (hst : stk = As.reverse ++ st) (hn : As.length = n) (hLn : L.length = nL) (hM : Ct σ.2.1 ω y ws' rm' As M PQ mc ms) (hG : GoodIn Ts (va_wsS own idx y ws')) (hw : ws' = Cond.code y bytes maxL ret :: ws'')
    (hd : y.cls ≠ "java/lang/invoke/MethodHandle" ∧ y.cls ≠ "java/lang/invoke/VarHandle" ∧ (parseMethodDescriptor y.desc).map (fun d => d.parameters.length) = some n) (hR : RmOk rm' rm maxL mc ms kc ks st) (d : decode cc pc = .ok (.invokestatic idx, 3)) 
    (k : ∀ (v : Option Value) (M' : MM), PQ v M' → V ω σ M' L (kc + mc) (ks + ms) Q (pc + 3) (v.toList ++ st)) : V ω σ M L kc ks Q pc stk := by
  subst hst
  obtain ⟨p, l, e, R, s, m, args, below, meth, c⟩ := σ
  intro H locs ls h1 h2 h3
  obtain ⟨hx, hb9, hml, hown, hts, hK, hlk, hRr, hz⟩ := F
  cases hRr
  exact run_go (va_runS (nL := nL) (y := y) (ws := ws') (rm := rm') (n := n) (As := As) (rest := st) ⟨hx, hb9, hml, hown, hts⟩ hM (va_cwS n hts hG hw hR.1.1 hR.1.2 hd hR.2.1) ⟨PcO.blind, PcO.at (σ := (p, l, e, R, s, m, args, below, meth, c)) hK h1 h2⟩ rfl hn (h3.1.trans hLn) rfl (lv_room (m := m) (pc := 0) (ls := #[]) (rest := []) hR.2.2.2) d hR.2.2.1) h2 (fun v M' H1 locs1 hp hm1 hs1 => k v M' hp H1 locs1 ls hm1 hs1 h3)
theorem v_callI (F : Fx ω σ cc nL Ts own rm) (n : Nat) (As : List Value) (hst : stk = As.reverse ++ .ref b :: st) (hn : As.length = n) (hLn : L.length = nL) (hM : Ct σ.2.1 ω y ws' rm' (.ref b :: As) M PQ mc ms) (hG : GoodIn Ts ws') (hw : ws' = Cond.code y bytes maxL none :: ws'')
    (hd : y.cls ≠ "java/lang/invoke/MethodHandle" ∧ y.cls ≠ "java/lang/invoke/VarHandle" ∧ (parseMethodDescriptor y.desc).map (fun d => d.parameters.length) = some n) (hR : RmOk rm' rm maxL mc ms kc ks st) (hini : Cond.initialized y.cls ∈ Ts) (hin : Cond.instanceMethod y ∈ Ts) (hy1 : y.name = "<init>") (hl : Cond.methodLink own idx y ∈ Ts) (d : decode cc pc = .ok (.invokespecial idx, 3)) 
    (k : ∀ (v : Option Value) (M' : MM), PQ v M' → V ω σ M' L (kc + mc) (ks + ms) Q (pc + 3) (v.toList ++ st)) : V ω σ M L kc ks Q pc stk := by
  subst hst
  obtain ⟨p, l, e, R, s, m, args, below, meth, c⟩ := σ
  intro H locs ls h1 h2 h3
  obtain ⟨hx, hb9, hml, hown, hts, hK, hlk, hRr, hz⟩ := F
  cases hRr
  exact run_go (va_runI (nL := nL) (y := y) (ws := ws') (rm := rm') (n := n) (As := As) (rest := st) ⟨hx, hb9, hml, hown, hts⟩ hM (cwI n hts hG hw hR.1.1 hR.1.2 (hts _ hini) (hts _ hl) (hts _ hin) hy1 hd hR.2.1) ⟨PcO.blind, PcO.at (σ := (p, l, e, R, s, m, args, below, meth, c)) hK h1 h2⟩ rfl hn (h3.1.trans hLn) rfl (lv_room (m := m) (pc := 0) (ls := #[]) (rest := []) hR.2.2.2) d hR.2.2.1) h2 (fun v M' H1 locs1 hp hm1 hs1 => k v M' hp H1 locs1 ls hm1 hs1 h3)
theorem v_callIN (F : Fx ω σ cc nL Ts own rm) (n : Nat) (As : List Value) (hst : stk = As.reverse ++ .ref b :: st) (hn : As.length = n) (hLn : L.length = nL) (hM : Ct σ.2.1 ω y ws' rm' (.ref b :: As) M PQ mc ms) (hG : GoodIn Ts ws') (hw : ws' = Cond.code y bytes maxL none :: ws'')
    (hd : y.cls ≠ "java/lang/invoke/MethodHandle" ∧ y.cls ≠ "java/lang/invoke/VarHandle" ∧ (parseMethodDescriptor y.desc).map (fun d => d.parameters.length) = some n) (hR : RmOk rm' rm maxL mc ms kc ks st) (hini : Cond.initialized y.cls ∈ Ts) (hin : Cond.instanceMethod y ∈ Ts) (hy1 : y.name = "<init>") {host : String} (hl : Cond.methodLinkNest own idx y host ∈ Ts) (d : decode cc pc = .ok (.invokespecial idx, 3)) 
    (k : ∀ (v : Option Value) (M' : MM), PQ v M' → V ω σ M' L (kc + mc) (ks + ms) Q (pc + 3) (v.toList ++ st)) : V ω σ M L kc ks Q pc stk := by
  subst hst
  obtain ⟨p, l, e, R, s, m, args, below, meth, c⟩ := σ
  intro H locs ls h1 h2 h3
  obtain ⟨hx, hb9, hml, hown, hts, hK, hlk, hRr, hz⟩ := F
  cases hRr
  exact run_go (va_runIN (nL := nL) (y := y) (ws := ws') (rm := rm') (n := n) (As := As) (rest := st) ⟨hx, hb9, hml, hown, hts⟩ hM ⟨va_cnB n hts hG hw hR.1.1 hR.1.2 (va_Nw.of rfl (hts _ hl)) (hts _ hini) hd hR.2.1, hy1, hts _ hin⟩ ⟨PcO.blind, PcO.at (σ := (p, l, e, R, s, m, args, below, meth, c)) hK h1 h2⟩ rfl hn (h3.1.trans hLn) rfl (lv_room (m := m) (pc := 0) (ls := #[]) (rest := []) hR.2.2.2) d hR.2.2.1) h2 (fun v M' H1 locs1 hp hm1 hs1 => k v M' hp H1 locs1 ls hm1 hs1 h3)
theorem v_callVX (F : Fx ω σ cc nL Ts own rm) (n : Nat) (As : List Value) (hst : stk = As.reverse ++ .ref b :: st) (hn : As.length = n) (hLn : L.length = nL) (hM : CtX σ.2.1 ω y ws' rm' (.ref b :: As) M PQ PX mc ms) (hG : GoodIn Ts (wsV own idx q.1 y ws')) (hw : ws' = Cond.code y bytes maxL ret :: ws'')
    (hd : y.cls = q.1 ∧ y.cls ≠ "java/lang/invoke/MethodHandle" ∧ y.cls ≠ "java/lang/invoke/VarHandle" ∧ (parseMethodDescriptor y.desc).map (fun d => d.parameters.length) = some n) (hR : RmOk rm' rm maxL mc ms kc ks st) (hb : M b = some (.inr (ci, fs))) (hc : vwCl[ci]? = some q) (d : decode cc pc = .ok (.invokevirtual idx, 3)) (hxs : ∀ E, PX E → PX0 E) (hnx : ∀ x ∈ σ.2.2.2.2.2.2.2.2.2.exceptionTable.toList, False) (hck : kc + mc ≤ mc0) (hsk : ks + ms ≤ ms0) 
    (k : ∀ (v : Option Value) (M' : MM), PQ v M' → V ω σ M' L (kc + mc) (ks + ms) (BX ω σ PQ0 PX0 M mc0 ms0) (pc + 3) (v.toList ++ st)) : V ω σ M L kc ks (BX ω σ PQ0 PX0 M mc0 ms0) pc stk := by
  subst hst
  obtain ⟨p, l, e, R, s, m, args, below, meth, c⟩ := σ
  intro H locs ls h1 h2 h3
  obtain ⟨hx, hb9, hml, hown, hts, hK, hlk, hRr, hz⟩ := F
  cases hRr
  exact runX_go hnx hlk (vx_runV (nL := nL) (y := y) (ws := ws') (rm := rm') (n := n) (As := As) (rest := st) ⟨hx, hb9, hml, hown, hts⟩ hM (cwV n hts hG hw hR.1.1 hR.1.2 hd hR.2.1) ⟨PcO.blind, hm.recv (σ := (p, l, e, R, s, m, args, below, meth, c)) hK h1 hb hc, PcO.at (σ := (p, l, e, R, s, m, args, below, meth, c)) hK h1 h2⟩ rfl hn (h3.1.trans hLn) rfl (lv_room (m := m) (pc := 0) (ls := #[]) (rest := []) hR.2.2.2) d hR.2.2.1) h2 (fun v M' H1 locs1 hp hm1 hs1 => k v M' hp H1 locs1 ls hm1 hs1 h3) hxs hck hsk
theorem v_callSX (F : Fx ω σ cc nL Ts own rm) (n : Nat) (As : List Value) (hst : stk = As.reverse ++ st) (hn : As.length = n) (hLn : L.length = nL) (hM : CtX σ.2.1 ω y ws' rm' As M PQ PX mc ms) (hG : GoodIn Ts (va_wsS own idx y ws')) (hw : ws' = Cond.code y bytes maxL ret :: ws'')
    (hd : y.cls ≠ "java/lang/invoke/MethodHandle" ∧ y.cls ≠ "java/lang/invoke/VarHandle" ∧ (parseMethodDescriptor y.desc).map (fun d => d.parameters.length) = some n) (hR : RmOk rm' rm maxL mc ms kc ks st) (d : decode cc pc = .ok (.invokestatic idx, 3)) (hxs : ∀ E, PX E → PX0 E) (hnx : ∀ x ∈ σ.2.2.2.2.2.2.2.2.2.exceptionTable.toList, False) (hck : kc + mc ≤ mc0) (hsk : ks + ms ≤ ms0) 
    (k : ∀ (v : Option Value) (M' : MM), PQ v M' → V ω σ M' L (kc + mc) (ks + ms) (BX ω σ PQ0 PX0 M mc0 ms0) (pc + 3) (v.toList ++ st)) : V ω σ M L kc ks (BX ω σ PQ0 PX0 M mc0 ms0) pc stk := by
  subst hst
  obtain ⟨p, l, e, R, s, m, args, below, meth, c⟩ := σ
  intro H locs ls h1 h2 h3
  obtain ⟨hx, hb9, hml, hown, hts, hK, hlk, hRr, hz⟩ := F
  cases hRr
  exact runX_go hnx hlk (vx_runS (nL := nL) (y := y) (ws := ws') (rm := rm') (n := n) (As := As) (rest := st) ⟨hx, hb9, hml, hown, hts⟩ hM (va_cwS n hts hG hw hR.1.1 hR.1.2 hd hR.2.1) ⟨PcO.blind, PcO.at (σ := (p, l, e, R, s, m, args, below, meth, c)) hK h1 h2⟩ rfl hn (h3.1.trans hLn) rfl (lv_room (m := m) (pc := 0) (ls := #[]) (rest := []) hR.2.2.2) d hR.2.2.1) h2 (fun v M' H1 locs1 hp hm1 hs1 => k v M' hp H1 locs1 ls hm1 hs1 h3) hxs hck hsk
theorem v_iret (F : Fx ω σ cc nL Ts own rm) {x : Int32} (hr : σ.2.2.2.2.2.2.2.2.1.sig.returnType = some .int) (d : decode cc pc = .ok (.ireturn, 1)) (hk : kc ≤ mc) (hs : ks ≤ ms) (hp : PQ (some (.int x)) M) : V ω σ M L kc ks (BQ ω σ PQ mc ms) pc [.int x] :=
  fun H locs ls h1 h2 h3 => W.widen hk hs (W.iret F.1 F.2.1 hr (fun t ht _ => ⟨⟨_, M, rfl, hp, by rw [ht]; exact h1⟩, h2.F ht⟩) h2.2.2 d F.2.2.2.2.2.2.1)
theorem v_zret (F : Fx ω σ cc nL Ts own rm) {x : Int32} (hr : σ.2.2.2.2.2.2.2.2.1.sig.returnType = some .boolean) (d : decode cc pc = .ok (.ireturn, 1)) (hx : narrow .boolean (.int x) = .int x) (hk : kc ≤ mc) (hs : ks ≤ ms) (hp : PQ (some (.int x)) M) : V ω σ M L kc ks (BQ ω σ PQ mc ms) pc [.int x] :=
  fun H locs ls h1 h2 h3 => W.widen hk hs (W.zret F.1 F.2.1 hr hx (fun t ht _ => ⟨⟨_, M, rfl, hp, by rw [ht]; exact h1⟩, h2.F ht⟩) h2.2.2 d F.2.2.2.2.2.2.1)
theorem v_aret (F : Fx ω σ cc nL Ts own rm) {v : Value} {C : String} (hr : σ.2.2.2.2.2.2.2.2.1.sig.returnType = some (.object C)) (d : decode cc pc = .ok (.areturn, 1)) (hv : isRV v = true) (hk : kc ≤ mc) (hs : ks ≤ ms) (hp : PQ (some v) M) : V ω σ M L kc ks (BQ ω σ PQ mc ms) pc [v] :=
  fun H locs ls h1 h2 h3 => W.widen hk hs (W.aret F.1 F.2.1 hr (Or.inl ⟨_, rfl⟩) (by cases v <;> first | exact Or.inl rfl | exact Or.inr ⟨_, rfl⟩ | exact Bool.noConfusion hv) (fun t ht _ => ⟨⟨_, M, rfl, hp, by rw [ht]; exact h1⟩, h2.F ht⟩) h2.2.2 d F.2.2.2.2.2.2.1)
theorem v_vret (F : Fx ω σ cc nL Ts own rm) (hr : σ.2.2.2.2.2.2.2.2.1.sig.returnType = none) (d : decode cc pc = .ok (.return_, 1)) (hk : kc ≤ mc) (hs : ks ≤ ms) (hp : PQ none M) : V ω σ M L kc ks (BQ ω σ PQ mc ms) pc [] :=
  fun H locs ls h1 h2 h3 => W.widen hk hs (W.vret F.1 F.2.1 hr (fun t ht _ => ⟨⟨_, M, rfl, hp, by rw [ht]; exact h1⟩, h2.F ht⟩) h2.2.2 d F.2.2.2.2.2.2.1)
/-- the end of a body that may throw, where it doesn't -/
theorem v_x {M0 : MM} (k : V ω σ M L kc ks (BQ ω σ PQ mc ms) pc st) : V ω σ M L kc ks (BX ω σ PQ PX M0 mc ms) pc st :=
  fun H locs ls h1 h2 h3 => vx_ret (k H locs ls h1 h2 h3)
def nmE : List String := ["java/lang/RuntimeException", "java/lang/Exception"]
/-- 'throw new E("text")' -/
theorem v_throw (F : Fx ω σ cc nL Ts RX4 rm) {cls text : String} {ik is ic : Nat} (hl : σ.2.1.stackTraces = false) (hLn : L.length = nL) (hnx : ∀ x ∈ σ.2.2.2.2.2.2.2.2.2.exceptionTable.toList, False) (hq : (is, text) ∈ strs0) (hcls : Bundle.fit cls = true) (hk : Cond.classLink RX4 ik cls ∈ Ts) (hini : Cond.initialized cls ∈ Ts) (hat : ∀ w ∈ (vx_atS RX4 ic cls nmE).filter goodWord, w ∈ Ts) (hnw : ∀ w ∈ vx_atS RX4 ic cls nmE, goodWord w = true ∨ w ∈ nwL)
    (hgood : ∀ w ∈ Cond.classLink RX4 ik cls :: Cond.initialized cls :: vx_atS RX4 ic cls nmE, vx_ot w = true)
    (d0 : decode cc pc = .ok (.new ik, 3)) (d3 : decode cc (pc + 3) = .ok (.dup, 1)) (d4 : decode cc (pc + 4) = .ok (.ldc is, 2)) (d6 : decode cc (pc + 6) = .ok (.invokespecial ic, 3)) (d9 : decode cc (pc + 9) = .ok (.athrow, 1))
    (hR : 5 < rm.frames ∧ (st.map fun v => v.category).sum + 82 ≤ rm.locals ∧ kc + 1 ≤ rm.cells ∧ ks + 6 ≤ rm.slots) (hc : kc + 1 ≤ mc) (hs : ks + 6 ≤ ms) (hp : PX cls) : V ω σ M L kc ks (BX ω σ PQ PX M mc ms) pc st := by
  obtain ⟨p, l, e, R, s, m, args, below, meth, c⟩ := σ
  intro H locs ls h1 h2 h3
  obtain ⟨hx, hb9, hml, hown, hts, ⟨hK, hU, hN, hst, hw3⟩, hlk, hRr, hz⟩ := F
  cases hRr
  obtain ⟨sa, hsa⟩ := hst _ hq
  refine vx_throwS hx hb9 hl hown hcls (by decide +kernel) (hts _ hk) (hts _ hini) hsa (names := nmE) (ic := ic) (fun w hw => ?_) hgood hU hN h2 (h3.1.trans (hLn.trans hml.symm)) d0 d3 d4 d6 d9 (fun x hx => (hnx x hx).elim) hR.1 hR.2.1 hR.2.2.1 hR.2.2.2 hlk (fun t _ hzt hkt => ?_) h2.2.2 hc hs
  · rcases hnw w hw with h | h
    · exact hts _ (hat w (List.mem_filter.mpr ⟨hw, h⟩))
    · exact va_Nw.use (nwL_on w h) (hw3 w h)
  · refine ⟨hp, ⟨Nat.le_trans h1.1 hzt, fun a e9 ha => ⟨(h1.2 a e9 ha).1, (h1.2 a e9 ha).2.kept (hkt a (h1.lt ha))⟩⟩, Nat.le_trans h2.1 hzt, fun q hq1 hq2 => ?_⟩
    rw [hkt q (Nat.lt_of_lt_of_le hq1 h2.1)]
    exact h2.2.1 q hq1 hq2
theorem v_objInit (F : Fx ω σ cc nL Ts own rm) {a : Nat} (hLn : L.length = nL) (hl : Cond.methodLink own idx Lib.objectInit ∈ Ts) (hi : Cond.instanceMethod Lib.objectInit ∈ Ts) (hcd : Cond.code Lib.objectInit ⟨#[0xb1]⟩ 1 none ∈ Ts) (d : decode cc pc = .ok (.invokespecial idx, 3)) (hR : 1 ≤ rm.frames ∧ (st.map fun v => v.category).sum + 12 ≤ rm.locals)
    (k : V ω σ M L kc ks Q (pc + 3) st) : V ω σ M L kc ks Q pc (.ref a :: st) := by
  obtain ⟨p, l, e, R, s, m, args, below, meth, c⟩ := σ
  intro H locs ls h1 h2 h3
  obtain ⟨hx, hb9, hml, hown, hts, hK, hlk, hRr, hz⟩ := F
  cases hRr
  exact W.objInit hx hb9 hown (hts _ hl) (hts _ hi) (hts _ hcd) rfl (h3.1.trans (hLn.trans hml.symm)) rfl d hR.1 (by show 2 * 0 + _ + 12 ≤ _; omega) (k H locs ls h1 h2 h3)
/-- a new object: its fields by the types of their declarations -/
theorem v_new (F : Fx ω σ cc nL Ts own rm) (ci : Nat) {C : String} {T : u_T} {N : Nat} (ty : Nat → FieldType) (fs : List Value) (hc : vwCl[ci]? = some (C, T, N)) (hin : ∀ w ∈ u_ws C T N, w ∈ Ts) (hty : ∀ k, k < N → parseFieldDescriptor (T k).2.2.1 = some (ty k)) (hcl : Cond.classLink own idx C ∈ Ts) (hinst : Cond.instantiable C N ∈ Ts) (hini : Cond.initialized C ∈ Ts) (hfs : ∀ j, j < N → defaultValue (ty j) = vp_V fs j) (d : decode cc pc = .ok (.new idx, 3)) (hR : kc + 1 ≤ rm.cells ∧ ks + N ≤ rm.slots)
    (k : ∀ a : Nat, M a = none → V ω σ (mup M a (.inr (ci, fs))) L (kc + 1) (ks + N) Q (pc + 3) (.ref a :: st)) : V ω σ M L kc ks Q pc st := by
  obtain ⟨p, l, e, R, s, m, args, below, meth, c⟩ := σ
  intro H locs ls h1 h2 h3
  obtain ⟨hx, hb9, hml, hown, hts, hK, hlk, hRr, hz⟩ := F
  cases hRr
  have hKn := hK.1.1 ci _ hc
  refine W.newcK hx hb9 hown (hts _ hcl) (hts _ hinst) (hts _ hini) rfl d hR.1 hR.2 hKn.2.1 rfl fun H1 kC hkC e1 z1 o1 => ?_
  obtain ⟨g1, g2⟩ := h1.new (e' := .inr (ci, fs)) ⟨_, hc, (u_born ty hts hin hKn hkC e1 hty).to hfs⟩ (by omega) o1
  exact k H.size g2 H1 locs ls g1 ⟨Nat.le_trans h2.1 (by omega), fun x hx1 hx2 => (o1 x (Nat.lt_of_lt_of_le hx1 h2.1)).trans (h2.2.1 x hx1 hx2), h2.2.2⟩ h3
end CALLS
