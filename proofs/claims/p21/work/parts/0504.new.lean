/-! what makes things: rows, worlds that grow, the constructors of rows and of the reference -/
theorem v_newa {ω : Om} {σ : Sg} {cc : ByteArray} {nL : Nat} {Ts : List Cond} {own : String} {rm : Room} {M : MM} {L : List (Option Value)} {kc ks : Nat} {Q : State → Prop} {pc : Nat} {st : List Value} (F : Fx ω σ cc nL Ts own rm) (t0 : Nat) {atype : ArrayType} {ty : FieldType} (hty : newarray.typeOf atype = ty) (harr : Cond.arrayClass ty ∈ Ts) {cA : ClassId} (ht : (tysO ω)[t0]? = some (cA, ty)) (hno : ∀ C, ty = .object C → False) {n : Nat} (hn : n < 2 ^ 31) (a0 : (Nat → Int32) ⊕ (Nat → Int64) ⊕ (Nat → UInt32) ⊕ (Nat → UInt64) ⊕ (Nat → Option Nat)) (ha : ∀ c9, vp_cell c9 (n, a0) = arrV c9 n (fun _ => defaultValue ty)) (hbytes : n * componentBytes ty ≤ 536870912) (d : decode cc pc = .ok (.newarray atype, 2)) (hR : kc + 1 ≤ rm.cells ∧ ks + n ≤ rm.slots)
    (k : ∀ a : Nat, M a = none → V ω σ (mup M a (.inl (cA, n, a0))) L (kc + 1) (ks + n) Q (pc + 2) (.ref a :: st)) : V ω σ M L kc ks Q pc (.int (nI n) :: st) := by
  subst hty
  obtain ⟨p, l, e, R, s, m, args, below, meth, c⟩ := σ
  intro H locs ls h1 h2 h3
  obtain ⟨hx, hb9, hml, hown, hts, hK, hlk, hRr, hz⟩ := F
  cases hRr
  refine va_newaK hx hb9 (hts _ harr) rfl d rfl (show ¬ nI n < nI 0 from nI_nlt (Nat.zero_le _) hn) (nI_clamp hn) hbytes hR.1 hR.2 rfl fun H1 c9 e1 z1 o1 hAr hNm => ?_
  have hc9 : c9 = cA := by
    have h := (hK.1.2 t0 _ ht).2
    have h9 : s.vm.findClass ("[" ++ (newarray.typeOf atype).toString) = some cA := by
      cases atype <;> exact h
    rw [hNm] at h9
    exact Option.some.inj h9
  subst hc9
  obtain ⟨g1, g2⟩ := h1.new (e' := .inl (c9, n, a0)) (show H1[H.size]? = some (vp_cell c9 (n, a0)) by rw [ha]; exact e1) (by omega) o1
  exact k H.size g2 H1 locs ls g1 ⟨Nat.le_trans h2.1 (by omega), fun x hx1 hx2 => (o1 x (Nat.lt_of_lt_of_le hx1 h2.1)).trans (h2.2.1 x hx1 hx2), h2.2.2⟩ h3
theorem v_newq {ω : Om} {σ : Sg} {cc : ByteArray} {nL : Nat} {Ts : List Cond} {own : String} {rm : Room} {M : MM} {L : List (Option Value)} {kc ks : Nat} {Q : State → Prop} {pc : Nat} {st : List Value} (F : Fx ω σ cc nL Ts own rm) (t0 : Nat) {C : String} {idx : Nat} (hover : va_AO C σ.2.2.2.2.1) (hcl : Cond.classLink own idx C ∈ Ts) {cA : ClassId} (ht : (tysO ω)[t0]? = some (cA, .object C)) {n : Nat} (hn : n < 2 ^ 31) (hbytes : n * 4 ≤ 536870912) (d : decode cc pc = .ok (.anewarray idx, 3)) (hR : kc + 1 ≤ rm.cells ∧ ks + n ≤ rm.slots)
    (k : ∀ a : Nat, M a = none → V ω σ (mup M a (.inl (cA, n, .inr (.inr (.inr (.inr (fun _ => none))))))) L (kc + 1) (ks + n) Q (pc + 3) (.ref a :: st)) : V ω σ M L kc ks Q pc (.int (nI n) :: st) := by
  obtain ⟨p, l, e, R, s, m, args, below, meth, c⟩ := σ
  intro H locs ls h1 h2 h3
  obtain ⟨hx, hb9, hml, hown, hts, hK, hlk, hRr, hz⟩ := F
  cases hRr
  have hN : (nI n).toNatClampNeg = n := nI_clamp hn
  refine W.anew hx hb9 hown (hts _ hcl) (va_AO.use hover) rfl d rfl (show ¬ nI n < nI 0 from nI_nlt (Nat.zero_le _) hn) (by rw [hN]; exact hbytes) hR.1 (by rw [hN]; exact hR.2) fun c9 kA comp f1 f2 f3 f4 => ?_
  rw [hN]
  have hc9 : c9 = cA := by
    obtain ⟨kA2, comp2, -, -, -, h9⟩ := (hK.1.2 t0 _ ht).2
    rw [f1] at h9
    exact Option.some.inj h9
  subst hc9
  generalize hH1 : H.push ({ cls := c9, slots := Array.replicate n .null, vm := .none } : Cell) = H1
  have z1 : H1.size = H.size + 1 := by rw [← hH1, Array.size_push]
  have e1 : H1[H.size]? = some (arrV c9 n (fun _ => .null)) := by rw [← hH1, Array.getElem?_push_size, ← arrV_new]
  have o1 : ∀ q : Nat, q < H.size → H1[q]? = H[q]? := fun q hq => by rw [← hH1, Array.getElem?_push, if_neg (Nat.ne_of_lt hq)]
  obtain ⟨g1, g2⟩ := h1.new (e' := .inl (c9, n, .inr (.inr (.inr (.inr (fun _ => none)))))) (show H1[H.size]? = some (vp_cell c9 _) by rw [vp_cell_q]; exact e1) (by omega) o1
  exact k H.size g2 H1 locs ls g1 ⟨Nat.le_trans h2.1 (by omega), fun x hx1 hx2 => (o1 x (Nat.lt_of_lt_of_le hx1 h2.1)).trans (h2.2.1 x hx1 hx2), h2.2.2⟩ h3
/-- what is asked of the machine where arrays of references are made, and things of the classes within -/
def AO3 (U : State) : Prop := va_AO "Readingorder$Box" U ∧ va_AO "Readingorder$Reading" U ∧ va_AO "Readingorder$Approval" U ∧ va_Nw (.methodLinkNest RX4 25 yX3_init RX4) U ∧ va_Nw (.methodLinkNest RX4 32 yX2_init RX4) U
theorem AO3.warm {u U : State} (hW : u.WarmedH U.vm) (h : AO3 u) : AO3 U := ⟨h.1.moved hW.alike, h.2.1.moved hW.alike, h.2.2.1.moved hW.alike, va_Nw.warmM hW h.2.2.2.1, va_Nw.warmM hW h.2.2.2.2⟩
theorem AO3.calling {U : State} {a : Array Value} {g mk} (h : AO3 U) : AO3 (U.calling g mk a) := ⟨h.1.moved (u := U) (U := U.calling g mk a) (Vm.Alike.refl U.vm), h.2.1.moved (u := U) (U := U.calling g mk a) (Vm.Alike.refl U.vm), h.2.2.1.moved (u := U) (U := U.calling g mk a) (Vm.Alike.refl U.vm), va_Nw.same (by decide +kernel) rfl h.2.2.2.1, va_Nw.same (by decide +kernel) rfl h.2.2.2.2⟩
def PcA (ω : Om) (av : List Value) (M : MM) : Array Value → State → Prop := va_Pc av (fun U => hm ω M U.heap ∧ Kw ω U U.heap ∧ AO3 U)
def CtA (l : Launch) (ω : Om) (y : MethodName) (ws : List Cond) (rm : Room) (av : List Value) (M : MM) (PQ : Option Value → MM → Prop) (mc ms : Nat) : Prop := Met l y ws rm (PcA ω av M) (QcO ω PQ) mc ms (zA ω)
theorem PcA.blind {ω : Om} {av : List Value} {M : MM} : FrameBlind (PcA ω av M) := by
  intro a U g mk h
  obtain ⟨h1, h2, h3, h4⟩ := h
  obtain ⟨-, k2, k3⟩ := PcO.blind (ω := ω) (av := av) (M := M) a U g mk ⟨h1, h2, h3⟩
  exact ⟨h1, k2, k3, h4.calling⟩
theorem CtA.ofV {l : Launch} {ω : Om} {y : MethodName} {ws ws' : List Cond} {rm : Room} {av : List Value} {M : MM} {PQ : Option Value → MM → Prop} {mc ms : Nat} {cc : ByteArray} {maxL : Nat} {ret : Option FieldType} (L : List (Option Value))
    (hy : plainName y.cls = true) (hw : ws = Cond.code y cc maxL ret :: ws') (hsl : (lg_sl av).length ≤ maxL) (hL : L.length = maxL) (hav : ∀ (i : Nat) (v : Value), L[i]? = some (some v) → (i, v) ∈ lv_args 0 av)
    (body : ∀ σ : Sg, Fx ω σ cc maxL ws y.cls rm → σ.2.1 = l → σ.2.2.2.2.2.2.2.2.1.sig.returnType = ret → σ.2.2.2.2.2.2.2.2.1.name = y.name → AO3 σ.2.2.2.2.1 → V ω σ M L 0 0 (BQ ω σ PQ mc ms) 0 []) : CtA l ω y ws rm av M PQ mc ms := by
  refine Met.ofW (cc := cc) (maxL := maxL) (ret := ret) hy hw ?_
  intro p e s m args below meth c s₁ B hml hv
  obtain ⟨rfl, hM, hK, hA⟩ := hv
  have hl := lv_entry av (n := maxL) hsl
  rw [lg_entry_eq]
  generalize (lg_sl av ++ List.replicate (maxL - (lg_sl av).length) Slot.unset).toArray = ls at hl ⊢
  exact body (p, l, e, rm, s, m, av.toArray, below, meth, c) ⟨B.exec, B.bytes, hml, findClass_of_methodNamed B.named, atoms_spec (ws := ws) B.pre, hK, B.notSynchronized, rfl, hM.1⟩ rfl B.returns (name_of_methodNamed B.named B.method).1 hA
    s.heap [] ls hM va_S.rf (Lc.of (by rw [hL]; exact hl) hav)
theorem v_callIA {ω : Om} {σ : Sg} {cc : ByteArray} {nL : Nat} {Ts : List Cond} {own : String} {rm : Room} {M : MM} {L : List (Option Value)} {kc ks : Nat} {Q : State → Prop} {pc : Nat} {st stk : List Value} {y : MethodName} {ws' ws'' : List Cond} {rm' : Room} {PQ : Option Value → MM → Prop} {mc ms idx b maxL : Nat} {bytes : ByteArray}
    (F : Fx ω σ cc nL Ts own rm) (hAO : AO3 σ.2.2.2.2.1) (n : Nat) (As : List Value) (hst : stk = As.reverse ++ .ref b :: st) (hn : As.length = n) (hLn : L.length = nL) (hM : CtA σ.2.1 ω y ws' rm' (.ref b :: As) M PQ mc ms) (hG : GoodIn Ts ws') (hw : ws' = Cond.code y bytes maxL none :: ws'')
    (hd : y.cls ≠ "java/lang/invoke/MethodHandle" ∧ y.cls ≠ "java/lang/invoke/VarHandle" ∧ (parseMethodDescriptor y.desc).map (fun d => d.parameters.length) = some n) (hR : RmOk rm' rm maxL mc ms kc ks st) (hini : Cond.initialized y.cls ∈ Ts) (hin : Cond.instanceMethod y ∈ Ts) (hy1 : y.name = "<init>") (hl : Cond.methodLink own idx y ∈ Ts) (d : decode cc pc = .ok (.invokespecial idx, 3)) 
    (k : ∀ (v : Option Value) (M' : MM), PQ v M' → V ω σ M' L (kc + mc) (ks + ms) Q (pc + 3) (v.toList ++ st)) : V ω σ M L kc ks Q pc stk := by
  subst hst
  obtain ⟨p, l, e, R, s, m, args, below, meth, c⟩ := σ
  intro H locs ls h1 h2 h3
  obtain ⟨hx, hb9, hml, hown, hts, hK, hlk, hRr, hz⟩ := F
  cases hRr
  exact run_go (va_runI (nL := nL) (y := y) (ws := ws') (rm := rm') (n := n) (As := As) (rest := st) ⟨hx, hb9, hml, hown, hts⟩ hM (cwI n hts hG hw hR.1.1 hR.1.2 (hts _ hini) (hts _ hl) (hts _ hin) hy1 hd hR.2.1) ⟨PcA.blind, fun U hU hW => by
    obtain ⟨q1, q2, q3⟩ := PcO.at (σ := (p, l, e, R, s, m, args, below, meth, c)) (av := .ref b :: As) hK h1 h2 U hU hW
    exact ⟨q1, q2, q3, hAO.warm hW⟩⟩ rfl hn (h3.1.trans hLn) rfl (lv_room (m := m) (pc := 0) (ls := #[]) (rest := []) hR.2.2.2) d hR.2.2.1) h2 (fun v M' H1 locs1 hp hm1 hs1 => k v M' hp H1 locs1 ls hm1 hs1 h3)
theorem v_callINw {ω : Om} {σ : Sg} {cc : ByteArray} {nL : Nat} {Ts : List Cond} {own : String} {rm : Room} {M : MM} {L : List (Option Value)} {kc ks : Nat} {Q : State → Prop} {pc : Nat} {st stk : List Value} {y : MethodName} {ws' ws'' : List Cond} {rm' : Room} {PQ : Option Value → MM → Prop} {mc ms idx b maxL : Nat} {bytes : ByteArray} (F : Fx ω σ cc nL Ts own rm) (n : Nat) (As : List Value) (hst : stk = As.reverse ++ .ref b :: st) (hn : As.length = n) (hLn : L.length = nL) (hM : Ct σ.2.1 ω y ws' rm' (.ref b :: As) M PQ mc ms) (hG : GoodIn Ts ws') (hw : ws' = Cond.code y bytes maxL none :: ws'')
    (hd : y.cls ≠ "java/lang/invoke/MethodHandle" ∧ y.cls ≠ "java/lang/invoke/VarHandle" ∧ (parseMethodDescriptor y.desc).map (fun d => d.parameters.length) = some n) (hR : RmOk rm' rm maxL mc ms kc ks st) (hini : Cond.initialized y.cls ∈ Ts) (hin : Cond.instanceMethod y ∈ Ts) (hy1 : y.name = "<init>") {host : String} (hl : va_Nw (.methodLinkNest own idx y host) σ.2.2.2.2.1) (d : decode cc pc = .ok (.invokespecial idx, 3)) 
    (k : ∀ (v : Option Value) (M' : MM), PQ v M' → V ω σ M' L (kc + mc) (ks + ms) Q (pc + 3) (v.toList ++ st)) : V ω σ M L kc ks Q pc stk := by
  subst hst
  obtain ⟨p, l, e, R, s, m, args, below, meth, c⟩ := σ
  intro H locs ls h1 h2 h3
  obtain ⟨hx, hb9, hml, hown, hts, hK, hlk, hRr, hz⟩ := F
  cases hRr
  exact run_go (va_runIN (nL := nL) (y := y) (ws := ws') (rm := rm') (n := n) (As := As) (rest := st) ⟨hx, hb9, hml, hown, hts⟩ hM ⟨va_cnB n hts hG hw hR.1.1 hR.1.2 hl (hts _ hini) hd hR.2.1, hy1, hts _ hin⟩ ⟨PcO.blind, PcO.at (σ := (p, l, e, R, s, m, args, below, meth, c)) hK h1 h2⟩ rfl hn (h3.1.trans hLn) rfl (lv_room (m := m) (pc := 0) (ls := #[]) (rest := []) hR.2.2.2) d hR.2.2.1) h2 (fun v M' H1 locs1 hp hm1 hs1 => k v M' hp H1 locs1 ls hm1 hs1 h3)
/-- a world that was made from another: its new things in a list, a the first -/
def NW (M0 : MM) (a : Nat) (as : List (Nat × va_E)) (M : MM) : Prop := (∀ q ∈ as, M q.1 = some q.2) ∧ (as.map Prod.fst).Nodup ∧ (∀ z, M0 z ≠ none → z ≠ a → M z = M0 z) ∧ (∀ q ∈ as, q.1 = a ∨ M0 q.1 = none)
theorem NW.rf {M : MM} {a : Nat} {e : va_E} (h : M a = some e) : NW M a [(a, e)] M := by
  refine ⟨fun q hq => ?_, by simp, fun _ _ _ => rfl, fun q hq => ?_⟩
  · rw [List.mem_singleton.mp hq]; exact h
  · rw [List.mem_singleton.mp hq]; exact Or.inl rfl
theorem NW.add {M0 M : MM} {a x : Nat} {e : va_E} {as : List (Nat × va_E)} (h : NW M0 a as M) (hx : M x = none) : NW M0 a (as ++ [(x, e)]) (mup M x e) := by
  obtain ⟨h1, h2, h3, h4⟩ := h
  have hne : ∀ q ∈ as, q.1 ≠ x := fun q hq he => by have := h1 q hq; rw [he, hx] at this; cases this
  refine ⟨fun q hq => ?_, ?_, fun z hz hza => ?_, fun q hq => ?_⟩
  · rcases List.mem_append.mp hq with hq | hq
    · rw [mup_n (hne q hq)]; exact h1 q hq
    · rw [List.mem_singleton.mp hq]; exact mup_s
  · rw [List.map_append, List.nodup_append]
    refine ⟨h2, by simp, fun u hu v hv => ?_⟩
    obtain ⟨q, hq, rfl⟩ := List.mem_map.mp hu
    rw [List.mem_singleton.mp hv]
    exact hne q hq
  · have hzx : z ≠ x := fun he => by have := h3 z hz hza; rw [he, hx] at this; exact hz (by rw [he]; exact this.symm)
    rw [mup_n hzx]
    exact h3 z hz hza
  · rcases List.mem_append.mp hq with hq | hq
    · exact h4 q hq
    · rw [List.mem_singleton.mp hq]
      show x = a ∨ M0 x = none
      by_cases hxa : x = a
      · exact Or.inl hxa
      · right
        cases hm : M0 x with
        | none => rfl
        | some e9 => have := h3 x (by rw [hm]; exact fun h => nomatch h) hxa; rw [hx, hm] at this; cases this
theorem NW.set {M0 M : MM} {a x : Nat} {e e' : va_E} {as : List (Nat × va_E)} (h : NW M0 a as M) {i : Nat} (hi : as[i]? = some (x, e)) : NW M0 a (as.set i (x, e')) (mup M x e') := by
  obtain ⟨h1, h2, h3, h4⟩ := h
  obtain ⟨hil, hie⟩ := List.getElem?_eq_some_iff.mp hi
  have hxm : (x, e) ∈ as := List.mem_of_getElem? hi
  have hx := h1 _ hxm
  have hmap : (as.set i (x, e')).map Prod.fst = as.map Prod.fst := by
    rw [List.map_set]
    have e1 : (as.map Prod.fst)[i]'(by rw [List.length_map]; exact hil) = x := by rw [List.getElem_map, hie]
    rw [show (Prod.fst (x, e') : Nat) = (as.map Prod.fst)[i]'(by rw [List.length_map]; exact hil) from e1.symm]
    exact List.set_getElem_self _
  refine ⟨fun q hq => ?_, by rw [hmap]; exact h2, fun z hz hza => ?_, fun q hq => ?_⟩
  · obtain ⟨j, hj, hq2⟩ := List.getElem_of_mem hq
    rw [List.length_set] at hj
    by_cases hij : i = j
    · subst hij
      rw [List.getElem_set_self] at hq2
      rw [← hq2]; exact mup_s
    · rw [List.getElem_set_ne hij] at hq2
      have hqx : q.1 ≠ x := fun he => by
        have e1 : (as.map Prod.fst)[j]'(by rw [List.length_map]; exact hj) = (as.map Prod.fst)[i]'(by rw [List.length_map]; exact hil) := by
          rw [List.getElem_map, List.getElem_map, hq2, hie]; exact he
        exact hij ((List.getElem_inj h2).mp e1).symm
      rw [mup_n hqx]
      exact h1 q (by rw [← hq2]; exact List.getElem_mem hj)
  · have hzx : z ≠ x := fun he => by
      rcases h4 _ hxm with h | h
      · exact hza (he.trans h)
      · exact hz (by rw [he]; exact h)
    rw [mup_n hzx]
    exact h3 z hz hza
  · obtain ⟨j, hj, hq2⟩ := List.getElem_of_mem hq
    rw [List.length_set] at hj
    by_cases hij : i = j
    · subst hij
      rw [List.getElem_set_self] at hq2
      rw [← hq2]
      show x = a ∨ M0 x = none
      exact h4 _ hxm
    · rw [List.getElem_set_ne hij] at hq2
      exact h4 q (by rw [← hq2]; exact List.getElem_mem hj)
theorem NW.at {M0 M : MM} {a x : Nat} {e : va_E} {as : List (Nat × va_E)} (h : NW M0 a as M) {i : Nat} (hi : as[i]? = some (x, e)) : M x = some e := h.1 _ (List.mem_of_getElem? hi)
def rmX3_init : Room := { frames := 1, cells := 1, slots := 24, locals := 30 }
theorem hd_X3_init : yX3_init.cls ≠ "java/lang/invoke/MethodHandle" ∧ yX3_init.cls ≠ "java/lang/invoke/VarHandle" ∧ (parseMethodDescriptor yX3_init.desc).map (fun d => d.parameters.length) = some 0 := by decide +kernel
theorem fp_X3_init_15 : FP wsX3_init RX3 15 3 1 .int := ⟨_, _, _, tyX3, rfl, by decide, by decide +kernel, by decide +kernel, tyX3_ok, nmX3, rfl, by decide +kernel⟩
theorem fq_X3_init_9 : FQ wsX3_init RX3 9 3 0 (.array .int) := ⟨_, _, _, tyX3, rfl, by decide, by decide +kernel, by decide +kernel, tyX3_ok, nmX3, rfl, rfl, by decide +kernel⟩
set_option maxHeartbeats 4000000 in
set_option maxRecDepth 100000 in
theorem c_X3_init {l : Launch} {ω : Om} {M : MM} {a : Nat} {f0 f1 : Value} (ha : M a = some (.inr (3, [f0, f1]))) : Ct l ω yX3_init wsX3_init rmX3_init [.ref a] M (fun v M9 => ∃ q, M q = none ∧ v = none ∧ M9 = mup (mup M q (rowE ω (fun _ => 0))) a (rdE 3 q 0)) 1 24 := by
  refine Ct.ofV (cc := cX3_init) (maxL := 1) (ret := none) [some (.ref a)] (by decide) rfl (Nat.le_of_ble_eq_true rfl) rfl (Lc.av (av := [.ref a]) (k := 0) rfl) ?_
  intro σ F hl hr hname
  have F : Fx ω σ cX3_init 1 wsX3_init RX3 rmX3_init := F
  refine v_aload_n F dX3_init_0 rfl rfl ?_
  refine v_objInit F rfl (by decide +kernel) (by decide +kernel) (by decide +kernel) dX3_init_1 ⟨(Nat.le_of_ble_eq_true rfl), (Nat.le_of_ble_eq_true rfl)⟩ ?_
  refine v_aload_n F dX3_init_4 rfl rfl ?_
  refine v_bipush (v := nI 24) F dX3_init_5 (by decide) ?_
  refine v_newa F 0 (atype := .int) (ty := .int) rfl (by decide +kernel) rfl (fun C h => by cases h) (n := 24) (by decide) (.inl (fun _ => 0)) (fun _ => rfl) (by decide) dX3_init_7 ⟨(Nat.le_of_ble_eq_true rfl), (Nat.le_of_ble_eq_true rfl)⟩ (fun a7 n7 => ?_)
  refine v_putF F 3 0 fq_X3_init_9 hname dX3_init_9 ((mup_n (nn ha n7)).trans ha) rfl rfl (Nat.le_of_ble_eq_true rfl) ?_
  refine v_aload_n F dX3_init_12 rfl rfl ?_
  refine v_iconst (v := nI 0) F dX3_init_13 (by decide) ?_
  refine v_put F 3 1 fp_X3_init_15 dX3_init_14 mup_s rfl rfl (Nat.le_of_ble_eq_true rfl) ?_
  exact v_vret F hr dX3_init_17 (Nat.le_of_ble_eq_true rfl) (Nat.le_of_ble_eq_true rfl) ⟨a7, n7, rfl, by rw [mup_mup]; rfl⟩
def rmX2_init : Room := { frames := 1, cells := 1, slots := 24, locals := 30 }
theorem hd_X2_init : yX2_init.cls ≠ "java/lang/invoke/MethodHandle" ∧ yX2_init.cls ≠ "java/lang/invoke/VarHandle" ∧ (parseMethodDescriptor yX2_init.desc).map (fun d => d.parameters.length) = some 0 := by decide +kernel
theorem fp_X2_init_15 : FP wsX2_init RX2 15 2 1 .int := ⟨_, _, _, tyX2, rfl, by decide, by decide +kernel, by decide +kernel, tyX2_ok, nmX2, rfl, by decide +kernel⟩
theorem fq_X2_init_9 : FQ wsX2_init RX2 9 2 0 (.array .int) := ⟨_, _, _, tyX2, rfl, by decide, by decide +kernel, by decide +kernel, tyX2_ok, nmX2, rfl, rfl, by decide +kernel⟩
set_option maxHeartbeats 4000000 in
set_option maxRecDepth 100000 in
theorem c_X2_init {l : Launch} {ω : Om} {M : MM} {a : Nat} {f0 f1 : Value} (ha : M a = some (.inr (2, [f0, f1]))) : Ct l ω yX2_init wsX2_init rmX2_init [.ref a] M (fun v M9 => ∃ q, M q = none ∧ v = none ∧ M9 = mup (mup M q (rowE ω (fun _ => 0))) a (rdE 2 q 0)) 1 24 := by
  refine Ct.ofV (cc := cX2_init) (maxL := 1) (ret := none) [some (.ref a)] (by decide) rfl (Nat.le_of_ble_eq_true rfl) rfl (Lc.av (av := [.ref a]) (k := 0) rfl) ?_
  intro σ F hl hr hname
  have F : Fx ω σ cX2_init 1 wsX2_init RX2 rmX2_init := F
  refine v_aload_n F dX2_init_0 rfl rfl ?_
  refine v_objInit F rfl (by decide +kernel) (by decide +kernel) (by decide +kernel) dX2_init_1 ⟨(Nat.le_of_ble_eq_true rfl), (Nat.le_of_ble_eq_true rfl)⟩ ?_
  refine v_aload_n F dX2_init_4 rfl rfl ?_
  refine v_bipush (v := nI 24) F dX2_init_5 (by decide) ?_
  refine v_newa F 0 (atype := .int) (ty := .int) rfl (by decide +kernel) rfl (fun C h => by cases h) (n := 24) (by decide) (.inl (fun _ => 0)) (fun _ => rfl) (by decide) dX2_init_7 ⟨(Nat.le_of_ble_eq_true rfl), (Nat.le_of_ble_eq_true rfl)⟩ (fun a7 n7 => ?_)
  refine v_putF F 2 0 fq_X2_init_9 hname dX2_init_9 ((mup_n (nn ha n7)).trans ha) rfl rfl (Nat.le_of_ble_eq_true rfl) ?_
  refine v_aload_n F dX2_init_12 rfl rfl ?_
  refine v_iconst (v := nI 0) F dX2_init_13 (by decide) ?_
  refine v_put F 2 1 fp_X2_init_15 dX2_init_14 mup_s rfl rfl (Nat.le_of_ble_eq_true rfl) ?_
  exact v_vret F hr dX2_init_17 (Nat.le_of_ble_eq_true rfl) (Nat.le_of_ble_eq_true rfl) ⟨a7, n7, rfl, by rw [mup_mup]; rfl⟩
/-- where a row of the reference stands in the list of what its constructor makes -/
theorem NW.nodup_at {M0 M : MM} {a : Nat} {as : List (Nat × va_E)} (h : NW M0 a as M) : ∀ i j, i < as.length → j < as.length → (as.map Prod.fst).getD i a = (as.map Prod.fst).getD j a → i = j := by
  intro i j hi hj he
  have hi2 : i < (as.map Prod.fst).length := by rw [List.length_map]; exact hi
  have hj2 : j < (as.map Prod.fst).length := by rw [List.length_map]; exact hj
  rw [List.getD_eq_getElem?_getD, List.getD_eq_getElem?_getD, List.getElem?_eq_getElem hi2, List.getElem?_eq_getElem hj2] at he
  exact (List.getElem_inj h.2.1).mp he
