abbrev vwCl : List vw_C := [(RX0, TX0, 3), (RX1, TX1, 10), (RX2, TX2, 2), (RX3, TX3, 2), (RX4, TX4, 7)]
/-! a world as a map from addresses to what lies there; one judgement V over it; a row an instruction -/
abbrev MM : Type := Nat → Option va_E
def mup (M : MM) (a : Nat) (e : va_E) : MM := fun q => if q = a then some e else M q
theorem mup_s {M : MM} {a : Nat} {e : va_E} : mup M a e a = some e := by simp [mup]
theorem mup_n {M : MM} {a q : Nat} {e : va_E} (h : q ≠ a) : mup M a e q = M q := by simp [mup, h]
theorem mup_mup {M : MM} {a : Nat} {e e' : va_E} : mup (mup M a e) a e' = mup M a e' := by
  funext q; by_cases h : q = a <;> simp [mup, h]
theorem mup_comm {M : MM} {a b : Nat} {e e' : va_E} (h : a ≠ b) : mup (mup M a e) b e' = mup (mup M b e') a e := by
  funext q
  by_cases h1 : q = a
  · subst h1; simp [mup, h]
  · by_cases h2 : q = b
    · subst h2; simp [mup, h1]
    · simp [mup, h1, h2]
theorem mup_id {M : MM} {a : Nat} {e : va_E} (h : M a = some e) : mup M a e = M := by
  funext q
  by_cases h1 : q = a
  · subst h1; simp [mup, h]
  · simp [mup, h1]
/-- the classes' numbers, where the world begins, the arrays' classes -/
abbrev Om : Type := va_G × Nat × (Nat → ClassId)
abbrev Om.D (ω : Om) : va_G := ω.1
abbrev Om.z (ω : Om) : Nat := ω.2.1
abbrev Om.c (ω : Om) : Nat → ClassId := ω.2.2
abbrev zA (ω : Om) : Nat → Prop := fun q => ω.2.1 ≤ q
def tysO (ω : Om) : List (ClassId × FieldType) := [(ω.2.2 0, .int), (ω.2.2 1, .int), (ω.2.2 2, .int), (ω.2.2 3, .object "Readingorder$Box"), (ω.2.2 4, .object "Readingorder$Reading"), (ω.2.2 5, .object "Readingorder$Approval")]
def hm (ω : Om) (M : MM) (H : Heap) : Prop := ω.2.1 ≤ H.size ∧ ∀ a e, M a = some e → ω.2.1 ≤ a ∧ va_at ω.1 vwCl (a, e) H
def nwL : List Cond := [.castable "java/lang/IndexOutOfBoundsException" "java/lang/IndexOutOfBoundsException", .castable "java/lang/IllegalArgumentException" "java/lang/IllegalArgumentException", .castable "java/lang/IllegalStateException" "java/lang/IllegalStateException", .declares ⟨"java/lang/RuntimeException", "<init>", "(Ljava/lang/String;)V"⟩, .declares ⟨"java/lang/Exception", "<init>", "(Ljava/lang/String;)V"⟩, .declares ⟨"java/lang/Throwable", "<init>", "(Ljava/lang/String;)V"⟩]
theorem nwL_on : ∀ w ∈ nwL, w.onTables = true := by decide +kernel
def Nw3 (U : State) : Prop := ∀ w ∈ nwL, va_Nw w U
theorem Nw3.warm {s U : State} (hW : s.WarmedH U.vm) (h : Nw3 s) : Nw3 U := by
  intro w hw
  have hw2 := hw
  simp only [nwL, List.mem_cons, List.not_mem_nil, or_false] at hw2
  rcases hw2 with rfl | rfl | rfl | rfl | rfl | rfl
  · exact va_Nw.warmC hW (h _ hw)
  · exact va_Nw.warmC hW (h _ hw)
  · exact va_Nw.warmC hW (h _ hw)
  · exact va_Nw.warmD hW (h _ hw)
  · exact va_Nw.warmD hW (h _ hw)
  · exact va_Nw.warmD hW (h _ hw)
theorem Nw3.same {s U : State} (hv : s.vm = U.vm) (h : Nw3 s) : Nw3 U := fun w hw => va_Nw.same (nwL_on w hw) hv (h w hw)
def strs0 : List (Nat × String) := [(52, "there is no such kind"), (63, "there are no more numbers for boxes"), (102, "these two can't be tied"), (115, "there is a tie already that rules this one out"), (117, "the box follows none"), (144, "there is no such box"), (154, "nothing is told by that number"), (172, "there is no such person"), (174, "there is nothing to approve, or no number for an approval"), (179, "there is no such approval"), (201, "there is no such page"), (203, "there is no such box, or it is gone"), (205, "there is no such place"), (207, "the box is not within its page")]
/-- the texts of the exceptions, by their entries in the class's table -/
def StrK (U : State) : Prop := ∀ q ∈ strs0, ∃ sa, vk_R RX4 q.1 q.2 sa U
def Kw (ω : Om) (U : State) (H : Heap) : Prop := va_K ω.1 vwCl (tysO ω) U ∧ vx_Zq Bundle.tN "UNASSIGNED_STACK" Bundle.steD (zA ω) U H ∧ vx_Zq Bundle.tN "SUPPRESSED_SENTINEL" Bundle.listD (zA ω) U H ∧ StrK U ∧ Nw3 U
abbrev Sg : Type := Program × Launch × Env × Room × State × MethodId × Array Value × List Frame × Method × Code
abbrev Sg.s (σ : Sg) : State := σ.2.2.2.2.1
/-- what is fixed in a method's walk -/
def Fx (ω : Om) (σ : Sg) (cc : ByteArray) (nL : Nat) (Ts : List Cond) (own : String) (rm : Room) : Prop :=
  σ.1.tables.exec = Jvm.exec ∧ σ.2.2.2.2.2.2.2.2.2.code = cc ∧ σ.2.2.2.2.2.2.2.2.2.maxLocals = nL ∧ σ.2.2.2.2.1.vm.findClass own = some σ.2.2.2.2.2.1.cls ∧ (∀ w ∈ Ts, w.before σ.2.2.2.2.2.2.1 σ.2.2.2.2.1 = true) ∧ Kw ω σ.2.2.2.2.1 σ.2.2.2.2.1.heap ∧ σ.2.2.2.2.2.2.2.2.1.locks = false ∧ σ.2.2.2.1 = rm ∧ ω.2.1 ≤ σ.2.2.2.2.1.heap.size
def Lc (ls : Array Slot) (L : List (Option Value)) : Prop := ls.size = L.length ∧ lv_wf ls ∧ ∀ (i : Nat) (v : Value), L[i]? = some (some v) → ls[i]? = some (.val v)
def Wg (σ : Sg) (H : Heap) (locs : List Loc) (k n : Nat) (Q : State → Prop) (g : JFrame) : Prop := W σ.1 σ.2.1 σ.2.2.1 σ.2.2.2.1 σ.2.2.2.2.1 σ.2.2.2.2.2.1 σ.2.2.2.2.2.2.1 σ.2.2.2.2.2.2.2.1 σ.2.2.2.2.2.2.2.2.1 σ.2.2.2.2.2.2.2.2.2 H locs k n Q g
def V (ω : Om) (σ : Sg) (M : MM) (L : List (Option Value)) (k n : Nat) (Q : State → Prop) (pc : Nat) (st : List Value) : Prop :=
  ∀ (H : Heap) (locs : List Loc) (ls : Array Slot), hm ω M H → va_S (zA ω) σ.2.2.2.2.1.heap H locs → Lc ls L → Wg σ H locs k n Q (F0 σ.2.2.2.2.2.1 pc ls st)
theorem hm.P1 {ω : Om} {M : MM} {H : Heap} (h : hm ω M H) {a : Nat} {e : va_E} (ha : M a = some e) : va_P ω.1 vwCl [(a, e)] H := by
  intro k q hq
  have hz : k < 1 := (List.getElem?_eq_some_iff.mp hq).1
  rw [show k = 0 by omega] at hq
  cases hq
  exact (h.2 a e ha).2
theorem hm.lt {ω : Om} {M : MM} {H : Heap} (h : hm ω M H) {a : Nat} {e : va_E} (ha : M a = some e) : a < H.size := (h.2 a e ha).2.lt
theorem va_D1 {A : Nat → Prop} {a : Nat} {e : va_E} (h : A a) : va_D A [(a, e)] := by
  refine ⟨fun i j p q hi hj _ => ?_, fun k q hq => ?_⟩
  · have h1 : i < 1 := (List.getElem?_eq_some_iff.mp hi).1
    have h2 : j < 1 := (List.getElem?_eq_some_iff.mp hj).1
    omega
  · have hz : k < 1 := (List.getElem?_eq_some_iff.mp hq).1
    rw [show k = 0 by omega] at hq
    cases hq
    exact h
theorem hm.put {ω : Om} {M : MM} {H H1 : Heap} (h : hm ω M H) {a : Nat} {e e' : va_E} (ha : M a = some e) (h1 : va_at ω.1 vwCl (a, e') H1) (hz : H1.size = H.size) (hq : ∀ q : Nat, q ≠ a → H1[q]? = H[q]?) : hm ω (mup M a e') H1 := by
  refine ⟨by rw [hz]; exact h.1, fun b e2 hb => ?_⟩
  by_cases hba : b = a
  · subst hba
    rw [mup_s] at hb
    cases hb
    exact ⟨(h.2 b e ha).1, h1⟩
  · rw [mup_n hba] at hb
    exact ⟨(h.2 b e2 hb).1, (h.2 b e2 hb).2.kept (hq b hba)⟩
theorem hm.new {ω : Om} {M : MM} {H H1 : Heap} (h : hm ω M H) {e' : va_E} (h1 : va_at ω.1 vwCl (H.size, e') H1) (hz : H.size ≤ H1.size) (hq : ∀ q : Nat, q < H.size → H1[q]? = H[q]?) : hm ω (mup M H.size e') H1 ∧ M H.size = none := by
  have hn : M H.size = none := by
    cases hM : M H.size with
    | none => rfl
    | some e => exact absurd (h.lt hM) (Nat.lt_irrefl _)
  refine ⟨⟨Nat.le_trans h.1 hz, fun b e2 hb => ?_⟩, hn⟩
  by_cases hba : b = H.size
  · subst hba
    rw [mup_s] at hb
    cases hb
    exact ⟨h.1, h1⟩
  · rw [mup_n hba] at hb
    exact ⟨(h.2 b e2 hb).1, (h.2 b e2 hb).2.kept (hq b (h.lt hb))⟩
theorem Lc.get {ls : Array Slot} {L : List (Option Value)} (h : Lc ls L) {i : Nat} {v : Value} (hi : L[i]? = some (some v)) : ls[i]? = some (.val v) := h.2.2 i v hi
/-- the list of a table's locals, as the kit has it -/
def Lc.l (L : List (Option Value)) : List (Nat × Value) := (List.range L.length).filterMap (fun i => (L[i]?).bind (fun o => o.map (fun v => (i, v))))
theorem Lc.has {ls : Array Slot} {L : List (Option Value)} (h : Lc ls L) : lv_has ls L.length (Lc.l L) := by
  refine ⟨h.1, h.2.1, fun q hq => ?_⟩
  obtain ⟨i, -, hi⟩ := List.mem_filterMap.mp hq
  cases hL : L[i]? with
  | none => rw [hL] at hi; cases hi
  | some o =>
    cases o with
    | none => rw [hL] at hi; cases hi
    | some v =>
      rw [hL] at hi
      cases hi
      exact h.2.2 i v hL
theorem Lc.of {ls : Array Slot} {L : List (Option Value)} {l : List (Nat × Value)} (h : lv_has ls L.length l) (hl : ∀ (i : Nat) (v : Value), L[i]? = some (some v) → (i, v) ∈ l) : Lc ls L := ⟨h.1, h.2.1, fun i v hi => h.2.2 _ (hl i v hi)⟩
theorem Lc.setl {L : List (Option Value)} {i : Nat} {x : Value} (hi : i < L.length) (hc : ∀ v, L[i - 1]? = some (some v) → v.category ≠ 2) {ls : Array Slot} (h : lv_has ls L.length ((i, x) :: (Lc.l L).filter (fun q => !(q.1 == i) && !(q.1 + 1 == i && q.2.category == 2)))) : Lc ls (L.set i (some x)) := by
  refine Lc.of (by rw [List.length_set]; exact h) (fun j v hj => ?_)
  by_cases hji : j = i
  · subst hji
    rw [List.getElem?_set_self hi] at hj
    cases hj
    exact List.mem_cons_self
  · rw [List.getElem?_set_ne (Ne.symm hji)] at hj
    refine List.mem_cons_of_mem _ (List.mem_filter.mpr ⟨?_, ?_⟩)
    · refine List.mem_filterMap.mpr ⟨j, List.mem_range.mpr (List.getElem?_eq_some_iff.mp hj).1, ?_⟩
      rw [hj]; rfl
    · have h1 : (j == i) = false := by simp [hji]
      by_cases h2 : j + 1 = i
      · have h3 : v.category ≠ 2 := hc v (by rw [show i - 1 = j by omega]; exact hj)
        simp [h1, h3]
      · simp [h1, h2]
def isRV (v : Value) : Bool := match v with
  | .ref _ => true
  | .null => true
  | _ => false
def is1 (o : Option Value) : Bool := match o with
  | some v => v.category != 2
  | none => true
def all1 (L : List (Option Value)) : Bool := L.all is1
theorem all1_get {L : List (Option Value)} (h : all1 L = true) {i : Nat} {v : Value} (hi : L[i]? = some (some v)) : v.category ≠ 2 := by
  have h1 := List.all_eq_true.mp h (some v) (List.mem_of_getElem? hi)
  simpa [is1] using h1
theorem isRV_rf (o : Option Nat) : isRV (va_rf o) = true := by cases o <;> rfl
