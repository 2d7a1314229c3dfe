/-! the world at the law's start -/
theorem arr0 {s : State} {args : Array Value} {ty : FieldType} (h : (Cond.arrayClass ty).before args s = true) : ∃ cA : ClassId, ArrOfT s cA ty ∧ s.vm.findClass ("[" ++ ty.toString) = some cA := by
  obtain ⟨c, k, comp, h1, h2, h3⟩ := Cond.arrayClass_spec h
  exact ⟨c, fun n z => ⟨fun k h => (by cases h), k, h2, comp, h3⟩, h1⟩
theorem arr1 {s : State} {C : String} (h : va_AO C s) : ∃ cA : ClassId, ArrOfT s cA (.object C) ∧ va_RA s cA (.object C) := by
  obtain ⟨comp, c, k, h1, -, h3, h4, h5⟩ := Cond.arrayOver_spec h
  exact ⟨c, fun n z => ⟨fun k h => (by cases h), k, h3, comp, h4⟩, k, comp, h3, h4, h1, h5⟩
set_option maxRecDepth 20000 in
theorem world_start {s : State} {b : Nat} (hts : ∀ w ∈ lw_tbl, w.before #[Value.ref b] s = true) (hgv : (Jvm.Cond.and given_1 narrow_1).before #[Value.ref b] s = true) : ∃ ω : Om, ω.2.1 = s.heap.size ∧ Kw ω s s.heap ∧ AO3 s ∧ Nc3 s := by
  have hs := flat_of_before _ hgv
  obtain ⟨c0, i0, k0⟩ := u_known (C := RX0) (T := TX0) (N := 3) (n := 3) hts inX0 (hts (.instantiable RX0 3) (by decide +kernel))
  obtain ⟨c1, i1, k1⟩ := u_known (C := RX1) (T := TX1) (N := 10) (n := 10) hts inX1 (hts (.instantiable RX1 10) (by decide +kernel))
  obtain ⟨c2, i2, k2⟩ := u_known (C := RX2) (T := TX2) (N := 2) (n := 2) hts inX2 (hts (.instantiable RX2 2) (by decide +kernel))
  obtain ⟨c3, i3, k3⟩ := u_known (C := RX3) (T := TX3) (N := 2) (n := 2) hts inX3 (hts (.instantiable RX3 2) (by decide +kernel))
  obtain ⟨c4, i4, k4⟩ := u_known (C := RX4) (T := TX4) (N := 7) (n := 7) hts inX4 (hts (.instantiable RX4 7) (by decide +kernel))
  have q1 : va_AO "Readingorder$Box" s := va_AO.of (hts (.arrayOver (.object "Readingorder$Box")) (by decide +kernel))
  have q2 : va_AO "Readingorder$Reading" s := va_AO.of (hts (.arrayOver (.object "Readingorder$Reading")) (by decide +kernel))
  have q3 : va_AO "Readingorder$Approval" s := va_AO.of (hts (.arrayOver (.object "Readingorder$Approval")) (by decide +kernel))
  obtain ⟨a0, m0, n0⟩ := arr0 (hts (.arrayClass .int) (by decide +kernel))
  obtain ⟨a3, m3, n3⟩ := arr1 q1
  obtain ⟨a4, m4, n4⟩ := arr1 q2
  obtain ⟨a5, m5, n5⟩ := arr1 q3
  refine ⟨((fun k => ([c0, c1, c2, c3, c4] : List ClassId).getD k c0, fun k => ([i0, i1, i2, i3, i4] : List (Nat → Nat)).getD k i0), s.heap.size, fun k => ([a0, a0, a0, a3, a4, a5] : List ClassId).getD k a0), rfl, ⟨⟨fun k q hq => ?_, fun k q hq => ?_⟩, ?_, ?_, fun q hq => ?_, fun w hw => ?_⟩, ⟨q1, q2, q3, ?_, ?_⟩, ?_, ?_, ?_⟩
  · match k, hq with
    | 0, hq => cases hq; exact k0
    | 1, hq => cases hq; exact k1
    | 2, hq => cases hq; exact k2
    | 3, hq => cases hq; exact k3
    | 4, hq => cases hq; exact k4
    | k + 5, hq => simp [vwCl] at hq
  · match k, hq with
    | 0, hq => cases hq; exact ⟨m0, n0⟩
    | 1, hq => cases hq; exact ⟨m0, n0⟩
    | 2, hq => cases hq; exact ⟨m0, n0⟩
    | 3, hq => cases hq; exact ⟨m3, n3⟩
    | 4, hq => cases hq; exact ⟨m4, n4⟩
    | 5, hq => cases hq; exact ⟨m5, n5⟩
    | k + 6, hq => simp [tysO] at hq
  · exact vx_Zqof (hts (.laysStatic Bundle.tN "UNASSIGNED_STACK" Bundle.steD) (by decide +kernel)) (hts (.initialized Bundle.tN) (by decide +kernel)) (hs (.isRef (.static Bundle.tN "UNASSIGNED_STACK" Bundle.steD)) (by decide +kernel)) (fun a h1 h2 => absurd h2 (by show ¬ s.heap.size ≤ a; omega))
  · exact vx_Zqof (hts (.laysStatic Bundle.tN "SUPPRESSED_SENTINEL" Bundle.listD) (by decide +kernel)) (hts (.initialized Bundle.tN) (by decide +kernel)) (hs (.isRef (.static Bundle.tN "SUPPRESSED_SENTINEL" Bundle.listD)) (by decide +kernel)) (fun a h1 h2 => absurd h2 (by show ¬ s.heap.size ≤ a; omega))
  · have hmem : ∀ q ∈ strs0, Cond.stringRef RX4 q.1 q.2 ∈ lw_tbl := by decide +kernel
    have hw := hts _ (hmem q hq)
    obtain ⟨k, hk⟩ : ∃ c : ClassId, s.vm.findClass RX4 = some c := ⟨c4, k4.2.1⟩
    obtain ⟨-, -, -, sa, -, -, -, -, -, hev⟩ := Cond.stringRef_spec hk hw
    exact ⟨sa, vk_R.of (A := #[Value.ref b]) hw hev⟩
  · simp only [nwL, List.mem_cons, List.not_mem_nil, or_false] at hw
    rcases hw with rfl | rfl | rfl | rfl | rfl | rfl
    · exact va_Nw.of rfl (hts _ (by decide +kernel))
    · exact va_Nw.of rfl (hts _ (by decide +kernel))
    · exact va_Nw.of rfl (hts _ (by decide +kernel))
    · exact va_Nw.of rfl (hts _ (by decide +kernel))
    · exact va_Nw.of rfl (hts _ (by decide +kernel))
    · exact va_Nw.of rfl (hts _ (by decide +kernel))
  · exact va_Nw.of rfl (hts (.methodLinkNest RX4 25 yX3_init RX4) (by decide +kernel))
  · exact va_Nw.of rfl (hts (.methodLinkNest RX4 32 yX2_init RX4) (by decide +kernel))
  · exact va_Nc.of (hs (.not (.castable "java/lang/IllegalArgumentException" "java/lang/IndexOutOfBoundsException")) (by decide +kernel))
  · exact va_Nc.of (hs (.not (.castable "java/lang/IllegalStateException" "java/lang/IndexOutOfBoundsException")) (by decide +kernel))
  · exact va_Nc.of (hs (.not (.castable "java/lang/IllegalStateException" "java/lang/IllegalArgumentException")) (by decide +kernel))
