/-! the class: its face, third part -/
theorem z01 {x : Nat} (h : x < 2) : narrow .boolean (.int (nI x)) = .int (nI x) := by
  rcases (show x = 0 ∨ x = 1 by omega) with rfl | rfl <;> rfl
theorem di_lt {a b c : Nat} (ha : a < c) (hb : b < c) : di a b < c := by
  unfold di; split <;> omega
theorem mA_lt {B : FF} (hW : ∀ i j, B i j < 128) (i : Nat) : mA B i < 256 := by
  have h1 := hW i 1; have h2 := hW i 3; unfold mA; omega
theorem mD_lt {B : FF} (hW : ∀ i j, B i j < 128) (i : Nat) : mD B i < 256 := by
  have h1 := hW i 2; have h2 := hW i 4; unfold mD; omega
theorem wyF_lt {B : FF} (hW : ∀ i j, B i j < 128) (u : List Nat) : ∀ i, wyF B u i ≤ 512 * i := by
  intro i
  induction i with
  | zero => exact Nat.le_refl 0
  | succ i ih =>
    have h1 := di_lt (mA_lt hW (u.getD i 0)) (mA_lt hW (u.getD (i + 1) 0))
    have h2 := di_lt (mD_lt hW (u.getD i 0)) (mD_lt hW (u.getD (i + 1) 0))
    unfold wyF at ih ⊢
    rw [fl_s]
    omega
def rmX4_way : Room := { frames := 7, cells := 1, slots := 6, locals := 112 }
theorem hd_X4_way : yX4_way.cls = (RX4, TX4, 7).1 ∧ yX4_way.cls ≠ "java/lang/invoke/MethodHandle" ∧ yX4_way.cls ≠ "java/lang/invoke/VarHandle" ∧ (parseMethodDescriptor yX4_way.desc).map (fun d => d.parameters.length) = some 1 := by decide +kernel
theorem fo_X4_way_136 : FO wsX4_way RX4 136 3 1 := ⟨_, _, _, rfl, by decide, by decide +kernel, by decide +kernel⟩
set_option maxHeartbeats 4000000 in
set_option maxRecDepth 100000 in
theorem c_way_ok {l : Launch} {ω : Om} {M : MM} (hl9 : l.stackTraces = false) {A B P : FF} {n k : Nat} {R : Nat → (Nat → Int32) × Nat} {Z : Nat → Prop} (hC : CI ω A B P n k R Z M) {p : Nat} (hp : p < 5) : Ct l ω yX4_way wsX4_way rmX4_way [.ref (A 0 0), .int (nI p)] M (fun v M9 => v = some (.int (nI (wyF B (ordF B n p) ((ordF B n p).length - 1)))) ∧ M9 = M) 1 6 := by
  refine Ct.ofV (cc := cX4_way) (maxL := 7) (ret := (some .int)) [some (.ref (A 0 0)), some (.int (nI p)), none, none, none, none, none] (by decide) rfl (Nat.le_of_ble_eq_true rfl) rfl (Lc.av (av := [.ref (A 0 0), .int (nI p)]) (k := 5) rfl) ?_
  intro σ F hl hr hname
  have F : Fx ω σ cX4_way 7 wsX4_way RX4 rmX4_way := F
  obtain ⟨hX, hB, hA, hA4, hk, hWP, hZ, hR, hO⟩ := id hC
  have hn : n ≤ 24 := hB.1
  have hW : ∀ i j, B i j < 128 := hB.2.1
  have hr1 : M (A 2 p) = some (rdE 3 (A 3 p) (ordF B n p).length) := by rw [← (hR p hp).1]; exact hX.rd (by omega)
  have hr2 : M (A 3 p) = some (rowE ω (R p).1) := hX.row (by omega)
  have hl24 := (hO.2 p hp).1
  have hg : ∀ q, q < (ordF B n p).length → (R p).1 q = nI ((ordF B n p).getD q 0) := (hR p hp).2
  have hn2 : ∀ q, q < (ordF B n p).length → (ordF B n p).getD q 0 < n := fun q hq => (hO.2 p hp).2 _ (getD_mem hq)
  refine v_aload_n F dX4_way_0 rfl rfl ?_
  refine v_iload_n F dX4_way_1 rfl ?_
  refine v_callV F 1 [_] rfl rfl rfl ((c_readingOf_ok (by rw [hl]; exact hl9) hX hB hp).noX (fun _ h => h)) gX4_way_X4_readingOf rfl hd_X4_readingOf ⟨⟨rfl, rfl⟩, ⟨(Nat.le_of_ble_eq_true rfl), (Nat.le_of_ble_eq_true rfl)⟩, ⟨(Nat.le_of_ble_eq_true rfl), (Nat.le_of_ble_eq_true rfl)⟩, (Nat.le_of_ble_eq_true rfl)⟩ hX.x rfl dX4_way_2 (fun v2 M2 q2 => ?_)
  obtain ⟨rfl, e2⟩ := q2
  replace e2 := e2.symm
  subst e2
  refine v_astore_n F dX4_way_5 rfl (Nat.le_of_ble_eq_true rfl) (ok2_d rfl) ?_
  refine v_iconst (v := nI 0) F dX4_way_6 (by decide) ?_
  refine v_istore_n F dX4_way_7 (Nat.le_of_ble_eq_true rfl) (ok2_d rfl) ?_
  refine v_iconst (v := nI 1) F dX4_way_8 (by decide) ?_
  refine v_istore F dX4_way_9 (Nat.le_of_ble_eq_true rfl) (ok2_d rfl) ?_
  have lp : ∀ i, i ≤ (ordF B n p).length - 1 → ∀ c w5 w6, c = wyF B (ordF B n p) i → V ω σ M [some (.ref (A 0 0)), some (.int (nI p)), some (.ref (A 2 p)), some (.int (nI c)), some (.int (nI (i + 1))), w5, w6] 1 6 (BQ ω σ (fun v M9 => v = some (.int (nI (wyF B (ordF B n p) ((ordF B n p).length - 1)))) ∧ M9 = M) 1 6) 11 [] := by
    refine loop_up ((ordF B n p).length - 1) _ (fun i hi ih => ?_)
    intro c w5 w6 hc
    refine v_iload F dX4_way_11 rfl ?_
    refine v_aload_n F dX4_way_13 rfl rfl ?_
    refine v_get F 3 1 fo_X4_way_136 dX4_way_14 hr1 rfl ?_
    refine v_icmp_ge_n F 96 dX4_way_17 (by decide) (by first | omega | exact Nat.lt_trans (hW _ _) (by decide)) (by first | omega | exact Nat.lt_trans (hW _ _) (by decide)) (fun c17 => ?_) (fun c17 => ?_)
    · refine v_iload_n F dX4_way_96 rfl ?_
      exact v_iret F hr dX4_way_97 (Nat.le_of_ble_eq_true rfl) (Nat.le_of_ble_eq_true rfl) ⟨by rw [hc, show i = (ordF B n p).length - 1 by omega], rfl⟩
    · refine v_aload_n F dX4_way_20 rfl rfl ?_
      refine v_aload_n F dX4_way_21 rfl rfl ?_
      refine v_iload F dX4_way_22 rfl ?_
      refine v_iconst (v := nI 1) F dX4_way_24 (by decide) ?_
      refine v_isub_n F dX4_way_25 (by first | omega | exact Nat.lt_trans (hW _ _) (by decide)) ?_
      refine V.toI (show nI (i + 1 - 1) = nI i by rw [Nat.add_sub_cancel]) ?_
      refine v_callV F 1 [_] rfl rfl rfl (c_X3_at_in hr1 hr2 hl24 (show i < (ordF B n p).length by omega)) gX4_way_X3_at rfl hd_X3_at ⟨⟨rfl, rfl⟩, ⟨(Nat.le_of_ble_eq_true rfl), (Nat.le_of_ble_eq_true rfl)⟩, ⟨(Nat.le_of_ble_eq_true rfl), (Nat.le_of_ble_eq_true rfl)⟩, (Nat.le_of_ble_eq_true rfl)⟩ hr1 rfl dX4_way_26 (fun v26 M26 q26 => ?_)
      obtain ⟨rfl, e26⟩ := q26
      replace e26 := e26.symm
      subst e26
      refine V.toI (hg _ (show i < (ordF B n p).length by omega)) ?_
      refine v_callV F 1 [_] rfl rfl rfl (c_madeBox_in hX hB (hn2 _ (show i < (ordF B n p).length by omega))) gX4_way_X4_madeBox rfl hd_X4_madeBox ⟨⟨rfl, rfl⟩, ⟨(Nat.le_of_ble_eq_true rfl), (Nat.le_of_ble_eq_true rfl)⟩, ⟨(Nat.le_of_ble_eq_true rfl), (Nat.le_of_ble_eq_true rfl)⟩, (Nat.le_of_ble_eq_true rfl)⟩ hX.x rfl dX4_way_29 (fun v29 M29 q29 => ?_)
      obtain ⟨rfl, e29⟩ := q29
      replace e29 := e29.symm
      subst e29
      refine v_astore F dX4_way_32 rfl (Nat.le_of_ble_eq_true rfl) (ok2_d rfl) ?_
      refine v_aload_n F dX4_way_34 rfl rfl ?_
      refine v_aload_n F dX4_way_35 rfl rfl ?_
      refine v_iload F dX4_way_36 rfl ?_
      refine v_callV F 1 [_] rfl rfl rfl (c_X3_at_in hr1 hr2 hl24 (show i + 1 < (ordF B n p).length by omega)) gX4_way_X3_at rfl hd_X3_at ⟨⟨rfl, rfl⟩, ⟨(Nat.le_of_ble_eq_true rfl), (Nat.le_of_ble_eq_true rfl)⟩, ⟨(Nat.le_of_ble_eq_true rfl), (Nat.le_of_ble_eq_true rfl)⟩, (Nat.le_of_ble_eq_true rfl)⟩ hr1 rfl dX4_way_38 (fun v38 M38 q38 => ?_)
      obtain ⟨rfl, e38⟩ := q38
      replace e38 := e38.symm
      subst e38
      refine V.toI (hg _ (show i + 1 < (ordF B n p).length by omega)) ?_
      refine v_callV F 1 [_] rfl rfl rfl (c_madeBox_in hX hB (hn2 _ (show i + 1 < (ordF B n p).length by omega))) gX4_way_X4_madeBox rfl hd_X4_madeBox ⟨⟨rfl, rfl⟩, ⟨(Nat.le_of_ble_eq_true rfl), (Nat.le_of_ble_eq_true rfl)⟩, ⟨(Nat.le_of_ble_eq_true rfl), (Nat.le_of_ble_eq_true rfl)⟩, (Nat.le_of_ble_eq_true rfl)⟩ hX.x rfl dX4_way_41 (fun v41 M41 q41 => ?_)
      obtain ⟨rfl, e41⟩ := q41
      replace e41 := e41.symm
      subst e41
      refine v_astore F dX4_way_44 rfl (Nat.le_of_ble_eq_true rfl) (ok2_d rfl) ?_
      refine v_aload F dX4_way_46 rfl rfl ?_
      refine v_ifnull_r F dX4_way_48 ?_
      refine v_aload F dX4_way_51 rfl rfl ?_
      refine v_ifnull_r F dX4_way_53 ?_
      refine v_iload_n F dX4_way_56 rfl ?_
      refine v_aload F dX4_way_57 rfl rfl ?_
      refine v_callV F 0 [] rfl rfl rfl (c_X1_middleAcross hW (hX.box (hn2 _ (show i + 1 < (ordF B n p).length by omega)))) gX4_way_X1_middleAcross rfl hd_X1_middleAcross ⟨⟨rfl, rfl⟩, ⟨(Nat.le_of_ble_eq_true rfl), (Nat.le_of_ble_eq_true rfl)⟩, ⟨(Nat.le_of_ble_eq_true rfl), (Nat.le_of_ble_eq_true rfl)⟩, (Nat.le_of_ble_eq_true rfl)⟩ (hX.box (hn2 _ (show i + 1 < (ordF B n p).length by omega))) rfl dX4_way_59 (fun v59 M59 q59 => ?_)
      obtain ⟨rfl, e59⟩ := q59
      replace e59 := e59.symm
      subst e59
      rw [show B ((ordF B n p).getD (i + 1) 0) 1 + B ((ordF B n p).getD (i + 1) 0) 3 / 2 = mA B ((ordF B n p).getD (i + 1) 0) from rfl]
      refine v_aload F dX4_way_62 rfl rfl ?_
      refine v_callV F 0 [] rfl rfl rfl (c_X1_middleAcross hW (hX.box (hn2 _ (show i < (ordF B n p).length by omega)))) gX4_way_X1_middleAcross rfl hd_X1_middleAcross ⟨⟨rfl, rfl⟩, ⟨(Nat.le_of_ble_eq_true rfl), (Nat.le_of_ble_eq_true rfl)⟩, ⟨(Nat.le_of_ble_eq_true rfl), (Nat.le_of_ble_eq_true rfl)⟩, (Nat.le_of_ble_eq_true rfl)⟩ (hX.box (hn2 _ (show i < (ordF B n p).length by omega))) rfl dX4_way_64 (fun v64 M64 q64 => ?_)
      obtain ⟨rfl, e64⟩ := q64
      replace e64 := e64.symm
      subst e64
      rw [show B ((ordF B n p).getD i 0) 1 + B ((ordF B n p).getD i 0) 3 / 2 = mA B ((ordF B n p).getD i 0) from rfl]
      refine v_isub F dX4_way_67 ?_
      refine v_mabs_n F (Nat.lt_trans (mA_lt hW _) (by decide)) (Nat.lt_trans (mA_lt hW _) (by decide)) rfl (by decide +kernel) (by decide +kernel) (by decide +kernel) (by decide +kernel) dX4_way_68 ⟨Nat.le_of_ble_eq_true rfl, Nat.le_of_ble_eq_true rfl, Nat.le_of_ble_eq_true rfl, Nat.le_of_ble_eq_true rfl⟩ ?_
      refine v_iadd_n F dX4_way_71 ?_
      refine v_istore_n F dX4_way_72 (Nat.le_of_ble_eq_true rfl) (ok2_d rfl) ?_
      refine v_iload_n F dX4_way_73 rfl ?_
      refine v_aload F dX4_way_74 rfl rfl ?_
      refine v_callV F 0 [] rfl rfl rfl (c_X1_middleDown hW (hX.box (hn2 _ (show i + 1 < (ordF B n p).length by omega)))) gX4_way_X1_middleDown rfl hd_X1_middleDown ⟨⟨rfl, rfl⟩, ⟨(Nat.le_of_ble_eq_true rfl), (Nat.le_of_ble_eq_true rfl)⟩, ⟨(Nat.le_of_ble_eq_true rfl), (Nat.le_of_ble_eq_true rfl)⟩, (Nat.le_of_ble_eq_true rfl)⟩ (hX.box (hn2 _ (show i + 1 < (ordF B n p).length by omega))) rfl dX4_way_76 (fun v76 M76 q76 => ?_)
      obtain ⟨rfl, e76⟩ := q76
      replace e76 := e76.symm
      subst e76
      rw [show B ((ordF B n p).getD (i + 1) 0) 2 + B ((ordF B n p).getD (i + 1) 0) 4 / 2 = mD B ((ordF B n p).getD (i + 1) 0) from rfl]
      refine v_aload F dX4_way_79 rfl rfl ?_
      refine v_callV F 0 [] rfl rfl rfl (c_X1_middleDown hW (hX.box (hn2 _ (show i < (ordF B n p).length by omega)))) gX4_way_X1_middleDown rfl hd_X1_middleDown ⟨⟨rfl, rfl⟩, ⟨(Nat.le_of_ble_eq_true rfl), (Nat.le_of_ble_eq_true rfl)⟩, ⟨(Nat.le_of_ble_eq_true rfl), (Nat.le_of_ble_eq_true rfl)⟩, (Nat.le_of_ble_eq_true rfl)⟩ (hX.box (hn2 _ (show i < (ordF B n p).length by omega))) rfl dX4_way_81 (fun v81 M81 q81 => ?_)
      obtain ⟨rfl, e81⟩ := q81
      replace e81 := e81.symm
      subst e81
      rw [show B ((ordF B n p).getD i 0) 2 + B ((ordF B n p).getD i 0) 4 / 2 = mD B ((ordF B n p).getD i 0) from rfl]
      refine v_isub F dX4_way_84 ?_
      refine v_mabs_n F (Nat.lt_trans (mD_lt hW _) (by decide)) (Nat.lt_trans (mD_lt hW _) (by decide)) rfl (by decide +kernel) (by decide +kernel) (by decide +kernel) (by decide +kernel) dX4_way_85 ⟨Nat.le_of_ble_eq_true rfl, Nat.le_of_ble_eq_true rfl, Nat.le_of_ble_eq_true rfl, Nat.le_of_ble_eq_true rfl⟩ ?_
      refine v_iadd_n F dX4_way_88 ?_
      refine v_istore_n F dX4_way_89 (Nat.le_of_ble_eq_true rfl) (ok2_d rfl) ?_
      refine v_iinc1 F dX4_way_90 rfl (ok2_d rfl) ?_
      refine v_goto F 11 dX4_way_93 (by decide) ?_
      exact ih (by omega) _ _ _ (by unfold wyF; rw [fl_s, ← wyF, ← hc])
  exact lp 0 (Nat.zero_le _) 0 _ _ rfl
set_option maxHeartbeats 4000000 in
set_option maxRecDepth 100000 in
theorem c_way_x {l : Launch} {ω : Om} {M : MM} (hl9 : l.stackTraces = false) {A B P : FF} {n k : Nat} {R : Nat → (Nat → Int32) × Nat} {Z : Nat → Prop} (hC : CI ω A B P n k R Z M) {y : Int32} (hy : y < 0 ∨ nI 5 ≤ y) : CtX l ω yX4_way wsX4_way rmX4_way [.ref (A 0 0), .int y] M (fun v M9 => False) (fun E => E = "java/lang/IndexOutOfBoundsException") 1 6 := by
  refine CtX.ofV (cc := cX4_way) (maxL := 7) (ret := (some .int)) [some (.ref (A 0 0)), some (.int y), none, none, none, none, none] (by decide) rfl (Nat.le_of_ble_eq_true rfl) rfl (Lc.av (av := [.ref (A 0 0), .int y]) (k := 5) rfl) ?_
  intro σ F hl hr hnx
  have hl : σ.2.1.stackTraces = false := by rw [hl]; exact hl9
  have F : Fx ω σ cX4_way 7 wsX4_way RX4 rmX4_way := F
  obtain ⟨hX, hB, hA, hA4, hk, hWP, hZ, hR, hO⟩ := id hC
  have hn : n ≤ 24 := hB.1
  have hW : ∀ i j, B i j < 128 := hB.2.1
  refine v_aload_n F dX4_way_0 rfl rfl ?_
  refine v_iload_n F dX4_way_1 rfl ?_
  refine v_callVX F 1 [_] rfl rfl rfl (c_readingOf_out hl hX hB hy) gX4_way_X4_readingOf rfl hd_X4_readingOf ⟨⟨rfl, rfl⟩, ⟨(Nat.le_of_ble_eq_true rfl), (Nat.le_of_ble_eq_true rfl)⟩, ⟨(Nat.le_of_ble_eq_true rfl), (Nat.le_of_ble_eq_true rfl)⟩, (Nat.le_of_ble_eq_true rfl)⟩ hX.x rfl dX4_way_2 (fun E h => h) hnx (Nat.le_of_ble_eq_true rfl) (Nat.le_of_ble_eq_true rfl) (fun v2 M2 q2 => ?_)
  exact q2.elim
def rmX4_about : Room := { frames := 6, cells := 1, slots := 6, locals := 90 }
theorem hd_X4_about : yX4_about.cls = (RX4, TX4, 7).1 ∧ yX4_about.cls ≠ "java/lang/invoke/MethodHandle" ∧ yX4_about.cls ≠ "java/lang/invoke/VarHandle" ∧ (parseMethodDescriptor yX4_about.desc).map (fun d => d.parameters.length) = some 2 := by decide +kernel
theorem fo_X4_about_89 : FO wsX4_about RX4 89 1 1 := ⟨_, _, _, rfl, by decide, by decide +kernel, by decide +kernel⟩
set_option maxHeartbeats 4000000 in
set_option maxRecDepth 100000 in
theorem c_about_0 {l : Launch} {ω : Om} {M : MM} {A B P : FF} {n k : Nat} {R : Nat → (Nat → Int32) × Nat} {Z : Nat → Prop} (hC : CI ω A B P n k R Z M) {j : Nat} (hj : j < n) : Ct l ω yX4_about wsX4_about rmX4_about [.ref (A 0 0), .int (nI j), .int (nI 0)] M (fun v M9 => v = some (.int (nI (B j 0))) ∧ M9 = M) 1 6 := by
  refine Ct.ofV (cc := cX4_about) (maxL := 4) (ret := (some .int)) [some (.ref (A 0 0)), some (.int (nI j)), some (.int (nI 0)), none] (by decide) rfl (Nat.le_of_ble_eq_true rfl) rfl (Lc.av (av := [.ref (A 0 0), .int (nI j), .int (nI 0)]) (k := 1) rfl) ?_
  intro σ F hl hr hname
  have F : Fx ω σ cX4_about 4 wsX4_about RX4 rmX4_about := F
  obtain ⟨hX, hB, hA, hA4, hk, hWP, hZ, hR, hO⟩ := id hC
  have hn : n ≤ 24 := hB.1
  have hW : ∀ i j, B i j < 128 := hB.2.1
  refine v_aload_n F dX4_about_0 rfl rfl ?_
  refine v_iload_n F dX4_about_1 rfl ?_
  refine v_callV F 1 [_] rfl rfl rfl (c_madeBox_in hX hB hj) gX4_about_X4_madeBox rfl hd_X4_madeBox ⟨⟨rfl, rfl⟩, ⟨(Nat.le_of_ble_eq_true rfl), (Nat.le_of_ble_eq_true rfl)⟩, ⟨(Nat.le_of_ble_eq_true rfl), (Nat.le_of_ble_eq_true rfl)⟩, (Nat.le_of_ble_eq_true rfl)⟩ hX.x rfl dX4_about_2 (fun v2 M2 q2 => ?_)
  obtain ⟨rfl, e2⟩ := q2
  replace e2 := e2.symm
  subst e2
  refine v_astore_n F dX4_about_5 rfl (Nat.le_of_ble_eq_true rfl) (ok2_d rfl) ?_
  refine v_aload_n F dX4_about_6 rfl rfl ?_
  refine v_ifnonnull_r F 20 dX4_about_7 (by decide) ?_
  refine v_iload_n F dX4_about_20 rfl ?_
  refine v_tableIn F 51 72 dX4_about_21 (by decide) (by decide) (by decide) (by decide) ?_
  refine v_aload_n F dX4_about_72 rfl rfl ?_
  refine v_get F 1 1 fo_X4_about_89 dX4_about_73 (hX.box hj) rfl ?_
  exact v_iret F hr dX4_about_76 (Nat.le_of_ble_eq_true rfl) (Nat.le_of_ble_eq_true rfl) ⟨rfl, rfl⟩
theorem fo_X4_about_83 : FO wsX4_about RX4 83 1 3 := ⟨_, _, _, rfl, by decide, by decide +kernel, by decide +kernel⟩
set_option maxHeartbeats 4000000 in
set_option maxRecDepth 100000 in
theorem c_about_1 {l : Launch} {ω : Om} {M : MM} {A B P : FF} {n k : Nat} {R : Nat → (Nat → Int32) × Nat} {Z : Nat → Prop} (hC : CI ω A B P n k R Z M) {j : Nat} (hj : j < n) : Ct l ω yX4_about wsX4_about rmX4_about [.ref (A 0 0), .int (nI j), .int (nI 1)] M (fun v M9 => v = some (.int (nI (B j 1))) ∧ M9 = M) 1 6 := by
  refine Ct.ofV (cc := cX4_about) (maxL := 4) (ret := (some .int)) [some (.ref (A 0 0)), some (.int (nI j)), some (.int (nI 1)), none] (by decide) rfl (Nat.le_of_ble_eq_true rfl) rfl (Lc.av (av := [.ref (A 0 0), .int (nI j), .int (nI 1)]) (k := 1) rfl) ?_
  intro σ F hl hr hname
  have F : Fx ω σ cX4_about 4 wsX4_about RX4 rmX4_about := F
  obtain ⟨hX, hB, hA, hA4, hk, hWP, hZ, hR, hO⟩ := id hC
  have hn : n ≤ 24 := hB.1
  have hW : ∀ i j, B i j < 128 := hB.2.1
  refine v_aload_n F dX4_about_0 rfl rfl ?_
  refine v_iload_n F dX4_about_1 rfl ?_
  refine v_callV F 1 [_] rfl rfl rfl (c_madeBox_in hX hB hj) gX4_about_X4_madeBox rfl hd_X4_madeBox ⟨⟨rfl, rfl⟩, ⟨(Nat.le_of_ble_eq_true rfl), (Nat.le_of_ble_eq_true rfl)⟩, ⟨(Nat.le_of_ble_eq_true rfl), (Nat.le_of_ble_eq_true rfl)⟩, (Nat.le_of_ble_eq_true rfl)⟩ hX.x rfl dX4_about_2 (fun v2 M2 q2 => ?_)
  obtain ⟨rfl, e2⟩ := q2
  replace e2 := e2.symm
  subst e2
  refine v_astore_n F dX4_about_5 rfl (Nat.le_of_ble_eq_true rfl) (ok2_d rfl) ?_
  refine v_aload_n F dX4_about_6 rfl rfl ?_
  refine v_ifnonnull_r F 20 dX4_about_7 (by decide) ?_
  refine v_iload_n F dX4_about_20 rfl ?_
  refine v_tableIn F 56 77 dX4_about_21 (by decide) (by decide) (by decide) (by decide) ?_
  refine v_aload_n F dX4_about_77 rfl rfl ?_
  refine v_get F 1 3 fo_X4_about_83 dX4_about_78 (hX.box hj) rfl ?_
  exact v_iret F hr dX4_about_81 (Nat.le_of_ble_eq_true rfl) (Nat.le_of_ble_eq_true rfl) ⟨rfl, rfl⟩
theorem fo_X4_about_86 : FO wsX4_about RX4 86 1 4 := ⟨_, _, _, rfl, by decide, by decide +kernel, by decide +kernel⟩
set_option maxHeartbeats 4000000 in
set_option maxRecDepth 100000 in
theorem c_about_2 {l : Launch} {ω : Om} {M : MM} {A B P : FF} {n k : Nat} {R : Nat → (Nat → Int32) × Nat} {Z : Nat → Prop} (hC : CI ω A B P n k R Z M) {j : Nat} (hj : j < n) : Ct l ω yX4_about wsX4_about rmX4_about [.ref (A 0 0), .int (nI j), .int (nI 2)] M (fun v M9 => v = some (.int (nI (B j 2))) ∧ M9 = M) 1 6 := by
  refine Ct.ofV (cc := cX4_about) (maxL := 4) (ret := (some .int)) [some (.ref (A 0 0)), some (.int (nI j)), some (.int (nI 2)), none] (by decide) rfl (Nat.le_of_ble_eq_true rfl) rfl (Lc.av (av := [.ref (A 0 0), .int (nI j), .int (nI 2)]) (k := 1) rfl) ?_
  intro σ F hl hr hname
  have F : Fx ω σ cX4_about 4 wsX4_about RX4 rmX4_about := F
  obtain ⟨hX, hB, hA, hA4, hk, hWP, hZ, hR, hO⟩ := id hC
  have hn : n ≤ 24 := hB.1
  have hW : ∀ i j, B i j < 128 := hB.2.1
  refine v_aload_n F dX4_about_0 rfl rfl ?_
  refine v_iload_n F dX4_about_1 rfl ?_
  refine v_callV F 1 [_] rfl rfl rfl (c_madeBox_in hX hB hj) gX4_about_X4_madeBox rfl hd_X4_madeBox ⟨⟨rfl, rfl⟩, ⟨(Nat.le_of_ble_eq_true rfl), (Nat.le_of_ble_eq_true rfl)⟩, ⟨(Nat.le_of_ble_eq_true rfl), (Nat.le_of_ble_eq_true rfl)⟩, (Nat.le_of_ble_eq_true rfl)⟩ hX.x rfl dX4_about_2 (fun v2 M2 q2 => ?_)
  obtain ⟨rfl, e2⟩ := q2
  replace e2 := e2.symm
  subst e2
  refine v_astore_n F dX4_about_5 rfl (Nat.le_of_ble_eq_true rfl) (ok2_d rfl) ?_
  refine v_aload_n F dX4_about_6 rfl rfl ?_
  refine v_ifnonnull_r F 20 dX4_about_7 (by decide) ?_
  refine v_iload_n F dX4_about_20 rfl ?_
  refine v_tableIn F 61 82 dX4_about_21 (by decide) (by decide) (by decide) (by decide) ?_
  refine v_aload_n F dX4_about_82 rfl rfl ?_
  refine v_get F 1 4 fo_X4_about_86 dX4_about_83 (hX.box hj) rfl ?_
  exact v_iret F hr dX4_about_86 (Nat.le_of_ble_eq_true rfl) (Nat.le_of_ble_eq_true rfl) ⟨rfl, rfl⟩
theorem fo_X4_about_77 : FO wsX4_about RX4 77 1 5 := ⟨_, _, _, rfl, by decide, by decide +kernel, by decide +kernel⟩
set_option maxHeartbeats 4000000 in
set_option maxRecDepth 100000 in
theorem c_about_3 {l : Launch} {ω : Om} {M : MM} {A B P : FF} {n k : Nat} {R : Nat → (Nat → Int32) × Nat} {Z : Nat → Prop} (hC : CI ω A B P n k R Z M) {j : Nat} (hj : j < n) : Ct l ω yX4_about wsX4_about rmX4_about [.ref (A 0 0), .int (nI j), .int (nI 3)] M (fun v M9 => v = some (.int (nI (B j 3))) ∧ M9 = M) 1 6 := by
  refine Ct.ofV (cc := cX4_about) (maxL := 4) (ret := (some .int)) [some (.ref (A 0 0)), some (.int (nI j)), some (.int (nI 3)), none] (by decide) rfl (Nat.le_of_ble_eq_true rfl) rfl (Lc.av (av := [.ref (A 0 0), .int (nI j), .int (nI 3)]) (k := 1) rfl) ?_
  intro σ F hl hr hname
  have F : Fx ω σ cX4_about 4 wsX4_about RX4 rmX4_about := F
  obtain ⟨hX, hB, hA, hA4, hk, hWP, hZ, hR, hO⟩ := id hC
  have hn : n ≤ 24 := hB.1
  have hW : ∀ i j, B i j < 128 := hB.2.1
  refine v_aload_n F dX4_about_0 rfl rfl ?_
  refine v_iload_n F dX4_about_1 rfl ?_
  refine v_callV F 1 [_] rfl rfl rfl (c_madeBox_in hX hB hj) gX4_about_X4_madeBox rfl hd_X4_madeBox ⟨⟨rfl, rfl⟩, ⟨(Nat.le_of_ble_eq_true rfl), (Nat.le_of_ble_eq_true rfl)⟩, ⟨(Nat.le_of_ble_eq_true rfl), (Nat.le_of_ble_eq_true rfl)⟩, (Nat.le_of_ble_eq_true rfl)⟩ hX.x rfl dX4_about_2 (fun v2 M2 q2 => ?_)
  obtain ⟨rfl, e2⟩ := q2
  replace e2 := e2.symm
  subst e2
  refine v_astore_n F dX4_about_5 rfl (Nat.le_of_ble_eq_true rfl) (ok2_d rfl) ?_
  refine v_aload_n F dX4_about_6 rfl rfl ?_
  refine v_ifnonnull_r F 20 dX4_about_7 (by decide) ?_
  refine v_iload_n F dX4_about_20 rfl ?_
  refine v_tableIn F 66 87 dX4_about_21 (by decide) (by decide) (by decide) (by decide) ?_
  refine v_aload_n F dX4_about_87 rfl rfl ?_
  refine v_get F 1 5 fo_X4_about_77 dX4_about_88 (hX.box hj) rfl ?_
  exact v_iret F hr dX4_about_91 (Nat.le_of_ble_eq_true rfl) (Nat.le_of_ble_eq_true rfl) ⟨rfl, rfl⟩
theorem fo_X4_about_80 : FO wsX4_about RX4 80 1 6 := ⟨_, _, _, rfl, by decide, by decide +kernel, by decide +kernel⟩
set_option maxHeartbeats 4000000 in
set_option maxRecDepth 100000 in
theorem c_about_4 {l : Launch} {ω : Om} {M : MM} {A B P : FF} {n k : Nat} {R : Nat → (Nat → Int32) × Nat} {Z : Nat → Prop} (hC : CI ω A B P n k R Z M) {j : Nat} (hj : j < n) : Ct l ω yX4_about wsX4_about rmX4_about [.ref (A 0 0), .int (nI j), .int (nI 4)] M (fun v M9 => v = some (.int (nI (B j 4))) ∧ M9 = M) 1 6 := by
  refine Ct.ofV (cc := cX4_about) (maxL := 4) (ret := (some .int)) [some (.ref (A 0 0)), some (.int (nI j)), some (.int (nI 4)), none] (by decide) rfl (Nat.le_of_ble_eq_true rfl) rfl (Lc.av (av := [.ref (A 0 0), .int (nI j), .int (nI 4)]) (k := 1) rfl) ?_
  intro σ F hl hr hname
  have F : Fx ω σ cX4_about 4 wsX4_about RX4 rmX4_about := F
  obtain ⟨hX, hB, hA, hA4, hk, hWP, hZ, hR, hO⟩ := id hC
  have hn : n ≤ 24 := hB.1
  have hW : ∀ i j, B i j < 128 := hB.2.1
  refine v_aload_n F dX4_about_0 rfl rfl ?_
  refine v_iload_n F dX4_about_1 rfl ?_
  refine v_callV F 1 [_] rfl rfl rfl (c_madeBox_in hX hB hj) gX4_about_X4_madeBox rfl hd_X4_madeBox ⟨⟨rfl, rfl⟩, ⟨(Nat.le_of_ble_eq_true rfl), (Nat.le_of_ble_eq_true rfl)⟩, ⟨(Nat.le_of_ble_eq_true rfl), (Nat.le_of_ble_eq_true rfl)⟩, (Nat.le_of_ble_eq_true rfl)⟩ hX.x rfl dX4_about_2 (fun v2 M2 q2 => ?_)
  obtain ⟨rfl, e2⟩ := q2
  replace e2 := e2.symm
  subst e2
  refine v_astore_n F dX4_about_5 rfl (Nat.le_of_ble_eq_true rfl) (ok2_d rfl) ?_
  refine v_aload_n F dX4_about_6 rfl rfl ?_
  refine v_ifnonnull_r F 20 dX4_about_7 (by decide) ?_
  refine v_iload_n F dX4_about_20 rfl ?_
  refine v_tableIn F 71 92 dX4_about_21 (by decide) (by decide) (by decide) (by decide) ?_
  refine v_aload_n F dX4_about_92 rfl rfl ?_
  refine v_get F 1 6 fo_X4_about_80 dX4_about_93 (hX.box hj) rfl ?_
  exact v_iret F hr dX4_about_96 (Nat.le_of_ble_eq_true rfl) (Nat.le_of_ble_eq_true rfl) ⟨rfl, rfl⟩
theorem fo_X4_about_147 : FO wsX4_about RX4 147 1 2 := ⟨_, _, _, rfl, by decide, by decide +kernel, by decide +kernel⟩
set_option maxHeartbeats 4000000 in
set_option maxRecDepth 100000 in
theorem c_about_5 {l : Launch} {ω : Om} {M : MM} {A B P : FF} {n k : Nat} {R : Nat → (Nat → Int32) × Nat} {Z : Nat → Prop} (hC : CI ω A B P n k R Z M) {j : Nat} (hj : j < n) : Ct l ω yX4_about wsX4_about rmX4_about [.ref (A 0 0), .int (nI j), .int (nI 5)] M (fun v M9 => v = some (.int (nI (B j 5))) ∧ M9 = M) 1 6 := by
  refine Ct.ofV (cc := cX4_about) (maxL := 4) (ret := (some .int)) [some (.ref (A 0 0)), some (.int (nI j)), some (.int (nI 5)), none] (by decide) rfl (Nat.le_of_ble_eq_true rfl) rfl (Lc.av (av := [.ref (A 0 0), .int (nI j), .int (nI 5)]) (k := 1) rfl) ?_
  intro σ F hl hr hname
  have F : Fx ω σ cX4_about 4 wsX4_about RX4 rmX4_about := F
  obtain ⟨hX, hB, hA, hA4, hk, hWP, hZ, hR, hO⟩ := id hC
  have hn : n ≤ 24 := hB.1
  have hW : ∀ i j, B i j < 128 := hB.2.1
  refine v_aload_n F dX4_about_0 rfl rfl ?_
  refine v_iload_n F dX4_about_1 rfl ?_
  refine v_callV F 1 [_] rfl rfl rfl (c_madeBox_in hX hB hj) gX4_about_X4_madeBox rfl hd_X4_madeBox ⟨⟨rfl, rfl⟩, ⟨(Nat.le_of_ble_eq_true rfl), (Nat.le_of_ble_eq_true rfl)⟩, ⟨(Nat.le_of_ble_eq_true rfl), (Nat.le_of_ble_eq_true rfl)⟩, (Nat.le_of_ble_eq_true rfl)⟩ hX.x rfl dX4_about_2 (fun v2 M2 q2 => ?_)
  obtain ⟨rfl, e2⟩ := q2
  replace e2 := e2.symm
  subst e2
  refine v_astore_n F dX4_about_5 rfl (Nat.le_of_ble_eq_true rfl) (ok2_d rfl) ?_
  refine v_aload_n F dX4_about_6 rfl rfl ?_
  refine v_ifnonnull_r F 20 dX4_about_7 (by decide) ?_
  refine v_iload_n F dX4_about_20 rfl ?_
  refine v_tableIn F 76 97 dX4_about_21 (by decide) (by decide) (by decide) (by decide) ?_
  refine v_aload_n F dX4_about_97 rfl rfl ?_
  refine v_get F 1 2 fo_X4_about_147 dX4_about_98 (hX.box hj) rfl ?_
  exact v_iret F hr dX4_about_101 (Nat.le_of_ble_eq_true rfl) (Nat.le_of_ble_eq_true rfl) ⟨rfl, rfl⟩
theorem fo_X4_about_108 : FO wsX4_about RX4 108 1 8 := ⟨_, _, _, rfl, by decide, by decide +kernel, by decide +kernel⟩
set_option maxHeartbeats 4000000 in
set_option maxRecDepth 100000 in
theorem c_about_60 {l : Launch} {ω : Om} {M : MM} {A B P : FF} {n k : Nat} {R : Nat → (Nat → Int32) × Nat} {Z : Nat → Prop} (hC : CI ω A B P n k R Z M) {j : Nat} (hj : j < n) (h0 : B j 6 = 0) : Ct l ω yX4_about wsX4_about rmX4_about [.ref (A 0 0), .int (nI j), .int (nI 6)] M (fun v M9 => v = some (.int (-1)) ∧ M9 = M) 1 6 := by
  refine Ct.ofV (cc := cX4_about) (maxL := 4) (ret := (some .int)) [some (.ref (A 0 0)), some (.int (nI j)), some (.int (nI 6)), none] (by decide) rfl (Nat.le_of_ble_eq_true rfl) rfl (Lc.av (av := [.ref (A 0 0), .int (nI j), .int (nI 6)]) (k := 1) rfl) ?_
  intro σ F hl hr hname
  have F : Fx ω σ cX4_about 4 wsX4_about RX4 rmX4_about := F
  obtain ⟨hX, hB, hA, hA4, hk, hWP, hZ, hR, hO⟩ := id hC
  have hn : n ≤ 24 := hB.1
  have hW : ∀ i j, B i j < 128 := hB.2.1
  have hbj : M (A 1 j) = some (.inr (1, (bxF A B j).set 8 (.null))) := (hX.box hj).trans (by rw [show (bxF A B j).set 8 (.null) = bxF A B j by simp [bxF, h0, oA, va_rf]])
  refine v_aload_n F dX4_about_0 rfl rfl ?_
  refine v_iload_n F dX4_about_1 rfl ?_
  refine v_callV F 1 [_] rfl rfl rfl (c_madeBox_in hX hB hj) gX4_about_X4_madeBox rfl hd_X4_madeBox ⟨⟨rfl, rfl⟩, ⟨(Nat.le_of_ble_eq_true rfl), (Nat.le_of_ble_eq_true rfl)⟩, ⟨(Nat.le_of_ble_eq_true rfl), (Nat.le_of_ble_eq_true rfl)⟩, (Nat.le_of_ble_eq_true rfl)⟩ hX.x rfl dX4_about_2 (fun v2 M2 q2 => ?_)
  obtain ⟨rfl, e2⟩ := q2
  replace e2 := e2.symm
  subst e2
  refine v_astore_n F dX4_about_5 rfl (Nat.le_of_ble_eq_true rfl) (ok2_d rfl) ?_
  refine v_aload_n F dX4_about_6 rfl rfl ?_
  refine v_ifnonnull_r F 20 dX4_about_7 (by decide) ?_
  refine v_iload_n F dX4_about_20 rfl ?_
  refine v_tableIn F 81 102 dX4_about_21 (by decide) (by decide) (by decide) (by decide) ?_
  refine v_aload_n F dX4_about_102 rfl rfl ?_
  refine v_get F 1 8 fo_X4_about_108 dX4_about_103 hbj rfl ?_
  refine v_callS F 1 [_] rfl rfl rfl (c_numberOf_0) gX4_about_X4_numberOf rfl hd_X4_numberOf ⟨⟨rfl, rfl⟩, ⟨(Nat.le_of_ble_eq_true rfl), (Nat.le_of_ble_eq_true rfl)⟩, ⟨(Nat.le_of_ble_eq_true rfl), (Nat.le_of_ble_eq_true rfl)⟩, (Nat.le_of_ble_eq_true rfl)⟩ dX4_about_106 (fun v106 M106 q106 => ?_)
  obtain ⟨rfl, e106⟩ := q106
  replace e106 := e106.symm
  subst e106
  exact v_iret F hr dX4_about_109 (Nat.le_of_ble_eq_true rfl) (Nat.le_of_ble_eq_true rfl) ⟨rfl, rfl⟩
set_option maxHeartbeats 4000000 in
set_option maxRecDepth 100000 in
theorem c_about_61 {l : Launch} {ω : Om} {M : MM} {A B P : FF} {n k : Nat} {R : Nat → (Nat → Int32) × Nat} {Z : Nat → Prop} (hC : CI ω A B P n k R Z M) {j : Nat} (hj : j < n) {y : Nat} (h0 : B j 6 = y + 1) (hyn : y < n) : Ct l ω yX4_about wsX4_about rmX4_about [.ref (A 0 0), .int (nI j), .int (nI 6)] M (fun v M9 => v = some (.int (nI y)) ∧ M9 = M) 1 6 := by
  refine Ct.ofV (cc := cX4_about) (maxL := 4) (ret := (some .int)) [some (.ref (A 0 0)), some (.int (nI j)), some (.int (nI 6)), none] (by decide) rfl (Nat.le_of_ble_eq_true rfl) rfl (Lc.av (av := [.ref (A 0 0), .int (nI j), .int (nI 6)]) (k := 1) rfl) ?_
  intro σ F hl hr hname
  have F : Fx ω σ cX4_about 4 wsX4_about RX4 rmX4_about := F
  obtain ⟨hX, hB, hA, hA4, hk, hWP, hZ, hR, hO⟩ := id hC
  have hn : n ≤ 24 := hB.1
  have hW : ∀ i j, B i j < 128 := hB.2.1
  have hbj : M (A 1 j) = some (.inr (1, (bxF A B j).set 8 (.ref (A 1 y)))) := (hX.box hj).trans (by rw [show (bxF A B j).set 8 (.ref (A 1 y)) = bxF A B j by simp [bxF, h0, oA, va_rf]])
  refine v_aload_n F dX4_about_0 rfl rfl ?_
  refine v_iload_n F dX4_about_1 rfl ?_
  refine v_callV F 1 [_] rfl rfl rfl (c_madeBox_in hX hB hj) gX4_about_X4_madeBox rfl hd_X4_madeBox ⟨⟨rfl, rfl⟩, ⟨(Nat.le_of_ble_eq_true rfl), (Nat.le_of_ble_eq_true rfl)⟩, ⟨(Nat.le_of_ble_eq_true rfl), (Nat.le_of_ble_eq_true rfl)⟩, (Nat.le_of_ble_eq_true rfl)⟩ hX.x rfl dX4_about_2 (fun v2 M2 q2 => ?_)
  obtain ⟨rfl, e2⟩ := q2
  replace e2 := e2.symm
  subst e2
  refine v_astore_n F dX4_about_5 rfl (Nat.le_of_ble_eq_true rfl) (ok2_d rfl) ?_
  refine v_aload_n F dX4_about_6 rfl rfl ?_
  refine v_ifnonnull_r F 20 dX4_about_7 (by decide) ?_
  refine v_iload_n F dX4_about_20 rfl ?_
  refine v_tableIn F 81 102 dX4_about_21 (by decide) (by decide) (by decide) (by decide) ?_
  refine v_aload_n F dX4_about_102 rfl rfl ?_
  refine v_get F 1 8 fo_X4_about_108 dX4_about_103 hbj rfl ?_
  refine v_callS F 1 [_] rfl rfl rfl (c_numberOf_1 (n := n) (hX.box hyn)) gX4_about_X4_numberOf rfl hd_X4_numberOf ⟨⟨rfl, rfl⟩, ⟨(Nat.le_of_ble_eq_true rfl), (Nat.le_of_ble_eq_true rfl)⟩, ⟨(Nat.le_of_ble_eq_true rfl), (Nat.le_of_ble_eq_true rfl)⟩, (Nat.le_of_ble_eq_true rfl)⟩ dX4_about_106 (fun v106 M106 q106 => ?_)
  obtain ⟨rfl, e106⟩ := q106
  replace e106 := e106.symm
  subst e106
  exact v_iret F hr dX4_about_109 (Nat.le_of_ble_eq_true rfl) (Nat.le_of_ble_eq_true rfl) ⟨rfl, rfl⟩
theorem fo_X4_about_104 : FO wsX4_about RX4 104 1 9 := ⟨_, _, _, rfl, by decide, by decide +kernel, by decide +kernel⟩
set_option maxHeartbeats 4000000 in
set_option maxRecDepth 100000 in
theorem c_about_70 {l : Launch} {ω : Om} {M : MM} {A B P : FF} {n k : Nat} {R : Nat → (Nat → Int32) × Nat} {Z : Nat → Prop} (hC : CI ω A B P n k R Z M) {j : Nat} (hj : j < n) (h0 : B j 7 = 0) : Ct l ω yX4_about wsX4_about rmX4_about [.ref (A 0 0), .int (nI j), .int (nI 7)] M (fun v M9 => v = some (.int (-1)) ∧ M9 = M) 1 6 := by
  refine Ct.ofV (cc := cX4_about) (maxL := 4) (ret := (some .int)) [some (.ref (A 0 0)), some (.int (nI j)), some (.int (nI 7)), none] (by decide) rfl (Nat.le_of_ble_eq_true rfl) rfl (Lc.av (av := [.ref (A 0 0), .int (nI j), .int (nI 7)]) (k := 1) rfl) ?_
  intro σ F hl hr hname
  have F : Fx ω σ cX4_about 4 wsX4_about RX4 rmX4_about := F
  obtain ⟨hX, hB, hA, hA4, hk, hWP, hZ, hR, hO⟩ := id hC
  have hn : n ≤ 24 := hB.1
  have hW : ∀ i j, B i j < 128 := hB.2.1
  have hbj : M (A 1 j) = some (.inr (1, (bxF A B j).set 9 (.null))) := (hX.box hj).trans (by rw [show (bxF A B j).set 9 (.null) = bxF A B j by simp [bxF, h0, oA, va_rf]])
  refine v_aload_n F dX4_about_0 rfl rfl ?_
  refine v_iload_n F dX4_about_1 rfl ?_
  refine v_callV F 1 [_] rfl rfl rfl (c_madeBox_in hX hB hj) gX4_about_X4_madeBox rfl hd_X4_madeBox ⟨⟨rfl, rfl⟩, ⟨(Nat.le_of_ble_eq_true rfl), (Nat.le_of_ble_eq_true rfl)⟩, ⟨(Nat.le_of_ble_eq_true rfl), (Nat.le_of_ble_eq_true rfl)⟩, (Nat.le_of_ble_eq_true rfl)⟩ hX.x rfl dX4_about_2 (fun v2 M2 q2 => ?_)
  obtain ⟨rfl, e2⟩ := q2
  replace e2 := e2.symm
  subst e2
  refine v_astore_n F dX4_about_5 rfl (Nat.le_of_ble_eq_true rfl) (ok2_d rfl) ?_
  refine v_aload_n F dX4_about_6 rfl rfl ?_
  refine v_ifnonnull_r F 20 dX4_about_7 (by decide) ?_
  refine v_iload_n F dX4_about_20 rfl ?_
  refine v_tableIn F 89 110 dX4_about_21 (by decide) (by decide) (by decide) (by decide) ?_
  refine v_aload_n F dX4_about_110 rfl rfl ?_
  refine v_get F 1 9 fo_X4_about_104 dX4_about_111 hbj rfl ?_
  refine v_callS F 1 [_] rfl rfl rfl (c_numberOf_0) gX4_about_X4_numberOf rfl hd_X4_numberOf ⟨⟨rfl, rfl⟩, ⟨(Nat.le_of_ble_eq_true rfl), (Nat.le_of_ble_eq_true rfl)⟩, ⟨(Nat.le_of_ble_eq_true rfl), (Nat.le_of_ble_eq_true rfl)⟩, (Nat.le_of_ble_eq_true rfl)⟩ dX4_about_114 (fun v114 M114 q114 => ?_)
  obtain ⟨rfl, e114⟩ := q114
  replace e114 := e114.symm
  subst e114
  exact v_iret F hr dX4_about_117 (Nat.le_of_ble_eq_true rfl) (Nat.le_of_ble_eq_true rfl) ⟨rfl, rfl⟩
set_option maxHeartbeats 4000000 in
set_option maxRecDepth 100000 in
theorem c_about_71 {l : Launch} {ω : Om} {M : MM} {A B P : FF} {n k : Nat} {R : Nat → (Nat → Int32) × Nat} {Z : Nat → Prop} (hC : CI ω A B P n k R Z M) {j : Nat} (hj : j < n) {y : Nat} (h0 : B j 7 = y + 1) (hyn : y < n) : Ct l ω yX4_about wsX4_about rmX4_about [.ref (A 0 0), .int (nI j), .int (nI 7)] M (fun v M9 => v = some (.int (nI y)) ∧ M9 = M) 1 6 := by
  refine Ct.ofV (cc := cX4_about) (maxL := 4) (ret := (some .int)) [some (.ref (A 0 0)), some (.int (nI j)), some (.int (nI 7)), none] (by decide) rfl (Nat.le_of_ble_eq_true rfl) rfl (Lc.av (av := [.ref (A 0 0), .int (nI j), .int (nI 7)]) (k := 1) rfl) ?_
  intro σ F hl hr hname
  have F : Fx ω σ cX4_about 4 wsX4_about RX4 rmX4_about := F
  obtain ⟨hX, hB, hA, hA4, hk, hWP, hZ, hR, hO⟩ := id hC
  have hn : n ≤ 24 := hB.1
  have hW : ∀ i j, B i j < 128 := hB.2.1
  have hbj : M (A 1 j) = some (.inr (1, (bxF A B j).set 9 (.ref (A 1 y)))) := (hX.box hj).trans (by rw [show (bxF A B j).set 9 (.ref (A 1 y)) = bxF A B j by simp [bxF, h0, oA, va_rf]])
  refine v_aload_n F dX4_about_0 rfl rfl ?_
  refine v_iload_n F dX4_about_1 rfl ?_
  refine v_callV F 1 [_] rfl rfl rfl (c_madeBox_in hX hB hj) gX4_about_X4_madeBox rfl hd_X4_madeBox ⟨⟨rfl, rfl⟩, ⟨(Nat.le_of_ble_eq_true rfl), (Nat.le_of_ble_eq_true rfl)⟩, ⟨(Nat.le_of_ble_eq_true rfl), (Nat.le_of_ble_eq_true rfl)⟩, (Nat.le_of_ble_eq_true rfl)⟩ hX.x rfl dX4_about_2 (fun v2 M2 q2 => ?_)
  obtain ⟨rfl, e2⟩ := q2
  replace e2 := e2.symm
  subst e2
  refine v_astore_n F dX4_about_5 rfl (Nat.le_of_ble_eq_true rfl) (ok2_d rfl) ?_
  refine v_aload_n F dX4_about_6 rfl rfl ?_
  refine v_ifnonnull_r F 20 dX4_about_7 (by decide) ?_
  refine v_iload_n F dX4_about_20 rfl ?_
  refine v_tableIn F 89 110 dX4_about_21 (by decide) (by decide) (by decide) (by decide) ?_
  refine v_aload_n F dX4_about_110 rfl rfl ?_
  refine v_get F 1 9 fo_X4_about_104 dX4_about_111 hbj rfl ?_
  refine v_callS F 1 [_] rfl rfl rfl (c_numberOf_1 (n := n) (hX.box hyn)) gX4_about_X4_numberOf rfl hd_X4_numberOf ⟨⟨rfl, rfl⟩, ⟨(Nat.le_of_ble_eq_true rfl), (Nat.le_of_ble_eq_true rfl)⟩, ⟨(Nat.le_of_ble_eq_true rfl), (Nat.le_of_ble_eq_true rfl)⟩, (Nat.le_of_ble_eq_true rfl)⟩ dX4_about_114 (fun v114 M114 q114 => ?_)
  obtain ⟨rfl, e114⟩ := q114
  replace e114 := e114.symm
  subst e114
  exact v_iret F hr dX4_about_117 (Nat.le_of_ble_eq_true rfl) (Nat.le_of_ble_eq_true rfl) ⟨rfl, rfl⟩
theorem fo_X4_about_98 : FO wsX4_about RX4 98 1 7 := ⟨_, _, _, rfl, by decide, by decide +kernel, by decide +kernel⟩
set_option maxHeartbeats 4000000 in
set_option maxRecDepth 100000 in
theorem c_about_8 {l : Launch} {ω : Om} {M : MM} {A B P : FF} {n k : Nat} {R : Nat → (Nat → Int32) × Nat} {Z : Nat → Prop} (hC : CI ω A B P n k R Z M) {j : Nat} (hj : j < n) (h01 : B j 8 < 2) : Ct l ω yX4_about wsX4_about rmX4_about [.ref (A 0 0), .int (nI j), .int (nI 8)] M (fun v M9 => v = some (.int (nI (B j 8))) ∧ M9 = M) 1 6 := by
  refine Ct.ofV (cc := cX4_about) (maxL := 4) (ret := (some .int)) [some (.ref (A 0 0)), some (.int (nI j)), some (.int (nI 8)), none] (by decide) rfl (Nat.le_of_ble_eq_true rfl) rfl (Lc.av (av := [.ref (A 0 0), .int (nI j), .int (nI 8)]) (k := 1) rfl) ?_
  intro σ F hl hr hname
  have F : Fx ω σ cX4_about 4 wsX4_about RX4 rmX4_about := F
  obtain ⟨hX, hB, hA, hA4, hk, hWP, hZ, hR, hO⟩ := id hC
  have hn : n ≤ 24 := hB.1
  have hW : ∀ i j, B i j < 128 := hB.2.1
  refine v_aload_n F dX4_about_0 rfl rfl ?_
  refine v_iload_n F dX4_about_1 rfl ?_
  refine v_callV F 1 [_] rfl rfl rfl (c_madeBox_in hX hB hj) gX4_about_X4_madeBox rfl hd_X4_madeBox ⟨⟨rfl, rfl⟩, ⟨(Nat.le_of_ble_eq_true rfl), (Nat.le_of_ble_eq_true rfl)⟩, ⟨(Nat.le_of_ble_eq_true rfl), (Nat.le_of_ble_eq_true rfl)⟩, (Nat.le_of_ble_eq_true rfl)⟩ hX.x rfl dX4_about_2 (fun v2 M2 q2 => ?_)
  obtain ⟨rfl, e2⟩ := q2
  replace e2 := e2.symm
  subst e2
  refine v_astore_n F dX4_about_5 rfl (Nat.le_of_ble_eq_true rfl) (ok2_d rfl) ?_
  refine v_aload_n F dX4_about_6 rfl rfl ?_
  refine v_ifnonnull_r F 20 dX4_about_7 (by decide) ?_
  refine v_iload_n F dX4_about_20 rfl ?_
  refine v_tableIn F 97 118 dX4_about_21 (by decide) (by decide) (by decide) (by decide) ?_
  refine v_aload_n F dX4_about_118 rfl rfl ?_
  refine v_get F 1 7 fo_X4_about_98 dX4_about_119 (hX.box hj) rfl ?_
  refine v_if_eq_n F 129 dX4_about_122 (by decide) (by first | omega | exact Nat.lt_trans (hW _ _) (by decide)) (fun c122 => ?_) (fun c122 => ?_)
  · refine v_iconst (v := nI 0) F dX4_about_129 (by decide) ?_
    exact v_iret F hr dX4_about_130 (Nat.le_of_ble_eq_true rfl) (Nat.le_of_ble_eq_true rfl) (by first | exact ⟨il (by omega), rfl⟩ | exact ⟨il (by omega), rfl⟩)
  · refine v_iconst (v := nI 1) F dX4_about_125 (by decide) ?_
    refine v_goto F 130 dX4_about_126 (by decide) ?_
    exact v_iret F hr dX4_about_130 (Nat.le_of_ble_eq_true rfl) (Nat.le_of_ble_eq_true rfl) (by first | exact ⟨il (by omega), rfl⟩ | exact ⟨il (by omega), rfl⟩)
theorem hat_X4_about_54 : ∀ w ∈ (vx_atS RX4 54 "java/lang/IllegalArgumentException" nmE).filter goodWord, w ∈ wsX4_about := by decide +kernel
set_option maxHeartbeats 4000000 in
set_option maxRecDepth 100000 in
theorem c_about_bad {l : Launch} {ω : Om} {M : MM} (hl9 : l.stackTraces = false) {A B P : FF} {n k : Nat} {R : Nat → (Nat → Int32) × Nat} {Z : Nat → Prop} (hC : CI ω A B P n k R Z M) {j : Nat} (hj : j < n) {w : Int32} (hw : w.toInt < 0 ∨ 8 < w.toInt) : CtX l ω yX4_about wsX4_about rmX4_about [.ref (A 0 0), .int (nI j), .int w] M (fun v M9 => False) (fun E => E = "java/lang/IllegalArgumentException") 1 6 := by
  refine CtX.ofV (cc := cX4_about) (maxL := 4) (ret := (some .int)) [some (.ref (A 0 0)), some (.int (nI j)), some (.int w), none] (by decide) rfl (Nat.le_of_ble_eq_true rfl) rfl (Lc.av (av := [.ref (A 0 0), .int (nI j), .int w]) (k := 1) rfl) ?_
  intro σ F hl hr hnx
  have hl : σ.2.1.stackTraces = false := by rw [hl]; exact hl9
  have F : Fx ω σ cX4_about 4 wsX4_about RX4 rmX4_about := F
  obtain ⟨hX, hB, hA, hA4, hk, hWP, hZ, hR, hO⟩ := id hC
  have hn : n ≤ 24 := hB.1
  have hW : ∀ i j, B i j < 128 := hB.2.1
  refine v_aload_n F dX4_about_0 rfl rfl ?_
  refine v_iload_n F dX4_about_1 rfl ?_
  refine v_callV F 1 [_] rfl rfl rfl (c_madeBox_in hX hB hj) gX4_about_X4_madeBox rfl hd_X4_madeBox ⟨⟨rfl, rfl⟩, ⟨(Nat.le_of_ble_eq_true rfl), (Nat.le_of_ble_eq_true rfl)⟩, ⟨(Nat.le_of_ble_eq_true rfl), (Nat.le_of_ble_eq_true rfl)⟩, (Nat.le_of_ble_eq_true rfl)⟩ hX.x rfl dX4_about_2 (fun v2 M2 q2 => ?_)
  obtain ⟨rfl, e2⟩ := q2
  replace e2 := e2.symm
  subst e2
  refine v_astore_n F dX4_about_5 rfl (Nat.le_of_ble_eq_true rfl) (ok2_d rfl) ?_
  refine v_aload_n F dX4_about_6 rfl rfl ?_
  refine v_ifnonnull_r F 20 dX4_about_7 (by decide) ?_
  refine v_iload_n F dX4_about_20 rfl ?_
  refine v_tableOut F 131 dX4_about_21 hw (by decide) ?_
  exact v_throw (cls := "java/lang/IllegalArgumentException") (text := "nothing is told by that number") F hl rfl hnx (by decide +kernel) (by decide +kernel) (by decide +kernel) (by decide +kernel) hat_X4_about_54 hnw_54 hgd_50_54 dX4_about_131 dX4_about_134 dX4_about_135 dX4_about_137 dX4_about_140 ⟨(Nat.le_of_ble_eq_true rfl), (Nat.le_of_ble_eq_true rfl), (Nat.le_of_ble_eq_true rfl), (Nat.le_of_ble_eq_true rfl)⟩ (Nat.le_of_ble_eq_true rfl) (Nat.le_of_ble_eq_true rfl) rfl
theorem hat_X4_about_146 : ∀ w ∈ (vx_atS RX4 146 "java/lang/IndexOutOfBoundsException" nmE).filter goodWord, w ∈ wsX4_about := by decide +kernel
set_option maxHeartbeats 4000000 in
set_option maxRecDepth 100000 in
theorem c_about_out {l : Launch} {ω : Om} {M : MM} (hl9 : l.stackTraces = false) {A B P : FF} {n k : Nat} {R : Nat → (Nat → Int32) × Nat} {Z : Nat → Prop} (hC : CI ω A B P n k R Z M) {j w : Int32} (hj : j < 0 ∨ nI n ≤ j) : CtX l ω yX4_about wsX4_about rmX4_about [.ref (A 0 0), .int j, .int w] M (fun v M9 => False) (fun E => E = "java/lang/IndexOutOfBoundsException") 1 6 := by
  refine CtX.ofV (cc := cX4_about) (maxL := 4) (ret := (some .int)) [some (.ref (A 0 0)), some (.int j), some (.int w), none] (by decide) rfl (Nat.le_of_ble_eq_true rfl) rfl (Lc.av (av := [.ref (A 0 0), .int j, .int w]) (k := 1) rfl) ?_
  intro σ F hl hr hnx
  have hl : σ.2.1.stackTraces = false := by rw [hl]; exact hl9
  have F : Fx ω σ cX4_about 4 wsX4_about RX4 rmX4_about := F
  obtain ⟨hX, hB, hA, hA4, hk, hWP, hZ, hR, hO⟩ := id hC
  have hn : n ≤ 24 := hB.1
  have hW : ∀ i j, B i j < 128 := hB.2.1
  refine v_aload_n F dX4_about_0 rfl rfl ?_
  refine v_iload_n F dX4_about_1 rfl ?_
  refine v_callV F 1 [_] rfl rfl rfl (c_madeBox_out hX hB hj) gX4_about_X4_madeBox rfl hd_X4_madeBox ⟨⟨rfl, rfl⟩, ⟨(Nat.le_of_ble_eq_true rfl), (Nat.le_of_ble_eq_true rfl)⟩, ⟨(Nat.le_of_ble_eq_true rfl), (Nat.le_of_ble_eq_true rfl)⟩, (Nat.le_of_ble_eq_true rfl)⟩ hX.x rfl dX4_about_2 (fun v2 M2 q2 => ?_)
  obtain ⟨rfl, e2⟩ := q2
  replace e2 := e2.symm
  subst e2
  refine v_astore_n F dX4_about_5 rfl (Nat.le_of_ble_eq_true rfl) (ok2_d rfl) ?_
  refine v_aload_n F dX4_about_6 rfl rfl ?_
  refine v_ifnonnull_n F dX4_about_7 ?_
  exact v_throw (cls := "java/lang/IndexOutOfBoundsException") (text := "there is no such box") F hl rfl hnx (by decide +kernel) (by decide +kernel) (by decide +kernel) (by decide +kernel) hat_X4_about_146 hnw_146 hgd_142_146 dX4_about_10 dX4_about_13 dX4_about_14 dX4_about_16 dX4_about_19 ⟨(Nat.le_of_ble_eq_true rfl), (Nat.le_of_ble_eq_true rfl), (Nat.le_of_ble_eq_true rfl), (Nat.le_of_ble_eq_true rfl)⟩ (Nat.le_of_ble_eq_true rfl) (Nat.le_of_ble_eq_true rfl) rfl
def rmX4_stands : Room := { frames := 6, cells := 1, slots := 6, locals := 90 }
theorem hd_X4_stands : yX4_stands.cls = (RX4, TX4, 7).1 ∧ yX4_stands.cls ≠ "java/lang/invoke/MethodHandle" ∧ yX4_stands.cls ≠ "java/lang/invoke/VarHandle" ∧ (parseMethodDescriptor yX4_stands.desc).map (fun d => d.parameters.length) = some 1 := by decide +kernel
theorem fo_X4_stands_39 : FO wsX4_stands RX4 39 4 5 := ⟨_, _, _, rfl, by decide, by decide +kernel, by decide +kernel⟩
theorem fo_X4_stands_181 : FO wsX4_stands RX4 181 0 2 := ⟨_, _, _, rfl, by decide, by decide +kernel, by decide +kernel⟩
set_option maxHeartbeats 4000000 in
set_option maxRecDepth 100000 in
theorem c_stands_ok {l : Launch} {ω : Om} {M : MM} {A B P : FF} {n k : Nat} {R : Nat → (Nat → Int32) × Nat} {Z : Nat → Prop} (hC : CI ω A B P n k R Z M) {i : Nat} (hi : i < k) (h01 : P i 2 < 2) : Ct l ω yX4_stands wsX4_stands rmX4_stands [.ref (A 0 0), .int (nI i)] M (fun v M9 => v = some (.int (nI (P i 2))) ∧ M9 = M) 1 6 := by
  refine Ct.ofV (cc := cX4_stands) (maxL := 3) (ret := (some .boolean)) [some (.ref (A 0 0)), some (.int (nI i)), none] (by decide) rfl (Nat.le_of_ble_eq_true rfl) rfl (Lc.av (av := [.ref (A 0 0), .int (nI i)]) (k := 1) rfl) ?_
  intro σ F hl hr hname
  have F : Fx ω σ cX4_stands 3 wsX4_stands RX4 rmX4_stands := F
  obtain ⟨hX, hB, hA, hA4, hk, hWP, hZ, hR, hO⟩ := id hC
  have hn : n ≤ 24 := hB.1
  have hW : ∀ i j, B i j < 128 := hB.2.1
  refine v_iload_n F dX4_stands_0 rfl ?_
  refine v_if_lt_n F 22 dX4_stands_1 (by decide) (by first | omega) ?_
  refine v_iload_n F dX4_stands_4 rfl ?_
  refine v_aload_n F dX4_stands_5 rfl rfl ?_
  refine v_get F 4 5 fo_X4_stands_39 dX4_stands_6 hX.x rfl ?_
  refine v_alen F 5 dX4_stands_9 hX.giv rfl ?_
  refine v_icmp_ge_n F 22 dX4_stands_10 (by decide) (by first | omega) (by first | omega) (fun c10 => ?_) (fun c10 => ?_)
  · exact absurd c10 (by omega)
  · refine v_aload_n F dX4_stands_13 rfl rfl ?_
    refine v_get F 4 5 fo_X4_stands_39 dX4_stands_14 hX.x rfl ?_
    refine v_iload_n F dX4_stands_17 rfl ?_
    refine v_aald_n F 5 dX4_stands_18 hX.giv rfl (by first | omega) (by decide) (fun h18 => ?_) (fun a18 h18 => ?_)
    · exact absurd h18 (by rw [qa_in hi]; exact fun h => nomatch h)
    · obtain rfl : a18 = A 4 i := by rw [qa_in hi] at h18; exact (Option.some.inj h18).symm
      refine v_goto F 23 dX4_stands_19 (by decide) ?_
      refine v_astore_n F dX4_stands_23 rfl (Nat.le_of_ble_eq_true rfl) (ok2_d rfl) ?_
      refine v_aload_n F dX4_stands_24 rfl rfl ?_
      refine v_ifnonnull_r F 38 dX4_stands_25 (by decide) ?_
      refine v_aload_n F dX4_stands_38 rfl rfl ?_
      refine v_get F 0 2 fo_X4_stands_181 dX4_stands_39 (hX.app hi) rfl ?_
      exact v_zret F hr dX4_stands_42 (z01 h01) (Nat.le_of_ble_eq_true rfl) (Nat.le_of_ble_eq_true rfl) ⟨rfl, rfl⟩
theorem hat_X4_stands_146 : ∀ w ∈ (vx_atS RX4 146 "java/lang/IndexOutOfBoundsException" nmE).filter goodWord, w ∈ wsX4_stands := by decide +kernel
set_option maxHeartbeats 4000000 in
set_option maxRecDepth 100000 in
theorem c_stands_x {l : Launch} {ω : Om} {M : MM} (hl9 : l.stackTraces = false) {A B P : FF} {n k : Nat} {R : Nat → (Nat → Int32) × Nat} {Z : Nat → Prop} (hC : CI ω A B P n k R Z M) {y : Int32} (hy : y < 0 ∨ nI k ≤ y) : CtX l ω yX4_stands wsX4_stands rmX4_stands [.ref (A 0 0), .int y] M (fun v M9 => False) (fun E => E = "java/lang/IndexOutOfBoundsException") 1 6 := by
  refine CtX.ofV (cc := cX4_stands) (maxL := 3) (ret := (some .boolean)) [some (.ref (A 0 0)), some (.int y), none] (by decide) rfl (Nat.le_of_ble_eq_true rfl) rfl (Lc.av (av := [.ref (A 0 0), .int y]) (k := 1) rfl) ?_
  intro σ F hl hr hnx
  have hl : σ.2.1.stackTraces = false := by rw [hl]; exact hl9
  have F : Fx ω σ cX4_stands 3 wsX4_stands RX4 rmX4_stands := F
  obtain ⟨hX, hB, hA, hA4, hk, hWP, hZ, hR, hO⟩ := id hC
  have hn : n ≤ 24 := hB.1
  have hW : ∀ i j, B i j < 128 := hB.2.1
  have hc : ¬ y < 0 → ¬ nI 20 ≤ y → ∃ j, y = nI j ∧ j < 20 ∧ ¬ j < k := by
    intro h1 h2
    rcases pk_ix y (n := 20) (by decide) with h | h | ⟨j, h, rfl⟩
    · exact absurd h h1
    · exact absurd h h2
    · refine ⟨j, rfl, h, fun h3 => ?_⟩
      rcases hy with h4 | h4
      · exact h1 h4
      · exact absurd ((nI_leI (by omega) (by omega)).mp h4) (by omega)
  refine v_iload_n F dX4_stands_0 rfl ?_
  refine v_if_lt F 22 dX4_stands_1 (by decide) (fun c1 => ?_) (fun c1 => ?_)
  · refine v_null F dX4_stands_22 ?_
    refine v_astore_n F dX4_stands_23 rfl (Nat.le_of_ble_eq_true rfl) (ok2_d rfl) ?_
    refine v_aload_n F dX4_stands_24 rfl rfl ?_
    refine v_ifnonnull_n F dX4_stands_25 ?_
    exact v_throw (cls := "java/lang/IndexOutOfBoundsException") (text := "there is no such approval") F hl rfl hnx (by decide +kernel) (by decide +kernel) (by decide +kernel) (by decide +kernel) hat_X4_stands_146 hnw_146 hgd_142_146 dX4_stands_28 dX4_stands_31 dX4_stands_32 dX4_stands_34 dX4_stands_37 ⟨(Nat.le_of_ble_eq_true rfl), (Nat.le_of_ble_eq_true rfl), (Nat.le_of_ble_eq_true rfl), (Nat.le_of_ble_eq_true rfl)⟩ (Nat.le_of_ble_eq_true rfl) (Nat.le_of_ble_eq_true rfl) rfl
  · refine v_iload_n F dX4_stands_4 rfl ?_
    refine v_aload_n F dX4_stands_5 rfl rfl ?_
    refine v_get F 4 5 fo_X4_stands_39 dX4_stands_6 hX.x rfl ?_
    refine v_alen F 5 dX4_stands_9 hX.giv rfl ?_
    refine v_icmp_ge F 22 dX4_stands_10 (by decide) (fun c10 => ?_) (fun c10 => ?_)
    · refine v_null F dX4_stands_22 ?_
      refine v_astore_n F dX4_stands_23 rfl (Nat.le_of_ble_eq_true rfl) (ok2_d rfl) ?_
      refine v_aload_n F dX4_stands_24 rfl rfl ?_
      refine v_ifnonnull_n F dX4_stands_25 ?_
      exact v_throw (cls := "java/lang/IndexOutOfBoundsException") (text := "there is no such approval") F hl rfl hnx (by decide +kernel) (by decide +kernel) (by decide +kernel) (by decide +kernel) hat_X4_stands_146 hnw_146 hgd_142_146 dX4_stands_28 dX4_stands_31 dX4_stands_32 dX4_stands_34 dX4_stands_37 ⟨(Nat.le_of_ble_eq_true rfl), (Nat.le_of_ble_eq_true rfl), (Nat.le_of_ble_eq_true rfl), (Nat.le_of_ble_eq_true rfl)⟩ (Nat.le_of_ble_eq_true rfl) (Nat.le_of_ble_eq_true rfl) rfl
    · refine v_aload_n F dX4_stands_13 rfl rfl ?_
      refine v_get F 4 5 fo_X4_stands_39 dX4_stands_14 hX.x rfl ?_
      refine v_iload_n F dX4_stands_17 rfl ?_
      obtain ⟨j, rfl, hj, hjn⟩ := hc c1 c10
      refine v_aald_n F 5 dX4_stands_18 hX.giv rfl (by first | omega) (by decide) (fun h18 => ?_) (fun a18 h18 => ?_)
      · refine v_goto F 23 dX4_stands_19 (by decide) ?_
        refine v_astore_n F dX4_stands_23 rfl (Nat.le_of_ble_eq_true rfl) (ok2_d rfl) ?_
        refine v_aload_n F dX4_stands_24 rfl rfl ?_
        refine v_ifnonnull_n F dX4_stands_25 ?_
        exact v_throw (cls := "java/lang/IndexOutOfBoundsException") (text := "there is no such approval") F hl rfl hnx (by decide +kernel) (by decide +kernel) (by decide +kernel) (by decide +kernel) hat_X4_stands_146 hnw_146 hgd_142_146 dX4_stands_28 dX4_stands_31 dX4_stands_32 dX4_stands_34 dX4_stands_37 ⟨(Nat.le_of_ble_eq_true rfl), (Nat.le_of_ble_eq_true rfl), (Nat.le_of_ble_eq_true rfl), (Nat.le_of_ble_eq_true rfl)⟩ (Nat.le_of_ble_eq_true rfl) (Nat.le_of_ble_eq_true rfl) rfl
      · exact absurd h18 (by rw [qa_out hjn]; exact fun h => nomatch h)
theorem msk_lt {P : FF} (hP6 : ∀ i, P i 0 < 6) (p k : Nat) : ∀ i, msk P p k i < 2 ^ 6 := by
  intro i
  induction i with
  | zero => exact Nat.two_pow_pos 6
  | succ i ih =>
    unfold msk at ih ⊢
    rw [fl_s]
    split
    · exact or_lt ih (hP6 i)
    · exact ih
def rmX4_approvers : Room := { frames := 7, cells := 1, slots := 6, locals := 112 }
theorem hd_X4_approvers : yX4_approvers.cls = (RX4, TX4, 7).1 ∧ yX4_approvers.cls ≠ "java/lang/invoke/MethodHandle" ∧ yX4_approvers.cls ≠ "java/lang/invoke/VarHandle" ∧ (parseMethodDescriptor yX4_approvers.desc).map (fun d => d.parameters.length) = some 1 := by decide +kernel
theorem fo_X4_approvers_39 : FO wsX4_approvers RX4 39 4 5 := ⟨_, _, _, rfl, by decide, by decide +kernel, by decide +kernel⟩
theorem fo_X4_approvers_188 : FO wsX4_approvers RX4 188 0 0 := ⟨_, _, _, rfl, by decide, by decide +kernel, by decide +kernel⟩
set_option maxHeartbeats 4000000 in
set_option maxRecDepth 100000 in
theorem c_approvers_ok {l : Launch} {ω : Om} {M : MM} (hl9 : l.stackTraces = false) {A B P : FF} {n k : Nat} {R : Nat → (Nat → Int32) × Nat} {Z : Nat → Prop} (hC : CI ω A B P n k R Z M) {p : Nat} (hp : p < 5) (hP6 : ∀ i, P i 0 < 6) : Ct l ω yX4_approvers wsX4_approvers rmX4_approvers [.ref (A 0 0), .int (nI p)] M (fun v M9 => v = some (.int (nI (msk P p k 20))) ∧ M9 = M) 1 6 := by
  refine Ct.ofV (cc := cX4_approvers) (maxL := 5) (ret := (some .int)) [some (.ref (A 0 0)), some (.int (nI p)), none, none, none] (by decide) rfl (Nat.le_of_ble_eq_true rfl) rfl (Lc.av (av := [.ref (A 0 0), .int (nI p)]) (k := 3) rfl) ?_
  intro σ F hl hr hname
  have F : Fx ω σ cX4_approvers 5 wsX4_approvers RX4 rmX4_approvers := F
  obtain ⟨hX, hB, hA, hA4, hk, hWP, hZ, hR, hO⟩ := id hC
  have hn : n ≤ 24 := hB.1
  have hW : ∀ i j, B i j < 128 := hB.2.1
  refine v_aload_n F dX4_approvers_0 rfl rfl ?_
  refine v_iload_n F dX4_approvers_1 rfl ?_
  refine v_callV F 1 [_] rfl rfl rfl ((c_readingOf_ok (by rw [hl]; exact hl9) hX hB hp).noX (fun _ h => h)) gX4_approvers_X4_readingOf rfl hd_X4_readingOf ⟨⟨rfl, rfl⟩, ⟨(Nat.le_of_ble_eq_true rfl), (Nat.le_of_ble_eq_true rfl)⟩, ⟨(Nat.le_of_ble_eq_true rfl), (Nat.le_of_ble_eq_true rfl)⟩, (Nat.le_of_ble_eq_true rfl)⟩ hX.x rfl dX4_approvers_2 (fun v2 M2 q2 => ?_)
  obtain ⟨rfl, e2⟩ := q2
  replace e2 := e2.symm
  subst e2
  refine v_pop F dX4_approvers_5 rfl ?_
  refine v_iconst (v := nI 0) F dX4_approvers_6 (by decide) ?_
  refine v_istore_n F dX4_approvers_7 (Nat.le_of_ble_eq_true rfl) (ok2_d rfl) ?_
  refine v_iconst (v := nI 0) F dX4_approvers_8 (by decide) ?_
  refine v_istore_n F dX4_approvers_9 (Nat.le_of_ble_eq_true rfl) (ok2_d rfl) ?_
  have lp : ∀ i, i ≤ 20 → ∀ c w, c = msk P p k i → V ω σ M [some (.ref (A 0 0)), some (.int (nI p)), some (.int (nI c)), some (.int (nI i)), w] 1 6 (BQ ω σ (fun v M9 => v = some (.int (nI (msk P p k 20))) ∧ M9 = M) 1 6) 10 [] := by
    refine loop_up 20 _ (fun i hi ih => ?_)
    intro c w hc
    refine v_iload_n F dX4_approvers_10 rfl ?_
    refine v_aload_n F dX4_approvers_11 rfl rfl ?_
    refine v_get F 4 5 fo_X4_approvers_39 dX4_approvers_12 hX.x rfl ?_
    refine v_alen F 5 dX4_approvers_15 hX.giv rfl ?_
    refine v_icmp_ge_n F 57 dX4_approvers_16 (by decide) (by first | omega | (have := hP6 i; omega)) (by first | omega | (have := hP6 i; omega)) (fun c16 => ?_) (fun c16 => ?_)
    · refine v_iload_n F dX4_approvers_57 rfl ?_
      exact v_iret F hr dX4_approvers_58 (Nat.le_of_ble_eq_true rfl) (Nat.le_of_ble_eq_true rfl) ⟨by rw [hc, show i = 20 by omega], rfl⟩
    · rcases Nat.lt_or_ge i k with hk1 | hk1
      · refine v_aload_n F dX4_approvers_19 rfl rfl ?_
        refine v_get F 4 5 fo_X4_approvers_39 dX4_approvers_20 hX.x rfl ?_
        refine v_iload_n F dX4_approvers_23 rfl ?_
        refine v_aald_n F 5 dX4_approvers_24 hX.giv rfl (by first | omega | (have := hP6 i; omega)) (by decide) (fun h24 => ?_) (fun a24 h24 => ?_)
        · exact absurd h24 (by rw [qa_in hk1]; exact fun h => nomatch h)
        · obtain rfl : a24 = A 4 i := by rw [qa_in hk1] at h24; exact (Option.some.inj h24).symm
          refine v_astore F dX4_approvers_25 rfl (Nat.le_of_ble_eq_true rfl) (ok2_d rfl) ?_
          refine v_aload F dX4_approvers_27 rfl rfl ?_
          refine v_ifnull_r F dX4_approvers_29 ?_
          refine v_aload F dX4_approvers_32 rfl rfl ?_
          refine v_iload_n F dX4_approvers_34 rfl ?_
          refine v_callV F 1 [_] rfl rfl rfl (c_X0_holdsFor hWP (by omega) (hX.app hk1)) gX4_approvers_X0_holdsFor rfl hd_X0_holdsFor ⟨⟨rfl, rfl⟩, ⟨(Nat.le_of_ble_eq_true rfl), (Nat.le_of_ble_eq_true rfl)⟩, ⟨(Nat.le_of_ble_eq_true rfl), (Nat.le_of_ble_eq_true rfl)⟩, (Nat.le_of_ble_eq_true rfl)⟩ (hX.app hk1) rfl dX4_approvers_35 (fun v35 M35 q35 => ?_)
          obtain ⟨rfl, e35⟩ := q35
          replace e35 := e35.symm
          subst e35
          refine v_if_eq_b F 51 dX4_approvers_38 (by decide) (fun c38 => ?_) (fun c38 => ?_)
          · have hcn : ¬ (P i 2 ≠ 0 ∧ P i 1 = p) := of_decide_eq_false c38
            have hgo := ih (by omega) c (some (.ref (A 4 i))) (by unfold msk; rw [fl_s, if_neg (fun h => hcn h.2)]; exact hc)
            refine v_iinc1 F dX4_approvers_51 rfl (ok2_d rfl) ?_
            refine v_goto F 10 dX4_approvers_54 (by decide) ?_
            exact hgo
          · have hcn : P i 2 ≠ 0 ∧ P i 1 = p := of_decide_eq_true c38
            have hgo := ih (by omega) (c ||| 2 ^ P i 0) (some (.ref (A 4 i))) (by unfold msk; rw [fl_s, if_pos ⟨hk1, hcn⟩, hc]; rfl)
            refine v_iload_n F dX4_approvers_41 rfl ?_
            refine v_iconst (v := nI 1) F dX4_approvers_42 (by decide) ?_
            refine v_aload F dX4_approvers_43 rfl rfl ?_
            refine v_get F 0 0 fo_X4_approvers_188 dX4_approvers_45 (hX.app hk1) rfl ?_
            refine v_ishl_n F dX4_approvers_48 (by first | omega | (have := hP6 i; omega)) ?_
            refine v_ior_n F dX4_approvers_49 ?_
            refine v_istore_n F dX4_approvers_50 (Nat.le_of_ble_eq_true rfl) (ok2_d rfl) ?_
            refine v_iinc1 F dX4_approvers_51 rfl (ok2_d rfl) ?_
            refine v_goto F 10 dX4_approvers_54 (by decide) ?_
            exact hgo
      · refine v_aload_n F dX4_approvers_19 rfl rfl ?_
        refine v_get F 4 5 fo_X4_approvers_39 dX4_approvers_20 hX.x rfl ?_
        refine v_iload_n F dX4_approvers_23 rfl ?_
        refine v_aald_n F 5 dX4_approvers_24 hX.giv rfl (by first | omega | (have := hP6 i; omega)) (by decide) (fun h24 => ?_) (fun a24 h24 => ?_)
        · have hgo := ih (by omega) c (some .null) (by unfold msk; rw [fl_s, if_neg (by omega)]; exact hc)
          refine v_astore F dX4_approvers_25 rfl (Nat.le_of_ble_eq_true rfl) (ok2_d rfl) ?_
          refine v_aload F dX4_approvers_27 rfl rfl ?_
          refine v_ifnull_n F 51 dX4_approvers_29 (by decide) ?_
          refine v_iinc1 F dX4_approvers_51 rfl (ok2_d rfl) ?_
          refine v_goto F 10 dX4_approvers_54 (by decide) ?_
          exact hgo
        · exact absurd h24 (by rw [qa_out (by omega)]; exact fun h => nomatch h)
  exact lp 0 (Nat.zero_le _) 0 _ rfl
set_option maxHeartbeats 4000000 in
set_option maxRecDepth 100000 in
theorem c_approvers_x {l : Launch} {ω : Om} {M : MM} (hl9 : l.stackTraces = false) {A B P : FF} {n k : Nat} {R : Nat → (Nat → Int32) × Nat} {Z : Nat → Prop} (hC : CI ω A B P n k R Z M) {y : Int32} (hy : y < 0 ∨ nI 5 ≤ y) : CtX l ω yX4_approvers wsX4_approvers rmX4_approvers [.ref (A 0 0), .int y] M (fun v M9 => False) (fun E => E = "java/lang/IndexOutOfBoundsException") 1 6 := by
  refine CtX.ofV (cc := cX4_approvers) (maxL := 5) (ret := (some .int)) [some (.ref (A 0 0)), some (.int y), none, none, none] (by decide) rfl (Nat.le_of_ble_eq_true rfl) rfl (Lc.av (av := [.ref (A 0 0), .int y]) (k := 3) rfl) ?_
  intro σ F hl hr hnx
  have hl : σ.2.1.stackTraces = false := by rw [hl]; exact hl9
  have F : Fx ω σ cX4_approvers 5 wsX4_approvers RX4 rmX4_approvers := F
  obtain ⟨hX, hB, hA, hA4, hk, hWP, hZ, hR, hO⟩ := id hC
  have hn : n ≤ 24 := hB.1
  have hW : ∀ i j, B i j < 128 := hB.2.1
  refine v_aload_n F dX4_approvers_0 rfl rfl ?_
  refine v_iload_n F dX4_approvers_1 rfl ?_
  refine v_callVX F 1 [_] rfl rfl rfl (c_readingOf_out hl hX hB hy) gX4_approvers_X4_readingOf rfl hd_X4_readingOf ⟨⟨rfl, rfl⟩, ⟨(Nat.le_of_ble_eq_true rfl), (Nat.le_of_ble_eq_true rfl)⟩, ⟨(Nat.le_of_ble_eq_true rfl), (Nat.le_of_ble_eq_true rfl)⟩, (Nat.le_of_ble_eq_true rfl)⟩ hX.x rfl dX4_approvers_2 (fun E h => h) hnx (Nat.le_of_ble_eq_true rfl) (Nat.le_of_ble_eq_true rfl) (fun v2 M2 q2 => ?_)
  exact q2.elim
def rmX4_breaks : Room := { frames := 72, cells := 3, slots := 18, locals := 1646 }
theorem hd_X4_breaks : yX4_breaks.cls = (RX4, TX4, 7).1 ∧ yX4_breaks.cls ≠ "java/lang/invoke/MethodHandle" ∧ yX4_breaks.cls ≠ "java/lang/invoke/VarHandle" ∧ (parseMethodDescriptor yX4_breaks.desc).map (fun d => d.parameters.length) = some 3 := by decide +kernel
theorem fo_X4_breaks_26 : FO wsX4_breaks RX4 26 4 3 := ⟨_, _, _, rfl, by decide, by decide +kernel, by decide +kernel⟩
theorem fo_X4_breaks_77 : FO wsX4_breaks RX4 77 1 5 := ⟨_, _, _, rfl, by decide, by decide +kernel, by decide +kernel⟩
theorem fo_X4_breaks_80 : FO wsX4_breaks RX4 80 1 6 := ⟨_, _, _, rfl, by decide, by decide +kernel, by decide +kernel⟩
theorem fo_X4_breaks_83 : FO wsX4_breaks RX4 83 1 3 := ⟨_, _, _, rfl, by decide, by decide +kernel, by decide +kernel⟩
theorem fo_X4_breaks_86 : FO wsX4_breaks RX4 86 1 4 := ⟨_, _, _, rfl, by decide, by decide +kernel, by decide +kernel⟩
theorem fo_X4_breaks_89 : FO wsX4_breaks RX4 89 1 1 := ⟨_, _, _, rfl, by decide, by decide +kernel, by decide +kernel⟩
theorem fp_X4_breaks_83 : FP wsX4_breaks RX4 83 1 3 .int := ⟨_, _, _, tyX1, rfl, by decide, by decide +kernel, by decide +kernel, tyX1_ok, nmX1, rfl, by decide +kernel⟩
theorem fp_X4_breaks_86 : FP wsX4_breaks RX4 86 1 4 .int := ⟨_, _, _, tyX1, rfl, by decide, by decide +kernel, by decide +kernel, tyX1_ok, nmX1, rfl, by decide +kernel⟩
set_option maxHeartbeats 4000000 in
set_option maxRecDepth 100000 in
theorem c_breaks_ok {l : Launch} {ω : Om} {M : MM} (hl9 : l.stackTraces = false) {A B P : FF} {n k : Nat} {R : Nat → (Nat → Int32) × Nat} {Z : Nat → Prop} (hC : CI ω A B P n k R Z M) {j x y : Nat} (hj : j < n) (hg : B j 8 = 0) (hp5 : B j 0 < 5) (h1 : 1 ≤ B j 3) (h2 : 1 ≤ B j 4) (h3 : x + B j 3 ≤ 60) (h4 : y + B j 4 ≤ 80) (hB2 : WB (mvB B j x y) n) (hO2 : PF (mvB B j x y) n) : Ct l ω yX4_breaks wsX4_breaks rmX4_breaks [.ref (A 0 0), .int (nI j), .int (nI x), .int (nI y)] M (fun v M9 => ∃ R9 c9, v = some (.int (nI c9)) ∧ CI ω A B P n k R9 Z M9 ∧ Fr Z M M9 ∧ ((ordF (mvB B j x y) n (B j 0) = ordF B n (B j 0) ∧ c9 = 0) ∨ (ordF (mvB B j x y) n (B j 0) ≠ ordF B n (B j 0) ∧ c9 = cnt P (B j 0) k 20))) 3 18 := by
  refine Ct.ofV (cc := cX4_breaks) (maxL := 7) (ret := (some .int)) [some (.ref (A 0 0)), some (.int (nI j)), some (.int (nI x)), some (.int (nI y)), none, none, none] (by decide) rfl (Nat.le_of_ble_eq_true rfl) rfl (Lc.av (av := [.ref (A 0 0), .int (nI j), .int (nI x), .int (nI y)]) (k := 3) rfl) ?_
  intro σ F hl hr hname
  have F : Fx ω σ cX4_breaks 7 wsX4_breaks RX4 rmX4_breaks := F
  obtain ⟨hX, hB, hA, hA4, hk, hWP, hZ, hR, hO⟩ := id hC
  have hn : n ≤ 24 := hB.1
  have hW : ∀ i j, B i j < 128 := hB.2.1
  obtain ⟨⟨ρ2, hρ20, hρ2⟩, -⟩ := id hO2
  refine v_aload_n F dX4_breaks_0 rfl rfl ?_
  refine v_iload_n F dX4_breaks_1 rfl ?_
  refine v_callV F 1 [_] rfl rfl rfl ((c_presentBox_ok (by rw [hl]; exact hl9) hX hB hj hg).noX (fun _ h => h)) gX4_breaks_X4_presentBox rfl hd_X4_presentBox ⟨⟨rfl, rfl⟩, ⟨(Nat.le_of_ble_eq_true rfl), (Nat.le_of_ble_eq_true rfl)⟩, ⟨(Nat.le_of_ble_eq_true rfl), (Nat.le_of_ble_eq_true rfl)⟩, (Nat.le_of_ble_eq_true rfl)⟩ hX.x rfl dX4_breaks_2 (fun v2 M2 q2 => ?_)
  obtain ⟨rfl, e2⟩ := q2
  replace e2 := e2.symm
  subst e2
  refine v_astore F dX4_breaks_5 rfl (Nat.le_of_ble_eq_true rfl) (ok2_d rfl) ?_
  refine v_iload_n F dX4_breaks_7 rfl ?_
  refine v_iload_n F dX4_breaks_8 rfl ?_
  refine v_aload F dX4_breaks_9 rfl rfl ?_
  refine v_get F 1 5 fo_X4_breaks_77 dX4_breaks_11 (hX.box hj) rfl ?_
  refine v_aload F dX4_breaks_14 rfl rfl ?_
  refine v_get F 1 6 fo_X4_breaks_80 dX4_breaks_16 (hX.box hj) rfl ?_
  refine v_callS F 4 [_, _, _, _] rfl rfl rfl ((c_checkWithinPage_ok (by rw [hl]; exact hl9) h1 h2 h3 h4).noX (fun _ h => h)) gX4_breaks_X4_checkWithinPage rfl hd_X4_checkWithinPage ⟨⟨rfl, rfl⟩, ⟨(Nat.le_of_ble_eq_true rfl), (Nat.le_of_ble_eq_true rfl)⟩, ⟨(Nat.le_of_ble_eq_true rfl), (Nat.le_of_ble_eq_true rfl)⟩, (Nat.le_of_ble_eq_true rfl)⟩ dX4_breaks_19 (fun v19 M19 q19 => ?_)
  obtain ⟨rfl, e19⟩ := q19
  replace e19 := e19.symm
  subst e19
  refine v_aload F dX4_breaks_22 rfl rfl ?_
  refine v_get F 1 3 fo_X4_breaks_83 dX4_breaks_24 (hX.box hj) rfl ?_
  refine v_istore F dX4_breaks_27 (Nat.le_of_ble_eq_true rfl) (ok2_d rfl) ?_
  refine v_aload F dX4_breaks_29 rfl rfl ?_
  refine v_get F 1 4 fo_X4_breaks_86 dX4_breaks_31 (hX.box hj) rfl ?_
  refine v_istore F dX4_breaks_34 (Nat.le_of_ble_eq_true rfl) (ok2_d rfl) ?_
  refine v_aload F dX4_breaks_36 rfl rfl ?_
  refine v_iload_n F dX4_breaks_38 rfl ?_
  refine v_put F 1 3 fp_X4_breaks_83 dX4_breaks_39 (hX.box hj) rfl rfl (Nat.le_of_ble_eq_true rfl) ?_
  have e1 : (bxF A B j).set 3 (.int (nI x)) = bxF A (u2 B j 1 x) j := by simp [bxF, u2]
  rw [e1]
  have hX1 := hX.setB (B' := u2 B j 1 x) hn hj (fun q hqj => by simp [bxF, u2, hqj])
  have hF1 := Fr.rf.up (M1 := M) (M := M) (e := .inr (1, bxF A (u2 B j 1 x) j)) (hZ 1 j)
  refine v_aload F dX4_breaks_42 rfl rfl ?_
  refine v_iload_n F dX4_breaks_44 rfl ?_
  refine v_put F 1 4 fp_X4_breaks_86 dX4_breaks_45 (hX1.box hj) rfl rfl (Nat.le_of_ble_eq_true rfl) ?_
  have e2 : (bxF A (u2 B j 1 x) j).set 4 (.int (nI y)) = bxF A (mvB B j x y) j := by simp [bxF, u2, mvB]
  rw [e2]
  have hX2 := hX1.setB (B' := mvB B j x y) hn hj (fun q hqj => by simp [bxF, u2, mvB, hqj])
  refine v_aload_n F dX4_breaks_48 rfl rfl ?_
  refine v_aload F dX4_breaks_49 rfl rfl ?_
  refine v_get F 1 1 fo_X4_breaks_89 dX4_breaks_51 (hX2.box hj) rfl ?_
  refine V.toI (show nI ((mvB B j x y) j 0) = nI (B j 0) by simp [mvB, u2]) ?_
  refine v_aload_n F dX4_breaks_54 rfl rfl ?_
  refine v_get F 4 3 fo_X4_breaks_26 dX4_breaks_55 hX2.x rfl ?_
  refine v_callV F 2 [_, _] rfl rfl rfl (c_rbc hX2 hB2 hA hp5 ρ2 hρ20 hρ2 (hO2.2 _ hp5).1) gX4_breaks_X4_readByCuts rfl hd_X4_readByCuts ⟨⟨rfl, rfl⟩, ⟨(Nat.le_of_ble_eq_true rfl), (Nat.le_of_ble_eq_true rfl)⟩, ⟨(Nat.le_of_ble_eq_true rfl), (Nat.le_of_ble_eq_true rfl)⟩, (Nat.le_of_ble_eq_true rfl)⟩ hX2.x rfl dX4_breaks_58 (fun v58 M58 q58 => ?_)
  obtain ⟨rfl, g58, rfl, hp58⟩ := q58
  have hX3 := hX2.setT hA (p := 5) (ci := 3) (by decide) (by decide) g58 (ordF (mvB B j x y) n (B j 0)).length
  refine v_aload F dX4_breaks_61 rfl rfl ?_
  refine v_iload F dX4_breaks_63 rfl ?_
  refine v_put F 1 3 fp_X4_breaks_83 dX4_breaks_65 (hX3.box hj) rfl rfl (Nat.le_of_ble_eq_true rfl) ?_
  have e3 : (bxF A (mvB B j x y) j).set 3 (.int (nI (B j 1))) = bxF A (u2 B j 2 y) j := by simp [bxF, u2, mvB]
  rw [e3]
  have hX4 := hX3.setB (B' := u2 B j 2 y) hn hj (fun q hqj => by simp [bxF, u2, mvB, hqj])
  refine v_aload F dX4_breaks_68 rfl rfl ?_
  refine v_iload F dX4_breaks_70 rfl ?_
  refine v_put F 1 4 fp_X4_breaks_86 dX4_breaks_72 (hX4.box hj) rfl rfl (Nat.le_of_ble_eq_true rfl) ?_
  have e4 : (bxF A (u2 B j 2 y) j).set 4 (.int (nI (B j 2))) = bxF A B j := by simp [bxF, u2]
  rw [e4]
  have hX5 := hX4.setB (B' := B) hn hj (fun q hqj => by simp [bxF, u2, hqj])
  have hF5 := ((((Fr.rf (Z := Z) (M := M)).up (e := .inr (1, bxF A (u2 B j 1 x) j)) (hZ 1 j)).up (e := .inr (1, bxF A (mvB B j x y) j)) (hZ 1 j)).setR (ω := ω) (ci := 3) (len := (ordF (mvB B j x y) n (B j 0)).length) (g := g58) (hZ 2 5) (hZ 3 5)).up (e := .inr (1, bxF A (u2 B j 2 y) j)) (hZ 1 j) |>.up (e := .inr (1, bxF A B j)) (hZ 1 j)
  generalize mup (mup (setR ω 3 (mup (mup M (A 1 j) (.inr (1, bxF A (u2 B j 1 x) j))) (A 1 j) (.inr (1, bxF A (mvB B j x y) j))) (A 2 5) (A 3 5) g58 (ordF (mvB B j x y) n (B j 0)).length) (A 1 j) (.inr (1, bxF A (u2 B j 2 y) j))) (A 1 j) (.inr (1, bxF A B j)) = M5 at hX5 hF5 ⊢
  have hr5 : M5 (A 2 5) = some (rdE 3 (A 3 5) (ordF (mvB B j x y) n (B j 0)).length) := by have := hX5.rd (p := 5) (by decide); rwa [upR_s] at this
  have hr5n : M5 (A 3 5) = some (rowE ω g58) := by have := hX5.row (p := 5) (by decide); rwa [upR_s] at this
  have hrp : M5 (A 2 (B j 0)) = some (rdE 3 (A 3 (B j 0)) (ordF B n (B j 0)).length) := by have := hX5.rd (p := B j 0) (by omega); rwa [upR_n (by omega), (hR _ hp5).1] at this
  have hrw : M5 (A 3 (B j 0)) = some (rowE ω (R (B j 0)).1) := by have := hX5.row (p := B j 0) (by omega); rwa [upR_n (by omega)] at this
  refine v_aload_n F dX4_breaks_75 rfl rfl ?_
  refine v_get F 4 3 fo_X4_breaks_26 dX4_breaks_76 hX5.x rfl ?_
  refine v_aload_n F dX4_breaks_79 rfl rfl ?_
  refine v_aload F dX4_breaks_80 rfl rfl ?_
  refine v_get F 1 1 fo_X4_breaks_89 dX4_breaks_82 (hX5.box hj) rfl ?_
  refine v_callV F 1 [_] rfl rfl rfl ((c_readingOf_ok (by rw [hl]; exact hl9) hX5 hB hp5).noX (fun _ h => h)) gX4_breaks_X4_readingOf rfl hd_X4_readingOf ⟨⟨rfl, rfl⟩, ⟨(Nat.le_of_ble_eq_true rfl), (Nat.le_of_ble_eq_true rfl)⟩, ⟨(Nat.le_of_ble_eq_true rfl), (Nat.le_of_ble_eq_true rfl)⟩, (Nat.le_of_ble_eq_true rfl)⟩ hX5.x rfl dX4_breaks_85 (fun v85 M85 q85 => ?_)
  obtain ⟨rfl, e85⟩ := q85
  replace e85 := e85.symm
  subst e85
  refine v_callV F 1 [_] rfl rfl rfl (c_X3_isSameAs (o := fun i => (ordF (mvB B j x y) n (B j 0)).getD i 0) (o2 := fun i => (ordF B n (B j 0)).getD i 0) hr5 hr5n (hO2.2 _ hp5).1 hrp hrw (hO.2 _ hp5).1 hp58 (fun i hi => Nat.lt_of_lt_of_le ((hO2.2 _ hp5).2 _ (getD_mem hi)) (by omega)) (hR _ hp5).2 (fun i hi => Nat.lt_of_lt_of_le ((hO.2 _ hp5).2 _ (getD_mem hi)) (by omega))) gX4_breaks_X3_isSameAs rfl hd_X3_isSameAs ⟨⟨rfl, rfl⟩, ⟨(Nat.le_of_ble_eq_true rfl), (Nat.le_of_ble_eq_true rfl)⟩, ⟨(Nat.le_of_ble_eq_true rfl), (Nat.le_of_ble_eq_true rfl)⟩, (Nat.le_of_ble_eq_true rfl)⟩ hr5 rfl dX4_breaks_88 (fun v88 M88 q88 => ?_)
  obtain ⟨⟨b88, rfl, hb88⟩, e88⟩ := q88
  replace e88 := e88.symm
  subst e88
  rw [listEq] at hb88
  refine v_if_eq_b F 98 dX4_breaks_91 (by decide) (fun c91 => ?_) (fun c91 => ?_)
  · refine v_aload_n F dX4_breaks_98 rfl rfl ?_
    refine v_aload F dX4_breaks_99 rfl rfl ?_
    refine v_get F 1 1 fo_X4_breaks_89 dX4_breaks_101 (hX5.box hj) rfl ?_
    refine v_callV F 1 [_] rfl rfl rfl (c_cntH hX5 hB hA4 hk hWP hp5) gX4_breaks_X4_countHolding rfl hd_X4_countHolding ⟨⟨rfl, rfl⟩, ⟨(Nat.le_of_ble_eq_true rfl), (Nat.le_of_ble_eq_true rfl)⟩, ⟨(Nat.le_of_ble_eq_true rfl), (Nat.le_of_ble_eq_true rfl)⟩, (Nat.le_of_ble_eq_true rfl)⟩ hX5.x rfl dX4_breaks_104 (fun v104 M104 q104 => ?_)
    obtain ⟨rfl, e104⟩ := q104
    replace e104 := e104.symm
    subst e104
    exact v_iret F hr dX4_breaks_107 (Nat.le_of_ble_eq_true rfl) (Nat.le_of_ble_eq_true rfl) (by first | exact ⟨_, 0, rfl, hC.same hX5 (fun q hq => upR_n (by omega)), hF5, Or.inl ⟨hb88.mp c91, rfl⟩⟩ | exact ⟨_, _, rfl, hC.same hX5 (fun q hq => upR_n (by omega)), hF5, Or.inr ⟨fun h => by rw [hb88.mpr h] at c91; exact Bool.noConfusion c91, rfl⟩⟩)
  · refine v_iconst (v := nI 0) F dX4_breaks_94 (by decide) ?_
    refine v_goto F 107 dX4_breaks_95 (by decide) ?_
    exact v_iret F hr dX4_breaks_107 (Nat.le_of_ble_eq_true rfl) (Nat.le_of_ble_eq_true rfl) (by first | exact ⟨_, 0, rfl, hC.same hX5 (fun q hq => upR_n (by omega)), hF5, Or.inl ⟨hb88.mp c91, rfl⟩⟩ | exact ⟨_, _, rfl, hC.same hX5 (fun q hq => upR_n (by omega)), hF5, Or.inr ⟨fun h => by rw [hb88.mpr h] at c91; exact Bool.noConfusion c91, rfl⟩⟩)
set_option maxHeartbeats 4000000 in
set_option maxRecDepth 100000 in
theorem c_breaks_gone {l : Launch} {ω : Om} {M : MM} (hl9 : l.stackTraces = false) {A B P : FF} {n k : Nat} {R : Nat → (Nat → Int32) × Nat} {Z : Nat → Prop} (hC : CI ω A B P n k R Z M) {j : Nat} (hj : j < n) (hg : B j 8 ≠ 0) {x y : Int32} : CtX l ω yX4_breaks wsX4_breaks rmX4_breaks [.ref (A 0 0), .int (nI j), .int x, .int y] M (fun v M9 => False) (fun E => E = "java/lang/IndexOutOfBoundsException") 3 18 := by
  refine CtX.ofV (cc := cX4_breaks) (maxL := 7) (ret := (some .int)) [some (.ref (A 0 0)), some (.int (nI j)), some (.int x), some (.int y), none, none, none] (by decide) rfl (Nat.le_of_ble_eq_true rfl) rfl (Lc.av (av := [.ref (A 0 0), .int (nI j), .int x, .int y]) (k := 3) rfl) ?_
  intro σ F hl hr hnx
  have hl : σ.2.1.stackTraces = false := by rw [hl]; exact hl9
  have F : Fx ω σ cX4_breaks 7 wsX4_breaks RX4 rmX4_breaks := F
  obtain ⟨hX, hB, hA, hA4, hk, hWP, hZ, hR, hO⟩ := id hC
  have hn : n ≤ 24 := hB.1
  have hW : ∀ i j, B i j < 128 := hB.2.1
  refine v_aload_n F dX4_breaks_0 rfl rfl ?_
  refine v_iload_n F dX4_breaks_1 rfl ?_
  refine v_callVX F 1 [_] rfl rfl rfl (c_presentBox_gone hl hX hB hj hg) gX4_breaks_X4_presentBox rfl hd_X4_presentBox ⟨⟨rfl, rfl⟩, ⟨(Nat.le_of_ble_eq_true rfl), (Nat.le_of_ble_eq_true rfl)⟩, ⟨(Nat.le_of_ble_eq_true rfl), (Nat.le_of_ble_eq_true rfl)⟩, (Nat.le_of_ble_eq_true rfl)⟩ hX.x rfl dX4_breaks_2 (fun E h => h) hnx (Nat.le_of_ble_eq_true rfl) (Nat.le_of_ble_eq_true rfl) (fun v2 M2 q2 => ?_)
  exact q2.elim
set_option maxHeartbeats 4000000 in
set_option maxRecDepth 100000 in
theorem c_breaks_out {l : Launch} {ω : Om} {M : MM} (hl9 : l.stackTraces = false) {A B P : FF} {n k : Nat} {R : Nat → (Nat → Int32) × Nat} {Z : Nat → Prop} (hC : CI ω A B P n k R Z M) {j : Int32} (hj : j < 0 ∨ nI n ≤ j) {x y : Int32} : CtX l ω yX4_breaks wsX4_breaks rmX4_breaks [.ref (A 0 0), .int j, .int x, .int y] M (fun v M9 => False) (fun E => E = "java/lang/IndexOutOfBoundsException") 3 18 := by
  refine CtX.ofV (cc := cX4_breaks) (maxL := 7) (ret := (some .int)) [some (.ref (A 0 0)), some (.int j), some (.int x), some (.int y), none, none, none] (by decide) rfl (Nat.le_of_ble_eq_true rfl) rfl (Lc.av (av := [.ref (A 0 0), .int j, .int x, .int y]) (k := 3) rfl) ?_
  intro σ F hl hr hnx
  have hl : σ.2.1.stackTraces = false := by rw [hl]; exact hl9
  have F : Fx ω σ cX4_breaks 7 wsX4_breaks RX4 rmX4_breaks := F
  obtain ⟨hX, hB, hA, hA4, hk, hWP, hZ, hR, hO⟩ := id hC
  have hn : n ≤ 24 := hB.1
  have hW : ∀ i j, B i j < 128 := hB.2.1
  refine v_aload_n F dX4_breaks_0 rfl rfl ?_
  refine v_iload_n F dX4_breaks_1 rfl ?_
  refine v_callVX F 1 [_] rfl rfl rfl (c_presentBox_out hl hX hB hj) gX4_breaks_X4_presentBox rfl hd_X4_presentBox ⟨⟨rfl, rfl⟩, ⟨(Nat.le_of_ble_eq_true rfl), (Nat.le_of_ble_eq_true rfl)⟩, ⟨(Nat.le_of_ble_eq_true rfl), (Nat.le_of_ble_eq_true rfl)⟩, (Nat.le_of_ble_eq_true rfl)⟩ hX.x rfl dX4_breaks_2 (fun E h => h) hnx (Nat.le_of_ble_eq_true rfl) (Nat.le_of_ble_eq_true rfl) (fun v2 M2 q2 => ?_)
  exact q2.elim
set_option maxHeartbeats 4000000 in
set_option maxRecDepth 100000 in
theorem c_breaks_bad {l : Launch} {ω : Om} {M : MM} (hl9 : l.stackTraces = false) {A B P : FF} {n k : Nat} {R : Nat → (Nat → Int32) × Nat} {Z : Nat → Prop} (hC : CI ω A B P n k R Z M) {j : Nat} (hj : j < n) (hg : B j 8 = 0) {x y : Int32} (hb : ¬ inPg x y (nI (B j 3)) (nI (B j 4))) : CtX l ω yX4_breaks wsX4_breaks rmX4_breaks [.ref (A 0 0), .int (nI j), .int x, .int y] M (fun v M9 => False) (fun E => E = "java/lang/IllegalArgumentException") 3 18 := by
  refine CtX.ofV (cc := cX4_breaks) (maxL := 7) (ret := (some .int)) [some (.ref (A 0 0)), some (.int (nI j)), some (.int x), some (.int y), none, none, none] (by decide) rfl (Nat.le_of_ble_eq_true rfl) rfl (Lc.av (av := [.ref (A 0 0), .int (nI j), .int x, .int y]) (k := 3) rfl) ?_
  intro σ F hl hr hnx
  have hl : σ.2.1.stackTraces = false := by rw [hl]; exact hl9
  have F : Fx ω σ cX4_breaks 7 wsX4_breaks RX4 rmX4_breaks := F
  obtain ⟨hX, hB, hA, hA4, hk, hWP, hZ, hR, hO⟩ := id hC
  have hn : n ≤ 24 := hB.1
  have hW : ∀ i j, B i j < 128 := hB.2.1
  refine v_aload_n F dX4_breaks_0 rfl rfl ?_
  refine v_iload_n F dX4_breaks_1 rfl ?_
  refine v_callVX F 1 [_] rfl rfl rfl (c_presentBox_ok hl hX hB hj hg) gX4_breaks_X4_presentBox rfl hd_X4_presentBox ⟨⟨rfl, rfl⟩, ⟨(Nat.le_of_ble_eq_true rfl), (Nat.le_of_ble_eq_true rfl)⟩, ⟨(Nat.le_of_ble_eq_true rfl), (Nat.le_of_ble_eq_true rfl)⟩, (Nat.le_of_ble_eq_true rfl)⟩ hX.x rfl dX4_breaks_2 (fun E h => h.elim) hnx (Nat.le_of_ble_eq_true rfl) (Nat.le_of_ble_eq_true rfl) (fun v2 M2 q2 => ?_)
  obtain ⟨rfl, e2⟩ := q2
  replace e2 := e2.symm
  subst e2
  refine v_astore F dX4_breaks_5 rfl (Nat.le_of_ble_eq_true rfl) (ok2_d rfl) ?_
  refine v_iload_n F dX4_breaks_7 rfl ?_
  refine v_iload_n F dX4_breaks_8 rfl ?_
  refine v_aload F dX4_breaks_9 rfl rfl ?_
  refine v_get F 1 5 fo_X4_breaks_77 dX4_breaks_11 (hX.box hj) rfl ?_
  refine v_aload F dX4_breaks_14 rfl rfl ?_
  refine v_get F 1 6 fo_X4_breaks_80 dX4_breaks_16 (hX.box hj) rfl ?_
  refine v_callSX F 4 [_, _, _, _] rfl rfl rfl (c_checkWithinPage_bad hl hb) gX4_breaks_X4_checkWithinPage rfl hd_X4_checkWithinPage ⟨⟨rfl, rfl⟩, ⟨(Nat.le_of_ble_eq_true rfl), (Nat.le_of_ble_eq_true rfl)⟩, ⟨(Nat.le_of_ble_eq_true rfl), (Nat.le_of_ble_eq_true rfl)⟩, (Nat.le_of_ble_eq_true rfl)⟩ dX4_breaks_19 (fun E h => h) hnx (Nat.le_of_ble_eq_true rfl) (Nat.le_of_ble_eq_true rfl) (fun v19 M19 q19 => ?_)
  exact q19.elim
