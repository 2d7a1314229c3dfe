/-! the law's step: both sides stand at one state -/
def Yw (Y : Nat → Nat) : Nat → Prop := fun z => ∃ f, z = Y f
def LJ (ω : Om) (O : Nat) (A : FF) (Y : Nat → Nat) (B P : FF) (n k : Nat) (R : Nat → (Nat → Int32) × Nat) (Z : Nat → Prop) (t : Nat) (M : MM) : Prop :=
  CI ω A B P n k R Z M ∧ MS ω Y B P n k t M ∧ GB B n ∧ GP P k ∧ (∀ f, ¬ Z (Y f)) ∧ ¬ Z O ∧ (∀ f, Y f ≠ O) ∧ (∀ f, isRow f ∨ Y f = Y 0) ∧ ∃ g, M O = some (.inl (ω.2.2 2, 1, .inr (.inl g)))
theorem CI.fr {ω : Om} {A B P : FF} {n k : Nat} {R : Nat → (Nat → Int32) × Nat} {Z : Nat → Prop} {M M' : MM} (h : CI ω A B P n k R Z M) (hf : ∀ z, Z z → M' z = M z) : CI ω A B P n k R Z M' := by
  obtain ⟨⟨x1, x2, x3, x4, x5, x6, x7⟩, h2, h3, h4, h5, h6, hZ, h8⟩ := h
  exact ⟨⟨by rw [hf _ (hZ 0 0)]; exact x1, by rw [hf _ (hZ 0 1)]; exact x2, by rw [hf _ (hZ 0 2)]; exact x3, by rw [hf _ (hZ 0 3)]; exact x4, fun i hi => by rw [hf _ (hZ 1 i)]; exact x5 i hi, fun p hp => ⟨by rw [hf _ (hZ 2 p)]; exact (x6 p hp).1, by rw [hf _ (hZ 3 p)]; exact (x6 p hp).2⟩, fun i hi => by rw [hf _ (hZ 4 i)]; exact x7 i hi⟩, h2, h3, h4, h5, h6, hZ, h8⟩
theorem MS.fr {ω : Om} {Y : Nat → Nat} {B P : FF} {n k t : Nat} {M M' : MM} (h : MS ω Y B P n k t M) (hf : ∀ f, M' (Y f) = M (Y f)) : MS ω Y B P n k t M' := by
  obtain ⟨C, T, ⟨i1, i2, i3⟩, hr⟩ := h
  exact ⟨C, T, ⟨by rw [hf]; exact i1, fun f hf9 => by rw [hf]; exact i2 f hf9, i3⟩, hr⟩
theorem MS.has {ω : Om} {Y : Nat → Nat} {B P : FF} {n k t : Nat} {M : MM} (h : MS ω Y B P n k t M) (hY : ∀ f, isRow f ∨ Y f = Y 0) (f : Nat) : M (Y f) ≠ none := by
  obtain ⟨C, T, ⟨i1, i2, i3⟩, hr⟩ := h
  rcases hY f with h | h
  · rw [i2 f h]; exact fun h => nomatch h
  · rw [h, i1]; exact fun h => nomatch h
theorem MS.obj {ω : Om} {Y : Nat → Nat} {B P : FF} {n k t : Nat} {M : MM} (h : MS ω Y B P n k t M) : ∃ fs, M (Y 0) = some (.inr (5, fs)) := by
  obtain ⟨C, T, ⟨i1, -⟩, -⟩ := h
  exact ⟨_, i1⟩
theorem Ct.imp {l : Launch} {ω : Om} {y : MethodName} {ws : List Cond} {rm : Room} {av : List Value} {M : MM} {PQ PQ' : Option Value → MM → Prop} {mc ms : Nat} (h : Ct l ω y ws rm av M PQ mc ms) (hi : ∀ v M9, PQ v M9 → PQ' v M9) : Ct l ω y ws rm av M PQ' mc ms := by
  intro p e ha hc hk s m args below hf happ hP hK
  obtain ⟨n, o, h1, h2, h3, ⟨⟨v, M', e1, e2, e3⟩, hF⟩, h5⟩ := h p e ha hc hk s m args below hf happ hP hK
  exact ⟨n, o, h1, h2, h3, ⟨⟨v, M', e1, hi _ _ e2, e3⟩, hF⟩, h5⟩
theorem CtN.imp {l : Launch} {ω : Om} {y : MethodName} {ws : List Cond} {rm : Room} {av : List Value} {M : MM} {PQ PQ' : Option Value → MM → Prop} {mc ms : Nat} (h : CtN l ω y ws rm av M PQ mc ms) (hi : ∀ v M9, PQ v M9 → PQ' v M9) : CtN l ω y ws rm av M PQ' mc ms := by
  intro p e ha hc hk s m args below hf happ hP hK
  obtain ⟨n, o, h1, h2, h3, ⟨⟨v, M', e1, e2, e3⟩, hF⟩, h5⟩ := h p e ha hc hk s m args below hf happ hP hK
  exact ⟨n, o, h1, h2, h3, ⟨⟨v, M', e1, hi _ _ e2, e3⟩, hF⟩, h5⟩
/-- what a call of the class leaves, and that the reference goes on with it -/
def OkN (l : Launch) (ω : Om) (A : FF) (Y : Nat → Nat) (B P : FF) (n k t : Nat) (Z : Nat → Prop) (M : MM) (ym : MethodName) (wsm : List Cond) (rmm : Room) (avm : List Value) (v : Option Value) (M8 : MM) : Prop :=
  ∃ (x : Int32) (A' B' P' : FF) (n' k' : Nat) (R' : Nat → (Nat → Int32) × Nat) (Z' : Nat → Prop), v = some (.int x) ∧ A' 0 0 = A 0 0 ∧ CI ω A' B' P' n' k' R' Z' M8 ∧ GB B' n' ∧ GP P' k' ∧ (∀ z, ¬ Z' z → M8 z = M z) ∧ (∀ z, Z' z → Z z ∨ M z = none) ∧
    ∀ M1, MS ω Y B P n k t M1 → Ct l ω ym wsm rmm avm M1 (fun v M9 => v = some (.int x) ∧ MS ω Y B' P' n' k' 0 M9 ∧ Fr (Yw Y) M1 M9) 0 0
def LI (ω : Om) (a y0 O t : Nat) (M : MM) : Prop := ∃ (A : FF) (Y : Nat → Nat) (B P : FF) (n k : Nat) (R : Nat → (Nat → Int32) × Nat) (Z : Nat → Prop), A 0 0 = a ∧ Y 0 = y0 ∧ LJ ω O A Y B P n k R Z t M
/-- a call of both sides: the helper answers how the class ended, the reference notes the same; where it didn't throw, both answers are one -/
def Step (l : Launch) (ω : Om) (a y0 O : Nat) (yh : MethodName) (wsh : List Cond) (rmh : Room) (mc ms : Nat) (ym : MethodName) (wsm : List Cond) (rmm : Room) (vg : Int32 → Int64) (vs : List Value) (M : MM) : Prop :=
  ∃ PQ1 : Option Value → MM → Prop, CtN l ω yh wsh rmh ((.ref a :: vs) ++ [.ref O]) M PQ1 mc ms ∧ ∀ v1 M1, PQ1 v1 M1 → ∃ (kk : Nat) (PQ2 : Option Value → MM → Prop) (fs : List Value), kk < 4 ∧ v1 = some (.int (nI kk)) ∧ M1 y0 = some (.inr (5, fs)) ∧ Ct l ω ym wsm rmm (.ref y0 :: vs) M1 PQ2 0 0 ∧
    ∀ v2 M2, PQ2 v2 M2 → ∃ (x : Int32) (g : Nat → Int64), v2 = some (.int x) ∧ LI ω a y0 O kk M2 ∧ M2 O = some (.inl (ω.2.2 2, 1, .inr (.inl g))) ∧ (kk = 0 → g 0 = vg x)
section
variable {l : Launch} {ω : Om} {O : Nat} {A : FF} {Y : Nat → Nat} {B P : FF} {n k : Nat} {R : Nat → (Nat → Int32) × Nat} {Z : Nat → Prop} {t : Nat} {M : MM} {yh ym : MethodName} {wsh wsm : List Cond} {rmh rmm : Room} {mc ms : Nat} {vg : Int32 → Int64} {vs : List Value}
theorem Step.no {kk : Nat} {x0 : Int32} (hL : LJ ω O A Y B P n k R Z t M) (hk : 0 < kk) (hk4 : kk < 4) (hH : CtN l ω yh wsh rmh ((.ref (A 0 0) :: vs) ++ [.ref O]) M (fun v M9 => v = some (.int (nI kk)) ∧ M9 = M) mc ms)
    (hMo : Ct l ω ym wsm rmm (.ref (Y 0) :: vs) M (fun v M9 => v = some (.int x0) ∧ MS ω Y B P n k kk M9 ∧ Fr (Yw Y) M M9) 0 0) : Step l ω (A 0 0) (Y 0) O yh wsh rmh mc ms ym wsm rmm vg vs M := by
  obtain ⟨hC, hS, hG, hP, hZY, hZO, hYO, hY, g, hO⟩ := hL
  refine ⟨_, hH, fun v1 M1 ⟨e1, e2⟩ => ?_⟩
  subst e2
  obtain ⟨fs, hfs⟩ := hS.obj
  refine ⟨kk, _, fs, hk4, e1, hfs, hMo, fun v2 M2 ⟨e3, hS2, hF2⟩ => ?_⟩
  have hO2 : M2 O = some (.inl (ω.2.2 2, 1, .inr (.inl g))) := (hF2 O (fun ⟨f, hf⟩ => hYO f hf.symm)).trans hO
  exact ⟨x0, g, e3, ⟨A, Y, B, P, n, k, R, Z, rfl, rfl, hC.fr (fun z hz => hF2 z (fun ⟨f, hf⟩ => hZY f (by rw [← hf]; exact hz))), hS2, hG, hP, hZY, hZO, hYO, hY, g, hO2⟩, hO2, fun h => absurd h (by omega)⟩
theorem Step.ok (hL : LJ ω O A Y B P n k R Z t M) (hH : CtN l ω yh wsh rmh ((.ref (A 0 0) :: vs) ++ [.ref O]) M (fun v M9 => ∃ (x : Int32) (M8 : MM) (g8 : Nat → Int64), OkN l ω A Y B P n k t Z M ym wsm rmm (.ref (Y 0) :: vs) (some (.int x)) M8 ∧ v = some (.int (nI 0)) ∧ g8 0 = vg x ∧ M9 = mup M8 O (.inl (ω.2.2 2, 1, .inr (.inl g8)))) mc ms) : Step l ω (A 0 0) (Y 0) O yh wsh rmh mc ms ym wsm rmm vg vs M := by
  obtain ⟨hC, hS, hG, hP, hZY, hZO, hYO, hY, g, hO⟩ := hL
  refine ⟨_, hH, fun v1 M1 ⟨x, M8, g8, hok, e1, hg, e2⟩ => ?_⟩
  obtain ⟨x', A', B', P', n', k', R', Z', ex, hA, hC', hG', hP', hfr, hZ', hmo⟩ := hok
  cases ex
  have hY1 : ∀ f, ¬ Z' (Y f) := fun f h => (hZ' _ h).elim (hZY f) (fun h => hS.has hY f h)
  have hZO' : ¬ Z' O := fun h => (hZ' _ h).elim hZO (fun h => by rw [hO] at h; cases h)
  have hS1 : MS ω Y B P n k t M1 := hS.fr (fun f => by rw [e2, mup_n (hYO f)]; exact hfr _ (hY1 f))
  obtain ⟨fs, hfs⟩ := hS1.obj
  refine ⟨0, _, fs, by decide, e1, hfs, hmo M1 hS1, fun v2 M2 ⟨e3, hS2, hF2⟩ => ?_⟩
  have hO2 : M2 O = some (.inl (ω.2.2 2, 1, .inr (.inl g8))) := (hF2 O (fun ⟨f, hf⟩ => hYO f hf.symm)).trans (by rw [e2, mup_s])
  refine ⟨x, g8, e3, ⟨A', Y, B', P', n', k', R', Z', hA, rfl, hC'.fr (fun z hz => ?_), hS2, hG', hP', hY1, hZO', hYO, hY, g8, hO2⟩, hO2, fun _ => hg⟩
  rw [hF2 z (fun ⟨f, hf⟩ => hY1 f (by rw [← hf]; exact hz)), e2, mup_n (fun h => hZO' (by rw [← h]; exact hz))]
end
theorem i32_lt {a b c : Int32} (h1 : a < b) (h2 : b ≤ c) : a < c := by
  rw [Int32.lt_iff_toInt_lt] at h1 ⊢
  rw [Int32.le_iff_toInt_le] at h2
  omega
theorem i32_lt2 {a b c : Int32} (h1 : a ≤ b) (h2 : b < c) : a < c := by
  rw [Int32.lt_iff_toInt_lt] at h2 ⊢
  rw [Int32.le_iff_toInt_le] at h1
  omega
theorem i32_nlt {a b : Int32} (h1 : a ≤ b) (h2 : b < a) : False := by
  rw [Int32.lt_iff_toInt_lt] at h2
  rw [Int32.le_iff_toInt_le] at h1
  omega
theorem i32_nle {a b : Int32} (h : ¬ a < b) : b ≤ a := by
  rw [Int32.lt_iff_toInt_lt] at h
  rw [Int32.le_iff_toInt_le]
  omega
theorem inPg_nat {x y w h : Int32} (hp : inPg x y w h) : ∃ x' y' w' h' : Nat, x = nI x' ∧ y = nI y' ∧ w = nI w' ∧ h = nI h' ∧ 1 ≤ w' ∧ 1 ≤ h' ∧ x' + w' ≤ 60 ∧ y' + h' ≤ 80 := by
  obtain ⟨p1, p2, p3, p4, p5, p6, p7, p8⟩ := hp
  have ex : ∃ j : Nat, j < 61 ∧ x = nI j := by
    rcases pk_ix x (n := 61) (by decide) with h | h | h
    · exact absurd h p1
    · exact absurd (i32_lt (show nI 60 < nI 61 by decide) h) p5
    · exact h
  have ey : ∃ j : Nat, j < 81 ∧ y = nI j := by
    rcases pk_ix y (n := 81) (by decide) with h | h | h
    · exact absurd h p2
    · exact absurd (i32_lt (show nI 80 < nI 81 by decide) h) p7
    · exact h
  obtain ⟨x', hx, rfl⟩ := ex
  obtain ⟨y', hy, rfl⟩ := ey
  rw [pk_sub (by omega)] at p6 p8
  have ew : ∃ j : Nat, j < 61 ∧ w = nI j := by
    rcases pk_ix w (n := 61) (by decide) with h | h | h
    · exact absurd (i32_lt h (show (0 : Int32) ≤ nI 1 by decide)) p3
    · exact absurd (i32_lt (nI_lt (a := 60 - x') (b := 61) (by omega) (by decide)) h) p6
    · exact h
  have eh : ∃ j : Nat, j < 81 ∧ h = nI j := by
    rcases pk_ix h (n := 81) (by decide) with h9 | h9 | h9
    · exact absurd (i32_lt h9 (show (0 : Int32) ≤ nI 1 by decide)) p4
    · exact (i32_nlt p8 (i32_lt (nI_lt (a := 80 - y') (b := 81) (by omega) (by decide)) h9)).elim
    · exact h9
  obtain ⟨w', hw, rfl⟩ := ew
  obtain ⟨h', hh, rfl⟩ := eh
  refine ⟨x', y', w', h', rfl, rfl, rfl, rfl, ?_, ?_, ?_, ?_⟩
  · rw [nI_ltI (by omega) (by omega)] at p3; omega
  · rw [nI_ltI (by omega) (by omega)] at p4; omega
  · rw [nI_ltI (by omega) (by omega)] at p6; omega
  · rw [nI_leI (by omega) (by omega)] at p8; omega
theorem nI_inj {a b : Nat} (ha : a < 2 ^ 31) (hb : b < 2 ^ 31) (h : nI a = nI b) : a = b := (nI_eq ha hb).mp h
