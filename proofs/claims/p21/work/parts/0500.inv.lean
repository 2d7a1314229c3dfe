/-! pure: what holds of the boxes between calls -/
/-- who follows whom never comes back -/
def RK (B : FF) (n : Nat) : Prop := ∃ ρ : Nat → Nat, ∀ i y, i < n → B i 7 = y + 1 → ρ y < ρ i
def ctL (ρ : Nat → Nat) (x : Nat) : Nat → Nat := fl (fun c z => if ρ z < x then c + 1 else c) 0
theorem ctL_s {ρ : Nat → Nat} {x m : Nat} : ctL ρ x (m + 1) = if ρ m < x then ctL ρ x m + 1 else ctL ρ x m := rfl
theorem ctL_le (ρ : Nat → Nat) (x : Nat) : ∀ m, ctL ρ x m ≤ m := by
  intro m
  induction m with
  | zero => exact Nat.le_refl _
  | succ m ih => rw [ctL_s]; split <;> omega
theorem ctL_own (ρ : Nat → Nat) (i : Nat) : ∀ m, i < m → ctL ρ (ρ i) m < m := by
  intro m
  induction m with
  | zero => intro h; exact absurd h (Nat.not_lt_zero _)
  | succ m ih =>
    intro h
    rw [ctL_s]
    by_cases him : i = m
    · subst him
      rw [if_neg (Nat.lt_irrefl _)]
      have := ctL_le ρ (ρ i) i
      omega
    · have := ih (by omega)
      split <;> omega
theorem ctL_mono {ρ : Nat → Nat} {x x' : Nat} (h : x ≤ x') : ∀ m, ctL ρ x m ≤ ctL ρ x' m := by
  intro m
  induction m with
  | zero => exact Nat.le_refl _
  | succ m ih =>
    rw [ctL_s, ctL_s]
    by_cases h1 : ρ m < x
    · rw [if_pos h1, if_pos (by omega)]; omega
    · rw [if_neg h1]; split <;> omega
theorem ctL_lt {ρ : Nat → Nat} {y i : Nat} (h : ρ y < ρ i) : ∀ m, y < m → ctL ρ (ρ y) m < ctL ρ (ρ i) m := by
  intro m
  induction m with
  | zero => intro h; exact absurd h (Nat.not_lt_zero _)
  | succ m ih =>
    intro hy
    rw [ctL_s, ctL_s]
    have hm := ctL_mono (ρ := ρ) (Nat.le_of_lt h) m
    by_cases hym : y = m
    · subst hym
      rw [if_neg (Nat.lt_irrefl _), if_pos h]; omega
    · have := ih (by omega)
      by_cases h1 : ρ m < ρ y
      · rw [if_pos h1, if_pos (by omega)]; omega
      · rw [if_neg h1]; split <;> omega
theorem RK.bd {B : FF} {n : Nat} (h : RK B n) (hB : WB B n) : ∃ ρ : Nat → Nat, (∀ i, ρ i < 24) ∧ ∀ i y, i < n → B i 7 = y + 1 → ρ y < ρ i := by
  obtain ⟨ρ, hρ⟩ := h
  have hn := hB.1
  refine ⟨fun i => if i < n then ctL ρ (ρ i) n else 0, fun i => ?_, fun i y hi he => ?_⟩
  · show (if i < n then ctL ρ (ρ i) n else 0) < 24
    by_cases hi : i < n
    · rw [if_pos hi]
      have := ctL_own ρ i n hi
      omega
    · rw [if_neg hi]; decide
  · have hy := (hB.2.2.2 i y hi he).1
    show (if y < n then ctL ρ (ρ y) n else 0) < (if i < n then ctL ρ (ρ i) n else 0)
    rw [if_pos hi, if_pos hy]
    exact ctL_lt (hρ i y hi he) n hy
theorem RK.six {B : FF} {n : Nat} (h : RK B n) (hB : WB B n) : ∃ ρ : Nat → Nat, ∀ j y, j < n → B j 6 = y + 1 → ρ y < ρ j := by
  obtain ⟨ρ, h0, hρ⟩ := h.bd hB
  refine ⟨fun i => 24 - ρ i, fun j y hj he => ?_⟩
  obtain ⟨hy, h7⟩ := hB.2.2.1 j y hj he
  have h1 := hρ y j hy h7
  have h2 := h0 y
  show 24 - ρ y < 24 - ρ j
  omega
def GB (B : FF) (n : Nat) : Prop := WB B n ∧ inP B n ∧ PL B n ∧ RK B n ∧ (∀ i, i < n → B i 0 < 5 ∧ B i 5 ≤ 6 ∧ B i 8 ≤ 1) ∧ (∀ i, i < n → B i 8 ≠ 0 → B i 6 = 0 ∧ B i 7 = 0)
theorem GB.n7 {B : FF} {n j y : Nat} (h : GB B n) (hj : j < n) (he : B j 7 = y + 1) : y < n ∧ y ≠ j := by
  obtain ⟨ρ, hρ⟩ := h.2.2.2.1
  refine ⟨(h.1.2.2.2 j y hj he).1, fun e => ?_⟩
  have := hρ j y hj he
  rw [e] at this
  exact Nat.lt_irrefl _ this
theorem GB.n6 {B : FF} {n j y : Nat} (h : GB B n) (hj : j < n) (he : B j 6 = y + 1) : y < n ∧ y ≠ j := by
  obtain ⟨ρ, hρ⟩ := h.2.2.2.1.six h.1
  refine ⟨(h.1.2.2.1 j y hj he).1, fun e => ?_⟩
  have := hρ j y hj he
  rw [e] at this
  exact Nat.lt_irrefl _ this
theorem GB.geo {B B' : FF} {n : Nat} (h : GB B n) (hc : ∀ i b, b = 0 ∨ b = 5 ∨ b = 6 ∨ b = 7 ∨ b = 8 → B' i b = B i b) (hB : WB B' n) (hP : inP B' n) : GB B' n := by
  obtain ⟨h1, h2, h3, ⟨ρ, h4⟩, h5, h6⟩ := h
  have e0 := fun i => hc i 0 (by decide)
  have e5 := fun i => hc i 5 (by decide)
  have e6 := fun i => hc i 6 (by decide)
  have e7 := fun i => hc i 7 (by decide)
  have e8 := fun i => hc i 8 (by decide)
  refine ⟨hB, hP, fun i y hi he => ?_, ⟨ρ, fun i y hi he => h4 i y hi (by rw [← e7]; exact he)⟩, fun i hi => ?_, fun i hi he => ?_⟩
  · rw [e0, e0]; exact h3 i y hi (by rw [← e7]; exact he)
  · rw [e0, e5, e8]; exact h5 i hi
  · rw [e6, e7]; exact h6 i hi (by rw [← e8]; exact he)
theorem GB.mv {B : FF} {n j x y : Nat} (h : GB B n) (hj : j < n) (h3 : x + B j 3 ≤ 60) (h4 : y + B j 4 ≤ 80) : GB (mvB B j x y) n := by
  refine h.geo (fun i b hb => ?_) (h.1.mv (by omega) (by omega)) (h.2.1.mv h3 h4)
  unfold mvB
  rw [u2_ne (by omega), u2_ne (by omega)]
theorem GB.sz {B : FF} {n j x y : Nat} (h : GB B n) (hj : j < n) (h1 : 1 ≤ x) (h2 : 1 ≤ y) (h3 : B j 1 + x ≤ 60) (h4 : B j 2 + y ≤ 80) : GB (szB B j x y) n := by
  refine h.geo (fun i b hb => ?_) (h.1.sz (by omega) (by omega)) (h.2.1.sz h1 h2 h3 h4)
  unfold szB
  rw [u2_ne (by omega), u2_ne (by omega)]
theorem nwB_lt {B : FF} {n p x y w h kd i : Nat} (hi : i < n) : nwB B n p x y w h kd i = B i := by funext b; simp [nwB, show i ≠ n by omega]
theorem GB.new {B : FF} {n p x y w h kd : Nat} (hG : GB B n) (hp : p < 5) (hkd : kd ≤ 6) (h1 : 1 ≤ w) (h2 : 1 ≤ h) (h3 : x + w ≤ 60) (h4 : y + h ≤ 80) (hn : n < 24) : GB (nwB B n p x y w h kd) (n + 1) := by
  obtain ⟨⟨g1, g2, g3, g4⟩, gP, gL, ⟨ρ, gρ⟩, g5, g6⟩ := hG
  have e := fun {i} => @nwB_lt B n p x y w h kd i
  have z6 : nwB B n p x y w h kd n 6 = 0 := by simp [nwB]
  have z7 : nwB B n p x y w h kd n 7 = 0 := by simp [nwB]
  have ih : ∀ {i}, i < n + 1 → i ≠ n → i < n := fun h1 h2 => by omega
  refine ⟨⟨by omega, fun i j => ?_, fun i a hi he => ?_, fun i a hi he => ?_⟩, fun i hi => ?_, fun i a hi he => ?_, ⟨ρ, fun i a hi he => ?_⟩, fun i hi => ?_, fun i hi he => ?_⟩
  · unfold nwB
    by_cases hin : i = n
    · rw [if_pos hin]; (repeat' split) <;> omega
    · rw [if_neg hin]; exact g2 i j
  · by_cases hin : i = n
    · subst hin; rw [z6] at he; cases he
    · have hi2 := ih hi hin
      rw [e hi2] at he
      have := g3 i a hi2 he
      exact ⟨by omega, by rw [e this.1]; exact this.2⟩
  · by_cases hin : i = n
    · subst hin; rw [z7] at he; cases he
    · have hi2 := ih hi hin
      rw [e hi2] at he
      have := g4 i a hi2 he
      exact ⟨by omega, by rw [e this.1]; exact this.2⟩
  · by_cases hin : i = n
    · subst hin; simp [nwB]; omega
    · rw [e (ih hi hin)]; exact gP i (ih hi hin)
  · by_cases hin : i = n
    · subst hin; rw [z7] at he; cases he
    · have hi2 := ih hi hin
      rw [e hi2] at he ⊢
      rw [e (g4 i a hi2 he).1]
      exact gL i a hi2 he
  · by_cases hin : i = n
    · subst hin; rw [z7] at he; cases he
    · have hi2 := ih hi hin
      rw [e hi2] at he
      exact gρ i a hi2 he
  · by_cases hin : i = n
    · subst hin; simp [nwB]; omega
    · rw [e (ih hi hin)]; exact g5 i (ih hi hin)
  · by_cases hin : i = n
    · subst hin; exact ⟨z6, z7⟩
    · rw [e (ih hi hin)] at he ⊢; exact g6 i (ih hi hin) he
/-- a box y that leads j no more -/
def cutT (B : FF) (y j : Nat) : FF := u2 (u2 B y 7 0) j 6 0
theorem cutT_at {B : FF} {y j a b : Nat} : cutT B y j a b = if a = j ∧ b = 6 then 0 else if a = y ∧ b = 7 then 0 else B a b := rfl
theorem GB.cut {B : FF} {n y j : Nat} (hG : GB B n) (hj : j < n) (h6 : B j 6 = y + 1) : GB (cutT B y j) n := by
  obtain ⟨⟨g1, g2, g3, g4⟩, gP, gL, ⟨ρ, gρ⟩, g5, g6⟩ := hG
  obtain ⟨hy, h7⟩ := g3 j y hj h6
  have ec : ∀ a b, b ≠ 6 → b ≠ 7 → cutT B y j a b = B a b := fun a b h1 h2 => by rw [cutT_at, if_neg (fun h => h1 h.2), if_neg (fun h => h2 h.2)]
  have e6 : ∀ a, a ≠ j → cutT B y j a 6 = B a 6 := fun a h => by rw [cutT_at, if_neg (fun h2 => h h2.1), if_neg (fun h2 => by cases h2.2)]
  have e7 : ∀ a, a ≠ y → cutT B y j a 7 = B a 7 := fun a h => by rw [cutT_at, if_neg (fun h2 => by cases h2.2), if_neg (fun h2 => h h2.1)]
  have z6 : cutT B y j j 6 = 0 := by rw [cutT_at, if_pos ⟨rfl, rfl⟩]
  have z7 : cutT B y j y 7 = 0 := by rw [cutT_at, if_neg (fun h2 => by cases h2.2), if_pos ⟨rfl, rfl⟩]
  have n6 : ∀ {a c}, cutT B y j a 6 = c + 1 → a ≠ j ∧ B a 6 = c + 1 := fun {a c} h => by
    by_cases ha : a = j
    · rw [ha, z6] at h; cases h
    · exact ⟨ha, by rw [← e6 a ha]; exact h⟩
  have n7 : ∀ {a c}, cutT B y j a 7 = c + 1 → a ≠ y ∧ B a 7 = c + 1 := fun {a c} h => by
    by_cases ha : a = y
    · rw [ha, z7] at h; cases h
    · exact ⟨ha, by rw [← e7 a ha]; exact h⟩
  refine ⟨⟨g1, fun i b => ?_, fun i a hi he => ?_, fun i a hi he => ?_⟩, fun i hi => ?_, fun i a hi he => ?_, ⟨ρ, fun i a hi he => gρ i a hi (n7 he).2⟩, fun i hi => ?_, fun i hi he => ?_⟩
  · rw [cutT_at]
    split
    · decide
    · split
      · decide
      · exact g2 i b
  · obtain ⟨hij, he2⟩ := n6 he
    obtain ⟨q1, q2⟩ := g3 i a hi he2
    have : a ≠ y := fun h => by rw [h, h7] at q2; omega
    exact ⟨q1, by rw [e7 a this]; exact q2⟩
  · obtain ⟨hiy, he2⟩ := n7 he
    obtain ⟨q1, q2⟩ := g4 i a hi he2
    have : a ≠ j := fun h => by rw [h, h6] at q2; omega
    exact ⟨q1, by rw [e6 a this]; exact q2⟩
  · rw [ec i 1 (by decide) (by decide), ec i 2 (by decide) (by decide), ec i 3 (by decide) (by decide), ec i 4 (by decide) (by decide)]; exact gP i hi
  · rw [ec a 0 (by decide) (by decide), ec i 0 (by decide) (by decide)]; exact gL i a hi (n7 he).2
  · rw [ec i 0 (by decide) (by decide), ec i 5 (by decide) (by decide), ec i 8 (by decide) (by decide)]; exact g5 i hi
  · rw [ec i 8 (by decide) (by decide)] at he
    obtain ⟨q1, q2⟩ := g6 i hi he
    exact ⟨by by_cases h : i = j; rw [h, z6]; rw [e6 i h, q1], by by_cases h : i = y; rw [h, z7]; rw [e7 i h, q2]⟩
theorem ulc_0 {B : FF} {j : Nat} (h : B j 6 = 0) : unl B j = B := by simp [unl, h]
theorem ulc_1 {B : FF} {j y : Nat} (h : B j 6 = y + 1) : unl B j = cutT B y j := by simp [unl, h, cutT]
theorem ufc_0 {B : FF} {j : Nat} (h : B j 7 = 0) : unf B j = B := by simp [unf, h]
theorem ufc_1 {B : FF} {j z : Nat} (h : B j 7 = z + 1) : unf B j = cutT B j z := by
  have : unf B j = u2 (u2 B z 6 0) j 7 0 := by simp [unf, h]
  rw [this]
  funext a b
  rw [cutT_at]
  unfold u2
  by_cases c1 : a = z ∧ b = 6 <;> by_cases c2 : a = j ∧ b = 7 <;> simp [c1, c2]
theorem GB.ul {B : FF} {n j : Nat} (hG : GB B n) (hj : j < n) : GB (unl B j) n := by
  cases h : B j 6 with
  | zero => rw [ulc_0 h]; exact hG
  | succ y => rw [ulc_1 h]; exact hG.cut hj h
theorem GB.uf {B : FF} {n j : Nat} (hG : GB B n) (hj : j < n) : GB (unf B j) n := by
  cases h : B j 7 with
  | zero => rw [ufc_0 h]; exact hG
  | succ z =>
    obtain ⟨h1, h2⟩ := hG.1.2.2.2 j z hj h
    rw [ufc_1 h]
    exact hG.cut h1 h2
theorem ul_6 {B : FF} {j : Nat} : unl B j j 6 = 0 := by
  cases h : B j 6 with
  | zero => rw [ulc_0 h]; exact h
  | succ y => rw [ulc_1 h, cutT_at, if_pos ⟨rfl, rfl⟩]
theorem uf_7 {B : FF} {j : Nat} : unf B j j 7 = 0 := by
  cases h : B j 7 with
  | zero => rw [ufc_0 h]; exact h
  | succ z => rw [ufc_1 h, cutT_at, if_neg (fun h2 => by cases h2.2), if_pos ⟨rfl, rfl⟩]
theorem cutT_z6 {B : FF} {y j a : Nat} (h : B a 6 = 0) : cutT B y j a 6 = 0 := by
  rw [cutT_at]; split; rfl; split; rfl; exact h
theorem uf_6 {B : FF} {j a : Nat} (h : B a 6 = 0) : unf B j a 6 = 0 := by
  cases h7 : B j 7 with
  | zero => rw [ufc_0 h7]; exact h
  | succ z => rw [ufc_1 h7]; exact cutT_z6 h
theorem cutT_c {B : FF} {y j a b : Nat} (h6 : b ≠ 6) (h7 : b ≠ 7) : cutT B y j a b = B a b := by rw [cutT_at, if_neg (fun h => h6 h.2), if_neg (fun h => h7 h.2)]
theorem ul_c {B : FF} {j a b : Nat} (h6 : b ≠ 6) (h7 : b ≠ 7) : unl B j a b = B a b := by
  cases h : B j 6 with
  | zero => rw [ulc_0 h]
  | succ y => rw [ulc_1 h, cutT_c h6 h7]
theorem uf_c {B : FF} {j a b : Nat} (h6 : b ≠ 6) (h7 : b ≠ 7) : unf B j a b = B a b := by
  cases h : B j 7 with
  | zero => rw [ufc_0 h]
  | succ y => rw [ufc_1 h, cutT_c h6 h7]
/-- a box that is gone and has no ties -/
theorem GB.gone {B : FF} {n j : Nat} (hG : GB B n) (h6 : B j 6 = 0) (h7 : B j 7 = 0) : GB (u2 B j 8 1) n := by
  obtain ⟨g1, gP, gL, ⟨ρ, gρ⟩, g5, g6⟩ := hG
  have e : ∀ a b, b ≠ 8 → u2 B j 8 1 a b = B a b := fun a b h => u2_ne h
  refine ⟨g1.up (by decide) (by decide) (by decide), fun i hi => ?_, fun i a hi he => ?_, ⟨ρ, fun i a hi he => gρ i a hi (by rw [← e i 7 (by decide)]; exact he)⟩, fun i hi => ?_, fun i hi he => ?_⟩
  · rw [e i 1 (by decide), e i 2 (by decide), e i 3 (by decide), e i 4 (by decide)]; exact gP i hi
  · rw [e a 0 (by decide), e i 0 (by decide)]; exact gL i a hi (by rw [← e i 7 (by decide)]; exact he)
  · rw [e i 0 (by decide), e i 5 (by decide)]
    refine ⟨(g5 i hi).1, (g5 i hi).2.1, ?_⟩
    unfold u2
    split
    · exact Nat.le_refl _
    · exact (g5 i hi).2.2
  · rw [e i 6 (by decide), e i 7 (by decide)]
    by_cases hij : i = j
    · subst hij; exact ⟨h6, h7⟩
    · refine g6 i hi (fun h => he ?_)
      unfold u2
      rw [if_neg (fun h2 => hij h2.1)]
      exact h
def rmB (B : FF) (j : Nat) : FF := u2 (unf (unl B j) j) j 8 1
theorem GB.rm {B : FF} {n j : Nat} (hG : GB B n) (hj : j < n) : GB (rmB B j) n := ((hG.ul hj).uf hj).gone (uf_6 ul_6) uf_7
/-- a box j that leads t from now on -/
def tieB (B : FF) (j t : Nat) : FF := u2 (u2 B j 7 (t + 1)) t 6 (j + 1)
theorem tieB_at {B : FF} {j t a b : Nat} : tieB B j t a b = if a = t ∧ b = 6 then j + 1 else if a = j ∧ b = 7 then t + 1 else B a b := rfl
theorem GB.ti {B : FF} {n j t : Nat} (hG : GB B n) (hj : j < n) (ht : t < n) (gj : B j 8 = 0) (gt : B t 8 = 0) (hpp : B j 0 = B t 0) (h7 : B j 7 = 0) (h6 : B t 6 = 0) (hup : ∀ q, up B q j ≠ t + 1) : GB (tieB B j t) n := by
  obtain ⟨ρ0, r0, rρ⟩ := hG.2.2.2.1.bd hG.1
  obtain ⟨⟨g1, g2, g3, g4⟩, gP, gL, -, g5, g6⟩ := hG
  have ec : ∀ a b, b ≠ 6 → b ≠ 7 → tieB B j t a b = B a b := fun a b h1 h2 => by rw [tieB_at, if_neg (fun h => h1 h.2), if_neg (fun h => h2 h.2)]
  have e6 : ∀ a, a ≠ t → tieB B j t a 6 = B a 6 := fun a h => by rw [tieB_at, if_neg (fun h2 => h h2.1), if_neg (fun h2 => by cases h2.2)]
  have e7 : ∀ a, a ≠ j → tieB B j t a 7 = B a 7 := fun a h => by rw [tieB_at, if_neg (fun h2 => by cases h2.2), if_neg (fun h2 => h h2.1)]
  have z6 : tieB B j t t 6 = j + 1 := by rw [tieB_at, if_pos ⟨rfl, rfl⟩]
  have z7 : tieB B j t j 7 = t + 1 := by rw [tieB_at, if_neg (fun h2 => by cases h2.2), if_pos ⟨rfl, rfl⟩]
  have t7 : ∀ {a c}, tieB B j t a 7 = c + 1 → (a = j ∧ c = t) ∨ (a ≠ j ∧ B a 7 = c + 1) := fun {a c} h => by
    by_cases ha : a = j
    · rw [ha, z7] at h; exact Or.inl ⟨ha, by omega⟩
    · exact Or.inr ⟨ha, by rw [← e7 a ha]; exact h⟩
  have hd : ∀ x, Decidable (∃ q, up B q j = x + 1) := fun x => Classical.propDecidable _
  refine ⟨⟨g1, fun i b => ?_, fun i a hi he => ?_, fun i a hi he => ?_⟩, fun i hi => ?_, fun i a hi he => ?_, ⟨fun x => ρ0 x + (if ∃ q, up B q j = x + 1 then 24 else 0), fun i a hi he => ?_⟩, fun i hi => ?_, fun i hi he => ?_⟩
  · rw [tieB_at]
    split
    · omega
    · split
      · omega
      · exact g2 i b
  · by_cases hit : i = t
    · subst hit
      rw [z6] at he
      have : a = j := by omega
      subst this
      exact ⟨hj, z7⟩
    · rw [e6 i hit] at he
      obtain ⟨q1, q2⟩ := g3 i a hi he
      have : a ≠ j := fun h => by rw [h, h7] at q2; cases q2
      exact ⟨q1, by rw [e7 a this]; exact q2⟩
  · rcases t7 he with ⟨h1, h2⟩ | ⟨h1, h2⟩
    · subst h1; subst h2
      exact ⟨ht, z6⟩
    · obtain ⟨q1, q2⟩ := g4 i a hi h2
      have : a ≠ t := fun h => by rw [h, h6] at q2; cases q2
      exact ⟨q1, by rw [e6 a this]; exact q2⟩
  · rw [ec i 1 (by decide) (by decide), ec i 2 (by decide) (by decide), ec i 3 (by decide) (by decide), ec i 4 (by decide) (by decide)]; exact gP i hi
  · rw [ec a 0 (by decide) (by decide), ec i 0 (by decide) (by decide)]
    rcases t7 he with ⟨h1, h2⟩ | ⟨h1, h2⟩
    · rw [h1, h2]; exact hpp.symm
    · exact gL i a hi h2
  · show ρ0 a + (if ∃ q, up B q j = a + 1 then 24 else 0) < ρ0 i + (if ∃ q, up B q j = i + 1 then 24 else 0)
    rcases t7 he with ⟨h1, h2⟩ | ⟨h1, h2⟩
    · subst h1; subst h2
      rw [if_neg (fun ⟨q, hq⟩ => hup q hq), if_pos ⟨0, rfl⟩]
      have := r0 a
      omega
    · have hlt := rρ i a hi h2
      by_cases hq : ∃ q, up B q j = a + 1
      · obtain ⟨q, hq⟩ := id hq
        rw [if_pos ⟨q, hq⟩, if_pos ⟨q + 1, by rw [up_s hq]; exact (g4 i a hi h2).2⟩]
        omega
      · rw [if_neg hq]
        omega
  · rw [ec i 0 (by decide) (by decide), ec i 5 (by decide) (by decide), ec i 8 (by decide) (by decide)]; exact g5 i hi
  · rw [ec i 8 (by decide) (by decide)] at he
    have h1 : i ≠ j := fun h => he (by rw [h]; exact gj)
    have h2 : i ≠ t := fun h => he (by rw [h]; exact gt)
    rw [e6 i h2, e7 i h1]
    exact g6 i hi he
