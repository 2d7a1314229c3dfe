/-! what a state of the class and of the reference is: n boxes with their numbers B i 0 .. (0 page, 1 left, 2 top, 3 width, 4 height, 5 kind, 6 the one that it follows and 1, or 0, 7 the one that it leads and 1, or 0, 8 whether it is gone), k approvals P i (0 person, 1 page, 2 whether it holds) -/
abbrev FF : Type := Nat → Nat → Nat
def u2 (B : FF) (i j v : Nat) : FF := fun a b => if a = i ∧ b = j then v else B a b
/-- addresses: A 0 j single things, A 1 i the boxes, A 2 p the readings (5 the trial, 6 the pile), A 3 p their rows, A 4 k the approvals -/
def oA (A : FF) (x : Nat) : Option Nat := match x with
  | 0 => none
  | j + 1 => some (A 1 j)
def bxF (A B : FF) (i : Nat) : List Value := [.int (nI i), .int (nI (B i 0)), .int (nI (B i 5)), .int (nI (B i 1)), .int (nI (B i 2)), .int (nI (B i 3)), .int (nI (B i 4)), .int (nI (B i 8)), va_rf (oA A (B i 6)), va_rf (oA A (B i 7))]
def apF (P : FF) (i : Nat) : List Value := [.int (nI (P i 0)), .int (nI (P i 1)), .int (nI (P i 2))]
def qa (n : Nat) (f : Nat → Nat) : Nat → Option Nat := fun i => if i < n then some (f i) else none
theorem qa_in {n i : Nat} {f : Nat → Nat} (h : i < n) : qa n f i = some (f i) := by simp [qa, h]
theorem qa_out {n i : Nat} {f : Nat → Nat} (h : ¬ i < n) : qa n f i = none := by simp [qa, h]
theorem zl1 {b : Bool} (h : b = true) : some (Value.int (nI 1)) = some (.int (bI b)) := by rw [h]; rfl
theorem zl0 {b : Bool} (h : b = false) : some (Value.int (nI 0)) = some (.int (bI b)) := by rw [h]; rfl
theorem il {x y : Nat} (h : x = y) : some (Value.int (nI x)) = some (.int (nI y)) := by rw [h]
theorem pfold_0 {α : Type} : True := trivial
/-- a loop from 0 on: f takes what came out so far and the number -/
def fl {α : Type} (f : α → Nat → α) (a : α) : Nat → α
  | 0 => a
  | n + 1 => f (fl f a n) n
theorem fl_s {α : Type} (f : α → Nat → α) (a : α) (n : Nat) : fl f a (n + 1) = f (fl f a n) n := rfl
/-- a loop by a counter that goes up to e -/
theorem up_to (e : Nat) (T : Nat → Prop) (hx : T e) (hs : ∀ i, i < e → T (i + 1) → T i) : ∀ i, i ≤ e → T i := by
  intro i hi
  obtain ⟨k, hk⟩ : ∃ k, e = i + k := ⟨e - i, by omega⟩
  induction k generalizing i with
  | zero => rw [show i = e by omega]; exact hx
  | succ k ih => exact hs i (by omega) (ih (i + 1) (by omega) (by omega))
theorem hgd_142_146 : ∀ w ∈ Cond.classLink RX4 142 "java/lang/IndexOutOfBoundsException" :: Cond.initialized "java/lang/IndexOutOfBoundsException" :: vx_atS RX4 146 "java/lang/IndexOutOfBoundsException" nmE, vx_ot w = true := by decide +kernel
theorem hgd_50_54 : ∀ w ∈ Cond.classLink RX4 50 "java/lang/IllegalArgumentException" :: Cond.initialized "java/lang/IllegalArgumentException" :: vx_atS RX4 54 "java/lang/IllegalArgumentException" nmE, vx_ot w = true := by decide +kernel
theorem hgd_61_65 : ∀ w ∈ Cond.classLink RX4 61 "java/lang/IllegalStateException" :: Cond.initialized "java/lang/IllegalStateException" :: vx_atS RX4 65 "java/lang/IllegalStateException" nmE, vx_ot w = true := by decide +kernel
theorem hnw_146 : ∀ w ∈ vx_atS RX4 146 "java/lang/IndexOutOfBoundsException" nmE, goodWord w = true ∨ w ∈ nwL := by decide +kernel
theorem hnw_54 : ∀ w ∈ vx_atS RX4 54 "java/lang/IllegalArgumentException" nmE, goodWord w = true ∨ w ∈ nwL := by decide +kernel
theorem hnw_65 : ∀ w ∈ vx_atS RX4 65 "java/lang/IllegalStateException" nmE, goodWord w = true ∨ w ∈ nwL := by decide +kernel
