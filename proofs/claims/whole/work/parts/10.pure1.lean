/-- x is one of 0 .. n - 1 -/
def inR (x : Int32) (n : Nat) : Bool := decide (¬ x < 0) && decide (x < nI n)
theorem inR_neg {x : Int32} {n : Nat} (h : x < 0) : inR x n = false := by simp [inR, h]
theorem inR_nI {j n : Nat} (hj : j < 2 ^ 31) (hn : n < 2 ^ 31) : inR (nI j) n = decide (j < n) := by
  have h1 : ¬ nI j < 0 := nI_pos hj
  simp [inR, h1, nI_ltI hj hn]
theorem inR_of {x : Int32} {n : Nat} (hn : n < 2 ^ 31) (h : inR x n = true) : ∃ j, j < n ∧ x = nI j := by
  simp only [inR, Bool.and_eq_true, decide_eq_true_eq] at h
  obtain ⟨j, hj, rfl⟩ := nI_of h.1
  exact ⟨j, (nI_ltI hj hn).mp h.2, rfl⟩
/-- the bit j of x, as the code asks it -/
def hb (x : Int32) (j : Nat) : Bool := decide ((x >>> (nI j &&& 31)) &&& nI 1 = nI 1)
theorem one_bit (a : Nat) : a &&& 1 = a % 2 := Nat.and_one_is_mod a
theorem hb_nI {a j : Nat} (ha : a < 2 ^ 31) (hj : j < 32) : hb (nI a) j = a.testBit j := by
  unfold hb
  rw [nI_shr a j hj ha, nI_and, one_bit, Nat.testBit_eq_decide_div_mod_eq]
  have hm : a / 2 ^ j % 2 < 2 ^ 31 := by omega
  simp only [nI_eq hm (by decide : 1 < 2 ^ 31)]
/-- 0 or 1 -/
def isYN (x : Int32) : Bool := decide (x = 0 ∨ x = 1)
theorem isYN_of {x : Int32} (h : isYN x = true) : ∃ j, j < 2 ∧ x = nI j := by
  simp only [isYN, decide_eq_true_eq] at h
  rcases h with rfl | rfl
  · exact ⟨0, by decide, rfl⟩
  · exact ⟨1, by decide, rfl⟩
theorem bI_t {b : Bool} (h : b = true) : some (Value.int (nI 1)) = some (.int (nI (bN b))) := by rw [h]; rfl
theorem bI_f {b : Bool} (h : b = false) : some (Value.int (nI 0)) = some (.int (nI (bN b))) := by rw [h]; rfl
theorem nB_nar (b : Bool) : narrow .boolean (.int (nI (bN b))) = .int (nI (bN b)) := by cases b <;> rfl
theorem ms_at {M : Nat → Nat → Nat} {k j v : Nat} : ms M k j v k j = v := by simp [ms, va_up]
theorem ms_ne {M : Nat → Nat → Nat} {k j v i : Nat} (h : i ≠ j) : ms M k j v k i = M k i := by simp [ms, va_up, h]
theorem ms_o {M : Nat → Nat → Nat} {k j v a : Nat} (h : a ≠ k) : ms M k j v a = M a := by simp [ms, va_up, h]
theorem ms_if (M : Nat → Nat → Nat) (k j v a i : Nat) : ms M k j v a i = if a = k ∧ i = j then v else M a i := by
  by_cases ha : a = k
  · subst ha
    by_cases hi : i = j
    · subst hi; simp [ms_at]
    · simp [ms_ne hi, hi]
  · simp [ms_o ha, ha]
theorem hB_ms {M : Nat → Nat → Nat} (h : ∀ k j, M k j < 1024) {a b v : Nat} (hv : v < 1024) : ∀ k j, ms M a b v k j < 1024 := by
  intro k j
  rw [ms_if]
  split
  · exact hv
  · exact h k j
def sumTo (f : Nat → Nat) : Nat → Nat
  | 0 => 0
  | n + 1 => sumTo f n + f n
def foldTo {α : Type} (g : Nat → α → α) (z : α) : Nat → α
  | 0 => z
  | n + 1 => g n (foldTo g z n)
/-- the first of i, i + 1 .. (k of them) with f -/
def findTo (f : Nat → Bool) : Nat → Nat → Option Nat
  | _, 0 => none
  | i, k + 1 => if f i then some i else findTo f (i + 1) k
theorem findTo_none (f : Nat → Bool) : ∀ (k i : Nat), (∀ j, i ≤ j → j < i + k → f j = false) → findTo f i k = none
  | 0, _, _ => rfl
  | k + 1, i, h => by
    unfold findTo
    rw [h i (by omega) (by omega)]
    exact findTo_none f k (i + 1) (fun j h1 h2 => h j (by omega) (by omega))
theorem findTo_some (f : Nat → Bool) : ∀ (k i n : Nat), i ≤ n → n < i + k → (∀ j, i ≤ j → j < n → f j = false) → f n = true → findTo f i k = some n
  | 0, i, n, h1, h2, _, _ => by omega
  | k + 1, i, n, h1, h2, h, hn => by
    unfold findTo
    by_cases e : i = n
    · subst e; rw [hn]; rfl
    · rw [h i (by omega) (by omega)]
      exact findTo_some f k (i + 1) n (by omega) (by omega) (fun j a b => h j (by omega) b) hn
theorem lt_succ_all {P : Nat → Prop} {n : Nat} (h : ∀ j, j < n → P j) (hn : P n) : ∀ j, j < n + 1 → P j := fun j hj => by
  rcases Nat.lt_succ_iff_lt_or_eq.mp hj with q | q
  · exact h j q
  · rw [q]; exact hn
theorem sh1 {n : Nat} (h : n < 32) : 1 * 2 ^ n < 2 ^ 32 := by rw [Nat.one_mul]; exact Nat.pow_lt_pow_right (by decide) h
theorem andlt {a b : Nat} (h : a < 1024) : a &&& b < 2 ^ 31 := Nat.lt_of_le_of_lt Nat.and_le_left (by omega)
/-- the notes' WORTH among the bits x -/
def x_wo (M : Nat → Nat → Nat) (x : Int32) : Nat := sumTo (fun n => if hb x n then M 11 n else 0) (M 9 5)
def x_fn (M : Nat → Nat → Nat) : Nat := foldTo (fun n a => if 0 < M 12 n then a ||| (1 * 2 ^ n) else a) 0 (M 9 5)
def x_tbl (M : Nat → Nat → Nat) (n : Nat) : Nat := foldTo (fun q a => if M 12 n &&& M 15 (12 + q) = 0 then a ||| (1 * 2 ^ q) else a) 0 (M 9 4)
def x_wt (M : Nat → Nat → Nat) (q a : Nat) : Bool := decide (M 15 (12 + q) &&& a = 0)
def x_fits (M : Nat → Nat → Nat) (a : Nat) : Bool := decide (∀ i, i < M 21 4 → bN (x_wt M (M 22 i) a) = M 23 i)
