theorem pw1 {n : Nat} : 1 ≤ 1 * 2 ^ n := by rw [Nat.one_mul]; exact Nat.one_le_two_pow
/-- how many of the bits 0 .. 5 -/
def pc6 (a : Nat) : Nat := sumTo (fun k => a / 2 ^ k % 2) 6
def bc1 (x : Int32) : Int32 := x - ((x.toUInt32 >>> ((nI 1).toUInt32 &&& Int32.toUInt32 31)).toInt32 &&& 1431655765)
def bc2 (x : Int32) : Int32 := (x &&& 858993459) + ((x.toUInt32 >>> ((nI 2).toUInt32 &&& Int32.toUInt32 31)).toInt32 &&& 858993459)
def bc3 (x : Int32) : Int32 := (x + (x.toUInt32 >>> ((nI 4).toUInt32 &&& Int32.toUInt32 31)).toInt32) &&& 252645135
def bc4 (x : Int32) : Int32 := x + (x.toUInt32 >>> ((nI 8).toUInt32 &&& Int32.toUInt32 31)).toInt32
def bc5 (x : Int32) : Int32 := x + (x.toUInt32 >>> ((nI 16).toUInt32 &&& Int32.toUInt32 31)).toInt32
theorem bc_ok : ∀ a, a < 64 → bc5 (bc4 (bc3 (bc2 (bc1 (nI a))))) &&& nI 63 = nI (pc6 a) := by decide +kernel
theorem pc6_le : ∀ a, a < 64 → pc6 a ≤ 6 := by decide +kernel
def x_tk (M : Nat → Nat → Nat) (n : Nat) : Nat := if hb (nI (M 15 17)) n then (1 * 2 ^ (M 9 4)) - 1 else x_tbl M n
def x_hpb (M : Nat → Nat → Nat) (n b : Nat) : Bool := hb (nI (M 15 17)) n || (decide (0 < M 12 n) && decide (M 9 6 ≤ M 15 (6 + n) + b))
def x_ch (M : Nat → Nat → Nat) (n b : Nat) : Int32 := if x_hpb M n b then nI (M 9 4) - nI 1 else nI (pc6 (x_tbl M n)) - nI (bN (decide (0 < b) || hb (nI (x_tbl M n)) (M 15 n)))
def x_cgo (M : Nat → Nat → Nat) (n k : Nat) : Bool := decide (∀ b, b < k → ¬ x_ch M n b = 0)
def x_most (M : Nat → Nat → Nat) (n : Nat) : Int32 := match findTo (fun b => decide (x_ch M n b = 0)) 0 10 with
  | some b => nI b
  | none => -5
def x_wtk (M : Nat → Nat → Nat) (n k : Nat) : Int32 := foldTo (fun b a => a * x_ch M n b) (nI 1) k
def x_all (M : Nat → Nat → Nat) (k : Nat) : Int32 := foldTo (fun _ a => a * (nI (M 9 4) - nI 1)) (nI 1) k
def x_low (M : Nat → Nat → Nat) (a h : Nat) : Nat := match findTo (fun q => decide (q ≠ h) && hb (nI a) q) 0 (M 9 4) with
  | some q => q
  | none => h
def x_row (M : Nat → Nat → Nat) (n k : Nat) : Nat := foldTo (fun _ h => x_low M (x_tbl M n) h) (M 15 n) (k + 1)
theorem x_tbl_lt' (M : Nat → Nat → Nat) (n : Nat) : ∀ k, foldTo (fun q a => if M 12 n &&& M 15 (12 + q) = 0 then a ||| (1 * 2 ^ q) else a) 0 k < 2 ^ k := by
  intro k
  induction k with
  | zero => exact (by decide : 0 < 2 ^ 0)
  | succ k ih =>
    simp only [foldTo]
    have h1 : foldTo (fun q a => if M 12 n &&& M 15 (12 + q) = 0 then a ||| (1 * 2 ^ q) else a) 0 k < 2 ^ (k + 1) := Nat.lt_trans ih (Nat.pow_lt_pow_right (by decide) (by omega))
    split
    · exact Nat.or_lt_two_pow h1 (by rw [Nat.one_mul]; exact Nat.pow_lt_pow_right (by decide) (by omega))
    · exact h1
theorem x_tbl_lt {M : Nat → Nat → Nat} {n : Nat} (hP : M 9 4 ≤ 5) : x_tbl M n < 32 := Nat.lt_of_lt_of_le (x_tbl_lt' M n (M 9 4)) (Nat.pow_le_pow_right (by decide) hP : 2 ^ (M 9 4) ≤ 2 ^ 5)
/-- a text's letter is a digit -/
def x_dg (M : Nat → Nat → Nat) (a : Int32) : Bool := inR a (M 1 1) && (decide (48 ≤ M 2 a.toNatClampNeg) && decide (M 2 a.toNatClampNeg ≤ 57))
theorem x_dg_neg {M : Nat → Nat → Nat} {a : Int32} (h : a < 0) : x_dg M a = false := by simp [x_dg, inR_neg h]
theorem x_dg_nI {M : Nat → Nat → Nat} {j : Nat} (hj : j < 2 ^ 31) (hL : M 1 1 < 2 ^ 31) : x_dg M (nI j) = (decide (j < M 1 1) && (decide (48 ≤ M 2 j) && decide (M 2 j ≤ 57))) := by
  unfold x_dg; rw [inR_nI hj hL, nI_clamp hj]
/-- the row of NOW as a country begins -/
def x_bg (M : Nat → Nat → Nat) : Nat → Nat → Nat := va_up M 15 (fun j => if j < 6 then M 13 j else if j < 12 then 0 else if j < 17 then M 10 (j - 12) else if j < 20 then 0 else M 15 j)
theorem nI_min {a b : Nat} (ha : a < 2 ^ 31) (hb : b < 2 ^ 31) : (if nI b < nI a then nI b else nI a) = nI (min a b) := by
  by_cases h : b < a
  · rw [if_pos ((nI_ltI hb ha).mpr h), Nat.min_eq_right (by omega)]
  · rw [if_neg (fun q => h ((nI_ltI hb ha).mp q)), Nat.min_eq_left (by omega)]
theorem nI_max {a b : Nat} (ha : a < 2 ^ 31) (hb : b < 2 ^ 31) : (if nI a < nI b then nI b else nI a) = nI (max a b) := by
  by_cases h : a < b
  · rw [if_pos ((nI_ltI ha hb).mpr h), Nat.max_eq_right (by omega)]
  · rw [if_neg (fun q => h ((nI_ltI ha hb).mp q)), Nat.max_eq_left (by omega)]
/-- the country as the draft has it -/
def x_cp (M : Nat → Nat → Nat) : Nat → Nat → Nat := (ms (ms (ms (ms (va_up (va_up (va_up (va_up M 10 (va_cpy (M 5) (M 10) 0 0 5)) 11 (va_cpy (M 6) (M 11) 0 0 6)) 12 (va_cpy (M 7) (M 12) 0 0 6)) 13 (va_cpy (M 8) (M 13) 0 0 6)) 9 (4) (M 4 4)) 9 (5) (M 4 5)) 9 (6) (M 4 6)) 9 (7) (M 4 7))
def x_bgn (M : Nat → Nat → Nat) (n : Nat) : Nat → Nat → Nat := va_up M 15 (fun j => if j < 6 then M 13 j else if j < 6 + n then 0 else if 12 ≤ j ∧ j < 17 then M 10 (j - 12) else M 15 j)
theorem x_bgn_0 (M : Nat → Nat → Nat) : va_up (va_up M 15 (va_cpy (M 13) (M 15) 0 0 6)) 15 (va_cpy (M 10) (va_cpy (M 13) (M 15) 0 0 6) 0 12 5) = x_bgn M 0 := by
  funext a j
  by_cases ha : a = 15
  · subst ha
    simp only [x_bgn, va_up_self, va_cpy]
    (repeat' split) <;> first | rfl | (exfalso; omega) | (congr 1; omega)
  · simp only [x_bgn, va_up_ne _ _ ha]
theorem x_bgn_s (M : Nat → Nat → Nat) (n : Nat) (hn : n < 6) : ms (x_bgn M n) 15 (6 + n) 0 = x_bgn M (n + 1) := by
  funext a j
  rw [ms_if]
  by_cases ha : a = 15
  · subst ha
    simp only [x_bgn, va_up_self, true_and]
    (repeat' split) <;> first | rfl | (exfalso; omega) | (congr 1; omega)
  · rw [if_neg (fun q => ha q.1)]
    simp only [x_bgn, va_up_ne _ _ ha]
theorem x_bg_end (M : Nat → Nat → Nat) : ms (ms (ms (x_bgn M 6) 15 17 0) 15 18 0) 15 19 0 = x_bg M := by
  funext a j
  rw [ms_if, ms_if, ms_if]
  by_cases ha : a = 15
  · subst ha
    simp only [x_bgn, x_bg, va_up_self, true_and]
    (repeat' split) <;> first | rfl | (exfalso; omega) | (congr 1; omega)
  · rw [if_neg (fun q => ha q.1), if_neg (fun q => ha q.1), if_neg (fun q => ha q.1)]
    simp only [x_bgn, x_bg, va_up_ne _ _ ha]
def x_push (M : Nat → Nat → Nat) : Nat → Nat → Nat := (ms (ms (va_up M 17 (va_cpy (M 15) (M 17) 0 (M 16 1 * 20) 20)) 16 (1) ((M 16 1 + 1) % 10)) 16 (2) (min 10 (M 16 2 + 1)))
def x_pop (M : Nat → Nat → Nat) : Nat → Nat → Nat := (va_up (ms (ms M 16 (1) ((M 16 1 + 10 - 1) % 10)) 16 (2) (M 16 2 - 1)) 15 (va_cpy (M 17) (M 15) ((M 16 1 + 10 - 1) % 10 * 20) 0 20))
def x_keep (M : Nat → Nat → Nat) (i : Nat) : Nat → Nat → Nat := (ms (va_up M 19 (va_cpy (M 15) (M 19) 0 (i * 20) 20)) 18 (1) (M 18 1 ||| (1 * 2 ^ i)))
def x_back (M : Nat → Nat → Nat) (i : Nat) : Nat → Nat → Nat := (va_up M 15 (va_cpy (M 19) (M 15) (i * 20) 0 20))
theorem x_low_lt {M : Nat → Nat → Nat} {a h : Nat} (hh : h < 1024) (hP : M 9 4 ≤ 5) : x_low M a h < 1024 := by
  unfold x_low
  have key : ∀ k i z, findTo (fun q => decide (q ≠ h) && hb (nI a) q) i k = some z → z < i + k := by
    intro k
    induction k with
    | zero => intro i z q; cases q
    | succ k ih =>
      intro i z q
      unfold findTo at q
      split at q
      · cases q; omega
      · have := ih _ _ q; omega
  split
  · rename_i q hq; have := key _ _ _ hq; omega
  · exact hh
