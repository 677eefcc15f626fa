theorem ms_id {M : Nat → Nat → Nat} {k j v : Nat} (h : M k j = v) : ms M k j v = M := by
  funext a b
  rw [ms_if]
  split
  · rename_i q; rw [q.1, q.2, h]
  · rfl
def inI (v a b : Int32) : Bool := decide (a ≤ v) && decide (v ≤ b)
theorem inI_c {x : Int32} {k : Nat} (hk : k < 1024) : inI x (nI 0) (nI k) = inR x (k + 1) := by
  unfold inI inR
  by_cases h : x < 0
  · have h1 : ¬ nI 0 ≤ x := fun q => absurd (show (0 : Int32) ≤ x from q) (Int32.not_le.mpr h)
    simp [h, h1]
  · obtain ⟨j, hj, rfl⟩ := nI_of h
    have h00 : nI 0 ≤ nI j := nI_pos' hj
    rw [decide_eq_true h00, decide_eq_true h, Bool.true_and, Bool.true_and, decide_eq_decide, nI_leI hj (by omega), nI_ltI hj (by omega)]
    omega
theorem inI_m {x : Int32} {n : Nat} (hn : n < 1024) : inI x (nI 0) (nI n - nI 1) = inR x n := by
  unfold inI inR
  by_cases h : x < 0
  · have h1 : ¬ nI 0 ≤ x := fun q => absurd (show (0 : Int32) ≤ x from q) (Int32.not_le.mpr h)
    simp [h, h1]
  · obtain ⟨j, hj, rfl⟩ := nI_of h
    have h00 : nI 0 ≤ nI j := nI_pos' hj
    rw [decide_eq_true h00, decide_eq_true h, Bool.true_and, Bool.true_and, decide_eq_decide, nI_ltI hj (by omega), Int32.le_iff_toInt_le, pk_sub_toInt (by omega) (by decide), nI_toInt hj]
    omega
theorem inI_n {v a b : Nat} (hv : v < 2 ^ 31) (ha : a < 2 ^ 31) (hb : b < 2 ^ 31) : inI (nI v) (nI a) (nI b) = (decide (a ≤ v) && decide (v ≤ b)) := by
  unfold inI
  rw [show decide (nI a ≤ nI v) = decide (a ≤ v) from decide_eq_decide.mpr (nI_leI ha hv), show decide (nI v ≤ nI b) = decide (v ≤ b) from decide_eq_decide.mpr (nI_leI hv hb)]
/-- the text's letter, or -1 -/
def y_la (M : Nat → Nat → Nat) (k : Nat) : Int32 := if k < M 0 3 then nI (M 1 k) else -1
def y_dg (M : Nat → Nat → Nat) (k : Nat) : Bool := decide (k < M 0 3) && (decide (48 ≤ M 1 k) && decide (M 1 k ≤ 57))
theorem y_la_dg {M : Nat → Nat → Nat} {k : Nat} (hB : ∀ k j, M k j < 1024) : inI (y_la M k) (nI 48) (nI 57) = y_dg M k := by
  have := hB 1 k
  unfold y_la y_dg
  split
  · rename_i h; rw [inI_n (by omega) (by decide) (by decide), decide_eq_true h, Bool.true_and]
  · rename_i h; rw [decide_eq_false h, Bool.false_and]; decide
def y_tk (M : Nat → Nat → Nat) (n : Nat) (b : Bool) : Nat := foldTo (fun q a => if b = true ∨ M 5 n &&& M 7 (14 + q) = 0 then a ||| (1 * 2 ^ q) else a ||| 0) 0 (M 2 0)
theorem y_tk_lt' (M : Nat → Nat → Nat) (n : Nat) (b : Bool) : ∀ k, foldTo (fun q a => if b = true ∨ M 5 n &&& M 7 (14 + q) = 0 then a ||| (1 * 2 ^ q) else a ||| 0) 0 k < 2 ^ k := by
  intro k
  induction k with
  | zero => exact (by decide : 0 < 2 ^ 0)
  | succ k ih =>
    simp only [foldTo]
    have h1 : foldTo (fun q a => if b = true ∨ M 5 n &&& M 7 (14 + q) = 0 then a ||| (1 * 2 ^ q) else a ||| 0) 0 k < 2 ^ (k + 1) := Nat.lt_trans ih (Nat.pow_lt_pow_right (by decide) (by omega))
    split
    · exact Nat.or_lt_two_pow h1 (by rw [Nat.one_mul]; exact Nat.pow_lt_pow_right (by decide) (by omega))
    · rw [Nat.or_zero]; exact h1
theorem y_tk_lt {M : Nat → Nat → Nat} {n : Nat} {b : Bool} (hP : M 2 0 ≤ 5) : y_tk M n b < 32 := Nat.lt_of_lt_of_le (y_tk_lt' M n b (M 2 0)) (Nat.pow_le_pow_right (by decide) hP : 2 ^ (M 2 0) ≤ 2 ^ 5)
def y_aw (M : Nat → Nat → Nat) (n : Nat) : Bool := decide (M 7 13 / 2 ^ n % 2 = 1)
def y_pa (M : Nat → Nat → Nat) (n : Nat) : Bool := decide (M 7 12 / 2 ^ n % 2 = 1)
def y_noteN (M : Nat → Nat → Nat) (n k : Nat) : Nat := if k = 0 then M 4 n else if k = 1 then M 5 n else if k = 2 then M 7 n else if k = 3 then M 7 (6 + n) else if k = 4 then M 7 12 / 2 ^ n % 2 else if k = 5 then M 7 13 / 2 ^ n % 2 else y_tk M n (y_pa M n)
def y_note (M : Nat → Nat → Nat) (x y : Int32) : Int32 := if inR x (M 2 1) = true ∧ inR y 7 = true then nI (y_noteN M x.toNatClampNeg y.toNatClampNeg) else -1
def y_purse (M : Nat → Nat → Nat) (q : Nat) : Nat → Nat := sumTo (fun n => if M 7 n = q ∧ y_aw M n = false then M 4 n else 0)
def y_person (M : Nat → Nat → Nat) (x y : Int32) : Int32 := if inR x (M 2 0) = true ∧ inR y 2 = true then (if y.toNatClampNeg = 0 then nI (M 7 (14 + x.toNatClampNeg)) else nI (y_purse M x.toNatClampNeg (M 2 1))) else -1
def y_wal (M : Nat → Nat → Nat) (b : Bool) : Nat → Nat := sumTo (fun n => if y_aw M n = true then 0 else if b = true then (if 0 < M 5 n then M 4 n else 0) else M 4 n)
def y_now (M : Nat → Nat → Nat) (y : Int32) : Int32 := if inR y 6 then nI (if y.toNatClampNeg = 0 then M 7 12 else if y.toNatClampNeg = 1 then M 7 13 else if y.toNatClampNeg = 2 then M 7 19 else if y.toNatClampNeg = 5 then M 0 19 else if y.toNatClampNeg = 4 then y_wal M true (M 2 1) else y_wal M false (M 2 1)) else -1
def y_type (M : Nat → Nat → Nat) (x : Int32) : Int32 × (Nat → Nat → Nat) := if inR x 256 then (if M 0 3 = 150 then (-3, M) else (nI (M 0 3 + 1), ms (ms M 1 (M 0 3) x.toNatClampNeg) 0 3 (M 0 3 + 1))) else (-1, M)
