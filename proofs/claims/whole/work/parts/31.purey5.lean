theorem ms_ms {M : Nat → Nat → Nat} {k j v u : Nat} : ms (ms M k j v) k j u = ms M k j u := by
  funext a b
  rw [ms_if, ms_if, ms_if]
  split <;> rfl
theorem y_la_in {M : Nat → Nat → Nat} {k : Nat} (h : k < M 0 3) : y_la M k = nI (M 1 k) := if_pos h
theorem y_la_out {M : Nat → Nat → Nat} {k : Nat} (h : ¬ k < M 0 3) : y_la M k = -1 := if_neg h
theorem y_la_ge {M : Nat → Nat → Nat} {k : Nat} (hB : ∀ k j, M k j < 1024) : (0 : Int32) ≤ y_la M k ↔ k < M 0 3 := by
  have := hB 1 k
  by_cases h : k < M 0 3
  · rw [y_la_in h]; exact ⟨fun _ => h, fun _ => nI_pos' (by omega)⟩
  · rw [y_la_out h]; exact ⟨fun q => absurd q (by decide), fun q => absurd q h⟩
theorem y_la_32 {M : Nat → Nat → Nat} {k : Nat} (hB : ∀ k j, M k j < 1024) : y_la M k = nI 32 ↔ (k < M 0 3 ∧ M 1 k = 32) := by
  have := hB 1 k
  by_cases h : k < M 0 3
  · rw [y_la_in h, nI_eq (by omega) (by decide)]; exact ⟨fun q => ⟨h, q⟩, fun q => q.2⟩
  · rw [y_la_out h]; exact ⟨fun q => absurd q (by decide), fun q => absurd q.1 h⟩
def y_skip (M : Nat → Nat → Nat) : Nat → Nat → Nat
  | 0, i => i
  | k + 1, i => if M 1 i = 32 then y_skip M k (i + 1) else i
def y_num (M : Nat → Nat → Nat) : Nat → Nat → Nat → Nat × Nat
  | 0, j, v => (j, v)
  | k + 1, j, v => if y_dg M j = true then y_num M k (j + 1) (if 99 < v then v else 10 * v + M 1 j - 48) else (j, v)
def y_i0 (M : Nat → Nat → Nat) : Nat := y_skip M (M 0 3 - M 0 4) (M 0 4)
def y_jv (M : Nat → Nat → Nat) : Nat × Nat := y_num M (M 0 3 - y_i0 M) (y_i0 M) 0
def y_tl (c : Nat) : Nat := if c = 59 then 3 else if c = 112 ∨ c = 110 ∨ c = 98 ∨ c = 115 then 1 else 4
def y_a0 (M : Nat → Nat → Nat) : Nat → Nat :=
  if y_i0 M < M 0 3 then
    (if y_dg M (y_i0 M) = true then va_up (va_up (va_up (va_up (M 0) 6 (y_i0 M)) 7 (y_jv M).2) 4 (y_jv M).1) 5 (if 99 < (y_jv M).2 ∨ (M 1 (y_i0 M) = 48 ∧ 1 < (y_jv M).1 - y_i0 M) then 4 else 2)
     else va_up (va_up (va_up (va_up (M 0) 6 (y_i0 M)) 7 (M 1 (y_i0 M))) 4 (y_i0 M + 1)) 5 (y_tl (M 1 (y_i0 M))))
  else va_up (va_up (va_up (M 0) 4 (y_i0 M)) 6 (y_i0 M)) 5 0
def y_adv (M : Nat → Nat → Nat) : Nat → Nat → Nat := va_up M 0 (y_a0 M)
def y_K (M : Nat → Nat → Nat) (z j v : Nat) : Nat → Nat → Nat := ms (ms (ms M 0 6 z) 0 7 v) 0 4 j
/-- chains of writes into row 0 -/
theorem row0_eq {M : Nat → Nat → Nat} {N : Nat → Nat → Nat} {f : Nat → Nat} (h : ∀ a, a ≠ 0 → N a = M a) (h0 : N 0 = f) : N = va_up M 0 f := by
  funext a
  by_cases e : a = 0
  · subst e; rw [va_up_self, h0]
  · rw [va_up_ne _ _ e, h a e]
theorem ms_0 {M : Nat → Nat → Nat} {j v : Nat} : ms M 0 j v 0 = va_up (M 0) j v := by unfold ms; rw [va_up_self]
theorem y_dg_in {M : Nat → Nat → Nat} {k : Nat} (h : k < M 0 3) : y_dg M k = (decide (48 ≤ M 1 k) && decide (M 1 k ≤ 57)) := by unfold y_dg; rw [decide_eq_true h, Bool.true_and]
theorem y_dg_out {M : Nat → Nat → Nat} {k : Nat} (h : ¬ k < M 0 3) : y_dg M k = false := by unfold y_dg; rw [decide_eq_false h, Bool.false_and]
theorem y_dg_d {M : Nat → Nat → Nat} {k : Nat} (h : y_dg M k = true) : k < M 0 3 ∧ 48 ≤ M 1 k ∧ M 1 k ≤ 57 := by
  unfold y_dg at h
  simp only [Bool.and_eq_true, decide_eq_true_eq] at h
  exact ⟨h.1, h.2.1, h.2.2⟩
def y_take (M : Nat → Nat → Nat) (b : Bool) : Nat × (Nat → Nat → Nat) := (if M 0 8 = 0 ∧ b = true then M 0 7 else 0, va_up M 0 (if M 0 8 = 0 then (if b = true then y_a0 M else va_up (M 0) 8 (M 0 6 + 1)) else M 0))
def y_nc (M : Nat → Nat → Nat) (lo ub : Nat) : Bool := decide (M 0 5 = 2) && (decide (lo ≤ M 0 7) && decide (M 0 7 < ub))
def y_bgs (M : Nat → Nat → Nat) : Nat → Nat → Nat := ms (ms (ms (ms (ms M 0 10 0) 2 4 0) 2 5 0) 2 6 3) 2 7 3
def y_mbg (M : Nat → Nat → Nat) : Bool := if M 0 7 = 112 then decide (M 2 4 < 5) else if M 0 7 = 110 then decide (M 2 5 < 6) else decide (M 0 10 &&& (if M 0 7 = 98 then 1 else 2) = 0)
theorem fw_lt {f : Nat} (h : f < 1024) : (0 : Int32) ≤ nI f - 1 ↔ 0 < f := by
  rw [Int32.le_iff_toInt_le, show nI f - 1 = nI f - nI 1 from rfl, pk_sub_toInt (by omega) (by decide), show (0 : Int32).toInt = 0 from rfl]
  omega
