theorem cpy_0 (M : Nat → Nat → Nat) {k : Nat} (f : Nat → Nat) (s d : Nat) : va_up M k (va_cpy f (M k) s d 0) = M := by
  funext a b
  by_cases h : a = k
  · subst h; rw [va_up_self]; unfold va_cpy; rw [if_neg (by omega)]
  · rw [va_up_ne _ _ h]
theorem cpy_s {M : Nat → Nat → Nat} {k : Nat} {f g : Nat → Nat} {s d n i v : Nat} (hi : i = d + n) (hv : v = f (s + n)) : ms (va_up M k (va_cpy f g s d n)) k i v = va_up M k (va_cpy f g s d (n + 1)) := by
  funext a b
  rw [ms_if]
  by_cases h : a = k
  · subst h
    rw [va_up_self, va_up_self]
    unfold va_cpy
    simp only [true_and]
    (repeat' split) <;> first | rfl | (exfalso; omega) | (rw [hv]; congr 1; omega)
  · rw [if_neg (fun q => h q.1), va_up_ne _ _ h, va_up_ne _ _ h]
def fillR (M : Nat → Nat → Nat) (k : Nat) (f : Nat → Nat) (n : Nat) : Nat → Nat → Nat := va_up M k (fun j => if j < n then f j else M k j)
theorem fill_0 (M : Nat → Nat → Nat) (k : Nat) (f : Nat → Nat) : fillR M k f 0 = M := by
  funext a b
  unfold fillR
  by_cases h : a = k
  · subst h; rw [va_up_self, if_neg (by omega)]
  · rw [va_up_ne _ _ h]
theorem fill_s {M : Nat → Nat → Nat} {k : Nat} {f : Nat → Nat} {n v : Nat} (hv : v = f n) : ms (fillR M k f n) k n v = fillR M k f (n + 1) := by
  funext a b
  rw [ms_if]
  unfold fillR
  by_cases h : a = k
  · subst h
    rw [va_up_self, va_up_self]
    simp only [true_and]
    (repeat' split) <;> first | rfl | (exfalso; omega) | (rw [hv]; congr 1; omega)
  · rw [if_neg (fun q => h q.1), va_up_ne _ _ h, va_up_ne _ _ h]
theorem fill_hi {M : Nat → Nat → Nat} {k : Nat} {f : Nat → Nat} {n j : Nat} (h : n ≤ j) : fillR M k f n k j = M k j := by
  unfold fillR; rw [va_up_self, if_neg (by omega)]
theorem fill_lo {M : Nat → Nat → Nat} {k : Nat} {f : Nat → Nat} {n j : Nat} (h : j < n) : fillR M k f n k j = f j := by
  unfold fillR; rw [va_up_self, if_pos h]
theorem fill_o {M : Nat → Nat → Nat} {k : Nat} {f : Nat → Nat} {n a : Nat} (h : a ≠ k) : fillR M k f n a = M a := by
  unfold fillR; rw [va_up_ne _ _ h]
def y_r10 (M : Nat → Nat → Nat) : Nat → Nat := if M 0 19 = 10 then va_cpy (M 7) (va_cpy (M 10) (M 10) 20 0 180) 0 180 20 else va_cpy (M 7) (M 10) 0 (20 * M 0 19) 20
def y_u (M : Nat → Nat → Nat) : Nat := if M 0 19 = 10 then 10 else M 0 19 + 1
def y_push (M : Nat → Nat → Nat) : Nat → Nat → Nat := ms (va_up M 10 (y_r10 M)) 0 19 (y_u M)
theorem y_push_b {M : Nat → Nat → Nat} {A B : Nat → Nat} : ms (va_up (ms (va_up M 10 A) 0 19 9) 10 B) 0 19 10 = ms (va_up M 10 B) 0 19 10 := by
  funext a b
  rw [ms_if, ms_if]
  by_cases h : a = 10
  · subst h; rw [va_up_self, va_up_self]
  · rw [va_up_ne _ _ h, va_up_ne _ _ h, ms_if, va_up_ne _ _ h]
    split <;> rfl
theorem hBy_push {M : Nat → Nat → Nat} (hB : ∀ k j, M k j < 1024) (hU : M 0 19 ≤ 10) : ∀ k j, y_push M k j < 1024 := by
  refine hB_ms (hB_up hB ?_) ?_
  · unfold y_r10
    split
    · exact hB_cpy (hB 7) (hB_cpy (hB 10) (hB 10))
    · exact hB_cpy (hB 7) (hB 10)
  · unfold y_u
    split <;> omega
def y_pop (M : Nat → Nat → Nat) : Nat → Nat → Nat := va_up (ms M 0 19 (M 0 19 - 1)) 7 (va_cpy (M 10) (M 7) (20 * (M 0 19 - 1)) 0 20)
def y_undo (M : Nat → Nat → Nat) : Int32 × (Nat → Nat → Nat) := if M 0 19 = 0 then (-2, M) else (nI (M 0 19 - 1), y_pop M)
def y_keep (M : Nat → Nat → Nat) (x : Int32) : Int32 × (Nat → Nat → Nat) := if inR x 2 then (nI (M 7 19), ms (va_up M 8 (va_cpy (M 7) (M 8) 0 (20 * x.toNatClampNeg) 20)) 9 x.toNatClampNeg 1) else (-1, M)
def y_back (M : Nat → Nat → Nat) (x : Int32) : Int32 × (Nat → Nat → Nat) := if inR x 2 then (if M 9 x.toNatClampNeg = 0 then (-2, M) else (nI (va_cpy (M 8) (M 7) (20 * x.toNatClampNeg) 0 20 19), ms (va_up M 7 (va_cpy (M 8) (M 7) (20 * x.toNatClampNeg) 0 20)) 0 19 0)) else (-1, M)
def y_saw (M : Nat → Nat → Nat) (x y : Int32) : Int32 × (Nat → Nat → Nat) := if inR x (M 2 0) = true ∧ inR y 2 = true then (if M 0 22 = 6 then (-3, M) else (nI (M 0 22 + 1), ms (ms (ms M 11 (M 0 22) x.toNatClampNeg) 12 (M 0 22) y.toNatClampNeg) 0 22 (M 0 22 + 1))) else (-1, M)
def y_hears (M : Nat → Nat → Nat) (x y : Int32) : Int32 × (Nat → Nat → Nat) := if inR x 21 = true ∧ inR y 2 = true then (if M 0 25 = 6 then (-3, M) else (nI (M 0 25 + 1), ms (ms (ms M 13 (M 0 25) x.toNatClampNeg) 14 (M 0 25) y.toNatClampNeg) 0 25 (M 0 25 + 1))) else (-1, M)
def y_count (M : Nat → Nat → Nat) (y : Int32) : Int32 := if inR y 4 then nI (M 2 y.toNatClampNeg) else if y = nI 4 then nI (M 0 22) else if y = nI 5 then nI (M 0 25) else if y = nI 6 then nI (M 0 3) else -1
def y_passN (M : Nat → Nat → Nat) (n q : Nat) : Int32 × (Nat → Nat → Nat) :=
  if y_aw M n = true then (-2, M) else if M 7 n = q then (-2, M) else if M 7 (6 + n) = 999 then (-2, M) else if M 7 19 = 999 then (-2, M)
  else if y_tk M n (y_pa M n) / 2 ^ q % 2 = 0 then (nI 0, ms (ms (y_push M) 7 19 (M 7 19 + 1)) 7 (6 + n) 0)
  else (nI 1, ms (ms (ms (y_push M) 7 n q) 7 (6 + n) (M 7 (6 + n) + 1)) 7 12 (M 7 12 ||| (if 0 < M 5 n ∧ M 2 2 ≤ M 7 (6 + n) + 1 then 1 * 2 ^ n else 0)))
def y_pass (M : Nat → Nat → Nat) (x y : Int32) : Int32 × (Nat → Nat → Nat) := if inR x (M 2 1) = true ∧ inR y (M 2 0) = true then y_passN M x.toNatClampNeg y.toNatClampNeg else (-1, M)
def y_teach (M : Nat → Nat → Nat) (x y : Int32) : Int32 × (Nat → Nat → Nat) := if inR x (M 2 0) = true ∧ inR y 32 = true then (nI (M 7 (14 + x.toNatClampNeg)), ms (y_push M) 7 (14 + x.toNatClampNeg) y.toNatClampNeg) else (-1, M)
def y_sendN (M : Nat → Nat → Nat) (n k : Nat) : Int32 × (Nat → Nat → Nat) := if M 7 13 / 2 ^ n % 2 = k then (-2, M) else (nI (pc6 (M 7 13 ^^^ (1 * 2 ^ n))), ms (y_push M) 7 13 (M 7 13 ^^^ (1 * 2 ^ n)))
def y_send (M : Nat → Nat → Nat) (x y : Int32) : Int32 × (Nat → Nat → Nat) := if inR x (M 2 1) = true ∧ inR y 2 = true then y_sendN M x.toNatClampNeg y.toNatClampNeg else (-1, M)
theorem send_bits : ∀ a, a < 64 → ∀ n, n < 6 → ∀ k, k < 2 → ¬ (a / 2 ^ n % 2 = k) → ((nI a) &&& ((nI (1 * 2 ^ n)) ^^^ (-1))) ||| (nI (k * 2 ^ n)) = nI (a ^^^ (1 * 2 ^ n)) := by decide +kernel
theorem and1_lt {a : Nat} : a &&& 1 < 2 ^ 31 := Nat.lt_of_le_of_lt Nat.and_le_right (by decide)
theorem kshl {k n : Nat} (hk : k < 2) (hn : n < 6) : k * 2 ^ n < 2 ^ 32 := Nat.lt_of_le_of_lt (Nat.mul_le_mul (Nat.le_of_lt hk) (Nat.pow_le_pow_right (by decide) (Nat.le_of_lt hn))) (by decide)
