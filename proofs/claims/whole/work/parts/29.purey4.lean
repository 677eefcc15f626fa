def y_par (M : Nat → Nat → Nat) (n k : Nat) : Bool := y_pa M n || (decide (0 < M 5 n) && (decide (0 < k) && decide (M 2 2 ≤ M 7 (6 + n) + k)))
def y_W (M : Nat → Nat → Nat) (n : Nat) : Nat → Nat → Nat
  | 0 => fun q => if q = M 7 n then 1 else 0
  | k + 1 => fun q => if y_bit (y_tk M n (y_par M n k)) q = true then sumTo (y_W M n k) 5 - y_W M n k q else 0
def y_oM (M : Nat → Nat → Nat) (n k : Nat) : Nat → Nat → Nat := va_up (va_up M 15 (fun j => if j < 5 then y_W M n k j else M 15 j)) 16 (fun j => if j < 5 ∧ 0 < k then y_W M n k j else M 16 j)
def y_aN (M : Nat → Nat → Nat) (k : Nat) : Nat := foldTo (fun _ a => a * (if 1 < M 2 0 then M 2 0 - 1 else 1)) 1 k
theorem y_aN_s (M : Nat → Nat → Nat) (k : Nat) : y_aN M (k + 1) = y_aN M k * (if 1 < M 2 0 then M 2 0 - 1 else 1) := rfl
theorem oM_0 (M : Nat → Nat → Nat) (n : Nat) : fillR M 15 (fun j => if j = M 7 n then 1 else 0) 5 = y_oM M n 0 := by
  funext a b
  unfold fillR y_oM y_W
  by_cases h : a = 16
  · subst h; rw [va_up_self, va_up_ne _ _ (by decide), if_neg (by omega)]
  · rw [va_up_ne _ _ h]
theorem oM_s (M : Nat → Nat → Nat) (n k : Nat) : fillR (fillR (y_oM M n k) 16 (fun j => y_W M n (k + 1) j) 5) 15 (fun j => y_W M n (k + 1) j) 5 = y_oM M n (k + 1) := by
  funext a b
  by_cases h15 : a = 15
  · subst h15
    by_cases hb : b < 5
    · rw [fill_lo hb]; unfold y_oM; rw [va_up_ne _ _ (by decide), va_up_self, if_pos hb]
    · rw [fill_hi (by omega), fill_o (by decide)]; unfold y_oM; rw [va_up_ne _ _ (by decide), va_up_self, if_neg hb, va_up_ne _ _ (by decide), va_up_self, if_neg hb]
  · rw [fill_o h15]
    by_cases h16 : a = 16
    · subst h16
      by_cases hb : b < 5
      · rw [fill_lo hb]; unfold y_oM; rw [va_up_self, if_pos ⟨hb, by omega⟩]
      · rw [fill_hi (by omega)]; unfold y_oM; rw [va_up_self, va_up_self, if_neg (fun q => hb q.1), if_neg (fun q => hb q.1)]
    · rw [fill_o h16]; unfold y_oM; rw [va_up_ne _ _ h16, va_up_ne _ _ h15, va_up_ne _ _ h16, va_up_ne _ _ h15]
theorem oM_15 {M : Nat → Nat → Nat} {n k q : Nat} (hq : q < 5) : y_oM M n k 15 q = y_W M n k q := by unfold y_oM; rw [va_up_ne _ _ (by decide), va_up_self, if_pos hq]
theorem le_sumTo (f : Nat → Nat) {q : Nat} : ∀ {n : Nat}, q < n → f q ≤ sumTo f n
  | 0, h => absurd h (Nat.not_lt_zero q)
  | n + 1, h => by
    show f q ≤ sumTo f n + f n
    rcases Nat.lt_succ_iff_lt_or_eq.mp h with z | z
    · exact Nat.le_trans (le_sumTo f z) (Nat.le_add_right _ _)
    · rw [z]; exact Nat.le_add_left _ _
theorem sumTo_le_mul {f : Nat → Nat} {c : Nat} (h : ∀ i, f i ≤ c) : ∀ n, sumTo f n ≤ n * c
  | 0 => Nat.zero_le _
  | n + 1 => by
    rw [Nat.succ_mul]; exact Nat.add_le_add (sumTo_le_mul h n) (h n)
theorem y_W_le (M : Nat → Nat → Nat) (n : Nat) : ∀ k q, y_W M n k q ≤ 5 ^ k
  | 0, q => by unfold y_W; split <;> decide
  | k + 1, q => by
    have h := sumTo_le_mul (y_W_le M n k) 5
    have e : 5 ^ (k + 1) = 5 * 5 ^ k := by rw [Nat.pow_succ, Nat.mul_comm]
    unfold y_W
    split
    · rw [e]; exact Nat.le_trans (Nat.sub_le _ _) h
    · exact Nat.zero_le _
theorem y_W_lt {M : Nat → Nat → Nat} {n k : Nat} (hk : k < 5) (q : Nat) : y_W M n k q < 1024 := Nat.lt_of_le_of_lt (y_W_le M n k q) (Nat.lt_of_le_of_lt (Nat.pow_le_pow_right (by decide) (by omega : k ≤ 4)) (by decide))
theorem y_S_lt {M : Nat → Nat → Nat} {n k : Nat} (hk : k < 5) (i : Nat) (hi : i ≤ 5) : sumTo (y_W M n k) i ≤ 5120 := Nat.le_trans (sumTo_le_mul (fun q => Nat.le_of_lt (y_W_lt hk q)) i) (by omega)
theorem hB_oM {M : Nat → Nat → Nat} {n k : Nat} (hB : ∀ k j, M k j < 1024) (hk : k < 5) : ∀ a b, y_oM M n k a b < 1024 := by
  refine hB_up (hB_up hB (fun j => ?_)) (fun j => ?_)
  · split
    · exact y_W_lt hk j
    · exact hB _ _
  · split
    · exact y_W_lt hk j
    · exact hB _ _
theorem y_aN_pos (M : Nat → Nat → Nat) : ∀ k, 0 < y_aN M k
  | 0 => Nat.one_pos
  | k + 1 => by
    rw [y_aN_s]
    refine Nat.mul_pos (y_aN_pos M k) ?_
    split <;> omega
theorem y_aN_le {M : Nat → Nat → Nat} (hP : M 2 0 ≤ 5) : ∀ k, y_aN M k ≤ 4 ^ k
  | 0 => Nat.le_refl 1
  | k + 1 => by
    rw [y_aN_s, Nat.pow_succ]
    refine Nat.mul_le_mul (y_aN_le hP k) ?_
    split <;> omega
theorem y_aN_lt {M : Nat → Nat → Nat} (hP : M 2 0 ≤ 5) {k : Nat} (hk : k < 5) : y_aN M k ≤ 256 := Nat.le_trans (y_aN_le hP k) (Nat.le_trans (Nat.pow_le_pow_right (by decide) (by omega : k ≤ 4)) (by decide))
def y_oddsN (M : Nat → Nat → Nat) (n k z : Nat) : Nat := if z = 0 then sumTo (y_W M n k) 5 / Nat.gcd (sumTo (y_W M n k) 5) (y_aN M k) else y_aN M k / Nat.gcd (sumTo (y_W M n k) 5) (y_aN M k)
def y_odds (M : Nat → Nat → Nat) (x y z : Int32) : Int32 × (Nat → Nat → Nat) := if inR x (M 2 1) = true ∧ inR y 5 = true ∧ inR z 2 = true then (if y_aw M x.toNatClampNeg then (-2, M) else (nI (y_oddsN M x.toNatClampNeg y.toNatClampNeg z.toNatClampNeg), y_oM M x.toNatClampNeg y.toNatClampNeg)) else (-1, M)
def y_mp (a lf : Nat) (h : Int32) (q : Nat) : Bool := decide (¬ nI q = h) && (y_bit a q && decide (lf - 1 ≤ y_ps a q))
def y_itf (N a lf : Nat) (h : Int32) : Nat → Int32 := foldTo (fun i b => if y_mp a lf h (N - i - 1) then nI (N - i - 1) else b) (-9)
theorem y_itf_s (N a lf : Nat) (h : Int32) (i : Nat) : y_itf N a lf h (i + 1) = if y_mp a lf h (N - i - 1) then nI (N - i - 1) else y_itf N a lf h i := rfl
def y_at (M : Nat → Nat → Nat) (n : Nat) : Nat → Int32
  | 0 => nI (M 7 n)
  | e + 1 => y_itf (M 2 0) (y_tk M n false) (M 2 2 - M 7 (6 + n) - e) (y_at M n e) (M 2 0)
def y_soonN (M : Nat → Nat → Nat) (n : Nat) (k : Int32) : Int32 := if y_aw M n = true then -2 else if M 5 n = 0 then -2 else if y_pa M n = true then -2 else if y_ps (y_tk M n false) (M 7 n) < M 2 2 - M 7 (6 + n) then -9 else if k = -1 then nI (M 2 2 - M 7 (6 + n)) else if k.toNatClampNeg < M 2 2 - M 7 (6 + n) then y_at M n (k.toNatClampNeg + 1) else -5
def y_soon (M : Nat → Nat → Nat) (x k : Int32) : Int32 := if inR x (M 2 1) = true ∧ (-1 : Int32) ≤ k then y_soonN M x.toNatClampNeg k else -1
theorem addm1 (x : Int32) : x + Int32.ofInt (-1) = x - nI 1 := by rw [kI_m1, Int32.sub_eq_add_neg]; rfl
theorem sub1_neg {v : Nat} (h : v = 0) : nI v - nI 1 < 0 := by rw [h]; decide
theorem sub1_nn {v : Nat} (h : 0 < v) (hv : v < 2 ^ 31) : ¬ nI v - nI 1 < 0 := by rw [pk_sub h]; exact nI_pos (by omega)
