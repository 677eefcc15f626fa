def x_type (M : Nat → Nat → Nat) (x : Int32) : Int32 × (Nat → Nat → Nat) := if inR x 256 then (if M 1 1 < 150 then (nI (M 1 1 + 1), ms (ms M 2 (M 1 1) x.toNatClampNeg) 1 1 (M 1 1 + 1)) else (-3, M)) else (-1, M)
def x_noteN (M : Nat → Nat → Nat) (n : Nat) (y : Int32) : Int32 := if y = 0 then nI (M 11 n) else if y = 1 then nI (M 12 n) else if y = 2 then nI (M 15 n) else if y = 3 then nI (M 15 (6 + n)) else if y = 4 then nI (bN (hb (nI (M 15 17)) n)) else if y = 5 then nI (bN (hb (nI (M 15 18)) n)) else if y = 6 then nI (x_tk M n) else -1
def x_note (M : Nat → Nat → Nat) (x y : Int32) : Int32 := if inR x (M 9 5) then x_noteN M x.toNatClampNeg y else -1
def x_purse (M : Nat → Nat → Nat) (q : Nat) : Nat := sumTo (fun n => if M 15 n = q ∧ hb (nI (M 15 18)) n = false then M 11 n else 0) (M 9 5)
def x_person (M : Nat → Nat → Nat) (x y : Int32) : Int32 := if inR x (M 9 4) then (if y = 0 then nI (M 15 (12 + x.toNatClampNeg)) else if y = 1 then nI (x_purse M x.toNatClampNeg) else -1) else -1
def x_now (M : Nat → Nat → Nat) (y : Int32) : Int32 := if y = 0 then nI (M 15 17) else if y = 1 then nI (M 15 18) else if y = 2 then nI (M 15 19) else if y = 3 then nI (x_wa M) else if y = 4 then nI (x_wf M) else if y = 5 then nI (M 16 2) else -1
def x_passN (M : Nat → Nat → Nat) (n q : Nat) : Int32 × (Nat → Nat → Nat) :=
  if hb (nI (M 15 18)) n = true then (-2, M) else if M 15 n = q then (-2, M) else if 999 ≤ M 15 (6 + n) then (-2, M) else if 999 ≤ M 15 19 then (-2, M)
  else if hb (nI (x_tk (x_push M) n)) q = true then
    (nI 1, if 0 < M 12 n ∧ M 9 6 ≤ M 15 (6 + n) + 1 then ms (ms (ms (x_push M) 15 n q) 15 (6 + n) (M 15 (6 + n) + 1)) 15 17 (M 15 17 ||| (1 * 2 ^ n)) else ms (ms (x_push M) 15 n q) 15 (6 + n) (M 15 (6 + n) + 1))
  else (nI 0, ms (ms (x_push M) 15 (6 + n) 0) 15 19 (M 15 19 + 1))
def x_pass (M : Nat → Nat → Nat) (x y : Int32) : Int32 × (Nat → Nat → Nat) := if inR x (M 9 5) = true ∧ inR y (M 9 4) = true then x_passN M x.toNatClampNeg y.toNatClampNeg else (-1, M)
def x_teach (M : Nat → Nat → Nat) (x y : Int32) : Int32 × (Nat → Nat → Nat) := if inR x (M 9 4) = true ∧ inR y 32 = true then (nI (M 15 (12 + x.toNatClampNeg)), ms (x_push M) 15 (12 + x.toNatClampNeg) y.toNatClampNeg) else (-1, M)
def x_send (M : Nat → Nat → Nat) (x y : Int32) : Int32 × (Nat → Nat → Nat) := if inR x (M 9 5) = true ∧ isYN y = true then (if hb (nI (M 15 18)) x.toNatClampNeg = decide (y = nI 1) then (-2, M) else (nI (pc6 (M 15 18 ^^^ (1 * 2 ^ x.toNatClampNeg))), ms (x_push M) 15 18 (M 15 18 ^^^ (1 * 2 ^ x.toNatClampNeg)))) else (-1, M)
def x_undo (M : Nat → Nat → Nat) : Int32 × (Nat → Nat → Nat) := if M 16 2 = 0 then (-2, M) else (nI (M 16 2 - 1), x_pop M)
def x_soonN (M : Nat → Nat → Nat) (n : Nat) (k : Int32) : Int32 := if hb (nI (M 15 18)) n = true then -2 else if 0 < M 12 n then (if hb (nI (M 15 17)) n = true then -2 else if x_cgo M n (M 9 6 - M 15 (6 + n)) = true then (if k = -1 then nI (M 9 6 - M 15 (6 + n)) else if k < nI (M 9 6 - M 15 (6 + n)) then nI (x_row M n k.toNatClampNeg) else -5) else -9) else -2
def x_soon (M : Nat → Nat → Nat) (x k : Int32) : Int32 := if inR x (M 9 5) = true ∧ (-1 : Int32) ≤ k then x_soonN M x.toNatClampNeg k else -1
def x_till (M : Nat → Nat → Nat) (x : Int32) : Int32 := if inR x (M 9 5) then (if hb (nI (M 15 18)) x.toNatClampNeg then -2 else x_most M x.toNatClampNeg) else -1
def x_ilt (u d : Nat) (w : Int32) : Int32 := if d = 0 then (if w = 0 then nI 0 else nI 1) else (if w = 0 then nI (u / Nat.gcd u d) else nI (d / Nat.gcd u d))
def x_cN (M : Nat → Nat → Nat) (n b : Nat) : Nat := if x_hpb M n b then M 9 4 - 1 else pc6 (x_tbl M n) - bN (decide (0 < b) || hb (nI (x_tbl M n)) (M 15 n))
def x_wN (M : Nat → Nat → Nat) (n k : Nat) : Nat := foldTo (fun b a => a * x_cN M n b) 1 k
def x_aN (M : Nat → Nat → Nat) (k : Nat) : Nat := foldTo (fun _ a => a * (M 9 4 - 1)) 1 k
def x_odds (M : Nat → Nat → Nat) (x k w : Int32) : Int32 := if inR x (M 9 5) = true ∧ inR k 5 = true ∧ isYN w = true then (if hb (nI (M 15 18)) x.toNatClampNeg then -2 else x_ilt (x_wN M x.toNatClampNeg k.toNatClampNeg) (x_aN M k.toNatClampNeg) w) else -1
def x_saw (M : Nat → Nat → Nat) (x y : Int32) : Int32 × (Nat → Nat → Nat) := if inR x (M 9 4) = true ∧ isYN y = true then (if M 21 4 < 6 then (nI (M 21 4 + 1), ms (ms (ms M 22 (M 21 4) x.toNatClampNeg) 23 (M 21 4) y.toNatClampNeg) 21 4 (M 21 4 + 1)) else (-3, M)) else (-1, M)
def x_canBe (M : Nat → Nat → Nat) (y : Int32) : Int32 := if y = 0 then nI (x_hm M) else if y = 1 then x_least M else if y = 2 then x_inAll M else -1
def x_hears (M : Nat → Nat → Nat) (x y : Int32) : Int32 × (Nat → Nat → Nat) := if inR x 21 = true ∧ isYN y = true then (if M 24 4 < 6 then (nI (M 24 4 + 1), ms (ms (ms M 25 (M 24 4) x.toNatClampNeg) 26 (M 24 4) y.toNatClampNeg) 24 4 (M 24 4 + 1)) else (-3, M)) else (-1, M)
def x_letIn (M : Nat → Nat → Nat) (w : Int32) : Int32 := if isYN w then (if x_bs M = -9 ∨ w = 0 then x_bs M else nI (x_wo M (x_bs M))) else -1
def x_rateT (M : Nat → Nat → Nat) (k x : Int32) (t : Int64) : Int32 × Int64 := if inR x (M 9 5) then (x_rate M k x.toNatClampNeg, x_tr k t) else (-1000000, t)
def x_keepT (M : Nat → Nat → Nat) (x : Int32) : Int32 × (Nat → Nat → Nat) := if inR x 2 then (nI (M 15 19), x_keep M x.toNatClampNeg) else (-1, M)
def x_backT (M : Nat → Nat → Nat) (x : Int32) : Int32 × (Nat → Nat → Nat) := if inR x 2 then (if hb (nI (M 18 1)) x.toNatClampNeg then (nI (x_back M x.toNatClampNeg 15 19), ms (ms (x_back M x.toNatClampNeg) 16 1 0) 16 2 0) else (-2, M)) else (-1, M)
def x_count (M : Nat → Nat → Nat) (y : Int32) : Int32 := if y = 0 then nI (M 9 4) else if y = 1 then nI (M 9 5) else if y = 2 then nI (M 9 6) else if y = 3 then nI (M 9 7) else if y = 4 then nI (M 21 4) else if y = 5 then nI (M 24 4) else if y = 6 then nI (M 1 1) else -1
theorem gcd_first {u d i : Nat} (hd : 0 < d) (hi : i < d) (h : ∀ z, z < i → ¬ (u % (d - z) = 0 ∧ d % (d - z) = 0)) (h1 : u % (d - i) = 0) (h2 : d % (d - i) = 0) : d - i = Nat.gcd u d := by
  have hg : 0 < Nat.gcd u d := Nat.gcd_pos_of_pos_right u hd
  have h3 : (d - i) ∣ Nat.gcd u d := Nat.dvd_gcd (Nat.dvd_of_mod_eq_zero h1) (Nat.dvd_of_mod_eq_zero h2)
  have h4 : d - i ≤ Nat.gcd u d := Nat.le_of_dvd hg h3
  have h5 : Nat.gcd u d ≤ d := Nat.gcd_le_right u hd
  rcases Nat.lt_or_ge (d - i) (Nat.gcd u d) with q | q
  · exfalso
    refine h (d - Nat.gcd u d) (by omega) ?_
    rw [show d - (d - Nat.gcd u d) = Nat.gcd u d by omega]
    exact ⟨Nat.mod_eq_zero_of_dvd (Nat.gcd_dvd_left u d), Nat.mod_eq_zero_of_dvd (Nat.gcd_dvd_right u d)⟩
  · omega
theorem ilt_0 {u d : Nat} (h : ∀ z, z < d → ¬ (u % (d - z) = 0 ∧ d % (d - z) = 0)) : d = 0 := by
  rcases Nat.eq_zero_or_pos d with q | q
  · exact q
  · exfalso
    refine h (d - 1) (by omega) ?_
    rw [show d - (d - 1) = 1 by omega]
    exact ⟨Nat.mod_one _, Nat.mod_one _⟩
theorem isYN_1 : isYN (nI 1) = true := by decide
theorem isYN_0 : isYN 0 = true := by decide
theorem pc6_pos : ∀ a, a < 64 → ∀ h, h < 6 → hb (nI a) h = true → 0 < pc6 a := by decide +kernel
theorem pc6_0 : ∀ a, a < 64 → pc6 a = 0 → a = 0 := by decide +kernel
theorem hb_0 (h : Nat) (hh : h < 32) : hb (nI 0) h = false := by rw [hb_nI (by decide) hh]; exact Nat.zero_testBit h
theorem x_ch_nat {M : Nat → Nat → Nat} {n b : Nat} (h1 : 1 ≤ M 9 4) (h2 : x_hpb M n b = false → bN (decide (0 < b) || hb (nI (x_tbl M n)) (M 15 n)) ≤ pc6 (x_tbl M n)) : x_ch M n b = nI (x_cN M n b) := by
  unfold x_ch x_cN
  split
  · exact pk_sub h1
  · rename_i hx
    exact pk_sub (h2 (by simpa using hx))
theorem x_wtk_nat {M : Nat → Nat → Nat} {n : Nat} (h1 : 1 ≤ M 9 4) (hP : M 9 4 ≤ 5) (hh : M 15 n < 5) : ∀ k, x_wtk M n k = nI (x_wN M n k)
  | 0 => rfl
  | k + 1 => by
    have ih := x_wtk_nat h1 hP hh k
    show x_wtk M n k * x_ch M n k = nI (x_wN M n k * x_cN M n k)
    have hT := x_tbl_lt (n := n) hP
    by_cases hx : x_hpb M n k = false → bN (decide (0 < k) || hb (nI (x_tbl M n)) (M 15 n)) ≤ pc6 (x_tbl M n)
    · rw [ih, x_ch_nat h1 hx, pk_mul]
    · have hx1 : x_hpb M n k = false := Classical.byContradiction fun q => hx (fun q2 => absurd q2 q)
      have hx2 : ¬ bN (decide (0 < k) || hb (nI (x_tbl M n)) (M 15 n)) ≤ pc6 (x_tbl M n) := fun q => hx (fun _ => q)
      have hz : pc6 (x_tbl M n) = 0 := by
        have hle : bN (decide (0 < k) || hb (nI (x_tbl M n)) (M 15 n)) ≤ 1 := Bool.toNat_le _
        omega
      have ht0 := pc6_0 _ (by omega) hz
      have hk : 0 < k := by
        rcases Nat.eq_zero_or_pos k with q | q
        · exfalso
          subst q
          rw [ht0, hb_0 _ (by omega)] at hx2
          exact hx2 (Nat.zero_le _)
        · exact q
      have hx0 : x_hpb M n 0 = false := by
        simp only [x_hpb, Bool.or_eq_false_iff, Bool.and_eq_false_iff, decide_eq_false_iff_not] at hx1 ⊢
        refine ⟨hx1.1, ?_⟩
        rcases hx1.2 with q | q
        · exact Or.inl q
        · exact Or.inr (by omega)
      have hN0 : ∀ j, 0 < j → x_wN M n j = 0 := by
        intro j hj
        induction j with
        | zero => omega
        | succ j ihj =>
          show x_wN M n j * x_cN M n j = 0
          rcases Nat.eq_zero_or_pos j with q | q
          · subst q
            have : x_cN M n 0 = 0 := by simp [x_cN, hx0, hz]
            rw [this, Nat.mul_zero]
          · rw [ihj q, Nat.zero_mul]
      rw [ih, hN0 k hk, Nat.zero_mul]
      exact (Int32.zero_mul : (0 : Int32) * x_ch M n k = 0)
theorem x_all_nat {M : Nat → Nat → Nat} (h1 : 1 ≤ M 9 4) : ∀ k, x_all M k = nI (x_aN M k)
  | 0 => rfl
  | k + 1 => by
    show x_all M k * (nI (M 9 4) - nI 1) = nI (x_aN M k * (M 9 4 - 1))
    rw [x_all_nat h1 k, pk_sub h1, pk_mul]
theorem x_cN_le {M : Nat → Nat → Nat} {n b : Nat} (hP : M 9 4 ≤ 5) : x_cN M n b ≤ 6 := by
  unfold x_cN
  have h := pc6_le (x_tbl M n) (Nat.lt_trans (x_tbl_lt hP) (by decide))
  split <;> omega
theorem foldmul_le {f : Nat → Nat} (h : ∀ b, f b ≤ 6) : ∀ k, foldTo (fun b a => a * f b) 1 k ≤ 6 ^ k
  | 0 => Nat.le_refl _
  | k + 1 => Nat.mul_le_mul (foldmul_le h k) (h k)
theorem x_wN_lt {M : Nat → Nat → Nat} {n k : Nat} (hP : M 9 4 ≤ 5) (hk : k < 5) : x_wN M n k < 2 ^ 31 := Nat.lt_of_le_of_lt (foldmul_le (fun _ => x_cN_le hP) k) (Nat.lt_of_le_of_lt (Nat.pow_le_pow_right (by decide) (Nat.le_of_lt hk)) (by decide))
theorem x_aN_lt {M : Nat → Nat → Nat} {k : Nat} (hP : M 9 4 ≤ 5) (hk : k < 5) : x_aN M k < 2 ^ 31 := Nat.lt_of_le_of_lt (foldmul_le (f := fun _ => M 9 4 - 1) (fun _ => by omega) k) (Nat.lt_of_le_of_lt (Nat.pow_le_pow_right (by decide) (Nat.le_of_lt hk)) (by decide))
theorem ge_m1 {k : Int32} (h : (-1 : Int32) ≤ k) (h2 : ¬ k = -1) : ¬ k < 0 := by
  intro q
  rw [Int32.le_iff_toInt_le] at h
  rw [Int32.lt_iff_toInt_lt] at q
  have e1 : (-1 : Int32).toInt = -1 := by decide
  have e2 : (0 : Int32).toInt = 0 := by decide
  rw [e1] at h
  rw [e2] at q
  exact h2 (Int32.toInt_inj.mp (by rw [e1]; omega))
theorem nI_m1 {j : Nat} (h : j < 2 ^ 31) : ¬ nI j = -1 := fun q => absurd (show nI j < 0 by rw [q]; decide) (nI_pos h)
theorem hB_up {M : Nat → Nat → Nat} (h : ∀ k j, M k j < 1024) {a : Nat} {f : Nat → Nat} (hf : ∀ j, f j < 1024) : ∀ k j, va_up M a f k j < 1024 := by
  intro k j
  by_cases e : k = a
  · subst e; rw [va_up_self]; exact hf j
  · rw [va_up_ne _ _ e]; exact h k j
theorem hB_cpy {f g : Nat → Nat} {sp dp n : Nat} (hf : ∀ j, f j < 1024) (hg : ∀ j, g j < 1024) : ∀ j, va_cpy f g sp dp n j < 1024 := by
  intro j
  unfold va_cpy
  split
  · exact hf _
  · exact hg _
theorem hB_push {M : Nat → Nat → Nat} (hB : ∀ k j, M k j < 1024) : ∀ k j, x_push M k j < 1024 := hB_ms (hB_ms (hB_up hB (hB_cpy (hB 15) (hB 17))) (Nat.lt_trans (Nat.mod_lt _ (by decide)) (by decide))) (Nat.lt_of_le_of_lt (Nat.min_le_left _ _) (by decide))
theorem hB_pop {M : Nat → Nat → Nat} (hB : ∀ k j, M k j < 1024) : ∀ k j, x_pop M k j < 1024 := hB_up (hB_ms (hB_ms hB (Nat.lt_trans (Nat.mod_lt _ (by decide)) (by decide))) (by have := hB 16 2; omega)) (hB_cpy (hB 17) (hB 15))
theorem hB_keep {M : Nat → Nat → Nat} (hB : ∀ k j, M k j < 1024) {i : Nat} (hv : M 18 1 ||| (1 * 2 ^ i) < 1024) : ∀ k j, x_keep M i k j < 1024 := hB_ms (hB_up hB (hB_cpy (hB 15) (hB 19))) hv
theorem hB_back {M : Nat → Nat → Nat} (hB : ∀ k j, M k j < 1024) {i : Nat} : ∀ k j, x_back M i k j < 1024 := hB_up hB (hB_cpy (hB 19) (hB 15))
theorem bN_d1 {b : Bool} (h : bN b ≠ 0) : b = true := by cases b <;> first | rfl | (exact absurd rfl h)
theorem bN_d0 {b : Bool} (h : bN b = 0) : b = false := by cases b <;> first | rfl | (exact absurd h (by decide))
theorem xor_lt {a n : Nat} (ha : a < 64) (hn : n < 6) : a ^^^ (1 * 2 ^ n) < 64 := by
  rw [Nat.one_mul]
  exact Nat.xor_lt_two_pow (n := 6) ha (Nat.pow_lt_pow_right (by decide) hn)
theorem or_lt {a n : Nat} (ha : a < 64) (hn : n < 6) : a ||| (1 * 2 ^ n) < 64 := by
  rw [Nat.one_mul]
  exact Nat.or_lt_two_pow (n := 6) ha (Nat.pow_lt_pow_right (by decide) hn)
