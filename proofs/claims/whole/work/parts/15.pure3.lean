def x_hm (M : Nat → Nat → Nat) : Nat := sumTo (fun a => bN (x_fits M a)) 32
def x_least (M : Nat → Nat → Nat) : Int32 := match findTo (x_fits M) 0 32 with
  | some a => nI a
  | none => -9
def x_ial (M : Nat → Nat → Nat) : Nat → Int32 := foldTo (fun a c => if x_fits M a then (if c = -9 then nI a else c &&& nI a) else c) (-9)
def x_inAll (M : Nat → Nat → Nat) : Int32 := x_ial M 32
def x_htb (M : Nat → Nat → Nat) (q : Nat) : Nat := sumTo (fun a => bN (x_fits M a && x_wt M q a)) 32
theorem sumTo_le {f g : Nat → Nat} (h : ∀ i, f i ≤ g i) : ∀ n, sumTo f n ≤ sumTo g n
  | 0 => Nat.le_refl _
  | n + 1 => Nat.add_le_add (sumTo_le h n) (h n)
theorem sumTo_bn (f : Nat → Bool) : ∀ n, sumTo (fun i => bN (f i)) n ≤ n
  | 0 => Nat.le_refl _
  | n + 1 => by
    have h := sumTo_bn f n
    have h2 : bN (f n) ≤ 1 := by cases f n <;> decide
    show sumTo (fun i => bN (f i)) n + bN (f n) ≤ n + 1
    omega
theorem x_htb_le (M : Nat → Nat → Nat) (q : Nat) : x_htb M q ≤ x_hm M := sumTo_le (fun a => by cases x_fits M a <;> cases x_wt M q a <;> decide) 32
theorem x_hm_le (M : Nat → Nat → Nat) : x_hm M ≤ 32 := sumTo_bn _ 32
def x_bpf (M : Nat → Nat → Nat) : Nat → Int32 × Nat := foldTo (fun q z => if max (x_htb M q) (x_hm M - x_htb M q) < z.2 then (nI q, max (x_htb M q) (x_hm M - x_htb M q)) else z) (-9, x_hm M + 1)
def x_best (M : Nat → Nat → Nat) : Int32 := if x_hm M ≤ 1 then -9 else (x_bpf M (M 9 4)).1
def x_bf (M : Nat → Nat → Nat) (y : Nat) : Bool := decide (∀ i, i < M 24 4 → decide (y ≤ M 25 i) = decide (M 26 i = 1))
def x_pyf (M : Nat → Nat → Nat) : Nat → Nat := foldTo (fun i a => if x_bf M (i + 1) then a ||| (1 * 2 ^ (i + 1)) else a) 0
def x_py (M : Nat → Nat → Nat) : Nat := x_pyf M 9
def x_wa (M : Nat → Nat → Nat) : Nat := x_wo M ((nI (M 15 18)) ^^^ (-1))
def x_wf (M : Nat → Nat → Nat) : Nat := x_wo M ((nI (x_fn M)) &&& ((nI (M 15 18)) ^^^ (-1)))
def x_open (M : Nat → Nat → Nat) : Int32 := ((nI (x_fn M)) &&& ((nI (M 15 18)) ^^^ (-1))) &&& ((nI (M 15 17)) ^^^ (-1))
def x_room (M : Nat → Nat → Nat) : Int32 := (nI (M 9 7 * x_wa M)) - (nI (10 * x_wo M ((nI (M 15 17)) &&& ((nI (M 15 18)) ^^^ (-1)))))
def x_ib (M : Nat → Nat → Nat) (a : Nat) (b : Int32) : Bool := decide (b = -9) || (decide (pc6 b.toNatClampNeg < pc6 a) || (decide (pc6 a = pc6 b.toNatClampNeg) && decide (x_wo M b < x_wo M (nI a))))
def x_bsf (M : Nat → Nat → Nat) : Nat → Int32 := foldTo (fun a b => if (nI a) &&& (x_open M ^^^ (-1)) = 0 ∧ ¬ x_room M < nI (10 * x_wo M (nI a)) ∧ x_ib M a b = true then nI a else b) (-9)
def x_bs (M : Nat → Nat → Nat) : Int32 := x_bsf M 64
/-- -9, or one of 0 .. 63 -/
def oS (b : Int32) : Prop := b = -9 ∨ ∃ k, k < 64 ∧ b = nI k
theorem x_bsf_s (M : Nat → Nat → Nat) (a : Nat) : x_bsf M (a + 1) = if (nI a) &&& (x_open M ^^^ (-1)) = 0 ∧ ¬ x_room M < nI (10 * x_wo M (nI a)) ∧ x_ib M a (x_bsf M a) = true then nI a else x_bsf M a := rfl
theorem pc6_sub {a b : Nat} (ha : a < 64) (hb : b < 64) : (nI (pc6 a) - nI (pc6 b)).toInt = (pc6 a : Int) - pc6 b := pk_sub_toInt (Nat.lt_of_le_of_lt (pc6_le a ha) (by decide)) (Nat.lt_of_le_of_lt (pc6_le b hb) (by decide))
theorem i32_gt {x : Int32} : 0 < x ↔ 0 < x.toInt := by rw [Int32.lt_iff_toInt_lt]; rfl
theorem i32_z {x : Int32} : x = 0 ↔ x.toInt = 0 := by rw [← Int32.toInt_inj]; rfl
theorem x_wo_le' {M : Nat → Nat → Nat} (hB : ∀ k j, M k j < 1024) (x : Int32) : ∀ n, sumTo (fun n => if hb x n then M 11 n else 0) n ≤ n * 1024
  | 0 => Nat.le_refl _
  | n + 1 => by
    have h := x_wo_le' hB x n
    have h2 := hB 11 n
    have h3 : (if hb x n then M 11 n else 0) ≤ 1024 := by
      split
      · exact Nat.le_of_lt h2
      · exact Nat.zero_le _
    exact Nat.le_trans (Nat.add_le_add h h3) (Nat.le_of_eq (Nat.succ_mul n 1024).symm)
theorem x_wo_le {M : Nat → Nat → Nat} (hB : ∀ k j, M k j < 1024) (hN : M 9 5 ≤ 6) (x : Int32) : x_wo M x ≤ 6144 := Nat.le_trans (x_wo_le' hB x _) (by omega)
theorem bN_c1 {b : Bool} (h : bN b = 1) : b = true := by cases b <;> first | rfl | (exact absurd h (by decide))
theorem bN_c0 {b : Bool} (h : bN b ≠ 1) : b = false := by cases b <;> first | rfl | (exact absurd rfl h)
theorem x_bpf_s (M : Nat → Nat → Nat) (q : Nat) : x_bpf M (q + 1) = if max (x_htb M q) (x_hm M - x_htb M q) < (x_bpf M q).2 then (nI q, max (x_htb M q) (x_hm M - x_htb M q)) else x_bpf M q := rfl
theorem nI_n9 : ∀ k, k < 64 → ¬ nI k = -9 := by decide +kernel
theorem sub_gt {a k : Nat} (ha : a < 64) (hk : k < 64) : 0 < nI (pc6 a) - nI (pc6 k) ↔ pc6 k < pc6 a := by rw [i32_gt, pc6_sub ha hk]; omega
theorem sub_z {a k : Nat} (ha : a < 64) (hk : k < 64) : nI (pc6 a) - nI (pc6 k) = 0 ↔ pc6 a = pc6 k := by rw [i32_z, pc6_sub ha hk]; omega
theorem x_ib_some {M : Nat → Nat → Nat} {a k : Nat} (hk : k < 64) : x_ib M a (nI k) = (decide (pc6 k < pc6 a) || (decide (pc6 a = pc6 k) && decide (x_wo M (nI k) < x_wo M (nI a)))) := by
  unfold x_ib
  rw [nI_clamp (by omega), decide_eq_false (nI_n9 k hk), Bool.false_or]
def x_rate (M : Nat → Nat → Nat) (k : Int32) (n : Nat) : Int32 := if k = 0 then nI (M 11 n) else if k = 1 then nI (M 11 n + M 15 (6 + n)) else if k = 2 then nI (M 11 n) - nI (pc6 (M 12 n)) else if k = 3 then nI (2 * (M 11 n + M 15 (6 + n))) else if k = 4 then (nI (M 11 n) - nI (pc6 (M 12 n))) + nI n else if k = 5 then nI (M 11 n + M 15 19) else -1000000
def x_tr (k : Int32) (t : Int64) : Int64 := if k = 0 then t + 1 else if k = 1 then t + 10 + 1 else if k = 2 then t + 100 + 1 else if k = 3 then t + 1000 + 10 + 1 else if k = 4 then t + 10000 + 100 + 1 else if k = 5 then t + 100000 + 1 else t
