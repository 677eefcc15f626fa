def y_rateN (M : Nat → Nat → Nat) (k n : Nat) : Int32 := if k = 0 then nI (M 4 n) else if k = 1 then nI (M 4 n + M 7 (6 + n)) else if k = 2 then nI (M 4 n) - nI (pc6 (M 5 n)) else if k = 3 then nI (2 * (M 4 n + M 7 (6 + n))) else if k = 4 then (nI (M 4 n) - nI (pc6 (M 5 n))) + nI n else nI (M 4 n + M 7 19)
def y_trN (k : Nat) (t : Int64) : Int64 := if k = 0 then t + 1 else if k = 1 then t + 11 else if k = 2 then t + 101 else if k = 3 then t + 1011 else if k = 4 then t + 10101 else t + 100001
def y_rate (M : Nat → Nat → Nat) (x y : Int32) (t : Int64) : Int32 × Int64 := if inR x 6 = true ∧ inR y (M 2 1) = true then (y_rateN M x.toNatClampNeg y.toNatClampNeg, y_trN x.toNatClampNeg t) else (-1000000, t)
def y_mb (M : Nat → Nat → Nat) (a z : Nat) : Bool := decide (z = 0 ∧ ∀ i, i < M 0 22 → (a &&& M 7 (14 + M 11 i) = 0 ↔ M 12 i = 1))
theorem mb_t {P : Nat → Prop} {Z : Prop} {n : Nat} {b : Bool} (h : b = true ↔ (Z ∧ ∀ i, i < n → P i)) (hb : b = true) (hp : P n) : true = true ↔ (Z ∧ ∀ i, i < n + 1 → P i) := ⟨fun _ => ⟨(h.mp hb).1, lt_succ_all (h.mp hb).2 hp⟩, fun _ => rfl⟩
theorem mb_f1 {P : Nat → Prop} {Z : Prop} {n : Nat} {b : Bool} (h : b = true ↔ (Z ∧ ∀ i, i < n → P i)) (hb : b = false) : false = true ↔ (Z ∧ ∀ i, i < n + 1 → P i) := ⟨fun q => (by cases q), fun q => hb ▸ h.mpr ⟨q.1, fun i hi => q.2 i (Nat.lt_succ_of_lt hi)⟩⟩
theorem mb_f2 {P : Nat → Prop} {Z : Prop} {n : Nat} (hp : ¬ P n) : false = true ↔ (Z ∧ ∀ i, i < n + 1 → P i) := ⟨fun q => (by cases q), fun q => absurd (q.2 n (Nat.lt_succ_self n)) hp⟩
theorem mb_0t {P : Nat → Prop} {Z : Prop} (hz : Z) : true = true ↔ (Z ∧ ∀ i, i < 0 → P i) := ⟨fun _ => ⟨hz, fun i h => absurd h (Nat.not_lt_zero i)⟩, fun _ => rfl⟩
theorem mb_0f {P : Nat → Prop} {Z : Prop} (hz : ¬ Z) : false = true ↔ (Z ∧ ∀ i, i < 0 → P i) := ⟨fun q => (by cases q), fun q => absurd q.1 hz⟩
theorem mb_e {b : Bool} {P : Prop} [Decidable P] (h : b = true ↔ P) : some (Value.int (nI (bN b))) = some (.int (nI (bN (decide P)))) := by
  rw [show b = decide P from Bool.eq_iff_iff.mpr (h.trans decide_eq_true_iff.symm)]
def y_cf (M : Nat → Nat → Nat) : Nat → Nat × Int32 × Nat := foldTo (fun a z => if y_mb M a 0 then (z.1 + 1, (if z.1 = 0 then nI a else z.2.1), z.2.2 &&& a) else z) (0, -9, 31)
theorem y_cf_s (M : Nat → Nat → Nat) (a : Nat) : y_cf M (a + 1) = if y_mb M a 0 then ((y_cf M a).1 + 1, (if (y_cf M a).1 = 0 then nI a else (y_cf M a).2.1), (y_cf M a).2.2 &&& a) else y_cf M a := rfl
def y_canBeN (M : Nat → Nat → Nat) (k : Nat) : Int32 := if k = 0 then nI (y_cf M 32).1 else if k = 1 ∨ (y_cf M 32).1 = 0 then (y_cf M 32).2.1 else nI (y_cf M 32).2.2
def y_canBe (M : Nat → Nat → Nat) (y : Int32) : Int32 := if inR y 3 then y_canBeN M y.toNatClampNeg else -1
def y_yf (M : Nat → Nat → Nat) (y : Nat) : Bool := decide (True ∧ ∀ i, i < M 0 25 → (y ≤ M 13 i ↔ M 14 i = 1))
def y_yrf (M : Nat → Nat → Nat) : Nat → Nat := foldTo (fun i a => if y_yf M (i + 1) then a ||| (1 * 2 ^ (i + 1)) else a ||| 0) 0
def y_all (M : Nat → Nat → Nat) : Nat → Nat := sumTo (fun a => bN (y_mb M a 0))
def y_yes (M : Nat → Nat → Nat) (q : Nat) : Nat → Nat := sumTo (fun a => bN (y_mb M a (a &&& M 7 (14 + q))))
def y_mr (M : Nat → Nat → Nat) (q : Nat) : Nat := if y_yes M q 32 ≤ y_all M 32 - y_yes M q 32 then y_all M 32 - y_yes M q 32 else y_yes M q 32
def y_shf (M : Nat → Nat → Nat) : Nat → Int32 × Nat := foldTo (fun q z => if y_mr M q < z.2 then (nI q, y_mr M q) else z) (-9, 1000000)
theorem y_shf_s (M : Nat → Nat → Nat) (q : Nat) : y_shf M (q + 1) = if y_mr M q < (y_shf M q).2 then (nI q, y_mr M q) else y_shf M q := rfl
def y_show (M : Nat → Nat → Nat) : Int32 := if y_all M 32 ≤ 1 then -9 else (y_shf M (M 2 0)).1
theorem y_yes_le (M : Nat → Nat → Nat) (q : Nat) : y_yes M q 32 ≤ y_all M 32 := by
  refine sumTo_le (fun a => ?_) 32
  unfold y_mb
  by_cases h : (a &&& M 7 (14 + q) = 0 ∧ ∀ i, i < M 0 22 → (a &&& M 7 (14 + M 11 i) = 0 ↔ M 12 i = 1))
  · rw [decide_eq_true h, decide_eq_true ⟨rfl, h.2⟩]; exact Nat.le_refl _
  · rw [decide_eq_false h]; exact Nat.zero_le _
theorem y_all_le (M : Nat → Nat → Nat) : y_all M 32 ≤ 32 := sumTo_bn _ 32
def y_bit (a n : Nat) : Bool := decide (a / 2 ^ n % 2 = 1)
def y_bad (M : Nat → Nat → Nat) (a n : Nat) : Bool := y_bit a n && (decide (M 5 n = 0) || (y_pa M n || y_aw M n))
def y_wof (M : Nat → Nat → Nat) (a : Nat) (b : Bool) : Nat → Nat := sumTo (fun n => if y_bit a n = true then M 4 n else if b = true ∧ y_pa M n = true ∧ y_aw M n = false then M 4 n else 0)
def y_wo (M : Nat → Nat → Nat) (a : Nat) (b : Bool) : Nat := match findTo (y_bad M a) 0 (M 2 1) with
  | some _ => 1000000
  | none => y_wof M a b (M 2 1)
theorem y_wof_le {M : Nat → Nat → Nat} (hB : ∀ k j, M k j < 1024) (a : Nat) (b : Bool) : ∀ n, y_wof M a b n ≤ n * 1024
  | 0 => Nat.le_refl _
  | n + 1 => by
    have h := y_wof_le hB a b n
    have h2 := hB 4 n
    have h3 : (if y_bit a n = true then M 4 n else if b = true ∧ y_pa M n = true ∧ y_aw M n = false then M 4 n else 0) ≤ 1024 := by
      (repeat' split) <;> omega
    exact Nat.le_trans (Nat.add_le_add h h3) (Nat.le_of_eq (Nat.succ_mul n 1024).symm)
theorem y_wo_le {M : Nat → Nat → Nat} (hB : ∀ k j, M k j < 1024) (hN : M 2 1 ≤ 6) (a : Nat) (b : Bool) : y_wo M a b ≤ 1000000 := by
  have h := y_wof_le hB a b (M 2 1)
  unfold y_wo
  split
  · exact Nat.le_refl _
  · omega
def y_may (M : Nat → Nat → Nat) (a : Nat) : Bool := decide (y_wo M a true ≠ 1000000) && decide (10 * y_wo M a true ≤ M 2 3 * y_wal M false (M 2 1))
def y_more (M : Nat → Nat → Nat) (a : Nat) (b : Int32) : Bool := decide (b = -9) || (decide (pc6 b.toNatClampNeg < pc6 a) || (decide (pc6 a = pc6 b.toNatClampNeg) && decide (y_wo M b.toNatClampNeg false < y_wo M a false)))
def y_lf (M : Nat → Nat → Nat) : Nat → Int32 := foldTo (fun a b => if y_may M a = true ∧ y_more M a b = true then nI a else b) (-9)
theorem y_lf_s (M : Nat → Nat → Nat) (a : Nat) : y_lf M (a + 1) = if y_may M a = true ∧ y_more M a (y_lf M a) = true then nI a else y_lf M a := rfl
def y_letIn (M : Nat → Nat → Nat) (y : Int32) : Int32 := if inR y 2 then (if y_lf M (1 * 2 ^ (M 2 1)) = -9 ∨ y.toNatClampNeg = 0 then y_lf M (1 * 2 ^ (M 2 1)) else nI (y_wo M (y_lf M (1 * 2 ^ (M 2 1))).toNatClampNeg false)) else -1
theorem oS_ne {b : Int32} (h : oS b) (h2 : ¬ b = -9) : ∃ k, k < 64 ∧ b = nI k := h.elim (fun q => absurd q h2) id
theorem y_wal_le {M : Nat → Nat → Nat} (hB : ∀ k j, M k j < 1024) (b : Bool) : ∀ n, y_wal M b n ≤ n * 1024
  | 0 => Nat.le_refl _
  | n + 1 => by
    have h := y_wal_le hB b n
    have h2 := hB 4 n
    have h3 : (if y_aw M n = true then 0 else if b = true then (if 0 < M 5 n then M 4 n else 0) else M 4 n) ≤ 1024 := by
      (repeat' split) <;> omega
    exact Nat.le_trans (Nat.add_le_add h h3) (Nat.le_of_eq (Nat.succ_mul n 1024).symm)
theorem y_more_s {M : Nat → Nat → Nat} {a k : Nat} (hk : k < 64) : y_more M a (nI k) = (decide (pc6 k < pc6 a) || (decide (pc6 a = pc6 k) && decide (y_wo M k false < y_wo M a false))) := by
  unfold y_more
  rw [nI_clamp (by omega), decide_eq_false (nI_n9 k hk), Bool.false_or]
def y_rz (a h : Nat) : Bool := decide (((nI a) &&& ((nI (1 * 2 ^ h)) ^^^ (-1))) = 0)
def y_ps (a h : Nat) : Nat := if y_rz a h = true then 0 else if 1 < pc6 a then 1000000 else 1
def y_tillN (M : Nat → Nat → Nat) (n : Nat) : Int32 := if y_ps (y_tk M n (y_pa M n)) (M 7 n) = 1000000 then -5 else if 0 < M 5 n ∧ 0 < y_ps (y_tk M n (y_pa M n)) (M 7 n) ∧ M 2 2 ≤ M 7 (6 + n) + y_ps (y_tk M n (y_pa M n)) (M 7 n) ∧ 1 < M 2 0 then -5 else nI (y_ps (y_tk M n (y_pa M n)) (M 7 n))
def y_till (M : Nat → Nat → Nat) (x : Int32) : Int32 := if inR x (M 2 1) then (if y_aw M x.toNatClampNeg then -2 else y_tillN M x.toNatClampNeg) else -1
theorem y_ps_le (a h : Nat) : y_ps a h ≤ 1000000 := by unfold y_ps; (repeat' split) <;> decide
