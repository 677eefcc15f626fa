/-! letIn -/
section REL6
variable {X Y : Nat → Nat → Nat}
theorem andnot : ∀ f, f < 64 → ∀ a, a < 64 → (nI f) &&& ((nI a) ^^^ (-1)) = nI (f &&& (63 ^^^ a)) := by decide +kernel
theorem bit63 : ∀ n, n < 6 → Nat.testBit 63 n = true := by decide
theorem tb_andnot {f a n : Nat} (hn : n < 6) : (f &&& (63 ^^^ a)).testBit n = (f.testBit n && !(a.testBit n)) := by
  rw [Nat.testBit_and, Nat.testBit_xor, bit63 n hn, Bool.true_xor]
def impB (a o n : Nat) : Bool := !(a.testBit n) || o.testBit n
theorem sub0B : ∀ a, a < 64 → ∀ o, o < 64 → decide (a &&& (63 ^^^ o) = 0) = (impB a o 0 && (impB a o 1 && (impB a o 2 && (impB a o 3 && (impB a o 4 && impB a o 5))))) := by decide +kernel
theorem impB_of {a o n : Nat} : impB a o n = true ↔ (a.testBit n = true → o.testBit n = true) := by
  unfold impB
  cases a.testBit n <;> cases o.testBit n <;> decide
def o_o (X : Nat → Nat → Nat) : Nat := (x_fn X &&& (63 ^^^ X 15 18)) &&& (63 ^^^ X 15 17)
def vld (X : Nat → Nat → Nat) (a : Nat) : Prop := ∀ n, n < 6 → a.testBit n = true → (o_o X).testBit n = true
theorem y_bit_tb (a n : Nat) : y_bit a n = a.testBit n := by unfold y_bit; rw [Nat.testBit_eq_decide_div_mod_eq]
theorem Rel.oo (h : Rel X Y) : o_o X < 64 ∧ x_open X = nI (o_o X) := by
  have hN := h.N
  have hf := x_fn_lt hN
  have h1 : x_fn X &&& (63 ^^^ X 15 18) < 64 := Nat.lt_of_le_of_lt Nat.and_le_left hf
  refine ⟨Nat.lt_of_le_of_lt Nat.and_le_left h1, ?_⟩
  unfold x_open o_o
  rw [andnot _ hf _ h.aw6, andnot _ h1 _ h.pa6]
theorem Rel.fnb (h : Rel X Y) {n : Nat} (hn : n < 6) : (x_fn X).testBit n = (decide (n < X 9 5) && decide (0 < X 12 n)) := by
  have hN := h.N
  have hf := x_fn_lt hN
  rw [← hb_nI (show x_fn X < 2 ^ 31 by omega) (show n < 32 by omega)]
  exact (x_fn_bits X (X 9 5) hN).2 n hn
theorem Rel.oob (h : Rel X Y) {n : Nat} (hn : n < 6) : (o_o X).testBit n = (((decide (n < X 9 5) && decide (0 < X 12 n)) && !(hb (nI (X 15 18)) n)) && !(hb (nI (X 15 17)) n)) := by
  have ha := h.aw6
  have hp := h.pa6
  unfold o_o
  rw [tb_andnot hn, tb_andnot hn, h.fnb hn, hb_nI (show X 15 18 < 2 ^ 31 by omega) (show n < 32 by omega), hb_nI (show X 15 17 < 2 ^ 31 by omega) (show n < 32 by omega)]
theorem Rel.sub (h : Rel X Y) {a : Nat} (ha : a < 64) : (nI a) &&& (x_open X ^^^ (-1)) = 0 ↔ vld X a := by
  obtain ⟨h1, h2⟩ := h.oo
  rw [h2, andnot _ ha _ h1]
  have e : a &&& (63 ^^^ o_o X) = 0 ↔ vld X a := by
    rw [← decide_eq_true_eq (p := a &&& (63 ^^^ o_o X) = 0), sub0B a ha (o_o X) h1]
    simp only [Bool.and_eq_true, impB_of]
    constructor
    · intro q n hn
      rcases (by omega : n = 0 ∨ n = 1 ∨ n = 2 ∨ n = 3 ∨ n = 4 ∨ n = 5) with rfl | rfl | rfl | rfl | rfl | rfl
      · exact q.1
      · exact q.2.1
      · exact q.2.2.1
      · exact q.2.2.2.1
      · exact q.2.2.2.2.1
      · exact q.2.2.2.2.2
    · intro q
      exact ⟨q 0 (by decide), q 1 (by decide), q 2 (by decide), q 3 (by decide), q 4 (by decide), q 5 (by decide)⟩
  have e0 : nI (a &&& (63 ^^^ o_o X)) = 0 ↔ a &&& (63 ^^^ o_o X) = 0 := nI_eq (Nat.lt_of_le_of_lt Nat.and_le_left (by omega)) (by decide : 0 < 2 ^ 31)
  exact e0.trans e
theorem findTo_inv (f : Nat → Bool) : ∀ (k i : Nat), findTo f i k = none → ∀ j, i ≤ j → j < i + k → f j = false
  | 0, i, _, j, h1, h2 => by omega
  | k + 1, i, h, j, h1, h2 => by
    unfold findTo at h
    by_cases e : f i = true
    · rw [if_pos e] at h; cases h
    · rw [if_neg e] at h
      by_cases ej : j = i
      · rw [ej, ← Bool.not_eq_true]; exact e
      · exact findTo_inv f k (i + 1) h j (by omega) (by omega)
theorem Rel.bad (h : Rel X Y) {a n : Nat} (hn : n < X 9 5) : y_bad Y a n = (a.testBit n && !((o_o X).testBit n)) := by
  have hN := h.N
  unfold y_bad
  rw [y_bit_tb, h.mk hn, h.ypa (by omega), h.yaw (by omega), h.oob (by omega), decide_eq_true hn, Bool.true_and]
  by_cases c : 0 < X 12 n
  · rw [decide_eq_true c, decide_eq_false (show ¬ X 12 n = 0 by omega)]
    cases a.testBit n <;> cases hb (nI (X 15 18)) n <;> cases hb (nI (X 15 17)) n <;> rfl
  · rw [decide_eq_false c, decide_eq_true (show X 12 n = 0 by omega)]
    cases a.testBit n <;> cases hb (nI (X 15 18)) n <;> cases hb (nI (X 15 17)) n <;> rfl
theorem Rel.vnone (h : Rel X Y) {a : Nat} (ha : a < 2 ^ (X 9 5)) : findTo (y_bad Y a) 0 (X 9 5) = none ↔ vld X a := by
  have hN := h.N
  constructor
  · intro q n hn ht
    have hnN : n < X 9 5 := by
      rcases Nat.lt_or_ge n (X 9 5) with z | z
      · exact z
      · exfalso
        rw [Nat.testBit_lt_two_pow (Nat.lt_of_lt_of_le ha (Nat.pow_le_pow_right (by decide) z))] at ht
        cases ht
    have z := findTo_inv _ _ _ q n (Nat.zero_le _) (by omega)
    rw [h.bad hnN, ht, Bool.true_and] at z
    simpa using z
  · intro q
    refine findTo_none _ _ _ (fun j _ hj => ?_)
    rw [h.bad (show j < X 9 5 by omega)]
    by_cases e : a.testBit j = true
    · rw [e, q j (by omega) e]; rfl
    · rw [Bool.not_eq_true] at e
      rw [e]; rfl
theorem Rel.vbig (h : Rel X Y) {a : Nat} (ha : a < 64) (hb : 2 ^ (X 9 5) ≤ a) : ¬ vld X a := by
  have hN := h.N
  intro q
  have : a < 2 ^ (X 9 5) := by
    refine Nat.lt_pow_two_of_testBit a (fun i hi => ?_)
    rcases Nat.lt_or_ge i 6 with z | z
    · by_cases e : a.testBit i = true
      · have := q i z e
        rw [h.oob z, decide_eq_false (show ¬ i < X 9 5 by omega)] at this
        cases this
      · rw [← Bool.not_eq_true]; exact e
    · exact Nat.testBit_lt_two_pow (Nat.lt_of_lt_of_le (show a < 2 ^ 6 from ha) (Nat.pow_le_pow_right (by decide) z))
  omega
theorem Rel.bsf_big (h : Rel X Y) : ∀ d, 2 ^ (X 9 5) + d ≤ 64 → x_bsf X (2 ^ (X 9 5) + d) = x_bsf X (2 ^ (X 9 5))
  | 0, _ => rfl
  | d + 1, hd => by
    rw [show 2 ^ (X 9 5) + (d + 1) = (2 ^ (X 9 5) + d) + 1 from rfl, x_bsf_s, if_neg, h.bsf_big d (by omega)]
    intro q
    exact h.vbig (by omega) (Nat.le_add_right _ _) ((h.sub (by omega)).mp q.1)
theorem sumTo_add {f g : Nat → Nat} : ∀ k, sumTo (fun n => f n + g n) k = sumTo f k + sumTo g k
  | 0 => rfl
  | k + 1 => by
    show sumTo (fun n => f n + g n) k + (f k + g k) = (sumTo f k + f k) + (sumTo g k + g k)
    rw [sumTo_add k]; omega
theorem Rel.wof_f (h : Rel X Y) {a : Nat} (ha : a < 64) : y_wof Y a false (X 9 5) = x_wo X (nI a) := by
  have hN := h.N
  unfold y_wof x_wo
  refine sumTo_congr (fun n hn => ?_)
  rw [y_bit_tb, hb_nI (show a < 2 ^ 31 by omega) (show n < 32 by omega), h.wo hn]
  cases a.testBit n <;> rfl
theorem Rel.wof_t (h : Rel X Y) {a : Nat} (ha : a < 64) (hv : vld X a) : y_wof Y a true (X 9 5) = x_wo X (nI a) + x_wo X ((nI (X 15 17)) &&& ((nI (X 15 18)) ^^^ (-1))) := by
  have hN := h.N
  unfold y_wof x_wo
  rw [← sumTo_add]
  refine sumTo_congr (fun n hn => ?_)
  rw [y_bit_tb, hb_nI (show a < 2 ^ 31 by omega) (show n < 32 by omega), h.wo hn, h.ypa (by omega), h.yaw (by omega), hb_andnot _ h.aw6 _ h.pa6 _ (by omega)]
  by_cases e : a.testBit n = true
  · have z := hv n (by omega) e
    rw [h.oob (by omega), Bool.and_eq_true, Bool.not_eq_true'] at z
    rw [e, z.2]
    simp
  · rw [Bool.not_eq_true] at e
    rw [e]
    cases hb (nI (X 15 18)) n <;> cases hb (nI (X 15 17)) n <;> simp
theorem Rel.may (h : Rel X Y) {a : Nat} (ha : a < 2 ^ (X 9 5)) (ha6 : a < 64) : y_may Y a = true ↔ ((nI a) &&& (x_open X ^^^ (-1)) = 0 ∧ ¬ x_room X < nI (10 * x_wo X (nI a))) := by
  have hN := h.N
  rw [h.sub ha6]
  unfold y_may
  rw [Bool.and_eq_true, decide_eq_true_eq, decide_eq_true_eq, h.eN, h.eS, h.wa]
  have b1 := x_wo_le h.xB hN (nI a)
  have b2 := x_wo_le h.xB hN ((nI (X 15 17)) &&& ((nI (X 15 18)) ^^^ (-1)))
  have b3 : x_wa X ≤ 6144 := x_wo_le h.xB hN _
  have b4 := h.xB 9 7
  have b5 : X 9 7 * x_wa X ≤ 1024 * 6144 := Nat.mul_le_mul (by omega) b3
  have er : ¬ x_room X < nI (10 * x_wo X (nI a)) ↔ 10 * (x_wo X (nI a) + x_wo X ((nI (X 15 17)) &&& ((nI (X 15 18)) ^^^ (-1)))) ≤ X 9 7 * x_wa X := by
    unfold x_room
    rw [Int32.lt_iff_toInt_lt, pk_sub_toInt (by omega) (by omega), nI_toInt (by omega)]
    omega
  rw [er]
  unfold y_wo
  rw [h.eN]
  by_cases hv : vld X a
  · rw [(h.vnone ha).mpr hv]
    show (y_wof Y a true (X 9 5) ≠ 1000000 ∧ 10 * y_wof Y a true (X 9 5) ≤ _) ↔ _
    rw [h.wof_t ha6 hv]
    constructor
    · intro q; exact ⟨hv, q.2⟩
    · intro q; exact ⟨by omega, q.2⟩
  · have hs : ∃ z, findTo (y_bad Y a) 0 (X 9 5) = some z := by
      cases e : findTo (y_bad Y a) 0 (X 9 5) with
      | none => exact absurd ((h.vnone ha).mp e) hv
      | some z => exact ⟨z, rfl⟩
    obtain ⟨z, hz⟩ := hs
    rw [hz]
    constructor
    · intro q; exact absurd rfl q.1
    · intro q; exact absurd q.1 hv
theorem Rel.wo_v (h : Rel X Y) {a : Nat} (ha : a < 2 ^ (X 9 5)) (ha6 : a < 64) (hv : vld X a) : y_wo Y a false = x_wo X (nI a) := by
  unfold y_wo
  rw [h.eN, (h.vnone ha).mpr hv]
  exact h.wof_f ha6
theorem Rel.lf (h : Rel X Y) : ∀ k, k ≤ 2 ^ (X 9 5) → x_bsf X k = y_lf Y k ∧ (y_lf Y k = -9 ∨ ∃ c, c < k ∧ y_lf Y k = nI c ∧ vld X c) := by
  have hN := h.N
  have h64 : 2 ^ (X 9 5) ≤ 64 := Nat.pow_le_pow_right (by decide) hN
  intro k
  induction k with
  | zero => intro _; exact ⟨rfl, Or.inl rfl⟩
  | succ k ih =>
    intro hk
    obtain ⟨i1, i2⟩ := ih (by omega)
    rw [x_bsf_s, y_lf_s, i1]
    have hm := h.may (a := k) (by omega) (by omega)
    by_cases cm : y_may Y k = true
    · have cx := hm.mp cm
      have hv : vld X k := (h.sub (by omega)).mp cx.1
      have ew : x_ib X k (y_lf Y k) = y_more Y k (y_lf Y k) := by
        rcases i2 with z | ⟨c, hc, z, hvc⟩
        · rw [z]; rfl
        · rw [z, x_ib_some (by omega), y_more_s (by omega), h.wo_v (by omega) (by omega) hvc, h.wo_v (by omega) (by omega) hv]
      rw [ew]
      by_cases c2 : y_more Y k (y_lf Y k) = true
      · rw [if_pos ⟨cx.1, cx.2, c2⟩, if_pos ⟨cm, c2⟩]
        exact ⟨rfl, Or.inr ⟨k, by omega, rfl, hv⟩⟩
      · rw [if_neg (fun q => c2 q.2.2), if_neg (fun q => c2 q.2)]
        refine ⟨rfl, ?_⟩
        rcases i2 with z | ⟨c, hc, z⟩
        · exact Or.inl z
        · exact Or.inr ⟨c, by omega, z⟩
    · rw [if_neg (fun q => cm (hm.mpr ⟨q.1, q.2.1⟩)), if_neg (fun q => cm q.1)]
      refine ⟨rfl, ?_⟩
      rcases i2 with z | ⟨c, hc, z⟩
      · exact Or.inl z
      · exact Or.inr ⟨c, by omega, z⟩
theorem eq_letIn (h : Rel X Y) (y : Int32) : x_letIn X y = y_letIn Y y := by
  have hN := h.N
  have h64 : 2 ^ (X 9 5) ≤ 64 := Nat.pow_le_pow_right (by decide) hN
  obtain ⟨l1, l2⟩ := h.lf (2 ^ (X 9 5)) (Nat.le_refl _)
  have hb : x_bs X = y_lf Y (2 ^ (X 9 5)) := by
    have z := h.bsf_big (64 - 2 ^ (X 9 5)) (by omega)
    rw [show 2 ^ (X 9 5) + (64 - 2 ^ (X 9 5)) = 64 by omega] at z
    unfold x_bs
    rw [z, l1]
  unfold x_letIn y_letIn
  rw [yn_in, h.eN, Nat.one_mul, hb]
  by_cases hy : inR y 2 = true
  · obtain ⟨k, hk, rfl⟩ := inR_of (by decide) hy
    rw [if_pos hy, if_pos hy, nI_clamp (show k < 2 ^ 31 by omega)]
    have ek : nI k = 0 ↔ k = 0 := nI_eq (by omega) (by decide : 0 < 2 ^ 31)
    by_cases c : y_lf Y (2 ^ (X 9 5)) = -9 ∨ k = 0
    · rw [if_pos (c.imp id ek.mpr), if_pos c]
    · rw [if_neg (fun q => c (q.imp id ek.mp)), if_neg c]
      rcases l2 with z | ⟨e, he, z, hv⟩
      · exact absurd (Or.inl z) c
      · rw [z, nI_clamp (by omega), h.wo_v he (by omega) hv]
  · rw [if_neg hy, if_neg hy]
end REL6
