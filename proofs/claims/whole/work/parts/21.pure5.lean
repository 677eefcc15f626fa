def x_rb (M : Nat → Nat → Nat) : Nat → Nat → Nat := (ms (ms (ms (ms (ms (ms (ms (ms M 4 (4) (0)) 4 (5) (0)) 4 (6) (3)) 4 (7) (3)) 3 (2) (0)) 3 (3) (0)) 3 (5) (0)) 3 (6) (0))
def x_bt (M : Nat → Nat → Nat) (a : Nat) : Bool := if x_dg M (nI a) then !(x_dg M (nI a - nI 1)) else decide (M 2 a ≠ 32)
def x_cb (M : Nat → Nat → Nat) (ch : Nat) : Bool := if ch = 98 then decide (M 3 5 = 0) else if ch = 110 then decide (M 4 5 < 6) else if ch = 112 then decide (M 4 4 < 5) else if ch = 115 then decide (M 3 6 = 0) else false
def x_bi (M : Nat → Nat → Nat) (ch : Nat) : Bool × (Nat → Nat → Nat) := if x_cb M ch then (true, ms (ms M 3 3 ch) 3 4 0) else (false, M)
def x_noi (M : Nat → Nat → Nat) : Nat := if M 3 3 = 110 then 3 else 1
def x_nl (M : Nat → Nat → Nat) : Nat → Nat → Nat → Nat
  | 0, _, v => v
  | k + 1, i, v => if x_dg M (nI i) then x_nl M k (i + 1) (min 100 (v * 10 + M 2 i - 48)) else v
def x_na (M : Nat → Nat → Nat) (a : Nat) : Nat := if M 2 a = 48 ∧ x_dg M (nI (a + 1)) = true then 100 else x_nl M (M 1 1 - a) a 0
def x_ln (M : Nat → Nat → Nat) : Nat := if M 3 3 = 98 then 1 else if M 3 3 = 110 then (if M 3 4 = 0 then 1 else 0) else 0
def x_mo (M : Nat → Nat → Nat) : Nat := if M 3 4 = 0 then 100 else if M 3 4 = 1 then 32 else M 4 4
def x_mx (M : Nat → Nat → Nat) : Nat := if M 3 3 = 98 then 10 else if M 3 3 = 110 then x_mo M else if M 3 3 = 115 then 11 else 32
def x_son (M : Nat → Nat → Nat) (n v : Nat) : Nat → Nat → Nat := if M 3 4 = 0 then ms M 6 n v else if M 3 4 = 1 then ms M 7 n v else ms M 8 n v
def x_st (M : Nat → Nat → Nat) (v : Nat) : Nat → Nat → Nat := if M 3 3 = 98 then ms M 4 6 v else if M 3 3 = 110 then x_son M (M 4 5) v else if M 3 3 = 112 then ms M 5 (M 4 4) v else ms M 4 7 v
def x_an (M : Nat → Nat → Nat) (v : Nat) : Bool × (Nat → Nat → Nat) := if x_ln M ≤ v ∧ v < x_mx M then (true, ms (x_st M v) 3 4 (x_st M v 3 4 + 1)) else (false, M)
def x_eiN (M : Nat → Nat → Nat) : Nat → Nat → Nat := if M 3 3 = 98 then ms M 3 5 1 else if M 3 3 = 110 then ms M 4 5 (M 4 5 + 1) else if M 3 3 = 112 then ms M 4 4 (M 4 4 + 1) else ms M 3 6 1
def x_ei (M : Nat → Nat → Nat) : Nat → Nat → Nat := ms (ms (x_eiN M) 3 3 0) 3 2 (M 3 2 + 1)
def x_acc (M : Nat → Nat → Nat) (a : Nat) : Bool × (Nat → Nat → Nat) := if M 3 3 = 0 then x_bi M (M 2 a) else if M 3 4 < x_noi M then (if x_dg M (nI a) then x_an M (x_na M a) else (false, M)) else if M 2 a = 59 then (true, x_ei M) else (false, M)
def x_rd : Nat → Nat → (Nat → Nat → Nat) → Int32 × (Nat → Nat → Nat)
  | 0, _, M => (if M 3 3 = 0 then nI (M 3 2) else -10 - nI (M 1 1), M)
  | k + 1, a, M => if x_bt M a then (if (x_acc M a).1 then x_rd k (a + 1) (x_acc M a).2 else (-10 - nI a, (x_acc M a).2)) else x_rd k (a + 1) M
theorem x_dg_ge {M : Nat → Nat → Nat} {j : Nat} (hj : j < 2 ^ 31) (hL : M 1 1 < 2 ^ 31) (h : x_dg M (nI j) = true) : j < M 1 1 ∧ 48 ≤ M 2 j ∧ M 2 j ≤ 57 := by
  rw [x_dg_nI hj hL] at h
  simp only [Bool.and_eq_true, decide_eq_true_eq] at h
  exact ⟨h.1, h.2.1, h.2.2⟩
/-- what holds while the text is read, at its letter a -/
def x_RI (M : Nat → Nat → Nat) (a : Nat) : Prop := (∀ k j, M k j < 1024) ∧ M 1 1 ≤ 150 ∧ M 3 2 ≤ a ∧ (M 3 3 = 112 → M 4 4 < 5) ∧ (M 3 3 = 110 → M 4 5 < 6) ∧ (∀ j, M 2 j ≤ 255)
theorem x_nl_le {M : Nat → Nat → Nat} : ∀ (k i v : Nat), v ≤ 100 → x_nl M k i v ≤ 100
  | 0, _, _, h => h
  | k + 1, i, v, h => by
    unfold x_nl
    split
    · exact x_nl_le k _ _ (Nat.min_le_left _ _)
    · exact h
theorem x_na_le {M : Nat → Nat → Nat} {a : Nat} : x_na M a ≤ 100 := by
  unfold x_na
  split
  · exact Nat.le_refl _
  · exact x_nl_le _ _ _ (by decide)
theorem x_son_34 {M : Nat → Nat → Nat} {n v : Nat} : ∀ k, k ≠ 6 → k ≠ 7 → k ≠ 8 → x_son M n v k = M k := by
  intro k h1 h2 h3
  unfold x_son
  split
  · exact ms_o h1
  · split
    · exact ms_o h2
    · exact ms_o h3
theorem x_st_row {M : Nat → Nat → Nat} {v : Nat} : ∀ k, k < 4 → x_st M v k = M k := by
  intro k h
  unfold x_st
  split
  · exact ms_o (by omega)
  · split
    · exact x_son_34 k (by omega) (by omega) (by omega)
    · split
      · exact ms_o (by omega)
      · exact ms_o (by omega)
theorem x_st_44 {M : Nat → Nat → Nat} {v j : Nat} (hj : j < 6) : x_st M v 4 j = M 4 j := by
  unfold x_st
  split
  · exact ms_ne (by omega)
  · split
    · exact congrFun (x_son_34 4 (by omega) (by omega) (by omega)) j
    · split
      · exact congrFun (ms_o (by omega)) j
      · exact ms_ne (by omega)
theorem x_st_B {M : Nat → Nat → Nat} {v : Nat} (hB : ∀ k j, M k j < 1024) (hv : v < 1024) : ∀ k j, x_st M v k j < 1024 := by
  unfold x_st x_son
  (repeat' split) <;> exact hB_ms hB hv
theorem x_eiN_B {M : Nat → Nat → Nat} {a : Nat} (h : x_RI M a) : ∀ k j, x_eiN M k j < 1024 := by
  obtain ⟨hB, -, -, h1, h2, -⟩ := h
  unfold x_eiN
  split
  · exact hB_ms hB (by decide)
  · split
    · rename_i q; have := h2 q; exact hB_ms hB (by omega)
    · split
      · rename_i q; have := h1 q; exact hB_ms hB (by omega)
      · exact hB_ms hB (by decide)
theorem x_eiN_row {M : Nat → Nat → Nat} : ∀ k, k < 3 → x_eiN M k = M k := by
  intro k h
  unfold x_eiN
  (repeat' split) <;> exact ms_o (by omega)
theorem x_eiN_32 {M : Nat → Nat → Nat} : x_eiN M 3 2 = M 3 2 := by
  unfold x_eiN
  split
  · exact ms_ne (by decide)
  · split
    · exact congrFun (ms_o (by decide)) 2
    · split
      · exact congrFun (ms_o (by decide)) 2
      · exact ms_ne (by decide)
theorem x_acc_RI {M : Nat → Nat → Nat} {a : Nat} (h : x_RI M a) (ha : a < 150) : x_RI (x_acc M a).2 (a + 1) ∧ (x_acc M a).2 1 = M 1 ∧ (x_acc M a).2 2 = M 2 := by
  have same : x_RI M (a + 1) ∧ M 1 = M 1 ∧ M 2 = M 2 := ⟨⟨h.1, h.2.1, Nat.le_succ_of_le h.2.2.1, h.2.2.2⟩, rfl, rfl⟩
  unfold x_acc
  split
  · unfold x_bi
    split
    · rename_i h0 hc
      obtain ⟨hB, hL, hi, h1, h2, hl⟩ := h
      refine ⟨⟨hB_ms (hB_ms hB (hB 2 a)) (by decide), hL, ?_, ?_, ?_, hl⟩, rfl, rfl⟩
      · show M 3 2 ≤ a + 1
        omega
      · intro q
        have q : M 2 a = 112 := q
        show M 4 4 < 5
        rw [q] at hc
        simpa [x_cb] using hc
      · intro q
        have q : M 2 a = 110 := q
        show M 4 5 < 6
        rw [q] at hc
        simpa [x_cb] using hc
    · exact same
  · split
    · rename_i hn
      split
      · unfold x_an
        split
        · obtain ⟨hB, hL, hi, h1, h2, hl⟩ := h
          have hv := x_na_le (M := M) (a := a)
          have r3 := x_st_row (M := M) (v := x_na M a) 3 (by decide)
          have r1 := x_st_row (M := M) (v := x_na M a) 1 (by decide)
          have r2 := x_st_row (M := M) (v := x_na M a) 2 (by decide)
          have r44 := x_st_44 (M := M) (v := x_na M a) (j := 4) (by decide)
          have r45 := x_st_44 (M := M) (v := x_na M a) (j := 5) (by decide)
          have hno : x_noi M ≤ 3 := by unfold x_noi; split <;> decide
          have key : x_RI (ms (x_st M (x_na M a)) 3 4 (x_st M (x_na M a) 3 4 + 1)) (a + 1) := by
            refine ⟨hB_ms (x_st_B hB (by omega)) (by rw [r3]; omega), ?_, ?_, ?_, ?_, ?_⟩
            · show x_st M (x_na M a) 1 1 ≤ 150
              rw [r1]; exact hL
            · show x_st M (x_na M a) 3 2 ≤ a + 1
              rw [r3]; omega
            · show x_st M (x_na M a) 3 3 = 112 → x_st M (x_na M a) 4 4 < 5
              rw [r3, r44]; exact h1
            · show x_st M (x_na M a) 3 3 = 110 → x_st M (x_na M a) 4 5 < 6
              rw [r3, r45]; exact h2
            · show ∀ j, x_st M (x_na M a) 2 j ≤ 255
              rw [r2]; exact hl
          exact ⟨key, r1, r2⟩
        · exact same
      · exact same
    · split
      · have hB' := x_eiN_B h
        obtain ⟨hB, hL, hi, h1, h2, hl⟩ := h
        have r1 := x_eiN_row (M := M) 1 (by decide)
        have r2 := x_eiN_row (M := M) 2 (by decide)
        refine ⟨⟨hB_ms (hB_ms hB' (by decide)) (by omega), ?_, ?_, ?_, ?_, ?_⟩, r1, r2⟩
        · show x_eiN M 1 1 ≤ 150
          rw [r1]; exact hL
        · show M 3 2 + 1 ≤ a + 1
          omega
        · exact fun q => absurd (show (0 : Nat) = 112 from q) (by decide)
        · exact fun q => absurd (show (0 : Nat) = 110 from q) (by decide)
        · show ∀ j, x_eiN M 2 j ≤ 255
          rw [r2]; exact hl
      · exact same
theorem x_ln_le {M : Nat → Nat → Nat} : x_ln M ≤ 1 := by unfold x_ln; (repeat' split) <;> decide
theorem x_mx_lt {M : Nat → Nat → Nat} (hB : ∀ k j, M k j < 1024) : x_mx M < 1024 := by
  have := hB 4 4
  unfold x_mx x_mo; (repeat' split) <;> omega
theorem le_sub1 {v b : Nat} (hv : v < 1024) (hb : b < 1024) : nI v ≤ nI b - nI 1 ↔ v < b := by
  rw [Int32.le_iff_toInt_le, pk_sub_toInt (by omega) (by decide), nI_toInt (by omega)]
  omega
theorem x_rb_RI {M : Nat → Nat → Nat} (hL : M 1 1 ≤ 150) (hlet : ∀ j, M 2 j ≤ 255) (hB : ∀ k j, M k j < 1024) : x_RI (x_rb M) 0 :=
  ⟨hB_ms (hB_ms (hB_ms (hB_ms (hB_ms (hB_ms (hB_ms (hB_ms hB (by decide)) (by decide)) (by decide)) (by decide)) (by decide)) (by decide)) (by decide)) (by decide), hL, Nat.le_refl 0, fun q => absurd (show (0 : Nat) = 112 from q) (by decide), fun q => absurd (show (0 : Nat) = 110 from q) (by decide), hlet⟩
def x_Z (M : Nat → Nat → Nat) : Int32 × (Nat → Nat → Nat) := x_rd (M 1 1) 0 (x_rb M)
def x_set (M : Nat → Nat → Nat) : Nat → Nat → Nat := ms (ms (ms (ms (ms (ms (x_bg (x_cp M)) 16 1 0) 16 2 0) 18 1 0) 21 4 0) 24 4 0) 1 1 0
def x_cty (M : Nat → Nat → Nat) : Int32 × (Nat → Nat → Nat) := if (0 : Int32) ≤ (x_Z M).1 then ((x_Z M).1, x_set (x_Z M).2) else x_Z M
