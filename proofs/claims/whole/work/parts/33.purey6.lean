theorem row0_self (M : Nat → Nat → Nat) : va_up M 0 (M 0) = M := by
  funext a
  by_cases e : a = 0
  · subst e; rw [va_up_self]
  · rw [va_up_ne _ _ e]
theorem y_take_t {M : Nat → Nat → Nat} (h : M 0 8 = 0) : y_take M true = (M 0 7, y_adv M) := by unfold y_take y_adv; simp [h]
theorem y_take_f {M : Nat → Nat → Nat} (h : M 0 8 = 0) : y_take M false = (0, ms M 0 8 (M 0 6 + 1)) := by unfold y_take; simp [h, ms]
theorem y_take_n {M : Nat → Nat → Nat} {b : Bool} (h : ¬ M 0 8 = 0) : y_take M b = (0, M) := by unfold y_take; simp [h, row0_self]
def y_ri (M : Nat → Nat → Nat) (x : Nat) : Nat → Nat → Nat :=
  if x = 112 then (let r := y_take M (y_nc M 0 32); ms (ms r.2 3 (M 2 4) r.1) 2 4 (M 2 4 + 1))
  else if x = 110 then (let r := y_take M (y_nc M 1 100); let M1 := ms r.2 4 (6 + M 2 5) r.1; let r2 := y_take M1 (y_nc M1 0 32); let M2 := ms r2.2 5 (6 + M 2 5) r2.1; let r3 := y_take M2 (y_nc M2 0 (M 2 4)); let M3 := ms r3.2 6 (M 2 5) r3.1; ms M3 2 5 (M 2 5 + 1))
  else if x = 98 then (let r := y_take M (y_nc M 1 10); let M1 := ms r.2 2 6 r.1; ms M1 0 10 (M1 0 10 ||| 1))
  else (let r := y_take M (y_nc M 0 11); let M1 := ms r.2 2 7 r.1; ms M1 0 10 (M1 0 10 ||| 2))
/-- the reader's own bounds -/
def y_RB (M : Nat → Nat → Nat) : Prop := (∀ k j, M k j < 1024) ∧ M 0 3 ≤ 150 ∧ M 0 4 ≤ M 0 3 ∧ M 0 6 ≤ M 0 4 ∧ (M 0 5 ≠ 0 → M 0 6 < M 0 4)
def y_R0 (M : Nat → Nat → Nat) : Prop := (∀ k j, M k j < 1024) ∧ M 0 3 ≤ 150 ∧ M 0 4 ≤ M 0 3
theorem y_RB.r0 {M : Nat → Nat → Nat} (h : y_RB M) : y_R0 M := ⟨h.1, h.2.1, h.2.2.1⟩
theorem y_skip_le (M : Nat → Nat → Nat) : ∀ k i, i ≤ y_skip M k i ∧ y_skip M k i ≤ i + k
  | 0, i => ⟨Nat.le_refl _, Nat.le_refl _⟩
  | k + 1, i => by
    unfold y_skip
    split
    · have h := y_skip_le M k (i + 1); omega
    · omega
theorem y_num_le {M : Nat → Nat → Nat} : ∀ (k j v : Nat), v ≤ 999 → j ≤ (y_num M k j v).1 ∧ (y_num M k j v).1 ≤ j + k ∧ (y_num M k j v).2 ≤ 999
  | 0, j, v, h => ⟨Nat.le_refl _, Nat.le_refl _, h⟩
  | k + 1, j, v, h => by
    unfold y_num
    split
    · rename_i hd
      have h2 := y_dg_d hd
      have h1 := y_num_le (M := M) k (j + 1) (if 99 < v then v else 10 * v + M 1 j - 48) (by split <;> omega)
      omega
    · exact ⟨Nat.le_refl _, Nat.le_add_right _ _, h⟩
theorem y_i0_le {M : Nat → Nat → Nat} (h : M 0 4 ≤ M 0 3) : M 0 4 ≤ y_i0 M ∧ y_i0 M ≤ M 0 3 := by
  have := y_skip_le M (M 0 3 - M 0 4) (M 0 4)
  unfold y_i0
  omega
theorem y_jv_le {M : Nat → Nat → Nat} (h : y_i0 M ≤ M 0 3) : y_i0 M ≤ (y_jv M).1 ∧ (y_jv M).1 ≤ M 0 3 ∧ (y_jv M).2 ≤ 999 := by
  have h1 := y_num_le (M := M) (M 0 3 - y_i0 M) (y_i0 M) 0 (by decide)
  refine ⟨h1.1, ?_, h1.2.2⟩
  have h2 := h1.2.1
  show (y_num M (M 0 3 - y_i0 M) (y_i0 M) 0).1 ≤ M 0 3
  omega
theorem y_jv_gt {M : Nat → Nat → Nat} (h : y_i0 M < M 0 3) (hd : y_dg M (y_i0 M) = true) : y_i0 M < (y_jv M).1 := by
  unfold y_jv
  rw [show M 0 3 - y_i0 M = (M 0 3 - (y_i0 M + 1)) + 1 by omega]
  unfold y_num
  rw [if_pos hd]
  have h2 := y_dg_d hd
  have := (y_num_le (M := M) (M 0 3 - (y_i0 M + 1)) (y_i0 M + 1) (if 99 < 0 then 0 else 10 * 0 + M 1 (y_i0 M) - 48) (by split <;> omega)).1
  omega
/-- what advances keeps: rows but 0, and of row 0 all but four places -/
theorem y_a0_keep {M : Nat → Nat → Nat} {j : Nat} (h4 : j ≠ 4) (h5 : j ≠ 5) (h6 : j ≠ 6) (h7 : j ≠ 7) : y_a0 M j = M 0 j := by
  unfold y_a0
  (repeat' split) <;> simp only [va_up, h4, h5, h6, h7, if_false]
theorem y_a0_B {M : Nat → Nat → Nat} (h : y_R0 M) : ∀ j, y_a0 M j < 1024 := by
  obtain ⟨hB, hT, hX⟩ := h
  have hi := y_i0_le hX
  have hj := y_jv_le hi.2
  have h1 := hB 1 (y_i0 M)
  intro j
  have h0 := hB 0 j
  have hl : y_tl (M 1 (y_i0 M)) ≤ 4 := by unfold y_tl; (repeat' split) <;> omega
  unfold y_a0
  (repeat' split) <;> simp only [va_up] <;> (repeat' split) <;> omega
theorem y_adv_RB {M : Nat → Nat → Nat} (h : y_R0 M) : y_RB (y_adv M) := by
  have hB' := y_a0_B h
  obtain ⟨hB, hT, hX⟩ := h
  have hi := y_i0_le hX
  have hj := y_jv_le hi.2
  have k3 : y_a0 M 3 = M 0 3 := y_a0_keep (by decide) (by decide) (by decide) (by decide)
  refine ⟨hB_up hB hB', ?_, ?_, ?_, ?_⟩
  · show y_a0 M 3 ≤ 150
    rw [k3]; exact hT
  · show y_a0 M 4 ≤ y_a0 M 3
    rw [k3]
    unfold y_a0
    (repeat' split) <;> simp only [va_up] <;> (try simp) <;> omega
  · show y_a0 M 6 ≤ y_a0 M 4
    unfold y_a0
    (repeat' split) <;> simp only [va_up] <;> (try simp) <;> omega
  · show y_a0 M 5 ≠ 0 → y_a0 M 6 < y_a0 M 4
    unfold y_a0
    split
    · rename_i hz
      split
      · rename_i hd
        have := y_jv_gt hz hd
        intro _
        simp only [va_up]
        simpa using this
      · intro _
        simp [va_up]
    · intro q
      exact absurd (by simp [va_up]) q
theorem y_adv_place {M : Nat → Nat → Nat} (h : y_RB M) : M 0 4 ≤ y_adv M 0 6 := by
  have hi := y_i0_le h.2.2.1
  show M 0 4 ≤ y_a0 M 6
  unfold y_a0
  (repeat' split) <;> simp only [va_up] <;> (try simp) <;> omega
theorem y_take_RB {M : Nat → Nat → Nat} {b : Bool} (h : y_RB M) : y_RB (y_take M b).2 ∧ (y_take M b).1 < 1024 := by
  by_cases h8 : M 0 8 = 0
  · cases b
    · rw [y_take_f h8]
      obtain ⟨hB, hT, hX, hP, hQ⟩ := h
      exact ⟨⟨hB_ms hB (by omega), hT, hX, hP, hQ⟩, (by decide : 0 < 1024)⟩
    · rw [y_take_t h8]
      exact ⟨y_adv_RB h.r0, h.1 0 7⟩
  · rw [y_take_n h8]; exact ⟨h, (by decide : 0 < 1024)⟩
theorem y_RB_ms {M : Nat → Nat → Nat} {k j v : Nat} (h : y_RB M) (hk : k ≠ 0) (hv : v < 1024) : y_RB (ms M k j v) := by
  obtain ⟨hB, hT, hX, hP, hQ⟩ := h
  have e : ms M k j v 0 = M 0 := ms_o (fun q => hk q.symm)
  exact ⟨hB_ms hB hv, by rw [e]; exact hT, by rw [e]; exact hX, by rw [e]; exact hP, by rw [e]; exact hQ⟩
