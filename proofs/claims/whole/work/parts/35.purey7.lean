/-- three rows filled side by side -/
def tri (Z : Nat → Nat → Nat) (f4 f5 f7 : Nat → Nat) (n : Nat) : Nat → Nat → Nat := fillR (fillR (fillR Z 4 f4 n) 5 f5 n) 7 f7 n
theorem tri_0 (Z : Nat → Nat → Nat) (f4 f5 f7 : Nat → Nat) : tri Z f4 f5 f7 0 = Z := by unfold tri; rw [fill_0, fill_0, fill_0]
theorem tri_row {Z : Nat → Nat → Nat} {f4 f5 f7 : Nat → Nat} {n a b : Nat} : tri Z f4 f5 f7 n a b = if a = 7 then (if b < n then f7 b else Z 7 b) else if a = 5 then (if b < n then f5 b else Z 5 b) else if a = 4 then (if b < n then f4 b else Z 4 b) else Z a b := by
  unfold tri
  by_cases h7 : a = 7
  · subst h7; rw [if_pos rfl]; split
    · rename_i h; exact fill_lo h
    · rename_i h; rw [fill_hi (by omega), fill_o (by decide), fill_o (by decide)]
  · rw [if_neg h7, fill_o h7]
    by_cases h5 : a = 5
    · subst h5; rw [if_pos rfl]; split
      · rename_i h; exact fill_lo h
      · rename_i h; rw [fill_hi (by omega), fill_o (by decide)]
    · rw [if_neg h5, fill_o h5]
      by_cases h4 : a = 4
      · subst h4; rw [if_pos rfl]; split
        · rename_i h; exact fill_lo h
        · rename_i h; rw [fill_hi (by omega)]
      · rw [if_neg h4, fill_o h4]
theorem tri_s {Z : Nat → Nat → Nat} {f4 f5 f7 : Nat → Nat} {n v4 v5 v7 : Nat} (h4 : v4 = f4 n) (h5 : v5 = f5 n) (h7 : v7 = f7 n) : ms (ms (ms (tri Z f4 f5 f7 n) 4 n v4) 5 n v5) 7 n v7 = tri Z f4 f5 f7 (n + 1) := by
  subst h4; subst h5; subst h7
  funext a b
  rw [ms_if, ms_if, ms_if, tri_row, tri_row]
  (repeat' split) <;> first | rfl | (exfalso; omega) | (simp_all <;> done) | (congr 1; omega)
def y_z1 (M : Nat → Nat → Nat) : Nat → Nat → Nat := fillR (fillR M 2 (fun j => M 2 (4 + j)) 4) 7 (fun _ => 0) 20
def y_z2 (M : Nat → Nat → Nat) (n : Nat) : Nat → Nat → Nat := tri (y_z1 M) (fun j => M 4 (6 + j)) (fun j => M 5 (6 + j)) (fun j => if j < M 2 5 then M 6 j else 0) n
def y_f4 (M : Nat → Nat → Nat) (j : Nat) : Nat := if j < M 2 4 then M 3 j else 0
def y_z3 (M : Nat → Nat → Nat) (n : Nat) : Nat → Nat → Nat := va_up (y_z2 M 6) 7 (va_cpy (y_f4 M) (y_z2 M 6 7) 0 14 n)
def y_set (M : Nat → Nat → Nat) : Nat → Nat → Nat := ms (ms (ms (ms (ms (ms (y_z3 M 5) 0 3 0) 0 22 0) 0 25 0) 0 19 0) 9 0 0) 9 1 0
def y_c1 (M : Nat → Nat → Nat) : Bool := decide (M 0 5 = 1) && y_mbg M
def y_it1 (M : Nat → Nat → Nat) : Nat × (Nat → Nat → Nat) := y_take M (y_c1 M)
def y_it2 (M : Nat → Nat → Nat) : Nat → Nat → Nat := if (y_it1 M).2 0 8 = 0 then y_ri (y_it1 M).2 (y_it1 M).1 else (y_it1 M).2
def y_item (M : Nat → Nat → Nat) : Nat → Nat → Nat := (y_take (y_it2 M) (decide (y_it2 M 0 5 = 3))).2
def y_end (M : Nat → Nat → Nat) (k : Nat) : Int32 × (Nat → Nat → Nat) := if M 0 8 = 0 then (nI k, y_set M) else (-10 - (nI (M 0 8) - 1), M)
def y_loop : Nat → Nat → (Nat → Nat → Nat) → Int32 × (Nat → Nat → Nat)
  | 0, k, M => y_end M k
  | f + 1, k, M => if M 0 8 = 0 ∧ M 0 5 ≠ 0 then y_loop f (k + 1) (y_item M) else y_end M k
def y_c0 (M : Nat → Nat → Nat) : Nat → Nat → Nat := y_adv (y_bgs (ms (ms M 0 8 0) 0 4 0))
def y_cty (M : Nat → Nat → Nat) : Int32 × (Nat → Nat → Nat) := y_loop (M 0 3 + 1) 0 (y_c0 M)
/-- while the country is read: items told so far -/
def y_CI (T : Nat) (M : Nat → Nat → Nat) (n : Nat) : Prop := y_RB M ∧ M 0 3 = T ∧ M 2 4 ≤ 5 ∧ M 2 5 ≤ 6 ∧ M 0 10 < 4 ∧ (M 0 8 = 0 → n ≤ M 0 6)
theorem y_take_keep {M : Nat → Nat → Nat} {b : Bool} {j : Nat} (h4 : j ≠ 4) (h5 : j ≠ 5) (h6 : j ≠ 6) (h7 : j ≠ 7) (h8 : j ≠ 8) : (y_take M b).2 0 j = M 0 j := by
  show (if M 0 8 = 0 then (if b = true then y_a0 M else va_up (M 0) 8 (M 0 6 + 1)) else M 0) j = M 0 j
  (repeat' split)
  · exact y_a0_keep h4 h5 h6 h7
  · rw [va_up_ne _ _ h8]
  · rfl
theorem y_take_row {M : Nat → Nat → Nat} {b : Bool} {a : Nat} (h : a ≠ 0) : (y_take M b).2 a = M a := va_up_ne _ _ h
theorem y_take_well {M : Nat → Nat → Nat} {b : Bool} (h : (y_take M b).2 0 8 = 0) : M 0 8 = 0 ∧ b = true := by
  by_cases h8 : M 0 8 = 0
  · refine ⟨h8, ?_⟩
    cases b
    · rw [y_take_f h8] at h
      have : ms M 0 8 (M 0 6 + 1) 0 8 = M 0 6 + 1 := ms_at
      have h' : ms M 0 8 (M 0 6 + 1) 0 8 = 0 := h
      omega
    · rfl
  · rw [y_take_n h8] at h; exact absurd h h8
theorem y_take_place {M : Nat → Nat → Nat} {b : Bool} (hR : y_RB M) (h : (y_take M b).2 0 8 = 0) : M 0 4 ≤ (y_take M b).2 0 6 := by
  obtain ⟨h8, rfl⟩ := y_take_well h
  rw [y_take_t h8]
  exact y_adv_place hR
theorem y_take_mono {M : Nat → Nat → Nat} {b : Bool} (hR : y_RB M) (h : (y_take M b).2 0 8 = 0) : M 0 6 ≤ (y_take M b).2 0 6 := Nat.le_trans hR.2.2.2.1 (y_take_place hR h)
theorem y_RB_10 {M : Nat → Nat → Nat} {v : Nat} (h : y_RB M) (hv : v < 1024) : y_RB (ms M 0 10 v) := ⟨hB_ms h.1 hv, h.2.1, h.2.2.1, h.2.2.2.1, h.2.2.2.2⟩
theorem or_4 {a b : Nat} (ha : a < 4) (hb : b < 4) : a ||| b < 4 := Nat.or_lt_two_pow (n := 2) ha hb
/-- what one item's reading keeps -/
def y_OK (M N : Nat → Nat → Nat) : Prop := y_RB N ∧ N 0 3 = M 0 3 ∧ N 2 4 ≤ 5 ∧ N 2 5 ≤ 6 ∧ N 0 10 < 4 ∧ (N 0 8 = 0 → M 0 8 = 0 ∧ M 0 6 ≤ N 0 6)
theorem y_ri_OK {M : Nat → Nat → Nat} {x : Nat} (hR : y_RB M) (h4 : M 2 4 ≤ 5) (h5 : M 2 5 ≤ 6) (ht : M 0 10 < 4) (hp : x = 112 → M 2 4 < 5) (hn : x = 110 → M 2 5 < 6) : y_OK M (y_ri M x) := by
  unfold y_ri
  split
  · rename_i e
    have hp5 := hp e
    have r := y_take_RB (b := y_nc M 0 32) hR
    refine ⟨y_RB_ms (y_RB_ms r.1 (by decide) r.2) (by decide) (by omega), y_take_keep (by decide) (by decide) (by decide) (by decide) (by decide), ?_, ?_, ?_, ?_⟩
    · show M 2 4 + 1 ≤ 5
      omega
    · show M 2 5 ≤ 6
      exact h5
    · show (y_take M (y_nc M 0 32)).2 0 10 < 4
      rw [y_take_keep (by decide) (by decide) (by decide) (by decide) (by decide)]; exact ht
    · intro q
      have q : (y_take M (y_nc M 0 32)).2 0 8 = 0 := q
      exact ⟨(y_take_well q).1, y_take_mono hR q⟩
  · split
    · rename_i e
      have hn6 := hn e
      dsimp only
      have r1 := y_take_RB (b := y_nc M 1 100) hR
      generalize hM1 : ms (y_take M (y_nc M 1 100)).2 4 (6 + M 2 5) (y_take M (y_nc M 1 100)).1 = M1
      have R1 : y_RB M1 := by rw [← hM1]; exact y_RB_ms r1.1 (by decide) r1.2
      have r2 := y_take_RB (b := y_nc M1 0 32) R1
      generalize hM2 : ms (y_take M1 (y_nc M1 0 32)).2 5 (6 + M 2 5) (y_take M1 (y_nc M1 0 32)).1 = M2
      have R2 : y_RB M2 := by rw [← hM2]; exact y_RB_ms r2.1 (by decide) r2.2
      have r3 := y_take_RB (b := y_nc M2 0 (M 2 4)) R2
      have a1 : M1 0 = (y_take M (y_nc M 1 100)).2 0 := by rw [← hM1]; rfl
      have a2 : M2 0 = (y_take M1 (y_nc M1 0 32)).2 0 := by rw [← hM2]; rfl
      have b1 : M1 2 = M 2 := by rw [← hM1]; rfl
      have b2 : M2 2 = M1 2 := by rw [← hM2]; rfl
      refine ⟨y_RB_ms (y_RB_ms r3.1 (by decide) r3.2) (by decide) (by omega), ?_, ?_, ?_, ?_, ?_⟩
      · show (y_take M2 (y_nc M2 0 (M 2 4))).2 0 3 = M 0 3
        rw [y_take_keep (by decide) (by decide) (by decide) (by decide) (by decide), a2, y_take_keep (by decide) (by decide) (by decide) (by decide) (by decide), a1, y_take_keep (by decide) (by decide) (by decide) (by decide) (by decide)]
      · show M2 2 4 ≤ 5
        rw [b2, b1]; exact h4
      · show M 2 5 + 1 ≤ 6
        omega
      · show (y_take M2 (y_nc M2 0 (M 2 4))).2 0 10 < 4
        rw [y_take_keep (by decide) (by decide) (by decide) (by decide) (by decide), a2, y_take_keep (by decide) (by decide) (by decide) (by decide) (by decide), a1, y_take_keep (by decide) (by decide) (by decide) (by decide) (by decide)]; exact ht
      · intro q
        have q3 : (y_take M2 (y_nc M2 0 (M 2 4))).2 0 8 = 0 := q
        have w3 := (y_take_well q3).1
        have m3 := y_take_mono R2 q3
        rw [a2] at w3
        have w2 := (y_take_well w3).1
        have m2 := y_take_mono R1 w3
        rw [a1] at w2
        have w1 := (y_take_well w2).1
        have m1 := y_take_mono hR w2
        refine ⟨w1, ?_⟩
        show M 0 6 ≤ (y_take M2 (y_nc M2 0 (M 2 4))).2 0 6
        rw [a2] at m3
        rw [a1] at m2
        omega
    · split
      · have r := y_take_RB (b := y_nc M 1 10) hR
        have k10 : (y_take M (y_nc M 1 10)).2 0 10 = M 0 10 := y_take_keep (by decide) (by decide) (by decide) (by decide) (by decide)
        have ho : (y_take M (y_nc M 1 10)).2 0 10 ||| 1 < 4 := or_4 (by rw [k10]; exact ht) (by decide)
        refine ⟨y_RB_10 (y_RB_ms r.1 (by decide) r.2) (Nat.lt_trans ho (by decide)), y_take_keep (by decide) (by decide) (by decide) (by decide) (by decide), h4, h5, ho, ?_⟩
        intro q
        have q : (y_take M (y_nc M 1 10)).2 0 8 = 0 := q
        exact ⟨(y_take_well q).1, y_take_mono hR q⟩
      · have r := y_take_RB (b := y_nc M 0 11) hR
        have k10 : (y_take M (y_nc M 0 11)).2 0 10 = M 0 10 := y_take_keep (by decide) (by decide) (by decide) (by decide) (by decide)
        have ho : (y_take M (y_nc M 0 11)).2 0 10 ||| 2 < 4 := or_4 (by rw [k10]; exact ht) (by decide)
        refine ⟨y_RB_10 (y_RB_ms r.1 (by decide) r.2) (Nat.lt_trans ho (by decide)), y_take_keep (by decide) (by decide) (by decide) (by decide) (by decide), h4, h5, ho, ?_⟩
        intro q
        have q : (y_take M (y_nc M 0 11)).2 0 8 = 0 := q
        exact ⟨(y_take_well q).1, y_take_mono hR q⟩
theorem y_it1_ok {M : Nat → Nat → Nat} (hR : y_RB M) (hw : (y_it1 M).2 0 8 = 0) : (y_it1 M).1 < 1024 ∧ ((y_it1 M).1 = 112 → (y_it1 M).2 2 4 < 5) ∧ ((y_it1 M).1 = 110 → (y_it1 M).2 2 5 < 6) ∧ y_RB (y_it1 M).2 := by
  have r := y_take_RB (b := y_c1 M) hR
  have hc := y_take_well hw
  have e1 : (y_it1 M).1 = M 0 7 := by unfold y_it1; rw [hc.2, y_take_t hc.1]
  have hm : y_mbg M = true := by
    have := hc.2
    unfold y_c1 at this
    simp only [Bool.and_eq_true] at this
    exact this.2
  refine ⟨r.2, ?_, ?_, r.1⟩
  · intro q
    rw [e1] at q
    show M 2 4 < 5
    unfold y_mbg at hm
    rw [if_pos q] at hm
    exact of_decide_eq_true hm
  · intro q
    rw [e1] at q
    show M 2 5 < 6
    unfold y_mbg at hm
    rw [if_neg (by omega), if_pos q] at hm
    exact of_decide_eq_true hm
theorem y_it2_OK {M : Nat → Nat → Nat} (hR : y_RB M) (h4 : M 2 4 ≤ 5) (h5 : M 2 5 ≤ 6) (ht : M 0 10 < 4) : y_OK (y_it1 M).2 (y_it2 M) := by
  have k10 : (y_it1 M).2 0 10 = M 0 10 := y_take_keep (by decide) (by decide) (by decide) (by decide) (by decide)
  unfold y_it2
  split
  · rename_i hw
    obtain ⟨a1, a2, a3, a4⟩ := y_it1_ok hR hw
    exact y_ri_OK a4 h4 h5 (by rw [k10]; exact ht) a2 a3
  · rename_i hw
    exact ⟨(y_take_RB hR).1, rfl, h4, h5, by rw [k10]; exact ht, fun q => absurd q hw⟩
theorem y_item_CI {T : Nat} {M : Nat → Nat → Nat} {n : Nat} (h : y_CI T M n) (h5 : M 0 5 ≠ 0) (h8 : M 0 8 = 0) : y_CI T (y_item M) (n + 1) := by
  obtain ⟨hR, e3, h24, h25, h10, hpl⟩ := h
  have o2 := y_it2_OK hR h24 h25 h10
  obtain ⟨R2, f3, g4, g5, g10, gw⟩ := o2
  have r := y_take_RB (b := decide (y_it2 M 0 5 = 3)) R2
  have k3 : (y_it1 M).2 0 3 = M 0 3 := y_take_keep (by decide) (by decide) (by decide) (by decide) (by decide)
  refine ⟨r.1, ?_, g4, g5, ?_, ?_⟩
  · show (y_take (y_it2 M) (decide (y_it2 M 0 5 = 3))).2 0 3 = T
    rw [y_take_keep (by decide) (by decide) (by decide) (by decide) (by decide), f3, k3, e3]
  · show (y_take (y_it2 M) (decide (y_it2 M 0 5 = 3))).2 0 10 < 4
    rw [y_take_keep (by decide) (by decide) (by decide) (by decide) (by decide)]; exact g10
  · intro q
    have q : (y_take (y_it2 M) (decide (y_it2 M 0 5 = 3))).2 0 8 = 0 := q
    have w2 := (y_take_well q).1
    have m3 := y_take_mono R2 q
    obtain ⟨w1, m2⟩ := gw w2
    have m1 := y_take_place hR w1
    have := hR.2.2.2.2 h5
    have := hpl h8
    show n + 1 ≤ (y_take (y_it2 M) (decide (y_it2 M 0 5 = 3))).2 0 6
    have m1' : M 0 4 ≤ (y_it1 M).2 0 6 := m1
    omega
theorem z2_4 {M : Nat → Nat → Nat} {n : Nat} : y_z2 M n 4 (6 + n) = M 4 (6 + n) := by unfold y_z2; rw [tri_row, if_neg (by decide), if_neg (by decide), if_pos rfl, if_neg (by omega)]; rfl
theorem z2_5 {M : Nat → Nat → Nat} {n : Nat} : y_z2 M n 5 (6 + n) = M 5 (6 + n) := by unfold y_z2; rw [tri_row, if_neg (by decide), if_pos rfl, if_neg (by omega)]; rfl
theorem z1_2 {M : Nat → Nat → Nat} {j : Nat} (h : j < 4) : y_z1 M 2 j = M 2 (4 + j) := by unfold y_z1; rw [fill_o (by decide)]; exact fill_lo h
theorem z2_2 {M : Nat → Nat → Nat} {n j : Nat} (h : j < 4) : y_z2 M n 2 j = M 2 (4 + j) := by unfold y_z2; rw [tri_row, if_neg (by decide), if_neg (by decide), if_neg (by decide)]; exact z1_2 h
theorem z3_2 {M : Nat → Nat → Nat} {n j : Nat} (h : j < 4) : y_z3 M n 2 j = M 2 (4 + j) := by unfold y_z3; rw [va_up_ne _ _ (by decide)]; exact z2_2 h
theorem y_c0_CI {M : Nat → Nat → Nat} (hB : ∀ k j, M k j < 1024) (hT : M 0 3 ≤ 150) : y_CI (M 0 3) (y_c0 M) 0 := by
  have h0 : y_R0 (y_bgs (ms (ms M 0 8 0) 0 4 0)) := ⟨hB_ms (hB_ms (hB_ms (hB_ms (hB_ms (hB_ms (hB_ms hB (by decide)) (by decide)) (by decide)) (by decide)) (by decide)) (by decide)) (by decide), hT, Nat.zero_le _⟩
  have h := y_adv_RB h0
  refine ⟨h, ?_, ?_, ?_, ?_, fun _ => Nat.zero_le _⟩
  · show y_a0 (y_bgs (ms (ms M 0 8 0) 0 4 0)) 3 = M 0 3
    rw [y_a0_keep (by decide) (by decide) (by decide) (by decide)]; rfl
  · exact (by decide : 0 ≤ 5)
  · exact (by decide : 0 ≤ 6)
  · show y_a0 (y_bgs (ms (ms M 0 8 0) 0 4 0)) 10 < 4
    rw [y_a0_keep (by decide) (by decide) (by decide) (by decide)]; exact (by decide : 0 < 4)
