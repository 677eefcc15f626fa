/-! country: the new country, and rl_cty -/
section REL11
variable {X Y X' Y' X0 Y0 : Nat → Nat → Nat}
theorem cpy_lo {f g : Nat → Nat} {n j : Nat} (h : j < n) : va_cpy f g 0 0 n j = f j := by
  unfold va_cpy
  rw [if_pos ⟨Nat.zero_le _, by omega⟩, Nat.zero_add, Nat.sub_zero]
theorem hB_fill {M : Nat → Nat → Nat} (h : ∀ k j, M k j < 1024) {a n : Nat} {f : Nat → Nat} (hf : ∀ j, f j < 1024) : ∀ k j, fillR M a f n k j < 1024 := by
  unfold fillR
  refine hB_up h (fun j => ?_)
  split
  · exact hf j
  · exact h a j
theorem hB_xset (h : ∀ k j, X k j < 1024) : ∀ k j, x_set X k j < 1024 := by
  have hcp : ∀ k j, x_cp X k j < 1024 := by
    unfold x_cp
    exact hB_ms (hB_ms (hB_ms (hB_ms (hB_up (hB_up (hB_up (hB_up h (hB_cpy (h 5) (h 10))) (hB_cpy (h 6) (h 11))) (hB_cpy (h 7) (h 12))) (hB_cpy (h 8) (h 13))) (h 4 4)) (h 4 5)) (h 4 6)) (h 4 7)
  have hbg : ∀ k j, x_bg (x_cp X) k j < 1024 := by
    unfold x_bg
    refine hB_up hcp (fun j => ?_)
    split
    · exact hcp 13 j
    · split
      · decide
      · split
        · exact hcp 10 (j - 12)
        · split
          · decide
          · exact hcp 15 j
  unfold x_set
  exact hB_ms (hB_ms (hB_ms (hB_ms (hB_ms (hB_ms hbg (by decide)) (by decide)) (by decide)) (by decide)) (by decide)) (by decide)
theorem hB_yset (h : ∀ k j, Y k j < 1024) : ∀ k j, y_set Y k j < 1024 := by
  have h1 : ∀ k j, y_z1 Y k j < 1024 := by
    unfold y_z1
    exact hB_fill (hB_fill h (fun j => h 2 (4 + j))) (fun _ => by decide)
  have h2 : ∀ k j, y_z2 Y 6 k j < 1024 := by
    unfold y_z2 tri
    refine hB_fill (hB_fill (hB_fill h1 (fun j => h 4 (6 + j))) (fun j => h 5 (6 + j))) (fun j => ?_)
    split
    · exact h 6 j
    · decide
  have h3 : ∀ k j, y_z3 Y 5 k j < 1024 := by
    unfold y_z3
    refine hB_up h2 (hB_cpy (fun j => ?_) (h2 7))
    unfold y_f4
    split
    · exact h 3 j
    · decide
  unfold y_set
  exact hB_ms (hB_ms (hB_ms (hB_ms (hB_ms (hB_ms h3 (by decide)) (by decide)) (by decide)) (by decide)) (by decide)) (by decide)
theorem xset15 (j : Nat) : x_set X 15 j = if j < 6 then X 8 j else if j < 12 then 0 else if j < 17 then X 5 (j - 12) else if j < 20 then 0 else X 15 j := by
  show (if j < 6 then va_cpy (X 8) (X 13) 0 0 6 j else if j < 12 then 0 else if j < 17 then va_cpy (X 5) (X 10) 0 0 5 (j - 12) else if j < 20 then 0 else X 15 j) = _
  by_cases h1 : j < 6
  · rw [if_pos h1, if_pos h1, cpy_lo h1]
  · rw [if_neg h1, if_neg h1]
    by_cases h2 : j < 12
    · rw [if_pos h2, if_pos h2]
    · rw [if_neg h2, if_neg h2]
      by_cases h3 : j < 17
      · rw [if_pos h3, if_pos h3, cpy_lo (by omega)]
      · rw [if_neg h3, if_neg h3]
theorem yset4 {n : Nat} (h : n < 6) : y_set Y 4 n = Y 4 (6 + n) := by
  show y_z2 Y 6 4 n = Y 4 (6 + n)
  unfold y_z2
  rw [tri_row, if_neg (by decide), if_neg (by decide), if_pos rfl, if_pos h]
theorem yset5 {n : Nat} (h : n < 6) : y_set Y 5 n = Y 5 (6 + n) := by
  show y_z2 Y 6 5 n = Y 5 (6 + n)
  unfold y_z2
  rw [tri_row, if_neg (by decide), if_pos rfl, if_pos h]
theorem yset7a {j : Nat} (h : j < 20) : y_z2 Y 6 7 j = if j < 6 then (if j < Y 2 5 then Y 6 j else 0) else 0 := by
  unfold y_z2
  rw [tri_row, if_pos rfl]
  split
  · rfl
  · unfold y_z1
    rw [fill_lo h]
theorem yset7 {j : Nat} (h : j < 20) : y_set Y 7 j = if 14 ≤ j ∧ j < 19 then y_f4 Y (j - 14) else if j < 6 then (if j < Y 2 5 then Y 6 j else 0) else 0 := by
  show va_cpy (y_f4 Y) (y_z2 Y 6 7) 0 14 5 j = _
  unfold va_cpy
  rw [yset7a h, Nat.zero_add]
theorem rl_set {n : Nat} (h : Rel X0 Y0) (fx : FX X X0) (fy : FY Y Y0) (d : DR X Y n) (bx : ∀ k j, X k j < 1024) (b : ∀ k j, Y k j < 1024) : Rel (x_set X) (y_set Y) := by
  obtain ⟨d1, d2, ⟨d3, d4, d5, d6⟩, ⟨d7, d7b, d7c, d7d⟩, ⟨d8, d9, d10⟩, d11, d12⟩ := d
  have m4 : x_set X 9 4 = X 4 4 := rfl
  have m5 : x_set X 9 5 = X 4 5 := rfl
  have m6 : x_set X 9 6 = X 4 6 := rfl
  have m7 : x_set X 9 7 = X 4 7 := rfl
  have y0 : y_set Y 2 0 = Y 2 4 := z3_2 (M := Y) (n := 5) (j := 0) (by decide)
  have y1 : y_set Y 2 1 = Y 2 5 := z3_2 (M := Y) (n := 5) (j := 1) (by decide)
  have y2 : y_set Y 2 2 = Y 2 6 := z3_2 (M := Y) (n := 5) (j := 2) (by decide)
  have y3 : y_set Y 2 3 = Y 2 7 := z3_2 (M := Y) (n := 5) (j := 3) (by decide)
  have x11 : ∀ i, i < 6 → x_set X 11 i = X 6 i := fun i hi => (cpy_lo hi : va_cpy (X 6) (X 11) 0 0 6 i = X 6 i)
  have x12 : ∀ i, i < 6 → x_set X 12 i = X 7 i := fun i hi => (cpy_lo hi : va_cpy (X 7) (X 12) 0 0 6 i = X 7 i)
  refine ⟨⟨hB_xset bx, hB_yset b, ?_⟩, ?_, ?_, ?_, ?_, ?_, ?_, ?_⟩
  · show Y 0 0 = 0
    rw [fy.2.1 0 (by omega)]; exact h.z
  · refine ⟨(by decide : 0 ≤ 150), rfl, fun i hi => absurd (show i < 0 from hi) (Nat.not_lt_zero i), fun j => ?_⟩
    show X 2 j ≤ 255
    rw [fx 2 (by omega)]
    exact h.t.2.2.2 j
  · unfold rC
    rw [m4, m5, m6, m7, y0, y1, y2, y3]
    refine ⟨d7, d7b, ⟨d7c, d7d⟩, d3, d4, d5, d6, fun i hi => ?_⟩
    have hi6 : i < 6 := by omega
    obtain ⟨a1, a2, a3, a4, a5⟩ := d12 i hi
    rw [x11 i hi6, x12 i hi6, yset4 hi6, yset5 hi6]
    exact ⟨a1, a2, a4⟩
  · unfold rN rowR rowI
    rw [m4, m5, m6]
    have f17 : x_set X 15 17 = 0 := by rw [xset15]; rfl
    have f18 : x_set X 15 18 = 0 := by rw [xset15]; rfl
    have f19 : x_set X 15 19 = 0 := by rw [xset15]; rfl
    have fu : ∀ i, i < 6 → x_set X 15 (6 + i) = 0 := fun i hi => by rw [xset15, if_neg (by omega), if_pos (by omega)]
    have fh : ∀ i, i < 6 → x_set X 15 i = X 8 i := fun i hi => by rw [xset15, if_pos hi]
    rw [f17, f18, f19]
    refine ⟨⟨fun i hi => ?_, fun q hq => ?_, ?_, ?_, ?_⟩, fun i hi => ?_, by decide, by decide, by decide⟩
    · have hi6 : i < 6 := by omega
      obtain ⟨a1, a2, a3, a4, a5⟩ := d12 i hi
      rw [fh i hi6, fu i hi6, yset7 (by omega), yset7 (by omega), if_neg (by omega), if_pos hi6, if_pos (by omega), if_neg (by omega), if_neg (by omega)]
      exact ⟨a3, rfl⟩
    · rw [xset15, if_neg (by omega), if_neg (by omega), if_pos (by omega), yset7 (by omega), if_pos (by omega), show 12 + q - 12 = q by omega, show 14 + q - 14 = q by omega]
      unfold y_f4
      rw [if_pos (by omega)]
      exact d11 q hq
    · rw [yset7 (by decide)]; rfl
    · rw [yset7 (by decide)]; rfl
    · rw [yset7 (by decide)]; rfl
    · have hi6 : i < 6 := by omega
      obtain ⟨a1, a2, a3, a4, a5⟩ := d12 i hi
      rw [fh i hi6, fu i hi6]
      exact ⟨a5, by decide, fun _ _ => d7c⟩
  · exact ⟨(by decide : 0 < 10), (by decide : 0 ≤ 10), rfl, fun i hi => absurd (show i < 0 from hi) (Nat.not_lt_zero i)⟩
  · refine ⟨(by decide : 0 < 4), fun i hi => ?_⟩
    have e : x_set X 18 1 = 0 := rfl
    rw [e, hb_0 i (by omega)]
    have z : y_set Y 9 i = 0 := by
      rcases (by omega : i = 0 ∨ i = 1) with rfl | rfl
      · rfl
      · rfl
    rw [z]
    exact ⟨⟨fun q => (by cases q), fun q => absurd rfl q⟩, fun q => (by cases q)⟩
  · exact ⟨(by decide : 0 ≤ 6), rfl, fun i hi => absurd (show i < 0 from hi) (Nat.not_lt_zero i)⟩
  · exact ⟨(by decide : 0 ≤ 6), rfl, fun i hi => absurd (show i < 0 from hi) (Nat.not_lt_zero i)⟩
theorem m10_neg : ∀ p, p ≤ 150 → ¬ (0 : Int32) ≤ -10 - nI p := by decide +kernel
theorem rl_cty (h : Rel X Y) : (x_cty X).1 = (y_cty Y).1 ∧ Rel (x_cty X).2 (y_cty Y).2 := by
  unfold x_cty
  rcases cty_out h with ⟨n, X', Y', hn, ex, ey, fx, fy, d, bx, b⟩ | ⟨p, X', Y', hp, ex, ey, fx, fy, bx, b⟩
  · rw [ex, ey, if_pos (nI_pos' (by omega) : (0 : Int32) ≤ nI n)]
    exact ⟨rfl, rl_set h fx fy d bx b⟩
  · rw [ex, ey, if_neg (m10_neg p hp)]
    exact ⟨rfl, h.frame fx fy bx b⟩
end REL11
