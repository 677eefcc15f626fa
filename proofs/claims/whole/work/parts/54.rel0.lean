section REL12
variable {X Y : Nat → Nat → Nat}
theorem rel0 : Rel mX0 (y_set (y_bgs mY0)) := by
  have z7 : ∀ j, j < 20 → y_set (y_bgs mY0) 7 j = 0 := by
    intro j hj
    rw [yset7 hj]
    split
    · unfold y_f4
      exact if_neg (show ¬ j - 14 < 0 from Nat.not_lt_zero _)
    · split
      · exact if_neg (show ¬ j < 0 from Nat.not_lt_zero _)
      · rfl
  refine ⟨⟨hB_ms (hB_ms (hB_ms (hB_ms (fun _ _ => by decide) (by decide)) (by decide)) (by decide)) (by decide), hB_yset mY0_B, rfl⟩, ?_, ?_, ?_, ?_, ?_, ?_, ?_⟩
  · exact ⟨(by decide : 0 ≤ 150), rfl, fun i hi => absurd (show i < 0 from hi) (Nat.not_lt_zero i), fun j => (by decide : 0 ≤ 255)⟩
  · exact ⟨(by decide : 0 ≤ 5), (by decide : 0 ≤ 6), ⟨(by decide : 1 ≤ 3), (by decide : 3 ≤ 9)⟩, rfl, rfl, rfl, rfl, fun i hi => absurd (show i < 0 from hi) (Nat.not_lt_zero i)⟩
  · refine ⟨⟨fun i hi => absurd (show i < 0 from hi) (Nat.not_lt_zero i), fun i hi => absurd (show i < 0 from hi) (Nat.not_lt_zero i), ?_, ?_, ?_⟩, fun i hi => absurd (show i < 0 from hi) (Nat.not_lt_zero i), (by decide : 0 < 64), (by decide : 0 < 64), (by decide : 0 ≤ 999)⟩
    · rw [z7 12 (by decide)]; rfl
    · rw [z7 13 (by decide)]; rfl
    · rw [z7 19 (by decide)]; rfl
  · exact ⟨(by decide : 0 < 10), (by decide : 0 ≤ 10), rfl, fun i hi => absurd (show i < 0 from hi) (Nat.not_lt_zero i)⟩
  · refine ⟨(by decide : 0 < 4), fun i hi => ?_⟩
    have e : mX0 18 1 = 0 := rfl
    rw [e, hb_0 i (by omega)]
    have z : y_set (y_bgs mY0) 9 i = 0 := by
      rcases (by omega : i = 0 ∨ i = 1) with rfl | rfl
      · rfl
      · rfl
    rw [z]
    exact ⟨⟨fun q => (by cases q), fun q => absurd rfl q⟩, fun q => (by cases q)⟩
  · exact ⟨(by decide : 0 ≤ 6), rfl, fun i hi => absurd (show i < 0 from hi) (Nat.not_lt_zero i)⟩
  · exact ⟨(by decide : 0 ≤ 6), rfl, fun i hi => absurd (show i < 0 from hi) (Nat.not_lt_zero i)⟩
theorem Rel.xq (h : Rel X Y) : ∀ i, i < X 21 4 → X 22 i < 5 := fun i hi => Nat.lt_of_lt_of_le (h.s.2.2 i hi).2.1 h.P
theorem Rel.xm (h : Rel X Y) : ∀ n, n < X 9 5 → X 12 n < 64 := fun n hn => Nat.lt_of_le_of_lt (h.mk31 hn) (by decide)
theorem Rel.xU (h : Rel X Y) : ∀ n, n < X 9 5 → 0 < X 12 n → hb (nI (X 15 17)) n = false → X 15 (6 + n) ≤ X 9 6 := fun n hn a b => Nat.le_of_lt (h.usB hn a b)
theorem Rel.yT (h : Rel X Y) : Y 0 3 ≤ 150 := by rw [← h.t.2.1]; exact h.t.1
theorem Rel.yN (h : Rel X Y) : Y 2 1 ≤ 6 := by rw [h.eN]; exact h.N
theorem Rel.yP (h : Rel X Y) : Y 2 0 ≤ 5 := by rw [h.eP]; exact h.P
theorem Rel.yU (h : Rel X Y) : Y 0 19 ≤ 10 := by rw [← h.h.2.2.1]; exact h.h.2.1
theorem Rel.yus (h : Rel X Y) : ∀ n, n < Y 2 1 → Y 7 (6 + n) ≤ 999 := fun n hn => by
  rw [h.eN] at hn
  rw [h.us hn]; exact h.us9 hn
theorem Rel.yre (h : Rel X Y) : Y 7 19 ≤ 999 := by rw [h.re]; exact h.re9
theorem Rel.yaw6 (h : Rel X Y) : Y 7 13 < 64 := by rw [h.aw]; exact h.aw6
theorem Rel.yH (h : Rel X Y) : ∀ n, n < Y 2 1 → Y 7 n < 5 := fun n hn => by
  rw [h.eN] at hn
  rw [h.ho hn]; exact Nat.lt_of_lt_of_le (h.hoP hn) h.P
theorem Rel.yB1 (h : Rel X Y) : ∀ n, n < Y 2 1 → 0 < Y 5 n → y_pa Y n = false → Y 7 (6 + n) ≤ Y 2 2 := fun n hn a b => by
  rw [h.eN] at hn
  have hN := h.N
  rw [h.mk hn] at a
  rw [h.ypa (by omega)] at b
  rw [h.us hn, h.eB]; exact Nat.le_of_lt (h.usB hn a b)
theorem Rel.ysm (h : Rel X Y) : Y 0 22 ≤ 6 := by rw [← h.s.2.1]; exact h.s.1
theorem Rel.yhm (h : Rel X Y) : Y 0 25 ≤ 6 := by rw [← h.b.2.1]; exact h.b.1
theorem Rel.yq (h : Rel X Y) : ∀ i, i < Y 0 22 → Y 11 i < 5 := fun i hi => by
  rw [← h.s.2.1] at hi
  rw [← (h.s.2.2 i hi).1]; exact h.xq i hi
theorem Rel.ym (h : Rel X Y) : ∀ n, n < Y 2 1 → Y 5 n < 64 := fun n hn => by
  rw [h.eN] at hn
  rw [h.mk hn]; exact h.xm n hn
end REL12
