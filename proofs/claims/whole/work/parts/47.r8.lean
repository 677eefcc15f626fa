/-! country: the items -/
section REL8
variable {X Y X' Y' X0 Y0 : Nat → Nat → Nat}
theorem WS.place (w : WS X Y X0 Y0) : Y 0 6 ≤ X 1 1 ∧ X 1 1 ≤ 150 := by
  obtain ⟨t, k, r, w8, fx, fy, ri⟩ := w
  refine ⟨?_, t.2.1⟩
  rcases k with k | k
  · omega
  · omega
theorem WS.num (w : WS X Y X0 Y0) (hc : X 3 3 ≠ 0) (hn : X 3 4 < x_noi X) (hub : x_mx X ≤ 100) : (y_nc Y (x_ln X) (x_mx X) = true ∧ Y 0 6 < X 1 1 ∧ x_acc X (Y 0 6) = (true, ms (x_st X (Y 0 7)) 3 4 (X 3 4 + 1)) ∧ x_ln X ≤ Y 0 7 ∧ Y 0 7 < x_mx X) ∨ (y_nc Y (x_ln X) (x_mx X) = false ∧ xR X (Y 0 6) = (-10 - nI (Y 0 6), X)) := by
  obtain ⟨t, k, r, w8, fx, fy, ri⟩ := w
  have ea : x_acc X (Y 0 6) = if x_dg X (nI (Y 0 6)) then x_an X (x_na X (Y 0 6)) else (false, X) := by
    unfold x_acc
    rw [if_neg hc, if_pos hn]
  rcases k with ⟨k1, k2⟩ | ⟨k1, k2, k3, k4, k5, k6⟩
  · refine Or.inr ⟨?_, ?_⟩
    · unfold y_nc
      rw [k2]; rfl
    · rw [k1, xR_end, if_neg hc]
  · rcases k6 with ⟨d, k6⟩ | ⟨d, e7, e5⟩
    · rw [d, if_pos rfl] at ea
      rcases k6 with ⟨n1, n2, n3⟩ | ⟨n1, n2⟩
      · unfold y_nc
        rw [n2, n3, decide_eq_true rfl, Bool.true_and]
        by_cases cv : x_ln X ≤ x_na X (Y 0 6) ∧ x_na X (Y 0 6) < x_mx X
        · refine Or.inl ⟨by rw [decide_eq_true cv.1, decide_eq_true cv.2]; rfl, k1, ?_, cv.1, cv.2⟩
          rw [ea]
          unfold x_an
          rw [if_pos cv, show x_st X (x_na X (Y 0 6)) 3 4 = X 3 4 from congrFun (x_st_row 3 (by decide)) 4]
        · refine Or.inr ⟨?_, ?_⟩
          · rw [← Bool.not_eq_true, Bool.and_eq_true, decide_eq_true_eq, decide_eq_true_eq]; exact cv
          · refine xR_f k1 k2 ?_
            rw [ea]
            unfold x_an
            rw [if_neg cv]
      · refine Or.inr ⟨?_, ?_⟩
        · unfold y_nc
          rw [n2]; rfl
        · refine xR_f k1 k2 ?_
          rw [ea]
          unfold x_an
          rw [if_neg (by omega)]
    · refine Or.inr ⟨?_, ?_⟩
      · unfold y_nc
        rw [e5, decide_eq_false (by unfold y_tl; (repeat' split) <;> decide)]
        rfl
      · refine xR_f k1 k2 ?_
        rw [ea, d]; rfl
theorem WS.semi (w : WS X Y X0 Y0) (hc : X 3 3 ≠ 0) (hn : ¬ X 3 4 < x_noi X) : (Y 0 5 = 3 ∧ Y 0 6 < X 1 1 ∧ x_acc X (Y 0 6) = (true, x_ei X)) ∨ (¬ Y 0 5 = 3 ∧ xR X (Y 0 6) = (-10 - nI (Y 0 6), X)) := by
  obtain ⟨t, k, r, w8, fx, fy, ri⟩ := w
  have hL := t.2.1
  have ea : x_acc X (Y 0 6) = if X 2 (Y 0 6) = 59 then (true, x_ei X) else (false, X) := by
    unfold x_acc
    rw [if_neg hc, if_neg hn]
  rcases k with ⟨k1, k2⟩ | ⟨k1, k2, k3, k4, k5, k6⟩
  · refine Or.inr ⟨by omega, ?_⟩
    rw [k1, xR_end, if_neg hc]
  · rcases k6 with ⟨d, k6⟩ | ⟨d, e7, e5⟩
    · have q := x_dg_ge (by omega) (by omega) d
      refine Or.inr ⟨by omega, xR_f k1 k2 ?_⟩
      rw [ea, if_neg (by omega)]
    · by_cases c : X 2 (Y 0 6) = 59
      · refine Or.inl ⟨by rw [e5, c]; rfl, k1, ?_⟩
        rw [ea, if_pos c]
      · refine Or.inr ⟨?_, xR_f k1 k2 ?_⟩
        · rw [e5]; unfold y_tl; rw [if_neg c]; split <;> decide
        · rw [ea, if_neg c]
/-- the two drafts, k items told -/
def DR (X Y : Nat → Nat → Nat) (k : Nat) : Prop := X 3 2 = k ∧ X 3 3 = 0 ∧ (X 4 4 = Y 2 4 ∧ X 4 5 = Y 2 5 ∧ X 4 6 = Y 2 6 ∧ X 4 7 = Y 2 7) ∧ (X 4 4 ≤ 5 ∧ X 4 5 ≤ 6 ∧ 1 ≤ X 4 6 ∧ X 4 6 ≤ 9) ∧ (Y 0 10 = X 3 5 + 2 * X 3 6 ∧ X 3 5 ≤ 1 ∧ X 3 6 ≤ 1) ∧ (∀ i, i < X 4 4 → X 5 i = Y 3 i) ∧ (∀ i, i < X 4 5 → X 6 i = Y 4 (6 + i) ∧ X 7 i = Y 5 (6 + i) ∧ X 8 i = Y 6 i ∧ X 7 i ≤ 31 ∧ X 8 i < X 4 4)
theorem told_bits : ∀ a, a < 2 → ∀ b, b < 2 → ((a + 2 * b) &&& 1 = a) ∧ ((a + 2 * b) &&& 2 = 2 * b) ∧ ((a + 2 * b) ||| 1 = 1 + 2 * b) ∧ ((a + 2 * b) ||| 2 = a + 2 * 1) := by decide
theorem WS.opn {k : Nat} (w : WS X Y X0 Y0) (d : DR X Y k) (hi : Y 0 6 < X 1 1) : (y_c1 Y = true ∧ x_acc X (Y 0 6) = (true, ms (ms X 3 3 (Y 0 7)) 3 4 0) ∧ (Y 0 7 = 112 ∨ Y 0 7 = 110 ∨ Y 0 7 = 98 ∨ Y 0 7 = 115) ∧ (Y 0 7 = 112 → X 4 4 < 5) ∧ (Y 0 7 = 110 → X 4 5 < 6) ∧ (Y 0 7 = 98 → X 3 5 = 0) ∧ (Y 0 7 = 115 → X 3 6 = 0)) ∨ (y_c1 Y = false ∧ xR X (Y 0 6) = (-10 - nI (Y 0 6), X)) := by
  obtain ⟨t, kk, r, w8, fx, fy, ri⟩ := w
  obtain ⟨d1, d2, ⟨d3, d4, d5, d6⟩, d7, ⟨d8, d9, d10⟩, d11⟩ := d
  have hL := t.2.1
  have tb := told_bits (X 3 5) (by omega) (X 3 6) (by omega)
  have ea : x_acc X (Y 0 6) = x_bi X (X 2 (Y 0 6)) := by
    unfold x_acc
    rw [if_pos d2]
  rcases kk with ⟨k1, k2⟩ | ⟨k1, k2, k3, k4, k5, k6⟩
  · omega
  · rcases k6 with ⟨dd, k6⟩ | ⟨dd, e7, e5⟩
    · have q := x_dg_ge (by omega) (by omega) dd
      refine Or.inr ⟨?_, xR_f k1 k2 ?_⟩
      · unfold y_c1
        rw [decide_eq_false (by omega), Bool.false_and]
      · rw [ea]
        unfold x_bi x_cb
        rw [if_neg (show ¬ X 2 (Y 0 6) = 98 by omega), if_neg (show ¬ X 2 (Y 0 6) = 110 by omega), if_neg (show ¬ X 2 (Y 0 6) = 112 by omega), if_neg (show ¬ X 2 (Y 0 6) = 115 by omega)]
        rfl
    · unfold y_c1 y_mbg
      rw [e5, ea, e7]
      unfold x_bi
      by_cases c1 : X 2 (Y 0 6) = 112
      · rw [c1]
        by_cases g : X 4 4 < 5
        · exact Or.inl ⟨by rw [if_pos rfl, ← d3, decide_eq_true g]; rfl, by rw [show x_cb X 112 = decide (X 4 4 < 5) from rfl, decide_eq_true g]; rfl, by decide, fun _ => g, by omega, by omega, by omega⟩
        · refine Or.inr ⟨by rw [if_pos rfl, ← d3, decide_eq_false g]; rfl, xR_f k1 k2 ?_⟩
          rw [ea, c1]; unfold x_bi; rw [show x_cb X 112 = decide (X 4 4 < 5) from rfl, decide_eq_false g]; rfl
      by_cases c2 : X 2 (Y 0 6) = 110
      · rw [c2]
        by_cases g : X 4 5 < 6
        · exact Or.inl ⟨by rw [if_neg (by decide), if_pos rfl, ← d4, decide_eq_true g]; rfl, by rw [show x_cb X 110 = decide (X 4 5 < 6) from rfl, decide_eq_true g]; rfl, by decide, by omega, fun _ => g, by omega, by omega⟩
        · refine Or.inr ⟨by rw [if_neg (by decide), if_pos rfl, ← d4, decide_eq_false g]; rfl, xR_f k1 k2 ?_⟩
          rw [ea, c2]; unfold x_bi; rw [show x_cb X 110 = decide (X 4 5 < 6) from rfl, decide_eq_false g]; rfl
      by_cases c3 : X 2 (Y 0 6) = 98
      · rw [c3]
        by_cases g : X 3 5 = 0
        · exact Or.inl ⟨by rw [if_neg (by decide), if_neg (by decide), if_pos rfl, d8, tb.1, decide_eq_true g]; rfl, by rw [show x_cb X 98 = decide (X 3 5 = 0) from rfl, decide_eq_true g]; rfl, by decide, by omega, by omega, fun _ => g, by omega⟩
        · refine Or.inr ⟨by rw [if_neg (by decide), if_neg (by decide), if_pos rfl, d8, tb.1, decide_eq_false g]; rfl, xR_f k1 k2 ?_⟩
          rw [ea, c3]; unfold x_bi; rw [show x_cb X 98 = decide (X 3 5 = 0) from rfl, decide_eq_false g]; rfl
      by_cases c4 : X 2 (Y 0 6) = 115
      · rw [c4]
        by_cases g : X 3 6 = 0
        · exact Or.inl ⟨by rw [if_neg (by decide), if_neg (by decide), if_neg (by decide), d8, tb.2.1, decide_eq_true (show 2 * X 3 6 = 0 by omega)]; rfl, by rw [show x_cb X 115 = decide (X 3 6 = 0) from rfl, decide_eq_true g]; rfl, by decide, by omega, by omega, by omega, fun _ => g⟩
        · refine Or.inr ⟨by rw [if_neg (by decide), if_neg (by decide), if_neg (by decide), d8, tb.2.1, decide_eq_false (show ¬ 2 * X 3 6 = 0 by omega)]; rfl, xR_f k1 k2 ?_⟩
          rw [ea, c4]; unfold x_bi; rw [show x_cb X 115 = decide (X 3 6 = 0) from rfl, decide_eq_false g]; rfl
      refine Or.inr ⟨?_, xR_f k1 k2 ?_⟩
      · rw [decide_eq_false, Bool.false_and]
        unfold y_tl
        split
        · decide
        · rw [if_neg (by omega)]; decide
      · rw [ea]
        unfold x_bi x_cb
        rw [if_neg c3, if_neg c2, if_neg c1, if_neg c4]
        rfl
/-- what an item comes to -/
def IO (X Y X0 Y0 : Nat → Nat → Nat) (k : Nat) : Prop :=
  (∃ p X', p ≤ 150 ∧ xR X (Y 0 6) = (-10 - nI p, X') ∧ FX X' X0 ∧ (∀ k j, X' k j < 1024) ∧ y_item Y 0 8 = p + 1) ∨
  (∃ X', xR X (Y 0 6) = xR X' (y_item Y 0 6) ∧ WS X' (y_item Y) X0 Y0 ∧ DR X' (y_item Y) (k + 1) ∧ Y 0 6 < y_item Y 0 6)
theorem take_f8 {M : Nat → Nat → Nat} {b : Bool} (h : ¬ M 0 8 = 0) : (y_take M b).2 0 8 = M 0 8 := by rw [y_take_n h]
theorem it_fail {p : Nat} (h : y_it2 Y 0 8 = p + 1) : y_item Y 0 8 = p + 1 := by
  unfold y_item
  rw [take_f8 (by omega), h]
theorem it_bad (hw : Y 0 8 = 0) (hc : y_c1 Y = false) : y_item Y 0 8 = Y 0 6 + 1 := by
  have e : (y_it1 Y).2 = ms Y 0 8 (Y 0 6 + 1) := by unfold y_it1; rw [hc, y_take_f hw]
  have e8 : (y_it1 Y).2 0 8 = Y 0 6 + 1 := by rw [e]; exact ms_at
  refine it_fail ?_
  unfold y_it2
  rw [if_neg (by omega)]
  exact e8
theorem it_go (hw : Y 0 8 = 0) (hc : y_c1 Y = true) (hw1 : y_adv Y 0 8 = 0) : y_it2 Y = y_ri (y_adv Y) (Y 0 7) := by
  have e : y_it1 Y = (Y 0 7, y_adv Y) := by unfold y_it1; rw [hc, y_take_t hw]
  unfold y_it2
  rw [e, if_pos hw1]
/-- the item's end -/
theorem it_end {k : Nat} {X2 : Nat → Nat → Nat} (w : WS X2 (y_it2 Y) X0 Y0) (hc : X2 3 3 ≠ 0) (hn : ¬ X2 3 4 < x_noi X2) (hR : xR X (Y 0 6) = xR X2 (y_it2 Y 0 6)) (hlt : Y 0 6 < y_it2 Y 0 6)
    (hD : DR (x_ei X2) (y_adv (y_it2 Y)) (k + 1)) : IO X Y X0 Y0 k := by
  have pl := w.place
  rcases w.semi hc hn with ⟨a, b, c⟩ | ⟨a, b⟩
  · obtain ⟨t1, t2, t3⟩ := w.t b c
    have e : y_item Y = y_adv (y_it2 Y) := by unfold y_item; rw [decide_eq_true a, y_take_t w.2.2.2.1]
    refine Or.inr ⟨x_ei X2, ?_, ?_, ?_, ?_⟩
    · rw [e, hR, t1]
    · rw [e]; exact t2
    · rw [e]; exact hD
    · rw [e]; omega
  · have e : y_item Y 0 8 = y_it2 Y 0 6 + 1 := by
      unfold y_item
      rw [decide_eq_false a, y_take_f w.2.2.2.1]
      show ms (y_it2 Y) 0 8 (y_it2 Y 0 6 + 1) 0 8 = y_it2 Y 0 6 + 1
      exact ms_at
    exact Or.inl ⟨y_it2 Y 0 6, X2, by omega, by rw [hR, b], w.2.2.2.2.1, w.2.2.2.2.2.2.1, e⟩
theorem mx_le {M : Nat → Nat → Nat} (h : M 4 4 ≤ 5) : x_mx M ≤ 100 := by
  unfold x_mx x_mo
  (repeat' split) <;> omega
end REL8
