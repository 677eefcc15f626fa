/-! country: each kind of item -/
section REL9
variable {X Y X' Y' X0 Y0 : Nat → Nat → Nat}
theorem adv_row {a : Nat} (h : a ≠ 0) : y_adv Y a = Y a := va_up_ne _ _ h
theorem adv_10 : y_adv Y 0 10 = Y 0 10 := y_a0_keep (by decide) (by decide) (by decide) (by decide)
theorem item_p {k : Nat} (w : WS X Y X0 Y0) (d : DR X Y k) (hi : Y 0 6 < X 1 1) (hc : y_c1 Y = true) (ha : x_acc X (Y 0 6) = (true, ms (ms X 3 3 (Y 0 7)) 3 4 0)) (e7 : Y 0 7 = 112) (hp : X 4 4 < 5) : IO X Y X0 Y0 k := by
  rw [e7] at ha
  obtain ⟨t1, w1, t3⟩ := w.t hi ha
  have w8 : Y 0 8 = 0 := w.2.2.2.1
  have w18 : y_adv Y 0 8 = 0 := w1.2.2.2.1
  have pl1 := w1.place
  have b1 : ∀ k j, ms (ms X 3 3 112) 3 4 0 k j < 1024 := w1.2.2.2.2.2.2.1
  have eg := it_go w8 hc w18
  rw [e7] at eg
  have er : y_it2 Y = ms (ms (y_take (y_adv Y) (y_nc (y_adv Y) 0 32)).2 3 (y_adv Y 2 4) (y_take (y_adv Y) (y_nc (y_adv Y) 0 32)).1) 2 4 (y_adv Y 2 4 + 1) := eg
  obtain ⟨d1, d2, ⟨d3, d4, d5, d6⟩, ⟨d7, d7b, d7c, d7d⟩, ⟨d8, d9, d10⟩, d11, d12⟩ := d
  rcases w1.num (show (112 : Nat) ≠ 0 by decide) (show 0 < 1 by decide) (show 32 ≤ 100 by decide) with ⟨n1, n2, n3, n4, n5⟩ | ⟨n1, n2⟩
  · obtain ⟨s1, w2, s3⟩ := w1.t n2 n3
    have n1 : y_nc (y_adv Y) 0 32 = true := n1
    have n5 : y_adv Y 0 7 < 32 := n5
    rw [n1, y_take_t w18] at er
    have er : y_it2 Y = ms (ms (y_adv (y_adv Y)) 3 (Y 2 4) (y_adv Y 0 7)) 2 4 (Y 2 4 + 1) := er
    have w3 := (w2.d (k := 3) (j := Y 2 4) (v := y_adv Y 0 7) (by omega) (by omega)).d (k := 2) (j := 4) (v := Y 2 4 + 1) (by omega) (by omega)
    rw [← er] at w3
    have e6 : y_it2 Y 0 6 = y_adv (y_adv Y) 0 6 := by rw [er]; rfl
    refine it_end w3 (show (112 : Nat) ≠ 0 by decide) (show ¬ 0 + 1 < 1 by decide) ?_ ?_ ?_
    · rw [t1, s1, e6]
    · rw [e6]; omega
    · rw [er]
      refine ⟨?_, rfl, ⟨?_, d4, d5, d6⟩, ⟨?_, d7b, d7c, d7d⟩, ⟨?_, d9, d10⟩, ?_, ?_⟩
      · show X 3 2 + 1 = k + 1
        omega
      · show X 4 4 + 1 = Y 2 4 + 1
        omega
      · show X 4 4 + 1 ≤ 5
        omega
      · rw [adv_10]
        show y_adv (y_adv Y) 0 10 = X 3 5 + 2 * X 3 6
        rw [adv_10, adv_10]
        exact d8
      · show ∀ i, i < X 4 4 + 1 → va_up (X 5) (X 4 4) (y_adv Y 0 7) i = va_up (Y 3) (Y 2 4) (y_adv Y 0 7) i
        intro i hi2
        rw [← d3]
        by_cases e : i = X 4 4
        · rw [e, va_up_self, va_up_self]
        · rw [va_up_ne _ _ e, va_up_ne _ _ e]; exact d11 i (by omega)
      · show ∀ i, i < X 4 5 → X 6 i = Y 4 (6 + i) ∧ X 7 i = Y 5 (6 + i) ∧ X 8 i = Y 6 i ∧ X 7 i ≤ 31 ∧ X 8 i < X 4 4 + 1
        intro i hi2
        obtain ⟨a1, a2, a3, a4, a5⟩ := d12 i hi2
        exact ⟨a1, a2, a3, a4, by omega⟩
  · have n1 : y_nc (y_adv Y) 0 32 = false := n1
    rw [n1, y_take_f w18] at er
    refine Or.inl ⟨y_adv Y 0 6, _, ?_, by rw [t1, n2], w1.2.2.2.2.1, b1, it_fail ?_⟩
    · have : ms (ms X 3 3 112) 3 4 0 1 1 = X 1 1 := rfl
      omega
    · rw [er]
      show ms (y_adv Y) 0 8 (y_adv Y 0 6 + 1) 0 8 = y_adv Y 0 6 + 1
      exact ms_at
theorem item_b {k : Nat} (w : WS X Y X0 Y0) (d : DR X Y k) (hi : Y 0 6 < X 1 1) (hc : y_c1 Y = true) (ha : x_acc X (Y 0 6) = (true, ms (ms X 3 3 (Y 0 7)) 3 4 0)) (e7 : Y 0 7 = 98) (hp : X 3 5 = 0) : IO X Y X0 Y0 k := by
  rw [e7] at ha
  obtain ⟨t1, w1, t3⟩ := w.t hi ha
  have w8 : Y 0 8 = 0 := w.2.2.2.1
  have w18 : y_adv Y 0 8 = 0 := w1.2.2.2.1
  have pl1 := w1.place
  have b1 : ∀ k j, ms (ms X 3 3 98) 3 4 0 k j < 1024 := w1.2.2.2.2.2.2.1
  have eg := it_go w8 hc w18
  rw [e7] at eg
  have er : y_it2 Y = ms (ms (y_take (y_adv Y) (y_nc (y_adv Y) 1 10)).2 2 6 (y_take (y_adv Y) (y_nc (y_adv Y) 1 10)).1) 0 10 ((y_take (y_adv Y) (y_nc (y_adv Y) 1 10)).2 0 10 ||| 1) := eg
  obtain ⟨d1, d2, ⟨d3, d4, d5, d6⟩, ⟨d7, d7b, d7c, d7d⟩, ⟨d8, d9, d10⟩, d11, d12⟩ := d
  have tb := told_bits (X 3 5) (by omega) (X 3 6) (by omega)
  rcases w1.num (show (98 : Nat) ≠ 0 by decide) (show 0 < 1 by decide) (show 10 ≤ 100 by decide) with ⟨n1, n2, n3, n4, n5⟩ | ⟨n1, n2⟩
  · obtain ⟨s1, w2, s3⟩ := w1.t n2 n3
    have n1 : y_nc (y_adv Y) 1 10 = true := n1
    have n4 : 1 ≤ y_adv Y 0 7 := n4
    have n5 : y_adv Y 0 7 < 10 := n5
    have e10 : y_adv (y_adv Y) 0 10 ||| 1 = 1 + 2 * X 3 6 := by rw [adv_10, adv_10, d8, tb.2.2.1]
    rw [n1, y_take_t w18] at er
    have er : y_it2 Y = ms (ms (y_adv (y_adv Y)) 2 6 (y_adv Y 0 7)) 0 10 (y_adv (y_adv Y) 0 10 ||| 1) := er
    rw [e10] at er
    have w3 := (w2.d (k := 2) (j := 6) (v := y_adv Y 0 7) (by omega) (by omega)).d10 (v := 1 + 2 * X 3 6) (by omega)
    rw [← er] at w3
    have e6 : y_it2 Y 0 6 = y_adv (y_adv Y) 0 6 := by rw [er]; rfl
    refine it_end w3 (show (98 : Nat) ≠ 0 by decide) (show ¬ 0 + 1 < 1 by decide) ?_ ?_ ?_
    · rw [t1, s1, e6]
    · rw [e6]; omega
    · rw [er]
      refine ⟨?_, rfl, ⟨d3, d4, rfl, d6⟩, ⟨d7, d7b, n4, ?_⟩, ⟨?_, ?_, d10⟩, d11, d12⟩
      · show X 3 2 + 1 = k + 1
        omega
      · show y_adv Y 0 7 ≤ 9
        omega
      · rw [adv_10]
        show 1 + 2 * X 3 6 = 1 + 2 * X 3 6
        rfl
      · show 1 ≤ 1
        exact Nat.le_refl 1
  · have n1 : y_nc (y_adv Y) 1 10 = false := n1
    rw [n1, y_take_f w18] at er
    refine Or.inl ⟨y_adv Y 0 6, _, ?_, by rw [t1, n2], w1.2.2.2.2.1, b1, it_fail ?_⟩
    · have : ms (ms X 3 3 98) 3 4 0 1 1 = X 1 1 := rfl
      omega
    · rw [er]
      show ms (y_adv Y) 0 8 (y_adv Y 0 6 + 1) 0 8 = y_adv Y 0 6 + 1
      exact ms_at
theorem item_s {k : Nat} (w : WS X Y X0 Y0) (d : DR X Y k) (hi : Y 0 6 < X 1 1) (hc : y_c1 Y = true) (ha : x_acc X (Y 0 6) = (true, ms (ms X 3 3 (Y 0 7)) 3 4 0)) (e7 : Y 0 7 = 115) (hp : X 3 6 = 0) : IO X Y X0 Y0 k := by
  rw [e7] at ha
  obtain ⟨t1, w1, t3⟩ := w.t hi ha
  have w8 : Y 0 8 = 0 := w.2.2.2.1
  have w18 : y_adv Y 0 8 = 0 := w1.2.2.2.1
  have pl1 := w1.place
  have b1 : ∀ k j, ms (ms X 3 3 115) 3 4 0 k j < 1024 := w1.2.2.2.2.2.2.1
  have eg := it_go w8 hc w18
  rw [e7] at eg
  have er : y_it2 Y = ms (ms (y_take (y_adv Y) (y_nc (y_adv Y) 0 11)).2 2 7 (y_take (y_adv Y) (y_nc (y_adv Y) 0 11)).1) 0 10 ((y_take (y_adv Y) (y_nc (y_adv Y) 0 11)).2 0 10 ||| 2) := eg
  obtain ⟨d1, d2, ⟨d3, d4, d5, d6⟩, ⟨d7, d7b, d7c, d7d⟩, ⟨d8, d9, d10⟩, d11, d12⟩ := d
  have tb := told_bits (X 3 5) (by omega) (X 3 6) (by omega)
  rcases w1.num (show (115 : Nat) ≠ 0 by decide) (show 0 < 1 by decide) (show 11 ≤ 100 by decide) with ⟨n1, n2, n3, n4, n5⟩ | ⟨n1, n2⟩
  · obtain ⟨s1, w2, s3⟩ := w1.t n2 n3
    have n1 : y_nc (y_adv Y) 0 11 = true := n1
    have n5 : y_adv Y 0 7 < 11 := n5
    have e10 : y_adv (y_adv Y) 0 10 ||| 2 = X 3 5 + 2 * 1 := by rw [adv_10, adv_10, d8, tb.2.2.2]
    rw [n1, y_take_t w18] at er
    have er : y_it2 Y = ms (ms (y_adv (y_adv Y)) 2 7 (y_adv Y 0 7)) 0 10 (y_adv (y_adv Y) 0 10 ||| 2) := er
    rw [e10] at er
    have w3 := (w2.d (k := 2) (j := 7) (v := y_adv Y 0 7) (by omega) (by omega)).d10 (v := X 3 5 + 2 * 1) (by omega)
    rw [← er] at w3
    have e6 : y_it2 Y 0 6 = y_adv (y_adv Y) 0 6 := by rw [er]; rfl
    refine it_end w3 (show (115 : Nat) ≠ 0 by decide) (show ¬ 0 + 1 < 1 by decide) ?_ ?_ ?_
    · rw [t1, s1, e6]
    · rw [e6]; omega
    · rw [er]
      refine ⟨?_, rfl, ⟨d3, d4, d5, rfl⟩, ⟨d7, d7b, d7c, d7d⟩, ⟨?_, d9, ?_⟩, d11, d12⟩
      · show X 3 2 + 1 = k + 1
        omega
      · rw [adv_10]
        show X 3 5 + 2 * 1 = X 3 5 + 2 * 1
        rfl
      · show 1 ≤ 1
        exact Nat.le_refl 1
  · have n1 : y_nc (y_adv Y) 0 11 = false := n1
    rw [n1, y_take_f w18] at er
    refine Or.inl ⟨y_adv Y 0 6, _, ?_, by rw [t1, n2], w1.2.2.2.2.1, b1, it_fail ?_⟩
    · have : ms (ms X 3 3 115) 3 4 0 1 1 = X 1 1 := rfl
      omega
    · rw [er]
      show ms (y_adv Y) 0 8 (y_adv Y 0 6 + 1) 0 8 = y_adv Y 0 6 + 1
      exact ms_at
theorem item_n {k : Nat} (w : WS X Y X0 Y0) (d : DR X Y k) (hi : Y 0 6 < X 1 1) (hc : y_c1 Y = true) (ha : x_acc X (Y 0 6) = (true, ms (ms X 3 3 (Y 0 7)) 3 4 0)) (e7 : Y 0 7 = 110) (hp : X 4 5 < 6) : IO X Y X0 Y0 k := by
  rw [e7] at ha
  obtain ⟨t1, w1, t3⟩ := w.t hi ha
  have w8 : Y 0 8 = 0 := w.2.2.2.1
  have w18 : y_adv Y 0 8 = 0 := w1.2.2.2.1
  have pl1 := w1.place
  have b1 : ∀ k j, ms (ms X 3 3 110) 3 4 0 k j < 1024 := w1.2.2.2.2.2.2.1
  have eg := it_go w8 hc w18
  rw [e7] at eg
  generalize hZ : y_adv Y = Z at *
  have z2 : Z 2 = Y 2 := by rw [← hZ]; rfl
  have z3 : Z 3 = Y 3 := by rw [← hZ]; rfl
  have z4 : Z 4 = Y 4 := by rw [← hZ]; rfl
  have z5 : Z 5 = Y 5 := by rw [← hZ]; rfl
  have z6 : Z 6 = Y 6 := by rw [← hZ]; rfl
  have z10 : Z 0 10 = Y 0 10 := by rw [← hZ]; exact adv_10
  have er : y_it2 Y = y_ri Z 110 := eg
  unfold y_ri at er
  rw [if_neg (by decide), if_pos rfl] at er
  obtain ⟨d1, d2, ⟨d3, d4, d5, d6⟩, ⟨d7, d7b, d7c, d7d⟩, ⟨d8, d9, d10⟩, d11, d12⟩ := d
  have hN : Z 2 5 = X 4 5 := by rw [z2, d4]
  have hP : Z 2 4 = X 4 4 := by rw [z2, d3]
  rw [hN, hP] at er
  rcases w1.num (show (110 : Nat) ≠ 0 by decide) (show 0 < 3 by decide) (show 100 ≤ 100 by decide) with ⟨n1, n2, n3, n4, n5⟩ | ⟨n1, n2⟩
  · obtain ⟨s1, w2, s3⟩ := w1.t n2 n3
    have n1 : y_nc Z 1 100 = true := n1
    have n5 : Z 0 7 < 100 := n5
    rw [n1, y_take_t w18] at er
    have w2 : WS (ms (ms (ms (ms X 3 3 110) 3 4 0) 6 (X 4 5) (Z 0 7)) 3 4 1) (y_adv Z) X0 Y0 := w2
    have w2 := w2.d (k := 4) (j := 6 + X 4 5) (v := Z 0 7) (by omega) (by omega)
    have er : y_it2 Y = (let M1 := ms (y_adv Z) 4 (6 + X 4 5) (Z 0 7); let r2 := y_take M1 (y_nc M1 0 32); let M2 := ms r2.2 5 (6 + X 4 5) r2.1; let r3 := y_take M2 (y_nc M2 0 (X 4 4)); let M3 := ms r3.2 6 (X 4 5) r3.1; ms M3 2 5 (X 4 5 + 1)) := er
    have g2 : ms (y_adv Z) 4 (6 + X 4 5) (Z 0 7) 2 = Y 2 := z2
    have g3 : ms (y_adv Z) 4 (6 + X 4 5) (Z 0 7) 3 = Y 3 := z3
    have g4 : ms (y_adv Z) 4 (6 + X 4 5) (Z 0 7) 4 = va_up (Y 4) (6 + X 4 5) (Z 0 7) := by rw [← z4]; rfl
    have g5 : ms (y_adv Z) 4 (6 + X 4 5) (Z 0 7) 5 = Y 5 := z5
    have g6 : ms (y_adv Z) 4 (6 + X 4 5) (Z 0 7) 6 = Y 6 := z6
    have g10 : ms (y_adv Z) 4 (6 + X 4 5) (Z 0 7) 0 10 = Y 0 10 := by
      show y_adv Z 0 10 = Y 0 10
      rw [adv_10, z10]
    have s1 : xR (ms (ms X 3 3 110) 3 4 0) (Z 0 6) = xR (ms (ms (ms (ms X 3 3 110) 3 4 0) 6 (X 4 5) (Z 0 7)) 3 4 1) (ms (y_adv Z) 4 (6 + X 4 5) (Z 0 7) 0 6) := s1
    have s3 : Z 0 6 < ms (y_adv Z) 4 (6 + X 4 5) (Z 0 7) 0 6 := s3
    generalize hA : Z 0 7 = va at *
    generalize hM1 : ms (y_adv Z) 4 (6 + X 4 5) va = M1 at *
    have w28 : M1 0 8 = 0 := w2.2.2.2.1
    have pl2 := w2.place
    rcases w2.num (show (110 : Nat) ≠ 0 by decide) (show 1 < 3 by decide) (show 32 ≤ 100 by decide) with ⟨m1, m2, m3, m4, m5⟩ | ⟨m1, m2⟩
    · obtain ⟨u1, w3, u3⟩ := w2.t m2 m3
      have m1 : y_nc M1 0 32 = true := m1
      have m5 : M1 0 7 < 32 := m5
      have w3 : WS (ms (ms (ms (ms (ms (ms X 3 3 110) 3 4 0) 6 (X 4 5) va) 3 4 1) 7 (X 4 5) (M1 0 7)) 3 4 2) (y_adv M1) X0 Y0 := w3
      have w3 := w3.d (k := 5) (j := 6 + X 4 5) (v := M1 0 7) (by omega) (by omega)
      have er : y_it2 Y = (let r2 := y_take M1 (y_nc M1 0 32); let M2 := ms r2.2 5 (6 + X 4 5) r2.1; let r3 := y_take M2 (y_nc M2 0 (X 4 4)); let M3 := ms r3.2 6 (X 4 5) r3.1; ms M3 2 5 (X 4 5 + 1)) := er
      rw [m1, y_take_t w28] at er
      have er : y_it2 Y = (let M2 := ms (y_adv M1) 5 (6 + X 4 5) (M1 0 7); let r3 := y_take M2 (y_nc M2 0 (X 4 4)); let M3 := ms r3.2 6 (X 4 5) r3.1; ms M3 2 5 (X 4 5 + 1)) := er
      have k2 : ms (y_adv M1) 5 (6 + X 4 5) (M1 0 7) 2 = Y 2 := g2
      have k3 : ms (y_adv M1) 5 (6 + X 4 5) (M1 0 7) 3 = Y 3 := g3
      have k4 : ms (y_adv M1) 5 (6 + X 4 5) (M1 0 7) 4 = va_up (Y 4) (6 + X 4 5) va := g4
      have k5 : ms (y_adv M1) 5 (6 + X 4 5) (M1 0 7) 5 = va_up (Y 5) (6 + X 4 5) (M1 0 7) := by rw [← g5]; rfl
      have k6 : ms (y_adv M1) 5 (6 + X 4 5) (M1 0 7) 6 = Y 6 := g6
      have k10 : ms (y_adv M1) 5 (6 + X 4 5) (M1 0 7) 0 10 = Y 0 10 := by
        show y_adv M1 0 10 = Y 0 10
        rw [adv_10, g10]
      have u1 : xR (ms (ms (ms (ms X 3 3 110) 3 4 0) 6 (X 4 5) va) 3 4 1) (M1 0 6) = xR (ms (ms (ms (ms (ms (ms X 3 3 110) 3 4 0) 6 (X 4 5) va) 3 4 1) 7 (X 4 5) (M1 0 7)) 3 4 2) (ms (y_adv M1) 5 (6 + X 4 5) (M1 0 7) 0 6) := u1
      have u3 : M1 0 6 < ms (y_adv M1) 5 (6 + X 4 5) (M1 0 7) 0 6 := u3
      generalize hVB : M1 0 7 = vb at *
      generalize hM2 : ms (y_adv M1) 5 (6 + X 4 5) vb = M2 at *
      have w38 : M2 0 8 = 0 := w3.2.2.2.1
      have pl3 := w3.place
      rcases w3.num (show (110 : Nat) ≠ 0 by decide) (show 2 < 3 by decide) (show X 4 4 ≤ 100 by omega) with ⟨p1, p2, p3, p4, p5⟩ | ⟨p1, p2⟩
      · obtain ⟨v1, w4, v3⟩ := w3.t p2 p3
        have p1 : y_nc M2 0 (X 4 4) = true := p1
        have p5 : M2 0 7 < X 4 4 := p5
        have w4 : WS (ms (ms (ms (ms (ms (ms (ms (ms X 3 3 110) 3 4 0) 6 (X 4 5) va) 3 4 1) 7 (X 4 5) vb) 3 4 2) 8 (X 4 5) (M2 0 7)) 3 4 3) (y_adv M2) X0 Y0 := w4
        have w5 := (w4.d (k := 6) (j := X 4 5) (v := M2 0 7) (by omega) (by omega)).d (k := 2) (j := 5) (v := X 4 5 + 1) (by omega) (by omega)
        have er : y_it2 Y = (let r3 := y_take M2 (y_nc M2 0 (X 4 4)); let M3 := ms r3.2 6 (X 4 5) r3.1; ms M3 2 5 (X 4 5 + 1)) := er
        rw [p1, y_take_t w38] at er
        have er : y_it2 Y = ms (ms (y_adv M2) 6 (X 4 5) (M2 0 7)) 2 5 (X 4 5 + 1) := er
        rw [← er] at w5
        have e6 : y_it2 Y 0 6 = y_adv M2 0 6 := by rw [er]; rfl
        refine it_end w5 (show (110 : Nat) ≠ 0 by decide) (show ¬ 3 < 3 by decide) ?_ ?_ ?_
        · rw [t1, s1, u1, v1, e6]; rfl
        · rw [e6]; omega
        · rw [er]
          have q2 : y_adv (ms (ms (y_adv M2) 6 (X 4 5) (M2 0 7)) 2 5 (X 4 5 + 1)) 2 = va_up (Y 2) 5 (X 4 5 + 1) := by rw [← k2]; rfl
          have q3 : y_adv (ms (ms (y_adv M2) 6 (X 4 5) (M2 0 7)) 2 5 (X 4 5 + 1)) 3 = Y 3 := k3
          have q4 : y_adv (ms (ms (y_adv M2) 6 (X 4 5) (M2 0 7)) 2 5 (X 4 5 + 1)) 4 = va_up (Y 4) (6 + X 4 5) va := k4
          have q5 : y_adv (ms (ms (y_adv M2) 6 (X 4 5) (M2 0 7)) 2 5 (X 4 5 + 1)) 5 = va_up (Y 5) (6 + X 4 5) vb := k5
          have q6 : y_adv (ms (ms (y_adv M2) 6 (X 4 5) (M2 0 7)) 2 5 (X 4 5 + 1)) 6 = va_up (Y 6) (X 4 5) (M2 0 7) := by rw [← k6]; rfl
          unfold DR
          rw [q2, q3, q4, q5, q6]
          refine ⟨?_, rfl, ⟨d3, rfl, d5, d6⟩, ⟨d7, ?_, d7c, d7d⟩, ⟨?_, d9, d10⟩, d11, ?_⟩
          · show X 3 2 + 1 = k + 1
            omega
          · show X 4 5 + 1 ≤ 6
            omega
          · rw [adv_10]
            show y_adv M2 0 10 = X 3 5 + 2 * X 3 6
            rw [adv_10, k10]
            exact d8
          · show ∀ i, i < X 4 5 + 1 → va_up (X 6) (X 4 5) va i = va_up (Y 4) (6 + X 4 5) va (6 + i) ∧ va_up (X 7) (X 4 5) vb i = va_up (Y 5) (6 + X 4 5) vb (6 + i) ∧ va_up (X 8) (X 4 5) (M2 0 7) i = va_up (Y 6) (X 4 5) (M2 0 7) i ∧ va_up (X 7) (X 4 5) vb i ≤ 31 ∧ va_up (X 8) (X 4 5) (M2 0 7) i < X 4 4
            intro i hi2
            by_cases e : i = X 4 5
            · rw [e, va_up_self, va_up_self, va_up_self, va_up_self, va_up_self, va_up_self]
              exact ⟨rfl, rfl, rfl, by omega, p5⟩
            · rw [va_up_ne _ _ e, va_up_ne _ _ e, va_up_ne _ _ e, va_up_ne _ _ e, va_up_ne _ _ (show 6 + i ≠ 6 + X 4 5 by omega), va_up_ne _ _ (show 6 + i ≠ 6 + X 4 5 by omega)]
              exact d12 i (by omega)
      · have p1 : y_nc M2 0 (X 4 4) = false := p1
        have er : y_it2 Y = (let r3 := y_take M2 (y_nc M2 0 (X 4 4)); let M3 := ms r3.2 6 (X 4 5) r3.1; ms M3 2 5 (X 4 5 + 1)) := er
        rw [p1, y_take_f w38] at er
        refine Or.inl ⟨M2 0 6, _, ?_, by rw [t1, s1, u1, p2], w3.2.2.2.2.1, w3.2.2.2.2.2.2.1, it_fail ?_⟩
        · omega
        · rw [er]
          show ms M2 0 8 (M2 0 6 + 1) 0 8 = M2 0 6 + 1
          exact ms_at
    · have m1 : y_nc M1 0 32 = false := m1
      have er : y_it2 Y = (let r2 := y_take M1 (y_nc M1 0 32); let M2 := ms r2.2 5 (6 + X 4 5) r2.1; let r3 := y_take M2 (y_nc M2 0 (X 4 4)); let M3 := ms r3.2 6 (X 4 5) r3.1; ms M3 2 5 (X 4 5 + 1)) := er
      rw [m1, y_take_f w28] at er
      refine Or.inl ⟨M1 0 6, _, ?_, by rw [t1, s1, m2], w2.2.2.2.2.1, w2.2.2.2.2.2.2.1, it_fail ?_⟩
      · omega
      · rw [er]
        show (y_take (ms (ms M1 0 8 (M1 0 6 + 1)) 5 (6 + X 4 5) 0) (y_nc (ms (ms M1 0 8 (M1 0 6 + 1)) 5 (6 + X 4 5) 0) 0 (X 4 4))).2 0 8 = M1 0 6 + 1
        have e8 : ms (ms M1 0 8 (M1 0 6 + 1)) 5 (6 + X 4 5) 0 0 8 = M1 0 6 + 1 := (ms_at : ms M1 0 8 (M1 0 6 + 1) 0 8 = M1 0 6 + 1)
        rw [take_f8 (by omega), e8]
  · have n1 : y_nc Z 1 100 = false := n1
    rw [n1, y_take_f w18] at er
    refine Or.inl ⟨Z 0 6, _, ?_, by rw [t1, n2], w1.2.2.2.2.1, b1, it_fail ?_⟩
    · have : ms (ms X 3 3 110) 3 4 0 1 1 = X 1 1 := rfl
      omega
    · rw [er]
      have e8 : ms (ms Z 0 8 (Z 0 6 + 1)) 4 (6 + X 4 5) 0 0 8 = Z 0 6 + 1 := (ms_at : ms Z 0 8 (Z 0 6 + 1) 0 8 = Z 0 6 + 1)
      dsimp only
      rw [y_take_n (M := ms (ms Z 0 8 (Z 0 6 + 1)) 4 (6 + X 4 5) 0) (by omega)]
      dsimp only
      have e9 : ms (ms (ms Z 0 8 (Z 0 6 + 1)) 4 (6 + X 4 5) 0) 5 (6 + X 4 5) 0 0 8 = Z 0 6 + 1 := e8
      rw [y_take_n (M := ms (ms (ms Z 0 8 (Z 0 6 + 1)) 4 (6 + X 4 5) 0) 5 (6 + X 4 5) 0) (by omega)]
      exact e9
end REL9
