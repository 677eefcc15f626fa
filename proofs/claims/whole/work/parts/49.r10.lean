/-! country: the whole text -/
section REL10
variable {X Y X' Y' X0 Y0 : Nat → Nat → Nat}
theorem item_all {k : Nat} (w : WS X Y X0 Y0) (d : DR X Y k) (hi : Y 0 6 < X 1 1) : IO X Y X0 Y0 k := by
  have pl := w.place
  rcases w.opn d hi with ⟨c, a, e, e1, e2, e3, e4⟩ | ⟨c, a⟩
  · rcases e with e | e | e | e
    · exact item_p w d hi c a e (e1 e)
    · exact item_n w d hi c a e (e2 e)
    · exact item_b w d hi c a e (e3 e)
    · exact item_s w d hi c a e (e4 e)
  · exact Or.inl ⟨Y 0 6, X, by omega, a, w.2.2.2.2.1, w.2.2.2.2.2.2.1, it_bad w.2.2.2.1 c⟩
theorem FY.take (h : FY Y Y0) (b : Bool) : FY (y_take Y b).2 Y0 := by
  obtain ⟨a, b2, c, d⟩ := h
  refine ⟨fun k hk => ?_, fun j hj => ?_, c, d⟩
  · rw [← a k hk]; exact y_take_row (by omega)
  · rw [← b2 j hj]; exact y_take_keep (by omega) (by omega) (by omega) (by omega) (by omega)
theorem FY.ri (h : FY Y Y0) (x : Nat) : FY (y_ri Y x) Y0 := by
  unfold y_ri
  split
  · exact ((h.take _).ms (by omega)).ms (by omega)
  · split
    · dsimp only
      exact ((((((h.take _).ms (by omega)).take _).ms (by omega)).take _).ms (by omega)).ms (by omega)
    · split
      · exact ((h.take _).ms (by omega)).ms (by omega)
      · exact ((h.take _).ms (by omega)).ms (by omega)
theorem FY.item (h : FY Y Y0) : FY (y_item Y) Y0 := by
  unfold y_item
  refine FY.take ?_ _
  unfold y_it2
  split
  · exact (FY.take h _).ri _
  · exact FY.take h _
/-- how it comes out -/
def OUT (X0 Y0 : Nat → Nat → Nat) (rx ry : Int32 × (Nat → Nat → Nat)) : Prop :=
  (∃ n X' Y', n ≤ 150 ∧ rx = (nI n, X') ∧ ry = (nI n, y_set Y') ∧ FX X' X0 ∧ FY Y' Y0 ∧ DR X' Y' n ∧ (∀ k j, X' k j < 1024) ∧ (∀ k j, Y' k j < 1024)) ∨
  (∃ p X' Y', p ≤ 150 ∧ rx = (-10 - nI p, X') ∧ ry = (-10 - nI p, Y') ∧ FX X' X0 ∧ FY Y' Y0 ∧ (∀ k j, X' k j < 1024) ∧ (∀ k j, Y' k j < 1024))
theorem end_f {p k : Nat} (hp : p ≤ 150) (h : Y 0 8 = p + 1) : ∀ f, y_loop f k Y = (-10 - nI p, Y) := by
  have e : y_end Y k = (-10 - nI p, Y) := by
    unfold y_end
    rw [if_neg (by omega), h, show nI (p + 1) - 1 = nI p from pk_sub (show 1 ≤ p + 1 by omega)]
  intro f
  cases f with
  | zero => exact e
  | succ f =>
    show (if Y 0 8 = 0 ∧ Y 0 5 ≠ 0 then y_loop f (k + 1) (y_item Y) else y_end Y k) = _
    rw [if_neg (fun q => by omega), e]
theorem loop_ok : ∀ f k X Y, WS X Y X0 Y0 → DR X Y k → Y 2 4 ≤ 5 → X 1 1 - Y 0 6 < f → OUT X0 Y0 (xR X (Y 0 6)) (y_loop f k Y)
  | 0, k, X, Y, w, d, _, hf => absurd hf (Nat.not_lt_zero _)
  | f + 1, k, X, Y, w, d, h24, hf => by
    have pl := w.place
    have w8 : Y 0 8 = 0 := w.2.2.2.1
    have ri : x_RI X (Y 0 6) := w.2.2.2.2.2.2
    have rb : y_RB Y := w.2.2.1
    show OUT X0 Y0 (xR X (Y 0 6)) (if Y 0 8 = 0 ∧ Y 0 5 ≠ 0 then y_loop f (k + 1) (y_item Y) else y_end Y k)
    have hk := w.2.1
    rcases hk with ⟨k1, k2⟩ | ⟨k1, k2⟩
    · rw [if_neg (fun q => q.2 k2), k1, xR_end]
      have e33 : X 3 3 = 0 := d.2.1
      have e32 : X 3 2 = k := d.1
      have hkk : X 3 2 ≤ Y 0 6 := ri.2.2.1
      rw [if_pos e33, e32]
      unfold y_end
      rw [if_pos w8]
      exact Or.inl ⟨k, X, Y, by omega, rfl, rfl, w.2.2.2.2.1, w.2.2.2.2.2.1, d, ri.1, rb.1⟩
    · have h5 : Y 0 5 ≠ 0 := by
        obtain ⟨k3, k4, k5, k6, k7⟩ := k2
        rcases k7 with ⟨_, k7⟩ | ⟨_, _, k7⟩
        · rcases k7 with k7 | k7 <;> omega
        · rw [k7]; unfold y_tl; (repeat' split) <;> decide
      rw [if_pos ⟨w8, h5⟩]
      have hci : y_CI (Y 0 3) Y 0 := ⟨rb, rfl, h24, by have := d.2.2.2.1.2.1; have := d.2.2.1.2.1; omega, by have := d.2.2.2.2.1; omega, fun _ => Nat.zero_le _⟩
      have hci2 := y_item_CI hci h5 w8
      rcases item_all w d k1 with ⟨p, X', p1, p2, p3, p4, p5⟩ | ⟨X', p1, p2, p3, p4⟩
      · rw [p2, end_f p1 p5 f]
        exact Or.inr ⟨p, X', y_item Y, p1, rfl, rfl, p3, w.2.2.2.2.2.1.item, p4, hci2.1.1⟩
      · rw [p1]
        have e11 : X' 1 = X 1 := by rw [p2.2.2.2.2.1 1 (by omega), w.2.2.2.2.1 1 (by omega)]
        have pl2 := p2.place
        rw [e11] at pl2
        exact loop_ok f (k + 1) X' (y_item Y) p2 p3 hci2.2.2.1 (by rw [e11]; omega)
theorem bgs_dg (k : Nat) : y_dg (y_bgs (ms (ms Y 0 8 0) 0 4 0)) k = y_dg Y k := rfl
theorem cty_out (h : Rel X Y) : OUT X Y (x_Z X) (y_cty Y) := by
  obtain ⟨t1, t2, t3, t4⟩ := h.t
  have ri := x_rb_RI (M := X) t1 t4 h.xB
  have tx : TXT (x_rb X) (y_bgs (ms (ms Y 0 8 0) 0 4 0)) := ⟨t2, t1, t3⟩
  obtain ⟨a1, a2, a3, a4⟩ := adv_ok tx (Nat.zero_le _) (Or.inl rfl)
  have c0 := y_c0_CI h.yB (show Y 0 3 ≤ 150 by omega)
  have fy : FY (y_bgs (ms (ms Y 0 8 0) 0 4 0)) Y := by
    have z : FY Y Y := ⟨fun _ _ => rfl, fun _ _ => rfl, fun _ _ => rfl, fun _ _ => ⟨rfl, rfl⟩⟩
    exact ((((((z.ms (by omega)).ms (by omega)).ms (by omega)).ms (by omega)).ms (by omega)).ms (by omega)).ms (by omega)
  have fx : FX (x_rb X) X := by
    intro k hk
    unfold x_rb
    rw [ms_o (by omega), ms_o (by omega), ms_o (by omega), ms_o (by omega), ms_o (by omega), ms_o (by omega), ms_o (by omega), ms_o (by omega)]
  have a3 : y_c0 Y 0 6 ≤ X 1 1 := a3
  have w : WS (x_rb X) (y_c0 Y) X Y := by
    refine ⟨adv_txt tx, a1, c0.1, ?_, fx, fy.adv, ?_⟩
    · show y_adv (y_bgs (ms (ms Y 0 8 0) 0 4 0)) 0 8 = 0
      rw [show y_adv (y_bgs (ms (ms Y 0 8 0) 0 4 0)) 0 8 = y_bgs (ms (ms Y 0 8 0) 0 4 0) 0 8 from y_a0_keep (by decide) (by decide) (by decide) (by decide)]
      rfl
    · obtain ⟨q1, q2, q3, q4⟩ := ri
      exact ⟨q1, q2, by omega, q4⟩
  have d : DR (x_rb X) (y_c0 Y) 0 := by
    refine ⟨rfl, rfl, ⟨rfl, rfl, rfl, rfl⟩, ⟨(by decide : 0 ≤ 5), (by decide : 0 ≤ 6), (by decide : 1 ≤ 3), (by decide : 3 ≤ 9)⟩, ⟨?_, (by decide : 0 ≤ 1), (by decide : 0 ≤ 1)⟩, fun i hi => absurd hi (Nat.not_lt_zero i), fun i hi => absurd hi (Nat.not_lt_zero i)⟩
    show y_adv (y_bgs (ms (ms Y 0 8 0) 0 4 0)) 0 10 = 0
    rw [adv_10]
    rfl
  have e : x_Z X = xR (x_rb X) (y_c0 Y 0 6) := by
    unfold x_Z xR
    have s := rd_skip (x_rb X) (y_c0 Y 0 6) (X 1 1 - y_c0 Y 0 6) 0 (fun j _ hj => a4 j (Nat.zero_le _) (Nat.lt_of_lt_of_eq hj (Nat.zero_add _)))
    rw [show X 1 1 - y_c0 Y 0 6 + y_c0 Y 0 6 = X 1 1 by omega, Nat.zero_add] at s
    exact s
  rw [e]
  unfold y_cty
  exact loop_ok (Y 0 3 + 1) 0 (x_rb X) (y_c0 Y) w d c0.2.2.1 (by show X 1 1 - y_c0 Y 0 6 < Y 0 3 + 1; omega)
theorem Rel.frame (h : Rel X0 Y0) (fx : FX X X0) (fy : FY Y Y0) (bx : ∀ k j, X k j < 1024) (b : ∀ k j, Y k j < 1024) : Rel X Y := by
  obtain ⟨f1, f2, f3, f4⟩ := fy
  have y00 := f2 0 (by omega)
  have y03 := f2 3 (by omega)
  have y19 := f2 19 (by omega)
  have y22 := f2 22 (by omega)
  have y25 := f2 25 (by omega)
  have x1 := fx 1 (by omega)
  have x2 := fx 2 (by omega)
  have x9 := fx 9 (by omega)
  have x11 := fx 11 (by omega)
  have x12 := fx 12 (by omega)
  have x15 := fx 15 (by omega)
  have x16 := fx 16 (by omega)
  have x17 := fx 17 (by omega)
  have x18 := fx 18 (by omega)
  have x19 := fx 19 (by omega)
  have x21 := fx 21 (by omega)
  have x22 := fx 22 (by omega)
  have x23 := fx 23 (by omega)
  have x24 := fx 24 (by omega)
  have x25 := fx 25 (by omega)
  have x26 := fx 26 (by omega)
  refine ⟨⟨bx, b, by rw [y00]; exact h.z⟩, ?_, ?_, ?_, ?_, ?_, ?_, ?_⟩
  · unfold rT; rw [x1, x2, y03, f1 1 (by omega)]; exact h.t
  · unfold rC
    rw [x9, x11, x12, f3 0 (by decide), f3 1 (by decide), f3 2 (by decide), f3 3 (by decide)]
    obtain ⟨c1, c2, c3, c4, c5, c6, c7, c8⟩ := h.c
    refine ⟨c1, c2, c3, c4, c5, c6, c7, fun n hn => ?_⟩
    rw [(f4 n (by omega)).1, (f4 n (by omega)).2]
    exact c8 n hn
  · unfold rN; rw [x9, x12, x15, f1 7 (by omega)]; exact h.n
  · unfold rH; rw [x9, x12, x16, x17, y19, f1 10 (by omega)]; exact h.h
  · unfold rM; rw [x9, x12, x18, x19, f1 8 (by omega), f1 9 (by omega)]; exact h.m
  · unfold rS; rw [x9, x21, x22, x23, y22, f1 11 (by omega), f1 12 (by omega)]; exact h.s
  · unfold rB; rw [x24, x25, x26, y25, f1 13 (by omega), f1 14 (by omega)]; exact h.b
end REL10
