/-! country: the text and its tokens -/
section REL7
variable {X Y X' Y' X0 Y0 : Nat → Nat → Nat}
def TXT (X Y : Nat → Nat → Nat) : Prop := X 1 1 = Y 0 3 ∧ X 1 1 ≤ 150 ∧ ∀ j, j < X 1 1 → X 2 j = Y 1 j
theorem TXT.dg (h : TXT X Y) {j : Nat} (hj : j < 1000) : x_dg X (nI j) = y_dg Y j := by
  obtain ⟨h1, h2, h3⟩ := h
  rw [x_dg_nI (by omega) (by omega)]
  unfold y_dg
  rw [← h1]
  by_cases c : j < X 1 1
  · rw [h3 j c]
  · rw [decide_eq_false c, Bool.false_and, Bool.false_and]
theorem TXT.bt (h : TXT X Y) {a : Nat} (ha : a < 1000) : x_bt X a = if y_dg Y a = true then !(decide (0 < a) && y_dg Y (a - 1)) else decide (X 2 a ≠ 32) := by
  unfold x_bt
  rw [h.dg ha]
  by_cases c : y_dg Y a = true
  · rw [if_pos c, if_pos c]
    rcases Nat.eq_zero_or_pos a with z | z
    · subst z
      rw [x_dg_neg (show nI 0 - nI 1 < 0 by decide)]; rfl
    · rw [pk_sub (show 1 ≤ a from z), h.dg (by omega), decide_eq_true z, Bool.true_and]
  · rw [if_neg c, if_neg c]
theorem rd_skip (X : Nat → Nat → Nat) : ∀ d k a, (∀ j, a ≤ j → j < a + d → x_bt X j = false) → x_rd (k + d) a X = x_rd k (a + d) X
  | 0, k, a, _ => rfl
  | d + 1, k, a, h => by
    have e : x_rd (k + (d + 1)) a X = if x_bt X a then (if (x_acc X a).1 then x_rd (k + d) (a + 1) (x_acc X a).2 else (-10 - nI a, (x_acc X a).2)) else x_rd (k + d) (a + 1) X := rfl
    rw [e, h a (Nat.le_refl _) (by omega), if_neg (by decide), rd_skip X d k (a + 1) (fun j h1 h2 => h j (by omega) (by omega)), show a + 1 + d = a + (d + 1) by omega]
theorem skip_ok (M : Nat → Nat → Nat) : ∀ k i, (∀ j, i ≤ j → j < y_skip M k i → M 1 j = 32) ∧ (y_skip M k i < i + k → M 1 (y_skip M k i) ≠ 32)
  | 0, i => ⟨fun j h1 h2 => absurd h1 (Nat.not_le.mpr h2), fun h => absurd h (Nat.lt_irrefl i)⟩
  | k + 1, i => by
    unfold y_skip
    by_cases c : M 1 i = 32
    · rw [if_pos c]
      obtain ⟨a, b⟩ := skip_ok M k (i + 1)
      refine ⟨fun j h1 h2 => ?_, fun h => b (by omega)⟩
      by_cases e : j = i
      · rw [e]; exact c
      · exact a j (by omega) h2
    · rw [if_neg c]; exact ⟨fun j h1 h2 => absurd h1 (Nat.not_le.mpr h2), fun _ => c⟩
theorem num_ok (M : Nat → Nat → Nat) : ∀ k j v, (∀ i, j ≤ i → i < (y_num M k j v).1 → y_dg M i = true) ∧ ((y_num M k j v).1 < j + k → y_dg M (y_num M k j v).1 = false)
  | 0, j, v => ⟨fun i h1 h2 => absurd h1 (Nat.not_le.mpr h2), fun h => absurd h (Nat.lt_irrefl j)⟩
  | k + 1, j, v => by
    unfold y_num
    by_cases c : y_dg M j = true
    · rw [if_pos c]
      obtain ⟨a, b⟩ := num_ok M k (j + 1) (if 99 < v then v else 10 * v + M 1 j - 48)
      refine ⟨fun i h1 h2 => ?_, fun h => b (by omega)⟩
      by_cases e : i = j
      · rw [e]; exact c
      · exact a i (by omega) h2
    · rw [if_neg c]; exact ⟨fun i h1 h2 => absurd h1 (Nat.not_le.mpr h2), fun _ => by rw [← Bool.not_eq_true]; exact c⟩
theorem nl_ok (h : TXT X Y) : ∀ k i vx vy, i + k ≤ 500 → vx = min 100 vy → x_nl X k i vx = min 100 (y_num Y k i vy).2
  | 0, i, vx, vy, _, e => e
  | k + 1, i, vx, vy, hk, e => by
    unfold x_nl y_num
    rw [h.dg (by omega)]
    by_cases c : y_dg Y i = true
    · rw [if_pos c, if_pos c]
      refine nl_ok h k (i + 1) _ _ (by omega) ?_
      have d := y_dg_d c
      have e2 : X 2 i = Y 1 i := h.2.2 i (by rw [h.1]; exact d.1)
      rw [e2]
      split <;> omega
    · rw [if_neg c, if_neg c]; exact e
/-- y's token: where it stands, and what it is -/
def TK (X Y : Nat → Nat → Nat) : Prop :=
  (Y 0 6 = X 1 1 ∧ Y 0 5 = 0) ∨
  (Y 0 6 < X 1 1 ∧ x_bt X (Y 0 6) = true ∧ (∀ j, Y 0 6 < j → j < Y 0 4 → x_bt X j = false) ∧ Y 0 6 < Y 0 4 ∧ ¬ (y_dg Y (Y 0 4 - 1) = true ∧ y_dg Y (Y 0 4) = true) ∧
    ((x_dg X (nI (Y 0 6)) = true ∧ ((x_na X (Y 0 6) ≤ 99 ∧ Y 0 5 = 2 ∧ Y 0 7 = x_na X (Y 0 6)) ∨ (x_na X (Y 0 6) = 100 ∧ Y 0 5 = 4)))
     ∨ (x_dg X (nI (Y 0 6)) = false ∧ Y 0 7 = X 2 (Y 0 6) ∧ Y 0 5 = y_tl (X 2 (Y 0 6)))))
theorem adv_dg (k : Nat) : y_dg (y_adv Y) k = y_dg Y k := by
  unfold y_dg
  rw [show y_adv Y 0 3 = Y 0 3 from y_a0_keep (by decide) (by decide) (by decide) (by decide)]
  rfl
theorem adv_txt (h : TXT X Y) : TXT X (y_adv Y) := by
  refine ⟨?_, h.2.1, h.2.2⟩
  rw [show y_adv Y 0 3 = Y 0 3 from y_a0_keep (by decide) (by decide) (by decide) (by decide)]
  exact h.1
theorem adv_ok (h : TXT X Y) (ha : Y 0 4 ≤ Y 0 3) (hb : Y 0 4 = 0 ∨ ¬ (y_dg Y (Y 0 4 - 1) = true ∧ y_dg Y (Y 0 4) = true)) : TK X (y_adv Y) ∧ Y 0 4 ≤ y_adv Y 0 6 ∧ y_adv Y 0 6 ≤ X 1 1 ∧ (∀ j, Y 0 4 ≤ j → j < y_adv Y 0 6 → x_bt X j = false) := by
  have hL := h.2.1
  have h1 := h.1
  have hi := y_i0_le ha
  have hs := skip_ok Y (Y 0 3 - Y 0 4) (Y 0 4)
  have hs1 : ∀ j, Y 0 4 ≤ j → j < y_i0 Y → Y 1 j = 32 := hs.1
  have hs2 : y_i0 Y < Y 0 3 → Y 1 (y_i0 Y) ≠ 32 := fun q => hs.2 (by have : y_skip Y (Y 0 3 - Y 0 4) (Y 0 4) < Y 0 3 := q; omega)
  have sp : ∀ j, Y 0 4 ≤ j → j < y_i0 Y → y_dg Y j = false := by
    intro j a b
    rw [← Bool.not_eq_true]
    intro q
    have := y_dg_d q
    have := hs1 j a b
    omega
  have skipped : ∀ j, Y 0 4 ≤ j → j < y_i0 Y → x_bt X j = false := by
    intro j a b
    rw [h.bt (by omega), sp j a b, if_neg (by decide), h.2.2 j (by omega), hs1 j a b]
    rfl
  have e6 : y_adv Y 0 6 = y_i0 Y := by
    show y_a0 Y 6 = y_i0 Y
    unfold y_a0
    (repeat' split) <;> rfl
  rw [e6]
  refine ⟨?_, hi.1, by omega, skipped⟩
  by_cases cz : y_i0 Y < Y 0 3
  · refine Or.inr ?_
    have cz' : y_i0 Y < X 1 1 := by omega
    have e2 : X 2 (y_i0 Y) = Y 1 (y_i0 Y) := h.2.2 _ cz'
    have hbt : x_bt X (y_i0 Y) = true := by
      rw [h.bt (by omega)]
      by_cases c : y_dg Y (y_i0 Y) = true
      · rw [if_pos c]
        have : (decide (0 < y_i0 Y) && y_dg Y (y_i0 Y - 1)) = false := by
          by_cases e : y_i0 Y = Y 0 4
          · rw [e] at c ⊢
            rcases hb with z | z
            · rw [z]; rfl
            · have : y_dg Y (Y 0 4 - 1) = false := by rw [← Bool.not_eq_true]; exact fun q => z ⟨q, c⟩
              rw [this, Bool.and_false]
          · rw [sp _ (by omega) (by omega), Bool.and_false]
        rw [this]; rfl
      · rw [if_neg c, e2]
        exact decide_eq_true (hs2 cz)
    by_cases cd : y_dg Y (y_i0 Y) = true
    · have f4 : y_adv Y 0 4 = (y_jv Y).1 := by
        show y_a0 Y 4 = _
        unfold y_a0
        rw [if_pos cz, if_pos cd]
        rfl
      have f7 : y_adv Y 0 7 = (y_jv Y).2 := by
        show y_a0 Y 7 = _
        unfold y_a0
        rw [if_pos cz, if_pos cd]
        rfl
      have f5 : y_adv Y 0 5 = if 99 < (y_jv Y).2 ∨ (Y 1 (y_i0 Y) = 48 ∧ 1 < (y_jv Y).1 - y_i0 Y) then 4 else 2 := by
        show y_a0 Y 5 = _
        unfold y_a0
        rw [if_pos cz, if_pos cd]
        rfl
      have hgt := y_jv_gt cz cd
      have hle := y_jv_le hi.2
      have hn := num_ok Y (Y 0 3 - y_i0 Y) (y_i0 Y) 0
      have n1 : ∀ i, y_i0 Y ≤ i → i < (y_jv Y).1 → y_dg Y i = true := hn.1
      have n2 : y_dg Y (y_jv Y).1 = false := by
        by_cases q : (y_jv Y).1 < Y 0 3
        · exact hn.2 (by have : (y_num Y (Y 0 3 - y_i0 Y) (y_i0 Y) 0).1 < Y 0 3 := q; omega)
        · exact y_dg_out q
      have el : 1 < (y_jv Y).1 - y_i0 Y ↔ y_dg Y (y_i0 Y + 1) = true := by
        constructor
        · intro q; exact n1 _ (by omega) (by omega)
        · intro q
          rcases Nat.lt_or_ge 1 ((y_jv Y).1 - y_i0 Y) with z | z
          · exact z
          · exfalso
            rw [show (y_jv Y).1 = y_i0 Y + 1 by omega] at n2
            rw [n2] at q
            cases q
      have ena : x_na X (y_i0 Y) = if Y 1 (y_i0 Y) = 48 ∧ 1 < (y_jv Y).1 - y_i0 Y then 100 else min 100 (y_jv Y).2 := by
        unfold x_na
        rw [e2, h.dg (by omega), nl_ok h (X 1 1 - y_i0 Y) (y_i0 Y) 0 0 (by omega) rfl, h1]
        by_cases q : Y 1 (y_i0 Y) = 48 ∧ 1 < (y_jv Y).1 - y_i0 Y
        · rw [if_pos q, if_pos ⟨q.1, el.mp q.2⟩]
        · rw [if_neg q, if_neg (fun z => q ⟨z.1, el.mpr z.2⟩)]; rfl
      rw [e6, f4, f7, f5, adv_dg, adv_dg]
      refine ⟨cz', hbt, ?_, hgt, ?_, Or.inl ⟨by rw [h.dg (by omega)]; exact cd, ?_⟩⟩
      · intro j a b
        rw [h.bt (by omega), n1 j (by omega) b, if_pos rfl, n1 (j - 1) (by omega) (by omega), decide_eq_true (by omega)]
        rfl
      · intro q
        rw [n2] at q
        cases q.2
      · rw [ena]
        by_cases q : Y 1 (y_i0 Y) = 48 ∧ 1 < (y_jv Y).1 - y_i0 Y
        · rw [if_pos q, if_pos (Or.inr q)]; exact Or.inr ⟨rfl, rfl⟩
        · rw [if_neg q]
          by_cases q2 : 99 < (y_jv Y).2
          · rw [if_pos (Or.inl q2)]; exact Or.inr ⟨by omega, rfl⟩
          · rw [if_neg (fun z => z.elim q2 q)]; exact Or.inl ⟨by omega, rfl, by omega⟩
    · have f4 : y_adv Y 0 4 = y_i0 Y + 1 := by
        show y_a0 Y 4 = _
        unfold y_a0
        rw [if_pos cz, if_neg cd]
        rfl
      have f7 : y_adv Y 0 7 = Y 1 (y_i0 Y) := by
        show y_a0 Y 7 = _
        unfold y_a0
        rw [if_pos cz, if_neg cd]
        rfl
      have f5 : y_adv Y 0 5 = y_tl (Y 1 (y_i0 Y)) := by
        show y_a0 Y 5 = _
        unfold y_a0
        rw [if_pos cz, if_neg cd]
        rfl
      rw [e6, f4, f7, f5, adv_dg, adv_dg, e2]
      refine ⟨cz', hbt, fun j a b => by omega, by omega, fun q => cd q.1, Or.inr ⟨?_, rfl, rfl⟩⟩
      rw [h.dg (by omega), ← Bool.not_eq_true]; exact cd
  · refine Or.inl ⟨by rw [e6]; omega, ?_⟩
    show y_a0 Y 5 = 0
    unfold y_a0
    rw [if_neg cz]
    rfl
theorem x_dg_c (e1 : X' 1 = X 1) (e2 : X' 2 = X 2) : x_dg X' = x_dg X := by
  funext a; unfold x_dg; rw [e1, e2]
theorem x_bt_c (e1 : X' 1 = X 1) (e2 : X' 2 = X 2) : x_bt X' = x_bt X := by
  funext a; unfold x_bt; rw [x_dg_c e1 e2, e2]
theorem x_nl_c (e1 : X' 1 = X 1) (e2 : X' 2 = X 2) : ∀ k i v, x_nl X' k i v = x_nl X k i v
  | 0, _, _ => rfl
  | k + 1, i, v => by
    unfold x_nl
    rw [x_dg_c e1 e2, x_nl_c e1 e2 k, e2]
theorem x_na_c (e1 : X' 1 = X 1) (e2 : X' 2 = X 2) : x_na X' = x_na X := by
  funext a; unfold x_na; rw [x_dg_c e1 e2, x_nl_c e1 e2, e2, e1]
theorem TK.cx (e1 : X' 1 = X 1) (e2 : X' 2 = X 2) (h : TK X Y) : TK X' Y := by
  unfold TK at *
  rw [x_bt_c e1 e2, x_dg_c e1 e2, x_na_c e1 e2, e1, e2]
  exact h
theorem TXT.cx (e1 : X' 1 = X 1) (e2 : X' 2 = X 2) (h : TXT X Y) : TXT X' Y := by
  unfold TXT at *
  rw [e1, e2]
  exact h
theorem x_acc_row {M : Nat → Nat → Nat} {a k : Nat} (hk : k < 3 ∨ 8 < k) : (x_acc M a).2 k = M k := by
  unfold x_acc
  split
  · unfold x_bi
    split
    · show ms (ms M 3 3 (M 2 a)) 3 4 0 k = M k
      rw [ms_o (by omega), ms_o (by omega)]
    · rfl
  · split
    · split
      · unfold x_an
        split
        · show ms (x_st M (x_na M a)) 3 4 (x_st M (x_na M a) 3 4 + 1) k = M k
          rw [ms_o (by omega)]
          unfold x_st x_son
          (repeat' split) <;> exact ms_o (by omega)
        · rfl
      · rfl
    · split
      · show ms (ms (x_eiN M) 3 3 0) 3 2 (M 3 2 + 1) k = M k
        rw [ms_o (by omega), ms_o (by omega)]
        unfold x_eiN
        (repeat' split) <;> exact ms_o (by omega)
      · rfl
def FX (X X0 : Nat → Nat → Nat) : Prop := ∀ k, (k < 3 ∨ 8 < k) → X k = X0 k
def FY (Y Y0 : Nat → Nat → Nat) : Prop := (∀ k, (k = 1 ∨ 6 < k) → Y k = Y0 k) ∧ (∀ j, (j < 4 ∨ 10 < j) → Y 0 j = Y0 0 j) ∧ (∀ j, j < 4 → Y 2 j = Y0 2 j) ∧ (∀ j, j < 6 → Y 4 j = Y0 4 j ∧ Y 5 j = Y0 5 j)
theorem FX.acc (h : FX X X0) (a : Nat) : FX (x_acc X a).2 X0 := fun k hk => (x_acc_row hk).trans (h k hk)
theorem FY.adv (h : FY Y Y0) : FY (y_adv Y) Y0 := by
  obtain ⟨a, b, c, d⟩ := h
  refine ⟨fun k hk => ?_, fun j hj => ?_, c, d⟩
  · rw [← a k hk]
    exact va_up_ne _ _ (by omega)
  · rw [← b j hj]
    exact y_a0_keep (by omega) (by omega) (by omega) (by omega)
theorem FY.ms {k j v : Nat} (hk : (k = 0 ∧ 4 ≤ j ∧ j ≤ 10) ∨ (k = 2 ∧ 4 ≤ j) ∨ k = 3 ∨ (k = 4 ∧ 6 ≤ j) ∨ (k = 5 ∧ 6 ≤ j) ∨ k = 6) (h : FY Y Y0) : FY (ms Y k j v) Y0 := by
  obtain ⟨a, b, c, d⟩ := h
  refine ⟨fun i hi => ?_, fun i hi => ?_, fun i hi => ?_, fun i hi => ⟨?_, ?_⟩⟩
  · rw [← a i hi]; exact ms_o (by omega)
  · rw [← b i hi, ms_if, if_neg (by omega)]
  · rw [← c i hi, ms_if, if_neg (by omega)]
  · rw [← (d i hi).1, ms_if, if_neg (by omega)]
  · rw [← (d i hi).2, ms_if, if_neg (by omega)]
/-- both read on: y's token stands where x is -/
def WS (X Y X0 Y0 : Nat → Nat → Nat) : Prop := TXT X Y ∧ TK X Y ∧ y_RB Y ∧ Y 0 8 = 0 ∧ FX X X0 ∧ FY Y Y0 ∧ x_RI X (Y 0 6)
def xR (X : Nat → Nat → Nat) (i : Nat) : Int32 × (Nat → Nat → Nat) := x_rd (X 1 1 - i) i X
theorem xR_end (X : Nat → Nat → Nat) : xR X (X 1 1) = (if X 3 3 = 0 then nI (X 3 2) else -10 - nI (X 1 1), X) := by
  unfold xR
  rw [Nat.sub_self]
  rfl
theorem xR_f {i : Nat} (hi : i < X 1 1) (hb : x_bt X i = true) (ha : x_acc X i = (false, X)) : xR X i = (-10 - nI i, X) := by
  unfold xR
  rw [show X 1 1 - i = (X 1 1 - i - 1) + 1 by omega]
  show (if x_bt X i then (if (x_acc X i).1 then x_rd (X 1 1 - i - 1) (i + 1) (x_acc X i).2 else (-10 - nI i, (x_acc X i).2)) else x_rd (X 1 1 - i - 1) (i + 1) X) = _
  rw [if_pos hb, ha]
  rfl
theorem WS.t (w : WS X Y X0 Y0) (hi : Y 0 6 < X 1 1) (ha : x_acc X (Y 0 6) = (true, X')) : xR X (Y 0 6) = xR X' (y_adv Y 0 6) ∧ WS X' (y_adv Y) X0 Y0 ∧ Y 0 6 < y_adv Y 0 6 := by
  obtain ⟨t, k, r, w8, fx, fy, ri⟩ := w
  have hL := t.2.1
  have hk := k
  rcases k with k | ⟨k1, k2, k3, k4, k5, k6⟩
  · omega
  obtain ⟨a1, a2, a3, a4⟩ := adv_ok t r.2.2.1 (Or.inr k5)
  obtain ⟨r1, r2, r3⟩ := x_acc_RI ri (by omega)
  have fx' := fx.acc (Y 0 6)
  rw [ha] at r1 r2 r3 fx'
  have r2 : X' 1 = X 1 := r2
  have r3 : X' 2 = X 2 := r3
  have hbt := x_bt_c r2 r3
  refine ⟨?_, ⟨(adv_txt t).cx r2 r3, a1.cx r2 r3, y_adv_RB r.r0, ?_, fx', fy.adv, ?_⟩, by omega⟩
  · unfold xR
    rw [r2, show X 1 1 - Y 0 6 = (X 1 1 - Y 0 6 - 1) + 1 by omega]
    show (if x_bt X (Y 0 6) then (if (x_acc X (Y 0 6)).1 then x_rd (X 1 1 - Y 0 6 - 1) (Y 0 6 + 1) (x_acc X (Y 0 6)).2 else (-10 - nI (Y 0 6), (x_acc X (Y 0 6)).2)) else x_rd (X 1 1 - Y 0 6 - 1) (Y 0 6 + 1) X) = _
    rw [if_pos k2, ha, if_pos rfl]
    have := rd_skip X' (y_adv Y 0 6 - (Y 0 6 + 1)) (X 1 1 - y_adv Y 0 6) (Y 0 6 + 1) (by
      intro j h1 h2
      rw [hbt]
      rcases Nat.lt_or_ge j (Y 0 4) with z | z
      · exact k3 j (by omega) z
      · exact a4 j z (by omega))
    rw [show X 1 1 - y_adv Y 0 6 + (y_adv Y 0 6 - (Y 0 6 + 1)) = X 1 1 - Y 0 6 - 1 by omega, show Y 0 6 + 1 + (y_adv Y 0 6 - (Y 0 6 + 1)) = y_adv Y 0 6 by omega] at this
    exact this
  · rw [show y_adv Y 0 8 = Y 0 8 from y_a0_keep (by decide) (by decide) (by decide) (by decide)]
    exact w8
  · have r1 : x_RI X' (Y 0 6 + 1) := r1
    obtain ⟨q1, q2, q3, q4⟩ := r1
    exact ⟨q1, q2, by omega, q4⟩
theorem WS.d {k j v : Nat} (hk : (k = 2 ∧ 4 ≤ j) ∨ k = 3 ∨ (k = 4 ∧ 6 ≤ j) ∨ (k = 5 ∧ 6 ≤ j) ∨ k = 6) (hv : v < 1024) (w : WS X Y X0 Y0) : WS X (ms Y k j v) X0 Y0 := by
  obtain ⟨t, kk, r, w8, fx, fy, ri⟩ := w
  have e0 : ms Y k j v 0 = Y 0 := ms_o (by omega)
  have e1 : ms Y k j v 1 = Y 1 := ms_o (by omega)
  have ed : y_dg (ms Y k j v) = y_dg Y := by funext a; unfold y_dg; rw [e0, e1]
  refine ⟨?_, ?_, y_RB_ms r (by omega) hv, by rw [e0]; exact w8, fx, fy.ms (by omega), by rw [e0]; exact ri⟩
  · unfold TXT at *; rw [e0, e1]; exact t
  · unfold TK at *; rw [e0, ed]; exact kk
theorem WS.d10 {v : Nat} (hv : v < 1024) (w : WS X Y X0 Y0) : WS X (ms Y 0 10 v) X0 Y0 := by
  obtain ⟨t, kk, r, w8, fx, fy, ri⟩ := w
  exact ⟨t, kk, y_RB_10 r hv, w8, fx, fy.ms (by omega), ri⟩
end REL7
