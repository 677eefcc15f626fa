/-! passes, undo, keep, back, rate -/
section REL3
variable {X Y : Nat → Nat → Nat}
theorem Rel.tk32 (h : Rel X Y) {n : Nat} (hn : n < X 9 5) : x_tk X n < 32 := by rw [← h.ytk hn]; exact y_tk_lt (by rw [h.eP]; exact h.P)
theorem rl_passN (h : Rel X Y) {n q : Nat} (hn : n < X 9 5) (hq : q < X 9 4) : (x_passN X n q).1 = (y_passN Y n q).1 ∧ Rel (x_passN X n q).2 (y_passN Y n q).2 := by
  have hP := h.P
  have hN := h.N
  have hu := h.us9 hn
  have hr := h.re9
  have hp := h.pa6
  have ht := h.tk32 hn
  have hb1 : 1 ≤ X 9 6 := h.c.2.2.1.1
  unfold x_passN y_passN
  rw [h.yaw (by omega), h.ho hn, h.us hn, h.re, h.pa, h.mk hn, h.eB, h.ytk hn]
  by_cases c1 : hb (nI (X 15 18)) n = true
  · rw [if_pos c1, if_pos c1]; exact ⟨rfl, h⟩
  rw [if_neg c1, if_neg c1]
  by_cases c2 : X 15 n = q
  · rw [if_pos c2, if_pos c2]; exact ⟨rfl, h⟩
  rw [if_neg c2, if_neg c2]
  by_cases c3 : X 15 (6 + n) = 999
  · rw [if_pos (show 999 ≤ X 15 (6 + n) by omega), if_pos c3]; exact ⟨rfl, h⟩
  rw [if_neg (show ¬ 999 ≤ X 15 (6 + n) by omega), if_neg c3]
  by_cases c4 : X 15 19 = 999
  · rw [if_pos (show 999 ≤ X 15 19 by omega), if_pos c4]; exact ⟨rfl, h⟩
  rw [if_neg (show ¬ 999 ≤ X 15 19 by omega), if_neg c4]
  have e5 : hb (nI (x_tk X n)) q = true ↔ ¬ x_tk X n / 2 ^ q % 2 = 0 := by
    rw [hb_dm (by omega) (by omega), decide_eq_true_eq]
    omega
  by_cases c5 : hb (nI (x_tk X n)) q = true
  · rw [if_pos (show hb (nI (x_tk (x_push X) n)) q = true from c5), if_neg (e5.mp c5)]
    by_cases cc : 0 < X 12 n ∧ X 9 6 ≤ X 15 (6 + n) + 1
    · rw [if_pos cc, if_pos cc]
      have ho := or_lt hp (show n < 6 by omega)
      refine ⟨rfl, ⟨hB_ms (hB_ms (hB_ms h.pBx (by omega)) (by omega)) (by omega), hB_ms (hB_ms (hB_ms h.pBy (by omega)) (by omega)) (by omega), ?_⟩, h.t, h.c, ⟨?_, ?_⟩, rl_push h, h.m, h.s, h.b⟩
      · exact h.z
      · show rowR (X 9 4) (X 9 5) (va_up (va_up (va_up (X 15) n q) (6 + n) (X 15 (6 + n) + 1)) 17 (X 15 17 ||| (1 * 2 ^ n))) (va_up (va_up (va_up (Y 7) n q) (6 + n) (X 15 (6 + n) + 1)) 12 (X 15 17 ||| (1 * 2 ^ n)))
        exact rowR_up hP hN (by omega) (rowR_up hP hN (by omega) (rowR_up hP hN (by omega) h.n.1))
      · show rowI (X 9 4) (X 9 5) (X 9 6) (X 12) (va_up (va_up (va_up (X 15) n q) (6 + n) (X 15 (6 + n) + 1)) 17 (X 15 17 ||| (1 * 2 ^ n)))
        rw [va_comm (show 6 + n ≠ 17 by omega)]
        refine rowI_u hN hn (by omega) ?_ (rowI_p hN ho ?_ (rowI_h hN hn hq h.n.2))
        · intro _ q2
          rw [va_up_self, hb_or _ hp _ (by omega) _ (by omega)] at q2
          simp at q2
        · intro i hi q2
          rw [hb_or _ hp _ (by omega) _ (by omega), Bool.or_eq_false_iff] at q2
          rw [va_up_ne _ _ (show 17 ≠ n by omega)]
          exact q2.1
    · rw [if_neg cc, if_neg cc, Nat.or_zero, ms_id (show ms (ms (y_push Y) 7 n q) 7 (6 + n) (X 15 (6 + n) + 1) 7 12 = X 15 17 by
        show va_up (va_up (Y 7) n q) (6 + n) (X 15 (6 + n) + 1) 12 = X 15 17
        rw [va_up_ne _ _ (by omega), va_up_ne _ _ (by omega)]; exact h.pa)]
      refine ⟨rfl, ⟨hB_ms (hB_ms h.pBx (by omega)) (by omega), hB_ms (hB_ms h.pBy (by omega)) (by omega), h.z⟩, h.t, h.c, ⟨?_, ?_⟩, rl_push h, h.m, h.s, h.b⟩
      · show rowR (X 9 4) (X 9 5) (va_up (va_up (X 15) n q) (6 + n) (X 15 (6 + n) + 1)) (va_up (va_up (Y 7) n q) (6 + n) (X 15 (6 + n) + 1))
        exact rowR_up hP hN (by omega) (rowR_up hP hN (by omega) h.n.1)
      · show rowI (X 9 4) (X 9 5) (X 9 6) (X 12) (va_up (va_up (X 15) n q) (6 + n) (X 15 (6 + n) + 1))
        refine rowI_u hN hn (by omega) (fun q1 _ => ?_) (rowI_h hN hn hq h.n.2)
        exact Nat.lt_of_not_le (fun q2 => cc ⟨q1, q2⟩)
  · rw [if_neg (show ¬ hb (nI (x_tk (x_push X) n)) q = true from c5), if_pos (Classical.byContradiction (fun z => c5 (e5.mpr z)))]
    rw [ms_comm (show 19 ≠ 6 + n by omega)]
    refine ⟨rfl, ⟨hB_ms (hB_ms h.pBx (by omega)) (by omega), hB_ms (hB_ms h.pBy (by omega)) (by omega), h.z⟩, h.t, h.c, ⟨?_, ?_⟩, rl_push h, h.m, h.s, h.b⟩
    · show rowR (X 9 4) (X 9 5) (va_up (va_up (X 15) (6 + n) 0) 19 (X 15 19 + 1)) (va_up (va_up (Y 7) (6 + n) 0) 19 (X 15 19 + 1))
      exact rowR_up hP hN (by omega) (rowR_up hP hN (by omega) h.n.1)
    · show rowI (X 9 4) (X 9 5) (X 9 6) (X 12) (va_up (va_up (X 15) (6 + n) 0) 19 (X 15 19 + 1))
      exact rowI_hi hN (by omega) (by omega) (by omega) (by omega) (rowI_u hN hn (by omega) (fun _ _ => by omega) h.n.2)
theorem rl_pass (h : Rel X Y) (x y : Int32) : (x_pass X x y).1 = (y_pass Y x y).1 ∧ Rel (x_pass X x y).2 (y_pass Y x y).2 := by
  have hP := h.P
  have hN := h.N
  unfold x_pass y_pass
  rw [h.eP, h.eN]
  by_cases hc : inR x (X 9 5) = true ∧ inR y (X 9 4) = true
  · obtain ⟨n, hn, rfl⟩ := inR_of (by omega) hc.1
    obtain ⟨q, hq, rfl⟩ := inR_of (by omega) hc.2
    rw [if_pos hc, if_pos hc, nI_clamp (show n < 2 ^ 31 by omega), nI_clamp (show q < 2 ^ 31 by omega)]
    exact rl_passN h hn hq
  · rw [if_neg hc, if_neg hc]
    exact ⟨rfl, h⟩
theorem cpy_from {f g : Nat → Nat} {s j : Nat} (hj : j < 20) : va_cpy f g s 0 20 j = f (s + j) := by
  unfold va_cpy
  rw [if_pos (by omega)]
  exact congrArg f (by omega)
theorem rl_undo (h : Rel X Y) : (x_undo X).1 = (y_undo Y).1 ∧ Rel (x_undo X).2 (y_undo Y).2 := by
  obtain ⟨h1, h2, h3, h4⟩ := h.h
  have hP := h.P
  have hN := h.N
  unfold x_undo y_undo
  rw [← h3]
  by_cases c : X 16 2 = 0
  · rw [if_pos c, if_pos c]; exact ⟨rfl, h⟩
  · rw [if_neg c, if_neg c]
    have o := h4 (X 16 2 - 1) (by omega)
    rw [show (X 16 1 + 10 - X 16 2 + (X 16 2 - 1)) % 10 = (X 16 1 + 10 - 1) % 10 by omega] at o
    have fx : ∀ j, j < 20 → va_cpy (X 17) (X 15) ((X 16 1 + 10 - 1) % 10 * 20) 0 20 j = X 17 ((X 16 1 + 10 - 1) % 10 * 20 + j) := fun j hj => cpy_from hj
    have fy : ∀ j, j < 20 → va_cpy (Y 10) (Y 7) (20 * (Y 0 19 - 1)) 0 20 j = Y 10 (20 * (X 16 2 - 1) + j) := fun j hj => by rw [cpy_from hj, h3]
    refine ⟨rfl, ⟨hB_pop h.xB, hB_up (hB_ms h.yB (by omega)) (hB_cpy (h.yB 10) (h.yB 7)), h.z⟩, h.t, h.c, ⟨?_, ?_⟩, ⟨?_, ?_, ?_, ?_⟩, h.m, h.s, h.b⟩
    · exact rowR_c hP hN fx fy o.1
    · exact rowI_c hN fx o.2
    · show (X 16 1 + 10 - 1) % 10 < 10
      omega
    · show X 16 2 - 1 ≤ 10
      omega
    · show X 16 2 - 1 = Y 0 19 - 1
      omega
    · show ∀ i, i < X 16 2 - 1 → rowR (X 9 4) (X 9 5) (fun j => X 17 (((X 16 1 + 10 - 1) % 10 + 10 - (X 16 2 - 1) + i) % 10 * 20 + j)) (fun j => Y 10 (20 * i + j)) ∧ rowI (X 9 4) (X 9 5) (X 9 6) (X 12) (fun j => X 17 (((X 16 1 + 10 - 1) % 10 + 10 - (X 16 2 - 1) + i) % 10 * 20 + j))
      intro i hi
      rw [show ((X 16 1 + 10 - 1) % 10 + 10 - (X 16 2 - 1) + i) % 10 = (X 16 1 + 10 - X 16 2 + i) % 10 by omega]
      exact h4 i (by omega)
theorem rl_keep (h : Rel X Y) (x : Int32) : (x_keepT X x).1 = (y_keep Y x).1 ∧ Rel (x_keepT X x).2 (y_keep Y x).2 := by
  obtain ⟨m1, m2⟩ := h.m
  have hP := h.P
  have hN := h.N
  unfold x_keepT y_keep
  by_cases hc : inR x 2 = true
  · obtain ⟨k, hk, rfl⟩ := inR_of (by decide) hc
    rw [if_pos hc, if_pos hc, nI_clamp (show k < 2 ^ 31 by omega), h.re]
    have hv : X 18 1 ||| (1 * 2 ^ k) < 4 := by
      refine or_4 m1 ?_
      rcases (by omega : k = 0 ∨ k = 1) with rfl | rfl <;> decide
    refine ⟨rfl, ⟨hB_keep h.xB (by omega), hB_ms (hB_up h.yB (hB_cpy (h.yB 7) (h.yB 8))) (by decide), h.z⟩, h.t, h.c, h.n, h.h, ⟨hv, ?_⟩, h.s, h.b⟩
    show ∀ i, i < 2 → (hb (nI (X 18 1 ||| (1 * 2 ^ k))) i = true ↔ va_up (Y 9) k 1 i ≠ 0) ∧ (hb (nI (X 18 1 ||| (1 * 2 ^ k))) i = true → rowR (X 9 4) (X 9 5) (fun j => va_cpy (X 15) (X 19) 0 (k * 20) 20 (i * 20 + j)) (fun j => va_cpy (Y 7) (Y 8) 0 (20 * k) 20 (20 * i + j)) ∧ rowI (X 9 4) (X 9 5) (X 9 6) (X 12) (fun j => va_cpy (X 15) (X 19) 0 (k * 20) 20 (i * 20 + j)))
    intro i hi
    obtain ⟨n1, n2⟩ := m2 i hi
    rw [hb_or _ (by omega) _ (by omega) _ (by omega)]
    by_cases e : i = k
    · subst e
      rw [va_up_self]
      have fx : ∀ j, j < 20 → va_cpy (X 15) (X 19) 0 (i * 20) 20 (i * 20 + j) = X 15 j := fun j hj => by rw [cpy_slot hj, if_pos rfl]
      have fy : ∀ j, j < 20 → va_cpy (Y 7) (Y 8) 0 (20 * i) 20 (20 * i + j) = Y 7 j := fun j hj => by rw [Nat.mul_comm 20 i, cpy_slot hj, if_pos rfl]
      exact ⟨by simp, fun _ => ⟨rowR_c hP hN fx fy h.n.1, rowI_c hN fx h.n.2⟩⟩
    · rw [va_up_ne _ _ e, decide_eq_false e, Bool.or_false]
      have fx : ∀ j, j < 20 → va_cpy (X 15) (X 19) 0 (k * 20) 20 (i * 20 + j) = X 19 (i * 20 + j) := fun j hj => by rw [cpy_slot hj, if_neg e]
      have fy : ∀ j, j < 20 → va_cpy (Y 7) (Y 8) 0 (20 * k) 20 (20 * i + j) = Y 8 (20 * i + j) := fun j hj => by rw [Nat.mul_comm 20 i, Nat.mul_comm 20 k, cpy_slot hj, if_neg e]
      exact ⟨n1, fun q => ⟨rowR_c hP hN fx fy (n2 q).1, rowI_c hN fx (n2 q).2⟩⟩
  · rw [if_neg hc, if_neg hc]
    exact ⟨rfl, h⟩
theorem rl_back (h : Rel X Y) (x : Int32) : (x_backT X x).1 = (y_back Y x).1 ∧ Rel (x_backT X x).2 (y_back Y x).2 := by
  obtain ⟨m1, m2⟩ := h.m
  have hP := h.P
  have hN := h.N
  unfold x_backT y_back
  by_cases hc : inR x 2 = true
  · obtain ⟨k, hk, rfl⟩ := inR_of (by decide) hc
    rw [if_pos hc, if_pos hc, nI_clamp (show k < 2 ^ 31 by omega)]
    obtain ⟨n1, n2⟩ := m2 k hk
    by_cases c : hb (nI (X 18 1)) k = true
    · rw [if_pos c, if_neg (n1.mp c)]
      obtain ⟨o1, o2⟩ := n2 c
      have fx : ∀ j, j < 20 → va_cpy (X 19) (X 15) (k * 20) 0 20 j = X 19 (k * 20 + j) := fun j hj => cpy_from hj
      have fy : ∀ j, j < 20 → va_cpy (Y 8) (Y 7) (20 * k) 0 20 j = Y 8 (20 * k + j) := fun j hj => cpy_from hj
      refine ⟨?_, ⟨hB_ms (hB_ms (hB_back h.xB) (by decide)) (by decide), hB_ms (hB_up h.yB (hB_cpy (h.yB 8) (h.yB 7))) (by decide), h.z⟩, h.t, h.c, ⟨rowR_c hP hN fx fy o1, rowI_c hN fx o2⟩, ⟨(by decide : 0 < 10), (by decide : 0 ≤ 10), rfl, fun i hi => absurd hi (Nat.not_lt_zero i)⟩, h.m, h.s, h.b⟩
      show nI (va_cpy (X 19) (X 15) (k * 20) 0 20 19) = nI (va_cpy (Y 8) (Y 7) (20 * k) 0 20 19)
      rw [fx 19 (by decide), fy 19 (by decide)]
      exact congrArg nI o1.2.2.2.2
    · rw [if_neg c, if_pos (Classical.byContradiction (fun z => c (n1.mpr z)))]
      exact ⟨rfl, h⟩
  · rw [if_neg hc, if_neg hc]
    exact ⟨rfl, h⟩
theorem i64_1 (t : Int64) : t + 10 + 1 = t + 11 := by rw [Int64.add_assoc]; exact congrArg (fun z => t + z) (by decide)
theorem i64_2 (t : Int64) : t + 100 + 1 = t + 101 := by rw [Int64.add_assoc]; exact congrArg (fun z => t + z) (by decide)
theorem i64_3 (t : Int64) : t + 1000 + 10 + 1 = t + 1011 := by rw [Int64.add_assoc, Int64.add_assoc]; exact congrArg (fun z => t + z) (by decide)
theorem i64_4 (t : Int64) : t + 10000 + 100 + 1 = t + 10101 := by rw [Int64.add_assoc, Int64.add_assoc]; exact congrArg (fun z => t + z) (by decide)
theorem i64_5 (t : Int64) : t + 100000 + 1 = t + 100001 := by rw [Int64.add_assoc]; exact congrArg (fun z => t + z) (by decide)
theorem x_rate_0 (n : Nat) : x_rate X (nI 0) n = nI (X 11 n) := by unfold x_rate; rw [if_pos (show nI 0 = 0 by decide)]
theorem x_tr_0 (t : Int64) : x_tr (nI 0) t = t + 1 := by unfold x_tr; rw [if_pos (show nI 0 = 0 by decide)]
theorem y_rate_0 (n : Nat) : y_rateN Y 0 n = nI (Y 4 n) := by unfold y_rateN; rw [if_pos rfl]
theorem y_tr_0 (t : Int64) : y_trN 0 t = t + 1 := by unfold y_trN; rw [if_pos rfl]
theorem x_rate_1 (n : Nat) : x_rate X (nI 1) n = nI (X 11 n + X 15 (6 + n)) := by unfold x_rate; rw [if_neg (show ¬ nI 1 = 0 by decide), if_pos (show nI 1 = 1 by decide)]
theorem x_tr_1 (t : Int64) : x_tr (nI 1) t = t + 10 + 1 := by unfold x_tr; rw [if_neg (show ¬ nI 1 = 0 by decide), if_pos (show nI 1 = 1 by decide)]
theorem y_rate_1 (n : Nat) : y_rateN Y 1 n = nI (Y 4 n + Y 7 (6 + n)) := by unfold y_rateN; rw [if_neg (show ¬ 1 = 0 by decide), if_pos rfl]
theorem y_tr_1 (t : Int64) : y_trN 1 t = t + 11 := by unfold y_trN; rw [if_neg (show ¬ 1 = 0 by decide), if_pos rfl]
theorem x_rate_2 (n : Nat) : x_rate X (nI 2) n = nI (X 11 n) - nI (pc6 (X 12 n)) := by unfold x_rate; rw [if_neg (show ¬ nI 2 = 0 by decide), if_neg (show ¬ nI 2 = 1 by decide), if_pos (show nI 2 = 2 by decide)]
theorem x_tr_2 (t : Int64) : x_tr (nI 2) t = t + 100 + 1 := by unfold x_tr; rw [if_neg (show ¬ nI 2 = 0 by decide), if_neg (show ¬ nI 2 = 1 by decide), if_pos (show nI 2 = 2 by decide)]
theorem y_rate_2 (n : Nat) : y_rateN Y 2 n = nI (Y 4 n) - nI (pc6 (Y 5 n)) := by unfold y_rateN; rw [if_neg (show ¬ 2 = 0 by decide), if_neg (show ¬ 2 = 1 by decide), if_pos rfl]
theorem y_tr_2 (t : Int64) : y_trN 2 t = t + 101 := by unfold y_trN; rw [if_neg (show ¬ 2 = 0 by decide), if_neg (show ¬ 2 = 1 by decide), if_pos rfl]
theorem x_rate_3 (n : Nat) : x_rate X (nI 3) n = nI (2 * (X 11 n + X 15 (6 + n))) := by unfold x_rate; rw [if_neg (show ¬ nI 3 = 0 by decide), if_neg (show ¬ nI 3 = 1 by decide), if_neg (show ¬ nI 3 = 2 by decide), if_pos (show nI 3 = 3 by decide)]
theorem x_tr_3 (t : Int64) : x_tr (nI 3) t = t + 1000 + 10 + 1 := by unfold x_tr; rw [if_neg (show ¬ nI 3 = 0 by decide), if_neg (show ¬ nI 3 = 1 by decide), if_neg (show ¬ nI 3 = 2 by decide), if_pos (show nI 3 = 3 by decide)]
theorem y_rate_3 (n : Nat) : y_rateN Y 3 n = nI (2 * (Y 4 n + Y 7 (6 + n))) := by unfold y_rateN; rw [if_neg (show ¬ 3 = 0 by decide), if_neg (show ¬ 3 = 1 by decide), if_neg (show ¬ 3 = 2 by decide), if_pos rfl]
theorem y_tr_3 (t : Int64) : y_trN 3 t = t + 1011 := by unfold y_trN; rw [if_neg (show ¬ 3 = 0 by decide), if_neg (show ¬ 3 = 1 by decide), if_neg (show ¬ 3 = 2 by decide), if_pos rfl]
theorem x_rate_4 (n : Nat) : x_rate X (nI 4) n = (nI (X 11 n) - nI (pc6 (X 12 n))) + nI n := by unfold x_rate; rw [if_neg (show ¬ nI 4 = 0 by decide), if_neg (show ¬ nI 4 = 1 by decide), if_neg (show ¬ nI 4 = 2 by decide), if_neg (show ¬ nI 4 = 3 by decide), if_pos (show nI 4 = 4 by decide)]
theorem x_tr_4 (t : Int64) : x_tr (nI 4) t = t + 10000 + 100 + 1 := by unfold x_tr; rw [if_neg (show ¬ nI 4 = 0 by decide), if_neg (show ¬ nI 4 = 1 by decide), if_neg (show ¬ nI 4 = 2 by decide), if_neg (show ¬ nI 4 = 3 by decide), if_pos (show nI 4 = 4 by decide)]
theorem y_rate_4 (n : Nat) : y_rateN Y 4 n = (nI (Y 4 n) - nI (pc6 (Y 5 n))) + nI n := by unfold y_rateN; rw [if_neg (show ¬ 4 = 0 by decide), if_neg (show ¬ 4 = 1 by decide), if_neg (show ¬ 4 = 2 by decide), if_neg (show ¬ 4 = 3 by decide), if_pos rfl]
theorem y_tr_4 (t : Int64) : y_trN 4 t = t + 10101 := by unfold y_trN; rw [if_neg (show ¬ 4 = 0 by decide), if_neg (show ¬ 4 = 1 by decide), if_neg (show ¬ 4 = 2 by decide), if_neg (show ¬ 4 = 3 by decide), if_pos rfl]
theorem x_rate_5 (n : Nat) : x_rate X (nI 5) n = nI (X 11 n + X 15 19) := by unfold x_rate; rw [if_neg (show ¬ nI 5 = 0 by decide), if_neg (show ¬ nI 5 = 1 by decide), if_neg (show ¬ nI 5 = 2 by decide), if_neg (show ¬ nI 5 = 3 by decide), if_neg (show ¬ nI 5 = 4 by decide), if_pos (show nI 5 = 5 by decide)]
theorem x_tr_5 (t : Int64) : x_tr (nI 5) t = t + 100000 + 1 := by unfold x_tr; rw [if_neg (show ¬ nI 5 = 0 by decide), if_neg (show ¬ nI 5 = 1 by decide), if_neg (show ¬ nI 5 = 2 by decide), if_neg (show ¬ nI 5 = 3 by decide), if_neg (show ¬ nI 5 = 4 by decide), if_pos (show nI 5 = 5 by decide)]
theorem y_rate_5 (n : Nat) : y_rateN Y 5 n = nI (Y 4 n + Y 7 19) := by unfold y_rateN; rw [if_neg (show ¬ 5 = 0 by decide), if_neg (show ¬ 5 = 1 by decide), if_neg (show ¬ 5 = 2 by decide), if_neg (show ¬ 5 = 3 by decide), if_neg (show ¬ 5 = 4 by decide)]
theorem y_tr_5 (t : Int64) : y_trN 5 t = t + 100001 := by unfold y_trN; rw [if_neg (show ¬ 5 = 0 by decide), if_neg (show ¬ 5 = 1 by decide), if_neg (show ¬ 5 = 2 by decide), if_neg (show ¬ 5 = 3 by decide), if_neg (show ¬ 5 = 4 by decide)]
theorem eq_rate (h : Rel X Y) (k x : Int32) (t : Int64) : x_rateT X k x t = y_rate Y k x t := by
  have hN := h.N
  unfold x_rateT y_rate
  rw [h.eN]
  by_cases hx : inR x (X 9 5) = true
  · obtain ⟨n, hn, rfl⟩ := inR_of (by omega) hx
    rw [if_pos hx, nI_clamp (show n < 2 ^ 31 by omega)]
    by_cases hk : inR k 6 = true
    · obtain ⟨y, hy, rfl⟩ := inR_of (by decide) hk
      rw [if_pos ⟨hk, hx⟩, nI_clamp (show y < 2 ^ 31 by omega)]
      rcases (by omega : y = 0 ∨ y = 1 ∨ y = 2 ∨ y = 3 ∨ y = 4 ∨ y = 5) with rfl | rfl | rfl | rfl | rfl | rfl
      · rw [x_rate_0, x_tr_0, y_rate_0, y_tr_0, h.wo hn]
      · rw [x_rate_1, x_tr_1, y_rate_1, y_tr_1, h.wo hn, h.us hn, i64_1]
      · rw [x_rate_2, x_tr_2, y_rate_2, y_tr_2, h.wo hn, h.mk hn, i64_2]
      · rw [x_rate_3, x_tr_3, y_rate_3, y_tr_3, h.wo hn, h.us hn, i64_3]
      · rw [x_rate_4, x_tr_4, y_rate_4, y_tr_4, h.wo hn, h.mk hn, i64_4]
      · rw [x_rate_5, x_tr_5, y_rate_5, y_tr_5, h.wo hn, h.re, i64_5]
    · rw [if_neg (fun q => hk q.1)]
      have ne : ∀ y, y < 6 → ¬ k = nI y := by
        rintro y hy rfl
        exact hk (by rw [inR_nI (by omega) (by decide)]; exact decide_eq_true hy)
      have n0 : ¬ k = 0 := ne 0 (by decide)
      have n1 : ¬ k = 1 := ne 1 (by decide)
      have n2 : ¬ k = 2 := ne 2 (by decide)
      have n3 : ¬ k = 3 := ne 3 (by decide)
      have n4 : ¬ k = 4 := ne 4 (by decide)
      have n5 : ¬ k = 5 := ne 5 (by decide)
      unfold x_rate x_tr
      simp only [n0, n1, n2, n3, n4, n5, if_false]
  · rw [if_neg hx, if_neg (fun q => hx q.2)]
end REL3
