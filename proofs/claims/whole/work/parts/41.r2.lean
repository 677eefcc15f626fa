/-! the calls that change a memory -/
section REL2
variable {X Y : Nat → Nat → Nat}
theorem yn_in (y : Int32) : isYN y = inR y 2 := by
  by_cases h : isYN y = true
  · obtain ⟨j, hj, rfl⟩ := isYN_of h
    rw [h, inR_nI (by omega) (by decide), decide_eq_true hj]
  · rw [Bool.not_eq_true] at h
    rw [h]
    symm
    rw [← Bool.not_eq_true]
    intro q
    obtain ⟨j, hj, rfl⟩ := inR_of (by decide) q
    rcases (by omega : j = 0 ∨ j = 1) with rfl | rfl <;> exact absurd h (by decide)
theorem rl_type (h : Rel X Y) (x : Int32) : (x_type X x).1 = (y_type Y x).1 ∧ Rel (x_type X x).2 (y_type Y x).2 := by
  obtain ⟨t1, t2, t3, t4⟩ := h.t
  unfold x_type y_type
  by_cases hx : inR x 256 = true
  · obtain ⟨k, hk, rfl⟩ := inR_of (by decide) hx
    rw [if_pos hx, if_pos hx, nI_clamp (by omega), ← t2]
    by_cases hl : X 1 1 < 150
    · rw [if_pos hl, if_neg (show ¬ X 1 1 = 150 by omega)]
      refine ⟨rfl, ⟨hB_ms (hB_ms h.xB (by omega)) (by omega), hB_ms (hB_ms h.yB (by omega)) (by omega), h.z⟩, ⟨?_, rfl, ?_, ?_⟩, h.c, h.n, h.h, h.m, h.s, h.b⟩
      · show X 1 1 + 1 ≤ 150
        omega
      · show ∀ i, i < X 1 1 + 1 → va_up (X 2) (X 1 1) k i = va_up (Y 1) (X 1 1) k i
        intro i hi
        by_cases e : i = X 1 1
        · rw [e, va_up_self, va_up_self]
        · rw [va_up_ne _ _ e, va_up_ne _ _ e]; exact t3 i (by omega)
      · show ∀ j, va_up (X 2) (X 1 1) k j ≤ 255
        intro j
        by_cases e : j = X 1 1
        · rw [e, va_up_self]; omega
        · rw [va_up_ne _ _ e]; exact t4 j
    · rw [if_neg hl, if_pos (show X 1 1 = 150 by omega)]
      exact ⟨rfl, h⟩
  · rw [if_neg hx, if_neg hx]
    exact ⟨rfl, h⟩
theorem rl_clear (h : Rel X Y) : nI (X 1 1) = nI (Y 0 3) ∧ Rel (ms X 1 1 0) (ms Y 0 3 0) := by
  obtain ⟨t1, t2, t3, t4⟩ := h.t
  exact ⟨congrArg nI t2, ⟨hB_ms h.xB (by decide), hB_ms h.yB (by decide), h.z⟩, ⟨Nat.zero_le _, rfl, fun i hi => absurd hi (Nat.not_lt_zero i), t4⟩, h.c, h.n, h.h, h.m, h.s, h.b⟩
theorem rl_forget (h : Rel X Y) : nI (X 21 4 + X 24 4) = nI (Y 0 22 + Y 0 25) ∧ Rel (ms (ms X 21 4 0) 24 4 0) (ms (ms Y 0 22 0) 0 25 0) := by
  refine ⟨by rw [h.s.2.1, h.b.2.1], ⟨hB_ms (hB_ms h.xB (by decide)) (by decide), hB_ms (hB_ms h.yB (by decide)) (by decide), h.z⟩, h.t, h.c, h.n, h.h, h.m, ⟨Nat.zero_le _, rfl, fun i hi => absurd hi (Nat.not_lt_zero i)⟩, ⟨Nat.zero_le _, rfl, fun i hi => absurd hi (Nat.not_lt_zero i)⟩⟩
theorem rl_saw (h : Rel X Y) (x y : Int32) : (x_saw X x y).1 = (y_saw Y x y).1 ∧ Rel (x_saw X x y).2 (y_saw Y x y).2 := by
  obtain ⟨s1, s2, s3⟩ := h.s
  have hP := h.P
  unfold x_saw y_saw
  rw [yn_in, h.eP, ← s2]
  by_cases hc : inR x (X 9 4) = true ∧ inR y 2 = true
  · obtain ⟨q, hq, rfl⟩ := inR_of (by omega) hc.1
    obtain ⟨k, hk, rfl⟩ := inR_of (by decide) hc.2
    rw [if_pos hc, if_pos hc, nI_clamp (show q < 2 ^ 31 by omega), nI_clamp (show k < 2 ^ 31 by omega)]
    by_cases hl : X 21 4 < 6
    · rw [if_pos hl, if_neg (show ¬ X 21 4 = 6 by omega)]
      refine ⟨rfl, ⟨hB_ms (hB_ms (hB_ms h.xB (by omega)) (by omega)) (by omega), hB_ms (hB_ms (hB_ms h.yB (by omega)) (by omega)) (by omega), h.z⟩, h.t, h.c, h.n, h.h, h.m, ⟨?_, rfl, ?_⟩, h.b⟩
      · show X 21 4 + 1 ≤ 6
        omega
      · show ∀ i, i < X 21 4 + 1 → va_up (X 22) (X 21 4) q i = va_up (Y 11) (X 21 4) q i ∧ va_up (X 22) (X 21 4) q i < X 9 4 ∧ va_up (X 23) (X 21 4) k i = va_up (Y 12) (X 21 4) k i ∧ va_up (X 23) (X 21 4) k i ≤ 1
        intro i hi
        by_cases e : i = X 21 4
        · rw [e, va_up_self, va_up_self, va_up_self, va_up_self]
          exact ⟨rfl, hq, rfl, by omega⟩
        · rw [va_up_ne _ _ e, va_up_ne _ _ e, va_up_ne _ _ e, va_up_ne _ _ e]
          exact s3 i (by omega)
    · rw [if_neg hl, if_pos (show X 21 4 = 6 by omega)]
      exact ⟨rfl, h⟩
  · rw [if_neg hc, if_neg hc]
    exact ⟨rfl, h⟩
theorem rl_hears (h : Rel X Y) (x y : Int32) : (x_hears X x y).1 = (y_hears Y x y).1 ∧ Rel (x_hears X x y).2 (y_hears Y x y).2 := by
  obtain ⟨s1, s2, s3⟩ := h.b
  unfold x_hears y_hears
  rw [yn_in, ← s2]
  by_cases hc : inR x 21 = true ∧ inR y 2 = true
  · obtain ⟨q, hq, rfl⟩ := inR_of (by decide) hc.1
    obtain ⟨k, hk, rfl⟩ := inR_of (by decide) hc.2
    rw [if_pos hc, if_pos hc, nI_clamp (show q < 2 ^ 31 by omega), nI_clamp (show k < 2 ^ 31 by omega)]
    by_cases hl : X 24 4 < 6
    · rw [if_pos hl, if_neg (show ¬ X 24 4 = 6 by omega)]
      refine ⟨rfl, ⟨hB_ms (hB_ms (hB_ms h.xB (by omega)) (by omega)) (by omega), hB_ms (hB_ms (hB_ms h.yB (by omega)) (by omega)) (by omega), h.z⟩, h.t, h.c, h.n, h.h, h.m, h.s, ⟨?_, rfl, ?_⟩⟩
      · show X 24 4 + 1 ≤ 6
        omega
      · show ∀ i, i < X 24 4 + 1 → va_up (X 25) (X 24 4) q i = va_up (Y 13) (X 24 4) q i ∧ va_up (X 26) (X 24 4) k i = va_up (Y 14) (X 24 4) k i
        intro i hi
        by_cases e : i = X 24 4
        · rw [e, va_up_self, va_up_self, va_up_self, va_up_self]
          exact ⟨rfl, rfl⟩
        · rw [va_up_ne _ _ e, va_up_ne _ _ e, va_up_ne _ _ e, va_up_ne _ _ e]
          exact s3 i (by omega)
    · rw [if_neg hl, if_pos (show X 24 4 = 6 by omega)]
      exact ⟨rfl, h⟩
  · rw [if_neg hc, if_neg hc]
    exact ⟨rfl, h⟩
/-! rows -/
theorem rowR_c {P N : Nat} {f g f' g' : Nat → Nat} (hP : P ≤ 5) (hN : N ≤ 6) (h1 : ∀ j, j < 20 → f' j = f j) (h2 : ∀ j, j < 20 → g' j = g j) (h : rowR P N f g) : rowR P N f' g' := by
  obtain ⟨a, b, c, d, e⟩ := h
  refine ⟨fun n hn => ?_, fun q hq => ?_, ?_, ?_, ?_⟩
  · rw [h1 n (by omega), h1 (6 + n) (by omega), h2 n (by omega), h2 (6 + n) (by omega)]; exact a n hn
  · rw [h1 _ (by omega), h2 _ (by omega)]; exact b q hq
  · rw [h1 _ (by decide), h2 _ (by decide)]; exact c
  · rw [h1 _ (by decide), h2 _ (by decide)]; exact d
  · rw [h1 _ (by decide), h2 _ (by decide)]; exact e
theorem rowI_c {P N B : Nat} {mk f f' : Nat → Nat} (hN : N ≤ 6) (h1 : ∀ j, j < 20 → f' j = f j) (h : rowI P N B mk f) : rowI P N B mk f' := by
  obtain ⟨a, b, c, d⟩ := h
  refine ⟨fun n hn => ?_, ?_, ?_, ?_⟩
  · rw [h1 n (by omega), h1 (6 + n) (by omega), h1 17 (by decide)]; exact a n hn
  · rw [h1 _ (by decide)]; exact b
  · rw [h1 _ (by decide)]; exact c
  · rw [h1 _ (by decide)]; exact d
theorem rowR_up {P N : Nat} {f g : Nat → Nat} {k k' v : Nat} (hP : P ≤ 5) (hN : N ≤ 6) (hk : (k < 12 ∧ k' = k) ∨ (12 ≤ k ∧ k < 17 ∧ k' = k + 2) ∨ (k = 17 ∧ k' = 12) ∨ (k = 18 ∧ k' = 13) ∨ (k = 19 ∧ k' = 19)) (h : rowR P N f g) : rowR P N (va_up f k v) (va_up g k' v) := by
  obtain ⟨a, b, c, d, e⟩ := h
  refine ⟨fun n hn => ?_, fun q hq => ?_, ?_, ?_, ?_⟩
  · obtain ⟨a1, a2⟩ := a n hn
    simp only [va_up]
    constructor <;> (repeat' split) <;> omega
  · have := b q hq
    simp only [va_up]
    (repeat' split) <;> omega
  · simp only [va_up]
    (repeat' split) <;> omega
  · simp only [va_up]
    (repeat' split) <;> omega
  · simp only [va_up]
    (repeat' split) <;> omega
theorem hb_or : ∀ a, a < 64 → ∀ k, k < 6 → ∀ n, n < 6 → hb (nI (a ||| (1 * 2 ^ k))) n = (hb (nI a) n || decide (n = k)) := by decide +kernel
theorem rowI_h {P N B : Nat} {mk f : Nat → Nat} {n v : Nat} (hN : N ≤ 6) (hn : n < N) (hv : v < P) (h : rowI P N B mk f) : rowI P N B mk (va_up f n v) := by
  obtain ⟨a, b, c, d⟩ := h
  have e1 : va_up f n v 17 = f 17 := va_up_ne _ _ (by omega)
  have e2 : va_up f n v 18 = f 18 := va_up_ne _ _ (by omega)
  have e3 : va_up f n v 19 = f 19 := va_up_ne _ _ (by omega)
  refine ⟨fun i hi => ?_, by rw [e1]; exact b, by rw [e2]; exact c, by rw [e3]; exact d⟩
  obtain ⟨a1, a2, a3⟩ := a i hi
  rw [e1, show va_up f n v (6 + i) = f (6 + i) from va_up_ne _ _ (by omega)]
  refine ⟨?_, a2, a3⟩
  by_cases e : i = n
  · rw [e, va_up_self]; exact hv
  · rw [va_up_ne _ _ e]; exact a1
theorem rowI_u {P N B : Nat} {mk f : Nat → Nat} {n v : Nat} (hN : N ≤ 6) (hn : n < N) (hv : v ≤ 999) (hv2 : 0 < mk n → hb (nI (f 17)) n = false → v < B) (h : rowI P N B mk f) : rowI P N B mk (va_up f (6 + n) v) := by
  obtain ⟨a, b, c, d⟩ := h
  have e1 : va_up f (6 + n) v 17 = f 17 := va_up_ne _ _ (by omega)
  have e2 : va_up f (6 + n) v 18 = f 18 := va_up_ne _ _ (by omega)
  have e3 : va_up f (6 + n) v 19 = f 19 := va_up_ne _ _ (by omega)
  refine ⟨fun i hi => ?_, by rw [e1]; exact b, by rw [e2]; exact c, by rw [e3]; exact d⟩
  obtain ⟨a1, a2, a3⟩ := a i hi
  rw [e1, show va_up f (6 + n) v i = f i from va_up_ne _ _ (by omega)]
  by_cases e : i = n
  · subst e; rw [va_up_self]; exact ⟨a1, hv, hv2⟩
  · rw [va_up_ne _ _ (by omega)]; exact ⟨a1, a2, a3⟩
theorem rowI_p {P N B : Nat} {mk f : Nat → Nat} {v : Nat} (hN : N ≤ 6) (hv : v < 64) (hm : ∀ i, i < N → hb (nI v) i = false → hb (nI (f 17)) i = false) (h : rowI P N B mk f) : rowI P N B mk (va_up f 17 v) := by
  obtain ⟨a, b, c, d⟩ := h
  refine ⟨fun i hi => ?_, by rw [va_up_self]; exact hv, by rw [va_up_ne _ _ (by decide)]; exact c, by rw [va_up_ne _ _ (by decide)]; exact d⟩
  obtain ⟨a1, a2, a3⟩ := a i hi
  rw [va_up_self, va_up_ne _ _ (show i ≠ 17 by omega), va_up_ne _ _ (show 6 + i ≠ 17 by omega)]
  exact ⟨a1, a2, fun q1 q2 => a3 q1 (hm i hi q2)⟩
theorem rowI_hi {P N B : Nat} {mk f : Nat → Nat} {k v : Nat} (hN : N ≤ 6) (hk : 12 ≤ k) (h17 : k ≠ 17) (h18 : k = 18 → v < 64) (h19 : k = 19 → v ≤ 999) (h : rowI P N B mk f) : rowI P N B mk (va_up f k v) := by
  obtain ⟨a, b, c, d⟩ := h
  have e1 : va_up f k v 17 = f 17 := va_up_ne _ _ (fun q => h17 q.symm)
  refine ⟨fun i hi => ?_, by rw [e1]; exact b, ?_, ?_⟩
  · rw [e1, va_up_ne _ _ (show i ≠ k by omega), va_up_ne _ _ (show 6 + i ≠ k by omega)]
    exact a i hi
  · by_cases e : k = 18
    · subst e; rw [va_up_self]; exact h18 rfl
    · rw [va_up_ne _ _ (fun q => e q.symm)]; exact c
  · by_cases e : k = 19
    · subst e; rw [va_up_self]; exact h19 rfl
    · rw [va_up_ne _ _ (fun q => e q.symm)]; exact d
theorem cpy_slot {f g : Nat → Nat} {a b j : Nat} (hj : j < 20) : va_cpy f g 0 (b * 20) 20 (a * 20 + j) = if a = b then f j else g (a * 20 + j) := by
  unfold va_cpy
  by_cases e : a = b
  · subst e; rw [if_pos (by omega), if_pos rfl]; congr 1; omega
  · rw [if_neg (by omega), if_neg e]
theorem rl_push (h : Rel X Y) : rH (x_push X) (y_push Y) := by
  obtain ⟨h1, h2, h3, h4⟩ := h.h
  have hP := h.P
  have hN := h.N
  refine ⟨?_, ?_, ?_, ?_⟩
  · show (X 16 1 + 1) % 10 < 10
    omega
  · show min 10 (X 16 2 + 1) ≤ 10
    omega
  · show min 10 (X 16 2 + 1) = y_u Y
    unfold y_u
    rw [← h3]
    split <;> omega
  · show ∀ i, i < min 10 (X 16 2 + 1) → rowR (X 9 4) (X 9 5) (fun j => va_cpy (X 15) (X 17) 0 (X 16 1 * 20) 20 (((X 16 1 + 1) % 10 + 10 - min 10 (X 16 2 + 1) + i) % 10 * 20 + j)) (fun j => y_r10 Y (20 * i + j)) ∧ rowI (X 9 4) (X 9 5) (X 9 6) (X 12) (fun j => va_cpy (X 15) (X 17) 0 (X 16 1 * 20) 20 (((X 16 1 + 1) % 10 + 10 - min 10 (X 16 2 + 1) + i) % 10 * 20 + j))
    intro i hi
    generalize hs : ((X 16 1 + 1) % 10 + 10 - min 10 (X 16 2 + 1) + i) % 10 = s
    by_cases e : i = min 10 (X 16 2 + 1) - 1
    · have es : s = X 16 1 := by omega
      have fx : ∀ j, j < 20 → va_cpy (X 15) (X 17) 0 (X 16 1 * 20) 20 (s * 20 + j) = X 15 j := fun j hj => by rw [cpy_slot hj, if_pos es]
      have fy : ∀ j, j < 20 → y_r10 Y (20 * i + j) = Y 7 j := by
        intro j hj
        unfold y_r10
        rw [← h3]
        split
        · unfold va_cpy; rw [if_pos (by omega)]; exact congrArg (Y 7) (by omega)
        · unfold va_cpy; rw [if_pos (by omega)]; exact congrArg (Y 7) (by omega)
      exact ⟨rowR_c hP hN fx fy h.n.1, rowI_c hN fx h.n.2⟩
    · have es : ¬ s = X 16 1 := by omega
      have fx : ∀ j, j < 20 → va_cpy (X 15) (X 17) 0 (X 16 1 * 20) 20 (s * 20 + j) = X 17 (s * 20 + j) := fun j hj => by rw [cpy_slot hj, if_neg es]
      by_cases hk : X 16 2 = 10
      · have o := h4 (i + 1) (by omega)
        rw [show (X 16 1 + 10 - X 16 2 + (i + 1)) % 10 = s by omega] at o
        have fy : ∀ j, j < 20 → y_r10 Y (20 * i + j) = Y 10 (20 * (i + 1) + j) := by
          intro j hj
          unfold y_r10
          rw [← h3, if_pos hk]
          unfold va_cpy
          rw [if_neg (by omega), if_pos (by omega)]; exact congrArg (Y 10) (by omega)
        exact ⟨rowR_c hP hN fx fy o.1, rowI_c hN fx o.2⟩
      · have o := h4 i (by omega)
        rw [show (X 16 1 + 10 - X 16 2 + i) % 10 = s by omega] at o
        have fy : ∀ j, j < 20 → y_r10 Y (20 * i + j) = Y 10 (20 * i + j) := by
          intro j hj
          unfold y_r10
          rw [← h3, if_neg hk]
          unfold va_cpy
          rw [if_neg (by omega)]
        exact ⟨rowR_c hP hN fx fy o.1, rowI_c hN fx o.2⟩
theorem Rel.pBx (h : Rel X Y) : ∀ k j, x_push X k j < 1024 := hB_push h.xB
theorem Rel.pBy (h : Rel X Y) : ∀ k j, y_push Y k j < 1024 := hBy_push h.yB (by rw [← h.h.2.2.1]; exact h.h.2.1)
theorem ms_comm {M : Nat → Nat → Nat} {k a b x y : Nat} (h : a ≠ b) : ms (ms M k a x) k b y = ms (ms M k b y) k a x := by
  funext i j
  rw [ms_if, ms_if, ms_if, ms_if]
  (repeat' split) <;> first | rfl | (exfalso; omega)
theorem va_comm {f : Nat → Nat} {a b x y : Nat} (h : a ≠ b) : va_up (va_up f a x) b y = va_up (va_up f b y) a x := by
  funext j
  simp only [va_up]
  (repeat' split) <;> first | rfl | (exfalso; omega)
theorem rl_teach (h : Rel X Y) (x y : Int32) : (x_teach X x y).1 = (y_teach Y x y).1 ∧ Rel (x_teach X x y).2 (y_teach Y x y).2 := by
  have hP := h.P
  have hN := h.N
  unfold x_teach y_teach
  rw [h.eP]
  by_cases hc : inR x (X 9 4) = true ∧ inR y 32 = true
  · obtain ⟨q, hq, rfl⟩ := inR_of (by omega) hc.1
    obtain ⟨k, hk, rfl⟩ := inR_of (by decide) hc.2
    rw [if_pos hc, if_pos hc, nI_clamp (show q < 2 ^ 31 by omega), nI_clamp (show k < 2 ^ 31 by omega), h.lo hq]
    refine ⟨rfl, ⟨hB_ms h.pBx (by omega), hB_ms h.pBy (by omega), h.z⟩, h.t, h.c, ⟨?_, ?_⟩, rl_push h, h.m, h.s, h.b⟩
    · show rowR (X 9 4) (X 9 5) (va_up (X 15) (12 + q) k) (va_up (Y 7) (14 + q) k)
      exact rowR_up hP hN (by omega) h.n.1
    · show rowI (X 9 4) (X 9 5) (X 9 6) (X 12) (va_up (X 15) (12 + q) k)
      exact rowI_hi hN (by omega) (by omega) (by omega) (by omega) h.n.2
  · rw [if_neg hc, if_neg hc]
    exact ⟨rfl, h⟩
theorem rl_send (h : Rel X Y) (x y : Int32) : (x_send X x y).1 = (y_send Y x y).1 ∧ Rel (x_send X x y).2 (y_send Y x y).2 := by
  have hP := h.P
  have hN := h.N
  have ha := h.aw6
  unfold x_send y_send
  rw [h.eN, yn_in]
  by_cases hc : inR x (X 9 5) = true ∧ inR y 2 = true
  · obtain ⟨n, hn, rfl⟩ := inR_of (by omega) hc.1
    obtain ⟨k, hk, rfl⟩ := inR_of (by decide) hc.2
    rw [if_pos hc, if_pos hc, nI_clamp (show n < 2 ^ 31 by omega), nI_clamp (show k < 2 ^ 31 by omega)]
    unfold y_sendN
    rw [h.aw]
    have e : (hb (nI (X 15 18)) n = decide (nI k = nI 1)) ↔ X 15 18 / 2 ^ n % 2 = k := by
      rw [hb_dm (by omega) (by omega), decide_eq_decide, nI_eq (by omega) (by decide)]
      omega
    by_cases c : X 15 18 / 2 ^ n % 2 = k
    · rw [if_pos (e.mpr c), if_pos c]
      exact ⟨rfl, h⟩
    · rw [if_neg (fun q => c (e.mp q)), if_neg c]
      have hx := xor_lt ha (show n < 6 by omega)
      refine ⟨rfl, ⟨hB_ms h.pBx (by omega), hB_ms h.pBy (by omega), h.z⟩, h.t, h.c, ⟨?_, ?_⟩, rl_push h, h.m, h.s, h.b⟩
      · show rowR (X 9 4) (X 9 5) (va_up (X 15) 18 (X 15 18 ^^^ (1 * 2 ^ n))) (va_up (Y 7) 13 (X 15 18 ^^^ (1 * 2 ^ n)))
        exact rowR_up hP hN (by omega) h.n.1
      · show rowI (X 9 4) (X 9 5) (X 9 6) (X 12) (va_up (X 15) 18 (X 15 18 ^^^ (1 * 2 ^ n)))
        exact rowI_hi hN (by omega) (by omega) (fun _ => hx) (by omega) h.n.2
  · rw [if_neg hc, if_neg hc]
    exact ⟨rfl, h⟩
end REL2
