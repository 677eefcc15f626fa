/-! the two memories side by side -/
def rowR (P N : Nat) (f g : Nat → Nat) : Prop := (∀ n, n < N → f n = g n ∧ f (6 + n) = g (6 + n)) ∧ (∀ q, q < P → f (12 + q) = g (14 + q)) ∧ f 17 = g 12 ∧ f 18 = g 13 ∧ f 19 = g 19
def rowI (P N B : Nat) (mk f : Nat → Nat) : Prop := (∀ n, n < N → f n < P ∧ f (6 + n) ≤ 999 ∧ (0 < mk n → hb (nI (f 17)) n = false → f (6 + n) < B)) ∧ f 17 < 64 ∧ f 18 < 64 ∧ f 19 ≤ 999
def rT (X Y : Nat → Nat → Nat) : Prop := X 1 1 ≤ 150 ∧ X 1 1 = Y 0 3 ∧ (∀ i, i < X 1 1 → X 2 i = Y 1 i) ∧ ∀ j, X 2 j ≤ 255
def rC (X Y : Nat → Nat → Nat) : Prop := X 9 4 ≤ 5 ∧ X 9 5 ≤ 6 ∧ (1 ≤ X 9 6 ∧ X 9 6 ≤ 9) ∧ X 9 4 = Y 2 0 ∧ X 9 5 = Y 2 1 ∧ X 9 6 = Y 2 2 ∧ X 9 7 = Y 2 3 ∧ ∀ n, n < X 9 5 → X 11 n = Y 4 n ∧ X 12 n = Y 5 n ∧ X 12 n ≤ 31
def rN (X Y : Nat → Nat → Nat) : Prop := rowR (X 9 4) (X 9 5) (X 15) (Y 7) ∧ rowI (X 9 4) (X 9 5) (X 9 6) (X 12) (X 15)
def rH (X Y : Nat → Nat → Nat) : Prop := X 16 1 < 10 ∧ X 16 2 ≤ 10 ∧ X 16 2 = Y 0 19 ∧ ∀ i, i < X 16 2 → rowR (X 9 4) (X 9 5) (fun j => X 17 ((X 16 1 + 10 - X 16 2 + i) % 10 * 20 + j)) (fun j => Y 10 (20 * i + j)) ∧ rowI (X 9 4) (X 9 5) (X 9 6) (X 12) (fun j => X 17 ((X 16 1 + 10 - X 16 2 + i) % 10 * 20 + j))
def rM (X Y : Nat → Nat → Nat) : Prop := X 18 1 < 4 ∧ ∀ i, i < 2 → (hb (nI (X 18 1)) i = true ↔ Y 9 i ≠ 0) ∧ (hb (nI (X 18 1)) i = true → rowR (X 9 4) (X 9 5) (fun j => X 19 (i * 20 + j)) (fun j => Y 8 (20 * i + j)) ∧ rowI (X 9 4) (X 9 5) (X 9 6) (X 12) (fun j => X 19 (i * 20 + j)))
def rS (X Y : Nat → Nat → Nat) : Prop := X 21 4 ≤ 6 ∧ X 21 4 = Y 0 22 ∧ ∀ i, i < X 21 4 → X 22 i = Y 11 i ∧ X 22 i < X 9 4 ∧ X 23 i = Y 12 i ∧ X 23 i ≤ 1
def rB (X Y : Nat → Nat → Nat) : Prop := X 24 4 ≤ 6 ∧ X 24 4 = Y 0 25 ∧ ∀ i, i < X 24 4 → X 25 i = Y 13 i ∧ X 26 i = Y 14 i
def Rel (X Y : Nat → Nat → Nat) : Prop := ((∀ k j, X k j < 1024) ∧ (∀ k j, Y k j < 1024) ∧ Y 0 0 = 0) ∧ rT X Y ∧ rC X Y ∧ rN X Y ∧ rH X Y ∧ rM X Y ∧ rS X Y ∧ rB X Y
section REL
variable {X Y : Nat → Nat → Nat}
theorem Rel.xB (h : Rel X Y) : ∀ k j, X k j < 1024 := h.1.1
theorem Rel.yB (h : Rel X Y) : ∀ k j, Y k j < 1024 := h.1.2.1
theorem Rel.z (h : Rel X Y) : Y 0 0 = 0 := h.1.2.2
theorem Rel.t (h : Rel X Y) : rT X Y := h.2.1
theorem Rel.c (h : Rel X Y) : rC X Y := h.2.2.1
theorem Rel.n (h : Rel X Y) : rN X Y := h.2.2.2.1
theorem Rel.h (h : Rel X Y) : rH X Y := h.2.2.2.2.1
theorem Rel.m (h : Rel X Y) : rM X Y := h.2.2.2.2.2.1
theorem Rel.s (h : Rel X Y) : rS X Y := h.2.2.2.2.2.2.1
theorem Rel.b (h : Rel X Y) : rB X Y := h.2.2.2.2.2.2.2
theorem Rel.P (h : Rel X Y) : X 9 4 ≤ 5 := h.c.1
theorem Rel.N (h : Rel X Y) : X 9 5 ≤ 6 := h.c.2.1
theorem Rel.eP (h : Rel X Y) : Y 2 0 = X 9 4 := h.c.2.2.2.1.symm
theorem Rel.eN (h : Rel X Y) : Y 2 1 = X 9 5 := h.c.2.2.2.2.1.symm
theorem Rel.eB (h : Rel X Y) : Y 2 2 = X 9 6 := h.c.2.2.2.2.2.1.symm
theorem Rel.eS (h : Rel X Y) : Y 2 3 = X 9 7 := h.c.2.2.2.2.2.2.1.symm
theorem Rel.wo (h : Rel X Y) {n : Nat} (hn : n < X 9 5) : Y 4 n = X 11 n := (h.c.2.2.2.2.2.2.2 n hn).1.symm
theorem Rel.mk (h : Rel X Y) {n : Nat} (hn : n < X 9 5) : Y 5 n = X 12 n := (h.c.2.2.2.2.2.2.2 n hn).2.1.symm
theorem Rel.mk31 (h : Rel X Y) {n : Nat} (hn : n < X 9 5) : X 12 n ≤ 31 := (h.c.2.2.2.2.2.2.2 n hn).2.2
theorem Rel.ho (h : Rel X Y) {n : Nat} (hn : n < X 9 5) : Y 7 n = X 15 n := (h.n.1.1 n hn).1.symm
theorem Rel.us (h : Rel X Y) {n : Nat} (hn : n < X 9 5) : Y 7 (6 + n) = X 15 (6 + n) := (h.n.1.1 n hn).2.symm
theorem Rel.lo (h : Rel X Y) {q : Nat} (hq : q < X 9 4) : Y 7 (14 + q) = X 15 (12 + q) := (h.n.1.2.1 q hq).symm
theorem Rel.pa (h : Rel X Y) : Y 7 12 = X 15 17 := h.n.1.2.2.1.symm
theorem Rel.aw (h : Rel X Y) : Y 7 13 = X 15 18 := h.n.1.2.2.2.1.symm
theorem Rel.re (h : Rel X Y) : Y 7 19 = X 15 19 := h.n.1.2.2.2.2.symm
theorem Rel.hoP (h : Rel X Y) {n : Nat} (hn : n < X 9 5) : X 15 n < X 9 4 := (h.n.2.1 n hn).1
theorem Rel.us9 (h : Rel X Y) {n : Nat} (hn : n < X 9 5) : X 15 (6 + n) ≤ 999 := (h.n.2.1 n hn).2.1
theorem Rel.usB (h : Rel X Y) {n : Nat} (hn : n < X 9 5) (h1 : 0 < X 12 n) (h2 : hb (nI (X 15 17)) n = false) : X 15 (6 + n) < X 9 6 := (h.n.2.1 n hn).2.2 h1 h2
theorem Rel.pa6 (h : Rel X Y) : X 15 17 < 64 := h.n.2.2.1
theorem Rel.aw6 (h : Rel X Y) : X 15 18 < 64 := h.n.2.2.2.1
theorem Rel.re9 (h : Rel X Y) : X 15 19 ≤ 999 := h.n.2.2.2.2
theorem hb_dm {a n : Nat} (ha : a < 2 ^ 31) (hn : n < 32) : hb (nI a) n = decide (a / 2 ^ n % 2 = 1) := by rw [hb_nI ha hn, Nat.testBit_eq_decide_div_mod_eq]
theorem Rel.yaw (h : Rel X Y) {n : Nat} (hn : n < 32) : y_aw Y n = hb (nI (X 15 18)) n := by
  have := h.aw6
  unfold y_aw
  rw [h.aw, hb_dm (by omega) hn]
theorem Rel.ypa (h : Rel X Y) {n : Nat} (hn : n < 32) : y_pa Y n = hb (nI (X 15 17)) n := by
  have := h.pa6
  unfold y_pa
  rw [h.pa, hb_dm (by omega) hn]
theorem foldTo_congr {α : Type} {g g' : Nat → α → α} {z : α} : ∀ {k : Nat}, (∀ i, i < k → ∀ a, g i a = g' i a) → foldTo g z k = foldTo g' z k
  | 0, _ => rfl
  | k + 1, h => by
    show g k (foldTo g z k) = g' k (foldTo g' z k)
    rw [foldTo_congr (fun i hi => h i (Nat.lt_succ_of_lt hi)), h k (Nat.lt_succ_self k)]
theorem sumTo_congr {f g : Nat → Nat} : ∀ {k : Nat}, (∀ i, i < k → f i = g i) → sumTo f k = sumTo g k
  | 0, _ => rfl
  | k + 1, h => by
    show sumTo f k + f k = sumTo g k + g k
    rw [sumTo_congr (fun i hi => h i (Nat.lt_succ_of_lt hi)), h k (Nat.lt_succ_self k)]
theorem all_bits : ∀ P, P < 6 → foldTo (fun q a => a ||| (1 * 2 ^ q)) 0 P = 1 * 2 ^ P - 1 := by decide +kernel
theorem Rel.ytk_f (h : Rel X Y) {n : Nat} (hn : n < X 9 5) : y_tk Y n false = x_tbl X n := by
  unfold y_tk x_tbl
  rw [h.eP]
  refine foldTo_congr (fun q hq a => ?_)
  rw [h.mk hn, h.lo hq]
  simp
theorem ytk_t (Y : Nat → Nat → Nat) (n : Nat) (hP : Y 2 0 ≤ 5) : y_tk Y n true = 1 * 2 ^ (Y 2 0) - 1 := by
  rw [← all_bits _ (by omega)]
  unfold y_tk
  exact foldTo_congr (fun q hq a => by simp)
theorem Rel.ytk (h : Rel X Y) {n : Nat} (hn : n < X 9 5) : y_tk Y n (y_pa Y n) = x_tk X n := by
  have := h.N
  rw [h.ypa (by omega)]
  unfold x_tk
  cases e : hb (nI (X 15 17)) n
  · rw [h.ytk_f hn]; rfl
  · rw [ytk_t _ _ (by rw [h.eP]; exact h.P), h.eP]; rfl
/-- note -/
theorem eq_note (h : Rel X Y) (x y : Int32) : x_note X x y = y_note Y x y := by
  have hN := h.N
  unfold x_note y_note
  rw [h.eN]
  by_cases hx : inR x (X 9 5) = true
  · obtain ⟨n, hn, rfl⟩ := inR_of (by omega) hx
    rw [nI_clamp (by omega), if_pos hx]
    by_cases hy : inR y 7 = true
    · obtain ⟨k, hk, rfl⟩ := inR_of (by decide) hy
      rw [nI_clamp (by omega), if_pos ⟨hx, hy⟩]
      have d : ∀ a, a < 64 → bN (hb (nI a) n) = a / 2 ^ n % 2 := by
        intro a ha
        rw [hb_dm (by omega) (by omega)]
        by_cases q : a / 2 ^ n % 2 = 1
        · rw [decide_eq_true q, q]; rfl
        · rw [decide_eq_false q]; show 0 = _; omega
      rcases (by omega : k = 0 ∨ k = 1 ∨ k = 2 ∨ k = 3 ∨ k = 4 ∨ k = 5 ∨ k = 6) with rfl | rfl | rfl | rfl | rfl | rfl | rfl
      · show nI (X 11 n) = nI (Y 4 n); rw [h.wo hn]
      · show nI (X 12 n) = nI (Y 5 n); rw [h.mk hn]
      · show nI (X 15 n) = nI (Y 7 n); rw [h.ho hn]
      · show nI (X 15 (6 + n)) = nI (Y 7 (6 + n)); rw [h.us hn]
      · show nI (bN (hb (nI (X 15 17)) n)) = nI (Y 7 12 / 2 ^ n % 2); rw [h.pa, d _ h.pa6]
      · show nI (bN (hb (nI (X 15 18)) n)) = nI (Y 7 13 / 2 ^ n % 2); rw [h.aw, d _ h.aw6]
      · show nI (x_tk X n) = nI (y_tk Y n (y_pa Y n)); rw [h.ytk hn]
    · rw [if_neg (fun q => hy q.2)]
      have ne : ∀ k, k < 7 → ¬ y = nI k := by
        rintro k hk rfl
        exact hy (by rw [inR_nI (by omega) (by decide)]; exact decide_eq_true hk)
      unfold x_noteN
      rw [if_neg (show ¬ y = 0 from ne 0 (by decide)), if_neg (show ¬ y = 1 from ne 1 (by decide)), if_neg (show ¬ y = 2 from ne 2 (by decide)), if_neg (show ¬ y = 3 from ne 3 (by decide)), if_neg (show ¬ y = 4 from ne 4 (by decide)), if_neg (show ¬ y = 5 from ne 5 (by decide)), if_neg (show ¬ y = 6 from ne 6 (by decide))]
  · rw [if_neg hx, if_neg (fun q => hx q.1)]
theorem eq_person (h : Rel X Y) (x y : Int32) : x_person X x y = y_person Y x y := by
  have hN := h.N
  have hP := h.P
  unfold x_person y_person
  rw [h.eP, h.eN]
  by_cases hx : inR x (X 9 4) = true
  · obtain ⟨q, hq, rfl⟩ := inR_of (by omega) hx
    rw [nI_clamp (by omega), if_pos hx]
    by_cases hy : inR y 2 = true
    · obtain ⟨k, hk, rfl⟩ := inR_of (by decide) hy
      rw [nI_clamp (by omega), if_pos (show inR (nI q) (X 9 4) = true ∧ inR (nI k) 2 = true from ⟨hx, hy⟩)]
      rcases (by omega : k = 0 ∨ k = 1) with rfl | rfl
      · show nI (X 15 (12 + q)) = nI (Y 7 (14 + q)); rw [h.lo hq]
      · show nI (x_purse X q) = nI (y_purse Y q (X 9 5))
        unfold x_purse y_purse
        refine congrArg nI (sumTo_congr (fun n hn => ?_))
        rw [h.yaw (by omega), h.ho hn, h.wo hn]
    · rw [if_neg (show ¬ (inR (nI q) (X 9 4) = true ∧ inR y 2 = true) from fun q => hy q.2)]
      have ne : ∀ k, k < 2 → ¬ y = nI k := by
        rintro k hk rfl
        exact hy (by rw [inR_nI (by omega) (by decide)]; exact decide_eq_true hk)
      rw [if_neg (show ¬ y = 0 from ne 0 (by decide)), if_neg (show ¬ y = 1 from ne 1 (by decide))]
  · rw [if_neg hx, if_neg (fun q => hx q.1)]
theorem hb_not : ∀ a, a < 64 → ∀ n, n < 6 → hb ((nI a) ^^^ (-1)) n = !(hb (nI a) n) := by decide +kernel
theorem hb_andnot : ∀ a, a < 64 → ∀ b, b < 64 → ∀ n, n < 6 → hb ((nI b) &&& ((nI a) ^^^ (-1))) n = (hb (nI b) n && !(hb (nI a) n)) := by decide +kernel
theorem Rel.wa (h : Rel X Y) : y_wal Y false (X 9 5) = x_wa X := by
  have hN := h.N
  unfold x_wa x_wo y_wal
  refine sumTo_congr (fun n hn => ?_)
  rw [h.yaw (by omega), h.wo hn, hb_not _ h.aw6 _ (by omega)]
  cases hb (nI (X 15 18)) n <;> simp
theorem x_fn_bits (X : Nat → Nat → Nat) : ∀ k, k ≤ 6 → foldTo (fun n a => if 0 < X 12 n then a ||| (1 * 2 ^ n) else a) 0 k < 64 ∧ ∀ n, n < 6 → hb (nI (foldTo (fun n a => if 0 < X 12 n then a ||| (1 * 2 ^ n) else a) 0 k)) n = (decide (n < k) && decide (0 < X 12 n)) := by
  intro k
  induction k with
  | zero =>
    intro _
    refine ⟨(by decide : 0 < 64), fun n hn => ?_⟩
    show hb (nI 0) n = _
    rw [hb_0 n (by omega)]; simp
  | succ k ih =>
    intro hk
    obtain ⟨h1, h2⟩ := ih (by omega)
    simp only [foldTo]
    generalize foldTo (fun n a => if 0 < X 12 n then a ||| (1 * 2 ^ n) else a) 0 k = a at h1 h2
    have key : ∀ a, a < 64 → ∀ k, k < 6 → ∀ n, n < 6 → hb (nI (a ||| (1 * 2 ^ k))) n = (hb (nI a) n || decide (n = k)) := by decide +kernel
    split
    · rename_i hp
      refine ⟨or_lt h1 (by omega), fun n hn => ?_⟩
      rw [key a h1 k (by omega) n hn, h2 n hn]
      by_cases e : n = k
      · subst e; simp [hp]
      · have : (n < k + 1) ↔ (n < k) := by omega
        simp [e, this]
    · rename_i hp
      refine ⟨h1, fun n hn => ?_⟩
      rw [h2 n hn]
      by_cases e : n = k
      · subst e; simp [hp]
      · have : (n < k + 1) ↔ (n < k) := by omega
        simp [this]
theorem x_fn_lt (hN : X 9 5 ≤ 6) : x_fn X < 64 := (x_fn_bits X (X 9 5) hN).1
theorem x_fn_b (hN : X 9 5 ≤ 6) {n : Nat} (hn : n < X 9 5) : hb (nI (x_fn X)) n = decide (0 < X 12 n) := by
  unfold x_fn
  rw [(x_fn_bits X (X 9 5) hN).2 n (by omega), decide_eq_true hn, Bool.true_and]
theorem Rel.wf (h : Rel X Y) : y_wal Y true (X 9 5) = x_wf X := by
  have hN := h.N
  unfold x_wf x_wo y_wal
  refine sumTo_congr (fun n hn => ?_)
  rw [h.yaw (by omega), h.wo hn, h.mk hn, hb_andnot _ h.aw6 _ (x_fn_lt hN) _ (by omega), x_fn_b hN hn]
  by_cases q : 0 < X 12 n <;> cases hb (nI (X 15 18)) n <;> simp [q]
theorem eq_now (h : Rel X Y) (y : Int32) : x_now X y = y_now Y y := by
  unfold x_now y_now
  by_cases hy : inR y 6 = true
  · obtain ⟨k, hk, rfl⟩ := inR_of (by decide) hy
    rw [nI_clamp (by omega), if_pos hy]
    rcases (by omega : k = 0 ∨ k = 1 ∨ k = 2 ∨ k = 3 ∨ k = 4 ∨ k = 5) with rfl | rfl | rfl | rfl | rfl | rfl
    · show nI (X 15 17) = nI (Y 7 12); rw [h.pa]
    · show nI (X 15 18) = nI (Y 7 13); rw [h.aw]
    · show nI (X 15 19) = nI (Y 7 19); rw [h.re]
    · show nI (x_wa X) = nI (y_wal Y false (Y 2 1)); rw [h.eN, h.wa]
    · show nI (x_wf X) = nI (y_wal Y true (Y 2 1)); rw [h.eN, h.wf]
    · show nI (X 16 2) = nI (Y 0 19); rw [h.h.2.2.1]
  · have ne : ∀ k, k < 6 → ¬ y = nI k := by
      rintro k hk rfl
      exact hy (by rw [inR_nI (by omega) (by decide)]; exact decide_eq_true hk)
    rw [if_neg hy, if_neg (show ¬ y = 0 from ne 0 (by decide)), if_neg (show ¬ y = 1 from ne 1 (by decide)), if_neg (show ¬ y = 2 from ne 2 (by decide)), if_neg (show ¬ y = 3 from ne 3 (by decide)), if_neg (show ¬ y = 4 from ne 4 (by decide)), if_neg (show ¬ y = 5 from ne 5 (by decide))]
theorem eq_count (h : Rel X Y) (y : Int32) : x_count X y = y_count Y y := by
  unfold x_count y_count
  by_cases hy : inR y 4 = true
  · obtain ⟨k, hk, rfl⟩ := inR_of (by decide) hy
    rw [nI_clamp (by omega), if_pos hy]
    rcases (by omega : k = 0 ∨ k = 1 ∨ k = 2 ∨ k = 3) with rfl | rfl | rfl | rfl
    · show nI (X 9 4) = nI (Y 2 0); rw [h.eP]
    · show nI (X 9 5) = nI (Y 2 1); rw [h.eN]
    · show nI (X 9 6) = nI (Y 2 2); rw [h.eB]
    · show nI (X 9 7) = nI (Y 2 3); rw [h.eS]
  · have ne : ∀ k, k < 4 → ¬ y = nI k := by
      rintro k hk rfl
      exact hy (by rw [inR_nI (by omega) (by decide)]; exact decide_eq_true hk)
    rw [if_neg hy, if_neg (show ¬ y = 0 from ne 0 (by decide)), if_neg (show ¬ y = 1 from ne 1 (by decide)), if_neg (show ¬ y = 2 from ne 2 (by decide)), if_neg (show ¬ y = 3 from ne 3 (by decide)), h.s.2.1, h.b.2.1, h.t.2.1]
    rfl
end REL
