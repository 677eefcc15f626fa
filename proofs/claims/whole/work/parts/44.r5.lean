/-! soonest, odds -/
section REL5
variable {X Y : Nat → Nat → Nat}
def lowOf (P a h : Nat) : Nat := match findTo (fun q => decide (q ≠ h) && hb (nI a) q) 0 P with
  | some q => q
  | none => h
def stepB (P T h e : Nat) : Bool := !(decide (e + 1 ≤ y_ps T h)) || (decide (y_itf P T (e + 1) (nI h) P = nI (lowOf P T h)) && (decide (lowOf P T h < P) && decide (e ≤ y_ps T (lowOf P T h))))
theorem step_b : ∀ P, P < 6 → ∀ T, T < 2 ^ P → ∀ h, h < P → ∀ e, e < 9 → stepB P T h e = true := by decide +kernel
theorem step_ok (P : Nat) (hP : P < 6) (T : Nat) (hT : T < 2 ^ P) (h : Nat) (hh : h < P) (e : Nat) (he : e < 9) (hs : e + 1 ≤ y_ps T h) : y_itf P T (e + 1) (nI h) P = nI (lowOf P T h) ∧ lowOf P T h < P ∧ e ≤ y_ps T (lowOf P T h) := by
  have q := step_b P hP T hT h hh e he
  unfold stepB at q
  rw [decide_eq_true hs, Bool.not_true, Bool.false_or, Bool.and_eq_true, Bool.and_eq_true, decide_eq_true_eq, decide_eq_true_eq, decide_eq_true_eq] at q
  exact q
theorem at_inv (h : Rel X Y) {n : Nat} (hn : n < X 9 5) {L : Nat} (hL : L ≤ 9) (hl : L = Y 2 2 - Y 7 (6 + n)) (hs : L ≤ y_ps (x_tbl X n) (X 15 n)) : ∀ e, e ≤ L → y_at Y n e = nI (foldTo (fun _ h => x_low X (x_tbl X n) h) (X 15 n) e) ∧ foldTo (fun _ h => x_low X (x_tbl X n) h) (X 15 n) e < X 9 4 ∧ L - e ≤ y_ps (x_tbl X n) (foldTo (fun _ h => x_low X (x_tbl X n) h) (X 15 n) e) := by
  have hP := h.P
  intro e
  induction e with
  | zero =>
    intro _
    refine ⟨?_, h.hoP hn, hs⟩
    show nI (Y 7 n) = nI (X 15 n)
    rw [h.ho hn]
  | succ e ih =>
    intro he
    obtain ⟨i1, i2, i3⟩ := ih (by omega)
    have ef : foldTo (fun _ h => x_low X (x_tbl X n) h) (X 15 n) (e + 1) = x_low X (x_tbl X n) (foldTo (fun _ h => x_low X (x_tbl X n) h) (X 15 n) e) := rfl
    rw [ef]
    generalize foldTo (fun _ h => x_low X (x_tbl X n) h) (X 15 n) e = s at i1 i2 i3 ⊢
    have o := step_ok (X 9 4) (by omega) (x_tbl X n) (x_tbl_lt' X n (X 9 4)) s i2 (L - e - 1) (by omega) (by omega)
    rw [show L - e - 1 + 1 = L - e by omega] at o
    have el : x_low X (x_tbl X n) s = lowOf (X 9 4) (x_tbl X n) s := rfl
    rw [el]
    refine ⟨?_, o.2.1, by have := o.2.2; omega⟩
    show y_itf (Y 2 0) (y_tk Y n false) (Y 2 2 - Y 7 (6 + n) - e) (y_at Y n e) (Y 2 0) = _
    rw [← hl, h.eP, h.ytk_f hn, i1, o.1]
theorem rz_ps : ∀ T, T < 32 → ∀ h, h < 5 → (y_ps T h = 0 ∧ pc6 T = bN (hb (nI T) h)) ∨ (y_ps T h = 1 ∧ pc6 T = 1 ∧ ¬ pc6 T = bN (hb (nI T) h)) ∨ (y_ps T h = 1000000 ∧ 1 < pc6 T) := by decide +kernel
theorem cgo_ok (h : Rel X Y) {n : Nat} (hn : n < X 9 5) (hm : 0 < X 12 n) (hp : hb (nI (X 15 17)) n = false) : x_cgo X n (X 9 6 - X 15 (6 + n)) = true ↔ ¬ y_ps (x_tbl X n) (X 15 n) < X 9 6 - X 15 (6 + n) := by
  have hP := h.P
  have hu := h.usB hn hm hp
  have hB9 := h.c.2.2.1.2
  have hho := h.hoP hn
  have hT : x_tbl X n < 32 := x_tbl_lt hP
  have hx : ∀ b, b < X 9 6 - X 15 (6 + n) → x_hpb X n b = false := by
    intro b hb
    rw [h.hpb hn hp, decide_eq_false (show ¬ X 9 6 ≤ X 15 (6 + n) + b by omega), Bool.and_false]
  unfold x_cgo
  rw [decide_eq_true_eq]
  have h0 := x_ch_0 (hx 0 (by omega)) hT
  rw [show (decide (0 < 0) || hb (nI (x_tbl X n)) (X 15 n)) = hb (nI (x_tbl X n)) (X 15 n) from Bool.false_or _] at h0
  have hb1 : ∀ b, 0 < b → b < X 9 6 - X 15 (6 + n) → (x_ch X n b = 0 ↔ pc6 (x_tbl X n) = 1) := by
    intro b hb hb2
    rw [x_ch_0 (hx b hb2) hT, decide_eq_true hb, Bool.true_or]
    exact Iff.rfl
  rcases rz_ps _ hT (X 15 n) (by omega) with ⟨a, b⟩ | ⟨a, b, c⟩ | ⟨a, b⟩
  · rw [a]
    constructor
    · intro q; exact absurd (h0.mpr b) (q 0 (by omega))
    · intro q; omega
  · rw [a]
    constructor
    · intro q z
      exact q 1 z ((hb1 1 (by decide) z).mpr b)
    · intro q j hj
      have : j = 0 := by omega
      subst this
      rw [h0]; exact c
  · rw [a]
    constructor
    · intro _; omega
    · intro _ j hj
      rcases Nat.eq_zero_or_pos j with z | z
      · subst z
        rw [h0]
        have : bN (hb (nI (x_tbl X n)) (X 15 n)) ≤ 1 := Bool.toNat_le _
        omega
      · rw [hb1 j z hj]; omega
theorem eq_soonN (h : Rel X Y) {n : Nat} (hn : n < X 9 5) {k : Int32} (hk : (-1 : Int32) ≤ k) : x_soonN X n k = y_soonN Y n k := by
  have hP := h.P
  have hN := h.N
  have hB9 := h.c.2.2.1.2
  unfold x_soonN y_soonN
  rw [h.yaw (by omega), h.ypa (by omega), h.mk hn, h.ytk_f hn, h.ho hn]
  by_cases ca : hb (nI (X 15 18)) n = true
  · rw [if_pos ca, if_pos ca]
  rw [if_neg ca, if_neg ca]
  by_cases cm : 0 < X 12 n
  · rw [if_pos cm, if_neg (show ¬ X 12 n = 0 by omega)]
    by_cases cp : hb (nI (X 15 17)) n = true
    · rw [if_pos cp, if_pos cp]
    rw [if_neg cp, if_neg cp]
    have cp2 : hb (nI (X 15 17)) n = false := by rw [← Bool.not_eq_true]; exact cp
    have hu := h.usB hn cm cp2
    have hg := cgo_ok h hn cm cp2
    have el : Y 2 2 - Y 7 (6 + n) = X 9 6 - X 15 (6 + n) := by rw [h.eB, h.us hn]
    by_cases cg : y_ps (x_tbl X n) (X 15 n) < X 9 6 - X 15 (6 + n)
    · rw [if_neg (fun q => (hg.mp q) cg), el, if_pos cg]
    · rw [if_pos (hg.mpr cg), el, if_neg cg]
      by_cases ck : k = -1
      · rw [if_pos ck, if_pos ck]
      rw [if_neg ck, if_neg ck]
      have hk0 := ge_m1 hk ck
      obtain ⟨j, hj, rfl⟩ := nI_of hk0
      rw [nI_clamp hj]
      by_cases cj : j < X 9 6 - X 15 (6 + n)
      · rw [if_pos ((nI_ltI hj (by omega)).mpr cj), if_pos cj]
        have o := at_inv h hn (L := X 9 6 - X 15 (6 + n)) (by omega) el.symm (by omega) (j + 1) (by omega)
        exact o.1.symm
      · rw [if_neg (fun q => cj ((nI_ltI hj (by omega)).mp q)), if_neg cj]
  · rw [if_neg cm, if_pos (show X 12 n = 0 by omega)]
theorem eq_soon (h : Rel X Y) (x k : Int32) : x_soon X x k = y_soon Y x k := by
  have hN := h.N
  unfold x_soon y_soon
  rw [h.eN]
  by_cases hx : inR x (X 9 5) = true ∧ (-1 : Int32) ≤ k
  · obtain ⟨n, hn, rfl⟩ := inR_of (by omega) hx.1
    rw [if_pos hx, if_pos hx, nI_clamp (by omega), eq_soonN h hn hx.2]
  · rw [if_neg hx, if_neg hx]
/-! odds -/
theorem sum5 (f : Nat → Nat) : sumTo f 5 = f 0 + f 1 + f 2 + f 3 + f 4 := by simp [sumTo]
theorem W_step : ∀ T, T < 32 → ∀ w0 w1 w2 w3 w4 : Nat, (y_bit T 0 = false → w0 = 0) → (y_bit T 1 = false → w1 = 0) → (y_bit T 2 = false → w2 = 0) → (y_bit T 3 = false → w3 = 0) → (y_bit T 4 = false → w4 = 0) →
    (if y_bit T 0 = true then (w0 + w1 + w2 + w3 + w4) - w0 else 0) + (if y_bit T 1 = true then (w0 + w1 + w2 + w3 + w4) - w1 else 0) + (if y_bit T 2 = true then (w0 + w1 + w2 + w3 + w4) - w2 else 0) + (if y_bit T 3 = true then (w0 + w1 + w2 + w3 + w4) - w3 else 0) + (if y_bit T 4 = true then (w0 + w1 + w2 + w3 + w4) - w4 else 0) = (w0 + w1 + w2 + w3 + w4) * (pc6 T - 1) := by
  intro T hT w0 w1 w2 w3 w4 h0 h1 h2 h3 h4
  have ep : ∀ T, T < 32 → pc6 T = bN (y_bit T 0) + bN (y_bit T 1) + bN (y_bit T 2) + bN (y_bit T 3) + bN (y_bit T 4) := by decide +kernel
  rw [ep T hT]
  generalize y_bit T 0 = b0 at *
  generalize y_bit T 1 = b1 at *
  generalize y_bit T 2 = b2 at *
  generalize y_bit T 3 = b3 at *
  generalize y_bit T 4 = b4 at *
  clear ep hT
  cases b0 <;> cases b1 <;> cases b2 <;> cases b3 <;> cases b4 <;> simp only [bN, Bool.toNat, cond, if_true, if_false, Bool.false_eq_true, forall_const, true_implies, false_implies, Bool.true_eq_false] at * <;> omega
theorem d_step : ∀ T, T < 32 → ∀ h, h < 5 → sumTo (fun q => if y_bit T q = true then 1 - (if q = h then 1 else 0) else 0) 5 = pc6 T - bN (hb (nI T) h) := by decide +kernel
theorem pc_all : ∀ P, P < 6 → pc6 (1 * 2 ^ P - 1) = P ∧ ∀ q, q < 5 → (y_bit (1 * 2 ^ P - 1) q = decide (q < P)) := by decide +kernel
theorem bit_out : ∀ P, P < 6 → ∀ T, T < 2 ^ P → ∀ q, q < 5 → y_bit T q = true → q < P := by decide +kernel
theorem d_sum (h : Nat) (hh : h < 5) : sumTo (fun q => if q = h then 1 else 0) 5 = 1 := by
  rw [sum5]
  (repeat' split) <;> omega
theorem par_eq (h : Rel X Y) {n : Nat} (hn : n < X 9 5) (k : Nat) : y_par Y n k = x_hpb X n k := by
  have hN := h.N
  unfold y_par x_hpb
  rw [h.ypa (by omega), h.mk hn, h.eB, h.us hn]
  cases hp : hb (nI (X 15 17)) n
  · rw [Bool.false_or, Bool.false_or]
    by_cases cm : 0 < X 12 n
    · have := h.usB hn cm hp
      rw [decide_eq_true cm, Bool.true_and, Bool.true_and]
      by_cases ck : 0 < k
      · rw [decide_eq_true ck, Bool.true_and]
      · rw [decide_eq_false ck, Bool.false_and, decide_eq_false (by omega)]
    · rw [decide_eq_false cm, Bool.false_and, Bool.false_and]
  · rfl
theorem hpb_mono {n k : Nat} (hk : x_hpb X n k = true) : x_hpb X n (k + 1) = true := by
  unfold x_hpb at *
  simp only [Bool.or_eq_true, Bool.and_eq_true, decide_eq_true_eq] at *
  rcases hk with q | q
  · exact Or.inl q
  · exact Or.inr ⟨q.1, by omega⟩
/-- who may hold it at a passing: the takers there -/
def o_T (X : Nat → Nat → Nat) (n k : Nat) : Nat := if x_hpb X n k = true then 1 * 2 ^ (X 9 4) - 1 else x_tbl X n
theorem o_T_eq (h : Rel X Y) {n : Nat} (hn : n < X 9 5) (k : Nat) : y_tk Y n (y_par Y n k) = o_T X n k := by
  rw [par_eq h hn]
  unfold o_T
  cases x_hpb X n k
  · rw [if_neg (by decide), h.ytk_f hn]
  · rw [if_pos rfl, ytk_t _ _ (by rw [h.eP]; exact h.P), h.eP]
theorem o_T_lt (h : Rel X Y) (n k : Nat) : o_T X n k < 32 := by
  have hP := h.P
  unfold o_T
  split
  · have : 1 * 2 ^ (X 9 4) ≤ 2 ^ 5 := by rw [Nat.one_mul]; exact Nat.pow_le_pow_right (by decide) hP
    have h2 : (2 : Nat) ^ 5 = 32 := by decide
    have h1 := pw1 (n := X 9 4)
    omega
  · exact x_tbl_lt hP
theorem o_T_mono (h : Rel X Y) {n k q : Nat} (hq : q < 5) (hb : y_bit (o_T X n k) q = true) : y_bit (o_T X n (k + 1)) q = true := by
  have hP := h.P
  unfold o_T at *
  cases hx : x_hpb X n k
  · rw [hx, if_neg (by decide)] at hb
    split
    · rw [(pc_all _ (by omega)).2 q hq]
      exact decide_eq_true (bit_out _ (by omega) _ (x_tbl_lt' X n (X 9 4)) q hq hb)
    · exact hb
  · rw [hx, if_pos rfl] at hb
    rw [hpb_mono hx, if_pos rfl]
    exact hb
theorem W_s (h : Rel X Y) {n : Nat} (hn : n < X 9 5) (k q : Nat) : y_W Y n (k + 1) q = if y_bit (o_T X n k) q = true then sumTo (y_W Y n k) 5 - y_W Y n k q else 0 := by
  show (if y_bit (y_tk Y n (y_par Y n k)) q = true then sumTo (y_W Y n k) 5 - y_W Y n k q else 0) = _
  rw [o_T_eq h hn]
theorem W_sup (h : Rel X Y) {n : Nat} (hn : n < X 9 5) (k : Nat) {q : Nat} (hq : q < 5) (hb : y_bit (o_T X n (k + 1)) q = false) : y_W Y n (k + 1) q = 0 := by
  rw [W_s h hn, if_neg]
  intro z
  rw [o_T_mono h hq z] at hb
  cases hb
theorem S_step (h : Rel X Y) {n : Nat} (hn : n < X 9 5) (k : Nat) (hs : ∀ q, q < 5 → y_bit (o_T X n k) q = false → y_W Y n k q = 0) : sumTo (y_W Y n (k + 1)) 5 = sumTo (y_W Y n k) 5 * (pc6 (o_T X n k) - 1) := by
  have e := W_step (o_T X n k) (o_T_lt h n k) (y_W Y n k 0) (y_W Y n k 1) (y_W Y n k 2) (y_W Y n k 3) (y_W Y n k 4) (hs 0 (by decide)) (hs 1 (by decide)) (hs 2 (by decide)) (hs 3 (by decide)) (hs 4 (by decide))
  rw [sum5 (y_W Y n (k + 1)), W_s h hn, W_s h hn, W_s h hn, W_s h hn, W_s h hn, sum5 (y_W Y n k)]
  exact e
theorem S_eq (h : Rel X Y) {n : Nat} (hn : n < X 9 5) : ∀ k, sumTo (y_W Y n k) 5 = x_wN X n k := by
  have hP := h.P
  have hho := h.hoP hn
  intro k
  induction k with
  | zero =>
    show sumTo (fun q => if q = Y 7 n then 1 else 0) 5 = 1
    rw [h.ho hn]
    exact d_sum _ (by omega)
  | succ k ih =>
    have ew : x_wN X n (k + 1) = x_wN X n k * x_cN X n k := rfl
    rw [ew]
    cases hx : x_hpb X n k
    · have eT : o_T X n k = x_tbl X n := by unfold o_T; rw [hx, if_neg (by decide)]
      have ec : x_cN X n k = pc6 (x_tbl X n) - bN (decide (0 < k) || hb (nI (x_tbl X n)) (X 15 n)) := by unfold x_cN; rw [hx, if_neg (by decide)]
      rw [ec]
      cases k with
      | zero =>
        rw [show x_wN X n 0 = 1 from rfl, Nat.one_mul]
        have e : sumTo (y_W Y n 1) 5 = sumTo (fun q => if y_bit (x_tbl X n) q = true then 1 - (if q = X 15 n then 1 else 0) else 0) 5 := by
          refine sumTo_congr (fun q hq => ?_)
          rw [W_s h hn, eT, ih]
          show (if y_bit (x_tbl X n) q = true then 1 - (if q = Y 7 n then 1 else 0) else 0) = _
          rw [h.ho hn]
        rw [show (0 + 1) = 1 from rfl, e, d_step _ (x_tbl_lt hP) _ (by omega)]
        rfl
      | succ k =>
        rw [S_step h hn (k + 1) (fun q hq hb => W_sup h hn k hq hb), ih, eT, decide_eq_true (Nat.succ_pos k)]
        rfl
    · have eT : o_T X n k = 1 * 2 ^ (X 9 4) - 1 := by unfold o_T; rw [hx, if_pos rfl]
      have ec : x_cN X n k = X 9 4 - 1 := by unfold x_cN; rw [hx, if_pos rfl]
      rw [S_step h hn k, ih, eT, (pc_all _ (by omega)).1, ec]
      intro q hq hb
      cases k with
      | zero =>
        show (if q = Y 7 n then 1 else 0) = 0
        rw [h.ho hn, if_neg]
        intro z
        rw [eT, (pc_all _ (by omega)).2 q hq, z, decide_eq_true hho] at hb
        cases hb
      | succ k => exact W_sup h hn k hq hb
theorem aN_eq {k : Nat} (hP : 2 ≤ X 9 4) (e : Y 2 0 = X 9 4) : y_aN Y k = x_aN X k := by
  unfold y_aN x_aN
  refine foldTo_congr (fun i hi a => ?_)
  rw [e, if_pos (by omega)]
theorem aN_1 (e : Y 2 0 = 1) : ∀ k, y_aN Y k = 1
  | 0 => rfl
  | k + 1 => by rw [y_aN_s, aN_1 e k, e, if_neg (by decide)]
theorem xaN_1 (e : X 9 4 = 1) (k : Nat) : x_aN X (k + 1) = 0 := by
  show x_aN X k * (X 9 4 - 1) = 0
  rw [e]; rfl
theorem xwN_1 (h : Rel X Y) {n : Nat} (hn : n < X 9 5) (e : X 9 4 = 1) : ∀ k, x_wN X n (k + 1) = 0 := by
  have hho := h.hoP hn
  have c0 : x_cN X n 0 = 0 := by
    unfold x_cN
    split
    · omega
    · have hT : x_tbl X n < 2 ^ (X 9 4) := x_tbl_lt' X n (X 9 4)
      rw [e] at hT
      have h0 : X 15 n = 0 := by omega
      rw [h0]
      rcases (by omega : x_tbl X n = 0 ∨ x_tbl X n = 1) with z | z <;> rw [z] <;> decide
  intro k
  induction k with
  | zero => show x_wN X n 0 * x_cN X n 0 = 0; rw [c0]; rfl
  | succ k ih => show x_wN X n (k + 1) * x_cN X n (k + 1) = 0; rw [ih, Nat.zero_mul]
theorem ilt_eq {u d z : Nat} (hd : 0 < d) (hz : z < 2) : x_ilt u d (nI z) = nI (if z = 0 then u / Nat.gcd u d else d / Nat.gcd u d) := by
  unfold x_ilt
  rw [if_neg (by omega)]
  rcases (by omega : z = 0 ∨ z = 1) with rfl | rfl
  · rw [if_pos (show nI 0 = 0 by decide), if_pos rfl]
  · rw [if_neg (show ¬ nI 1 = 0 by decide), if_neg (by decide)]
theorem eq_oddsN (h : Rel X Y) {n k z : Nat} (hn : n < X 9 5) (hz : z < 2) : x_ilt (x_wN X n k) (x_aN X k) (nI z) = nI (y_oddsN Y n k z) := by
  have hho := h.hoP hn
  unfold y_oddsN
  rw [S_eq h hn]
  by_cases h1 : X 9 4 = 1
  · rw [aN_1 (by rw [h.eP]; exact h1)]
    cases k with
    | zero => rw [ilt_eq (show 0 < x_aN X 0 from Nat.one_pos) hz]; rfl
    | succ k =>
      rw [xaN_1 h1, xwN_1 h hn h1]
      unfold x_ilt
      rw [if_pos rfl]
      rcases (by omega : z = 0 ∨ z = 1) with rfl | rfl
      · rw [if_pos (show nI 0 = 0 by decide), if_pos rfl]; rfl
      · rw [if_neg (show ¬ nI 1 = 0 by decide), if_neg (by decide)]; rfl
  · have e := aN_eq (k := k) (show 2 ≤ X 9 4 by omega) h.eP
    rw [← e, ilt_eq (y_aN_pos Y k) hz]
theorem rl_odds (h : Rel X Y) (x y z : Int32) : x_odds X x y z = (y_odds Y x y z).1 ∧ Rel X (y_odds Y x y z).2 := by
  have hN := h.N
  unfold x_odds y_odds
  rw [h.eN, yn_in]
  by_cases hc : inR x (X 9 5) = true ∧ inR y 5 = true ∧ inR z 2 = true
  · obtain ⟨n, hn, rfl⟩ := inR_of (by omega) hc.1
    obtain ⟨k, hk, rfl⟩ := inR_of (by decide) hc.2.1
    obtain ⟨w, hw, rfl⟩ := inR_of (by decide) hc.2.2
    rw [if_pos hc, if_pos hc, nI_clamp (show n < 2 ^ 31 by omega), nI_clamp (show k < 2 ^ 31 by omega), nI_clamp (show w < 2 ^ 31 by omega), h.yaw (by omega)]
    by_cases ca : hb (nI (X 15 18)) n = true
    · rw [if_pos ca, if_pos ca]; exact ⟨rfl, h⟩
    · rw [if_neg ca, if_neg ca]
      exact ⟨eq_oddsN h hn hw, ⟨h.xB, hB_oM h.yB hk, h.z⟩, h.t, h.c, h.n, h.h, h.m, h.s, h.b⟩
  · rw [if_neg hc, if_neg hc]
    exact ⟨rfl, h⟩
end REL5
