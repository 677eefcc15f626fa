/-! the calls that only ask -/
section REL4
variable {X Y : Nat → Nat → Nat}
theorem eq_yf (h : Rel X Y) (y : Nat) : x_bf X y = y_yf Y y := by
  obtain ⟨s1, s2, s3⟩ := h.b
  unfold x_bf y_yf
  rw [decide_eq_decide, ← s2]
  constructor
  · intro q
    refine ⟨trivial, fun i hi => ?_⟩
    have z := q i hi
    rw [decide_eq_decide, (s3 i hi).1, (s3 i hi).2] at z
    exact z
  · intro q i hi
    rw [decide_eq_decide, (s3 i hi).1, (s3 i hi).2]
    exact q.2 i hi
theorem eq_years (h : Rel X Y) : x_py X = y_yrf Y 9 := by
  unfold x_py x_pyf y_yrf
  refine foldTo_congr (fun i hi a => ?_)
  rw [eq_yf h, Nat.or_zero]
theorem Rel.wt (h : Rel X Y) {q : Nat} (hq : q < X 9 4) (a : Nat) : x_wt X q a = decide (a &&& Y 7 (14 + q) = 0) := by
  unfold x_wt
  rw [h.lo hq, Nat.and_comm]
theorem eq_fits (h : Rel X Y) (a : Nat) : x_fits X a = y_mb Y a 0 := by
  obtain ⟨s1, s2, s3⟩ := h.s
  unfold x_fits y_mb
  rw [decide_eq_decide, ← s2]
  have e : ∀ i, i < X 21 4 → (bN (x_wt X (X 22 i) a) = X 23 i ↔ (a &&& Y 7 (14 + Y 11 i) = 0 ↔ Y 12 i = 1)) := by
    intro i hi
    obtain ⟨a1, a2, a3, a4⟩ := s3 i hi
    rw [h.wt a2, ← a1, ← a3]
    by_cases c : a &&& Y 7 (14 + X 22 i) = 0
    · rw [decide_eq_true c]
      show 1 = X 23 i ↔ _
      exact ⟨fun q => ⟨fun _ => q.symm, fun _ => c⟩, fun q => (q.mp c).symm⟩
    · rw [decide_eq_false c]
      show 0 = X 23 i ↔ _
      refine ⟨fun q => ⟨fun z => absurd z c, fun z => ?_⟩, fun q => ?_⟩
      · exfalso; omega
      · have z : X 23 i ≠ 1 := fun z => c (q.mpr z)
        omega
  constructor
  · intro q; exact ⟨rfl, fun i hi => (e i hi).mp (q i hi)⟩
  · intro q i hi; exact (e i hi).mpr (q.2 i hi)
theorem and31 : ∀ k, k < 32 → 31 &&& k = k := by decide +kernel
theorem cf_inv (h : Rel X Y) : ∀ k, k ≤ 32 → (y_cf Y k).1 = sumTo (fun a => bN (x_fits X a)) k ∧ (((∀ j, j < k → x_fits X j = false) ∧ (y_cf Y k).1 = 0 ∧ (y_cf Y k).2.1 = -9 ∧ (y_cf Y k).2.2 = 31 ∧ x_ial X k = -9) ∨ (∃ n, n < k ∧ x_fits X n = true ∧ (∀ j, j < n → x_fits X j = false) ∧ 0 < (y_cf Y k).1 ∧ (y_cf Y k).2.1 = nI n ∧ (y_cf Y k).2.2 < 32 ∧ x_ial X k = nI (y_cf Y k).2.2)) := by
  intro k
  induction k with
  | zero => intro _; exact ⟨rfl, Or.inl ⟨fun j hj => absurd hj (Nat.not_lt_zero j), rfl, rfl, rfl, rfl⟩⟩
  | succ k ih =>
    intro hk
    obtain ⟨i1, i2⟩ := ih (by omega)
    have s1 : sumTo (fun a => bN (x_fits X a)) (k + 1) = sumTo (fun a => bN (x_fits X a)) k + bN (x_fits X k) := rfl
    have s2 : x_ial X (k + 1) = if x_fits X k then (if x_ial X k = -9 then nI k else x_ial X k &&& nI k) else x_ial X k := rfl
    rw [y_cf_s, s1, s2, ← eq_fits h, ← i1]
    by_cases hf : x_fits X k = true
    · rw [if_pos hf, if_pos hf, hf]
      refine ⟨rfl, Or.inr ?_⟩
      rcases i2 with ⟨a, b, c, d, e⟩ | ⟨n, hn, a, a2, b, c, d, e⟩
      · refine ⟨k, by omega, hf, a, Nat.succ_pos _, ?_, ?_, ?_⟩
        · show (if (y_cf Y k).1 = 0 then nI k else (y_cf Y k).2.1) = nI k
          rw [if_pos b]
        · show (y_cf Y k).2.2 &&& k < 32
          exact Nat.lt_of_le_of_lt Nat.and_le_right (by omega)
        · rw [if_pos e]
          show nI k = nI ((y_cf Y k).2.2 &&& k)
          rw [d, and31 k (by omega)]
      · refine ⟨n, by omega, a, a2, Nat.succ_pos _, ?_, ?_, ?_⟩
        · show (if (y_cf Y k).1 = 0 then nI k else (y_cf Y k).2.1) = nI n
          rw [if_neg (by omega)]; exact c
        · show (y_cf Y k).2.2 &&& k < 32
          exact Nat.lt_of_le_of_lt Nat.and_le_right (by omega)
        · rw [e, if_neg (nI_n9 _ (by omega)), nI_and]
    · rw [if_neg hf, if_neg hf]
      have hf2 : x_fits X k = false := by rw [← Bool.not_eq_true]; exact hf
      rw [hf2]
      refine ⟨rfl, ?_⟩
      rcases i2 with ⟨a, b⟩ | ⟨n, hn, a⟩
      · exact Or.inl ⟨lt_succ_all a hf2, b⟩
      · exact Or.inr ⟨n, by omega, a⟩
theorem eq_canBe (h : Rel X Y) (y : Int32) : x_canBe X y = y_canBe Y y := by
  obtain ⟨c1, c2⟩ := cf_inv h 32 (by decide)
  unfold x_canBe y_canBe
  by_cases hy : inR y 3 = true
  · obtain ⟨k, hk, rfl⟩ := inR_of (by decide) hy
    rw [if_pos hy, nI_clamp (show k < 2 ^ 31 by omega)]
    unfold y_canBeN
    rcases (by omega : k = 0 ∨ k = 1 ∨ k = 2) with rfl | rfl | rfl
    · rw [if_pos (show nI 0 = 0 by decide), if_pos rfl, c1]; rfl
    · rw [if_neg (show ¬ nI 1 = 0 by decide), if_pos (show nI 1 = 1 by decide), if_neg (show ¬ 1 = 0 by decide), if_pos (Or.inl rfl)]
      unfold x_least
      rcases c2 with ⟨a, b, c, d⟩ | ⟨n, hn, a, a2, b, c, d⟩
      · rw [findTo_none _ 32 0 (fun j _ hj => a j (by omega)), c]
      · rw [findTo_some _ 32 0 n (by omega) (by omega) (fun j _ hj => a2 j hj) a, c]
    · rw [if_neg (show ¬ nI 2 = 0 by decide), if_neg (show ¬ nI 2 = 1 by decide), if_pos (show nI 2 = 2 by decide), if_neg (show ¬ 2 = 0 by decide)]
      unfold x_inAll
      rcases c2 with ⟨a, b, c, d, e⟩ | ⟨n, hn, a, a2, b, c, d, e⟩
      · rw [if_pos (Or.inr b), e, c]
      · rw [if_neg (show ¬ (2 = 1 ∨ (y_cf Y 32).1 = 0) by omega), e]
  · have ne : ∀ k, k < 3 → ¬ y = nI k := by
      rintro k hk rfl
      exact hy (by rw [inR_nI (by omega) (by decide)]; exact decide_eq_true hk)
    rw [if_neg hy, if_neg (show ¬ y = 0 from ne 0 (by decide)), if_neg (show ¬ y = 1 from ne 1 (by decide)), if_neg (show ¬ y = 2 from ne 2 (by decide))]
theorem mb_and (a z : Nat) : y_mb Y a z = (decide (z = 0) && y_mb Y a 0) := by
  unfold y_mb
  by_cases e : z = 0
  · subst e; rw [decide_eq_true rfl, Bool.true_and]
  · rw [decide_eq_false e, Bool.false_and, decide_eq_false (fun q => e q.1)]
theorem eq_hm (h : Rel X Y) : x_hm X = y_all Y 32 := sumTo_congr (fun a _ => by rw [eq_fits h])
theorem eq_htb (h : Rel X Y) {q : Nat} (hq : q < X 9 4) : x_htb X q = y_yes Y q 32 := sumTo_congr (fun a _ => by rw [mb_and, eq_fits h, h.wt hq, Bool.and_comm])
theorem eq_mr (h : Rel X Y) {q : Nat} (hq : q < X 9 4) : y_mr Y q = max (x_htb X q) (x_hm X - x_htb X q) := by
  unfold y_mr
  rw [← eq_hm h, ← eq_htb h hq]
  split <;> omega
theorem shf_inv (h : Rel X Y) : ∀ q, q ≤ X 9 4 → (x_bpf X q).1 = (y_shf Y q).1 ∧ ∀ m, m ≤ x_hm X → (m < (x_bpf X q).2 ↔ m < (y_shf Y q).2) := by
  intro q
  have hm := x_hm_le X
  induction q with
  | zero =>
    intro _
    refine ⟨rfl, fun m hm2 => ?_⟩
    show m < x_hm X + 1 ↔ m < 1000000
    omega
  | succ q ih =>
    intro hq
    obtain ⟨i1, i2⟩ := ih (by omega)
    have hle := x_htb_le X q
    rw [x_bpf_s, y_shf_s, eq_mr h (by omega)]
    by_cases c : max (x_htb X q) (x_hm X - x_htb X q) < (x_bpf X q).2
    · rw [if_pos c, if_pos ((i2 _ (by omega)).mp c)]
      exact ⟨rfl, fun m _ => Iff.rfl⟩
    · rw [if_neg c, if_neg (fun z => c ((i2 _ (by omega)).mpr z))]
      exact ⟨i1, i2⟩
theorem eq_show (h : Rel X Y) : x_best X = y_show Y := by
  unfold x_best y_show
  rw [← eq_hm h, h.eP, (shf_inv h (X 9 4) (Nat.le_refl _)).1]
/-! till -/
theorem rz_pc : ∀ T, T < 32 → ∀ h, h < 5 → (y_rz T h = true ↔ pc6 T = bN (hb (nI T) h)) := by decide +kernel
theorem rz_P : ∀ P, P < 6 → ∀ T, T < 2 ^ P → ∀ h, h < P → y_rz T h = false → 2 ≤ P := by decide +kernel
theorem rz_all : ∀ P, P < 6 → 2 ≤ P → ∀ h, h < P → y_rz (1 * 2 ^ P - 1) h = false ∧ 1 < pc6 (1 * 2 ^ P - 1) := by decide +kernel
theorem rz_1 : y_rz (1 * 2 ^ 1 - 1) 0 = true := by decide +kernel
theorem rz_bit : ∀ T, T < 32 → ∀ h, h < 5 → hb (nI T) h = true → 0 < pc6 T := by decide +kernel
theorem Rel.hpb (h : Rel X Y) {n : Nat} (hn : n < X 9 5) (hp : hb (nI (X 15 17)) n = false) (b : Nat) : x_hpb X n b = (decide (0 < X 12 n) && decide (X 9 6 ≤ X 15 (6 + n) + b)) := by unfold x_hpb; rw [hp, Bool.false_or]
theorem Rel.hpb0 (h : Rel X Y) {n : Nat} (hn : n < X 9 5) (hp : hb (nI (X 15 17)) n = false) : x_hpb X n 0 = false := by
  rw [h.hpb hn hp]
  by_cases c : 0 < X 12 n
  · have := h.usB hn c hp
    rw [decide_eq_true c, Bool.true_and]
    exact decide_eq_false (by omega)
  · rw [decide_eq_false c, Bool.false_and]
theorem x_ch_0 {n b : Nat} (hx : x_hpb X n b = false) (hT : x_tbl X n < 32) : x_ch X n b = 0 ↔ pc6 (x_tbl X n) = bN (decide (0 < b) || hb (nI (x_tbl X n)) (X 15 n)) := by
  unfold x_ch
  rw [hx, if_neg (by decide)]
  have h1 := pc6_le (x_tbl X n) (by omega)
  have h2 : bN (decide (0 < b) || hb (nI (x_tbl X n)) (X 15 n)) ≤ 1 := Bool.toNat_le _
  rw [i32_z, pk_sub_toInt (by omega) (by omega)]
  omega
theorem x_ch_p {n b : Nat} (hx : x_hpb X n b = true) (hP : X 9 4 ≤ 5) : x_ch X n b = 0 ↔ X 9 4 = 1 := by
  unfold x_ch
  rw [hx, if_pos rfl, i32_z, pk_sub_toInt (by omega) (by decide)]
  omega
theorem eq_tillN (h : Rel X Y) {n : Nat} (hn : n < X 9 5) : x_most X n = y_tillN Y n := by
  have hP := h.P
  have hN := h.N
  have hho := h.hoP hn
  unfold x_most y_tillN
  rw [h.ytk hn, h.ho hn, h.us hn, h.mk hn, h.eB, h.eP]
  have hT : x_tbl X n < 32 := x_tbl_lt hP
  cases hp : hb (nI (X 15 17)) n
  · have eT : x_tk X n = x_tbl X n := by unfold x_tk; rw [hp]; rfl
    rw [eT]
    have h0 := x_ch_0 (b := 0) (h.hpb0 hn hp) hT
    rw [show (decide (0 < 0) || hb (nI (x_tbl X n)) (X 15 n)) = hb (nI (x_tbl X n)) (X 15 n) from Bool.false_or _, ← rz_pc _ hT _ (by omega)] at h0
    unfold y_ps
    cases hz : y_rz (x_tbl X n) (X 15 n)
    · have hP2 := rz_P _ (by omega) _ (x_tbl_lt' X n (X 9 4)) _ hho hz
      rw [hz] at h0
      rw [if_neg (show ¬ false = true by decide)]
      by_cases h2 : 1 < pc6 (x_tbl X n)
      · rw [if_pos h2, if_pos rfl, findTo_none]
        intro j _ hj
        refine decide_eq_false ?_
        cases hx : x_hpb X n j
        · rw [x_ch_0 hx hT]
          have : bN (decide (0 < j) || hb (nI (x_tbl X n)) (X 15 n)) ≤ 1 := Bool.toNat_le _
          omega
        · rw [x_ch_p hx hP]; omega
      · rw [if_neg h2, if_neg (show ¬ 1 = 1000000 by decide)]
        have hp1 : pc6 (x_tbl X n) = 1 := by
          rcases Nat.eq_zero_or_pos (pc6 (x_tbl X n)) with z | z
          · exfalso
            have e0 := pc6_0 _ (by omega) z
            have := (rz_pc _ hT (X 15 n) (by omega)).mpr (by rw [z, e0, hb_0 _ (by omega)]; rfl)
            rw [hz] at this
            cases this
          · omega
        by_cases hh : 0 < X 12 n ∧ X 9 6 ≤ X 15 (6 + n) + 1
        · rw [if_pos ⟨hh.1, by decide, hh.2, by omega⟩, findTo_none]
          intro j _ hj
          refine decide_eq_false ?_
          rcases Nat.eq_zero_or_pos j with z | z
          · subst z; rw [h0]; decide
          · have hx : x_hpb X n j = true := by
              rw [h.hpb hn hp, decide_eq_true hh.1, decide_eq_true (by omega)]; rfl
            rw [x_ch_p hx hP]; omega
        · rw [if_neg (fun q => hh ⟨q.1, q.2.2.1⟩)]
          rw [findTo_some _ 10 0 1 (by decide) (by decide)]
          · intro j _ hj
            have : j = 0 := by omega
            subst this
            refine decide_eq_false ?_
            rw [h0]; decide
          · refine decide_eq_true ?_
            have hx : x_hpb X n 1 = false := by
              rw [h.hpb hn hp]
              by_cases c : 0 < X 12 n
              · rw [decide_eq_false (fun q => hh ⟨c, q⟩), Bool.and_false]
              · rw [decide_eq_false c, Bool.false_and]
            rw [x_ch_0 hx hT, hp1]; rfl
    · rw [hz] at h0
      rw [if_pos rfl, if_neg (show ¬ 0 = 1000000 by decide), if_neg (fun q => absurd q.2.1 (by decide))]
      rw [findTo_some _ 10 0 0 (by decide) (by decide) (fun j _ hj => absurd hj (Nat.not_lt_zero j)) (decide_eq_true (h0.mpr rfl))]
  · have eT : x_tk X n = 1 * 2 ^ (X 9 4) - 1 := by unfold x_tk; rw [hp]; rfl
    have hx : ∀ b, x_hpb X n b = true := fun b => by unfold x_hpb; rw [hp]; rfl
    rw [eT]
    by_cases h1 : X 9 4 = 1
    · have h00 : X 15 n = 0 := by omega
      have e : y_ps (1 * 2 ^ (X 9 4) - 1) (X 15 n) = 0 := by
        unfold y_ps
        rw [h1, h00, rz_1, if_pos rfl]
      rw [e, if_neg (show ¬ 0 = 1000000 by decide), if_neg (fun q => absurd q.2.1 (by decide))]
      rw [findTo_some _ 10 0 0 (by decide) (by decide) (fun j _ hj => absurd hj (Nat.not_lt_zero j)) (decide_eq_true ((x_ch_p (hx 0) hP).mpr h1))]
    · have ra := rz_all (X 9 4) (by omega) (by omega) (X 15 n) hho
      have e : y_ps (1 * 2 ^ (X 9 4) - 1) (X 15 n) = 1000000 := by
        unfold y_ps
        rw [ra.1, if_neg (by decide), if_pos ra.2]
      rw [e, if_pos rfl, findTo_none]
      intro j _ hj
      refine decide_eq_false ?_
      rw [x_ch_p (hx j) hP]
      exact h1
theorem eq_till (h : Rel X Y) (x : Int32) : x_till X x = y_till Y x := by
  have hN := h.N
  unfold x_till y_till
  rw [h.eN]
  by_cases hx : inR x (X 9 5) = true
  · obtain ⟨n, hn, rfl⟩ := inR_of (by omega) hx
    rw [if_pos hx, if_pos hx, nI_clamp (by omega), h.yaw (by omega), eq_tillN h hn]
  · rw [if_neg hx, if_neg hx]
end REL4
