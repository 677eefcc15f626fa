section X2
variable {l : Launch} {D : va_G} {cI cZ : ClassId} {ad : Nat → Nat} {M : Nat → Nat → Nat} {t : Int64}
set_option maxHeartbeats 4000000 in
set_option maxRecDepth 100000 in
theorem c_X0_worthOf {x : Int32} (hN : M 9 5 ≤ 6) (hB : ∀ k j, M k j < 1024) : CT l yX0_worthOf cX0_worthOf 4 (some .int) (rmOf 1 21) D (tyI cI cZ) [.ref (ad 24), .int (x)] (wX cI cZ ad M t) (some (.int (nI (x_wo M x)))) (wX cI cZ ad M t) := by
  refine CT_of (own := "FalseParity$Board") (by decide) rfl (Nat.le_of_ble_eq_true rfl) (fun p e s m args below meth c C hr => ?_)
  refine G_iconst C dX0_worthOf_0 kI_0 ?_
  refine G_istore_n (lv' := [(2, .int (nI 0)), (0, .ref (ad 24)), (1, .int (x))]) C dX0_worthOf_1 rfl (by decide) rfl ?_
  refine G_iconst C dX0_worthOf_2 kI_0 ?_
  refine G_istore_n (lv' := [(3, .int (nI 0)), (2, .int (nI 0)), (0, .ref (ad 24)), (1, .int (x))]) C dX0_worthOf_3 rfl (by decide) rfl ?_
  refine G_pick (lv' := [(0, .ref (ad 24)), (1, .int (x)), (2, .int (nI 0)), (3, .int (nI 0))]) [2, 3, 1, 0] rfl ?_
  refine loopN (P := fun n => ∀ sm : Nat, (sm = sumTo (fun n => if hb x n then M 11 n else 0) n) → G p l e (rmOf 1 21) s m args below meth c D _ 4 0 0 _ 4 [(0, .ref (ad 24)), (1, .int (x)), (2, .int (nI sm)), (3, .int (nI n))] [] (wX cI cZ ad M t)) (M 9 5) ?_ ?_ 0 (Nat.zero_le _) (0) rfl
  · intro sm hi1_0
    refine G_iload_n C 3 dX0_worthOf_4 rfl rfl ?_
    refine G_aload_n C 0 dX0_worthOf_5 rfl rfl ?_
    refine G_get (v := .ref (ad 9)) C 24 0 dX0_worthOf_6 xc_24 rfl inG0 (by decide) wm_259 rfl rfl ?_
    refine G_getN (v := .int (nI (M 9 5))) C 9 5 dX0_worthOf_9 xc_9 rfl inG1 (by decide) wn_125 rfl rfl ?_
    refine G_icmp_geN (tgt := 41) C dX0_worthOf_12 (by decide) (by have := hB 9 5; omega) (by have := hB 9 5; omega) (fun h12_2 => ?_) (fun h12_2 => ?_)
    · refine G_iload_n C 2 dX0_worthOf_41 rfl rfl ?_
      exact G_iret C hr dX0_worthOf_42 (by rw [hi1_0]; rfl) (rfl)
    · exfalso; omega
  · intro n hn ih1 sm hi1_0
    refine G_iload_n C 3 dX0_worthOf_4 rfl rfl ?_
    refine G_aload_n C 0 dX0_worthOf_5 rfl rfl ?_
    refine G_get (v := .ref (ad 9)) C 24 0 dX0_worthOf_6 xc_24 rfl inG0 (by decide) wm_259 rfl rfl ?_
    refine G_getN (v := .int (nI (M 9 5))) C 9 5 dX0_worthOf_9 xc_9 rfl inG1 (by decide) wn_125 rfl rfl ?_
    refine G_icmp_geN (tgt := 41) C dX0_worthOf_12 (by decide) (by omega) (by have := hB 9 5; omega) (fun h12_3 => ?_) (fun h12_3 => ?_)
    · exfalso; omega
    · refine G_iload_n C 1 dX0_worthOf_15 rfl rfl ?_
      refine G_iload_n C 3 dX0_worthOf_16 rfl rfl ?_
      refine G_callSN1 C [.int (x), .int (nI n)] dX0_worthOf_17 (c_X10_hasBit) wn_521 wm_464 wm_50 wm_465 ydc_X10_hasBit rfl ⟨Nat.le_of_ble_eq_true rfl, Nat.le_of_ble_eq_true rfl⟩ ⟨rfl, rfl⟩ ⟨Nat.le_refl _, Nat.le_refl _⟩ (Nat.le_of_ble_eq_true rfl) rfl ?_
      refine G_if_eqB (tgt := 35) C dX0_worthOf_20 (by decide) (fun h20_4 => ?_) (fun h20_4 => ?_)
      · refine G_iincN (lv' := [(3, .int (nI (n + 1))), (0, .ref (ad 24)), (1, .int (x)), (2, .int (nI sm))]) C 3 dX0_worthOf_35 rfl (by decide) rfl ?_
        refine G_goto (tgt := 4) C dX0_worthOf_38 (by decide) ?_
        refine G_pick (lv' := [(0, .ref (ad 24)), (1, .int (x)), (2, .int (nI sm)), (3, .int (nI (n + 1)))]) [1, 2, 3, 0] rfl ?_
        exact ih1 _ (by simp [sumTo, hi1_0, h20_4])
      · refine G_iload_n C 2 dX0_worthOf_23 rfl rfl ?_
        refine G_aload_n C 0 dX0_worthOf_24 rfl rfl ?_
        refine G_get (v := .ref (ad 9)) C 24 0 dX0_worthOf_25 xc_24 rfl inG0 (by decide) wm_259 rfl rfl ?_
        refine G_getN (v := .ref (ad 11)) C 9 1 dX0_worthOf_28 xc_9 rfl inG1 (by decide) wn_108 rfl rfl ?_
        refine G_iload_n C 3 dX0_worthOf_31 rfl rfl ?_
        refine G_iald (v := nI (M 11 n)) C 11 0 dX0_worthOf_32 xc_11 rfl (by omega) (by decide) rfl ?_
        refine G_iaddN C dX0_worthOf_33 ?_
        refine G_istore_n (lv' := [(2, .int (nI (sm + (M 11 n)))), (0, .ref (ad 24)), (1, .int (x)), (3, .int (nI n))]) C dX0_worthOf_34 rfl (by decide) rfl ?_
        refine G_iincN (lv' := [(3, .int (nI (n + 1))), (2, .int (nI (sm + (M 11 n)))), (0, .ref (ad 24)), (1, .int (x))]) C 3 dX0_worthOf_35 rfl (by decide) rfl ?_
        refine G_goto (tgt := 4) C dX0_worthOf_38 (by decide) ?_
        refine G_pick (lv' := [(0, .ref (ad 24)), (1, .int (x)), (2, .int (nI (sm + (M 11 n)))), (3, .int (nI (n + 1)))]) [2, 3, 1, 0] rfl ?_
        exact ih1 _ (by simp [sumTo, hi1_0, h20_4])
set_option maxHeartbeats 4000000 in
set_option maxRecDepth 100000 in
theorem c_X0_falseNotes  (hN : M 9 5 ≤ 6) (hB : ∀ k j, M k j < 1024) : CT l yX0_falseNotes cX0_falseNotes 3 (some .int) (rmOf 1 21) D (tyI cI cZ) [.ref (ad 24)] (wX cI cZ ad M t) (some (.int (nI (x_fn M)))) (wX cI cZ ad M t) := by
  refine CT_of (own := "FalseParity$Board") (by decide) rfl (Nat.le_of_ble_eq_true rfl) (fun p e s m args below meth c C hr => ?_)
  refine G_iconst C dX0_falseNotes_0 kI_0 ?_
  refine G_istore_n (lv' := [(1, .int (nI 0)), (0, .ref (ad 24))]) C dX0_falseNotes_1 rfl (by decide) rfl ?_
  refine G_iconst C dX0_falseNotes_2 kI_0 ?_
  refine G_istore_n (lv' := [(2, .int (nI 0)), (1, .int (nI 0)), (0, .ref (ad 24))]) C dX0_falseNotes_3 rfl (by decide) rfl ?_
  refine G_pick (lv' := [(0, .ref (ad 24)), (1, .int (nI 0)), (2, .int (nI 0))]) [2, 1, 0] rfl ?_
  refine loopN (P := fun n => ∀ a : Nat, (a = foldTo (fun n a => if 0 < M 12 n then a ||| (1 * 2 ^ n) else a) 0 n) → G p l e (rmOf 1 21) s m args below meth c D _ 3 0 0 _ 4 [(0, .ref (ad 24)), (1, .int (nI a)), (2, .int (nI n))] [] (wX cI cZ ad M t)) (M 9 5) ?_ ?_ 0 (Nat.zero_le _) (0) rfl
  · intro a hi1_0
    refine G_iload_n C 2 dX0_falseNotes_4 rfl rfl ?_
    refine G_aload_n C 0 dX0_falseNotes_5 rfl rfl ?_
    refine G_get (v := .ref (ad 9)) C 24 0 dX0_falseNotes_6 xc_24 rfl inG0 (by decide) wm_259 rfl rfl ?_
    refine G_getN (v := .int (nI (M 9 5))) C 9 5 dX0_falseNotes_9 xc_9 rfl inG1 (by decide) wn_125 rfl rfl ?_
    refine G_icmp_geN (tgt := 38) C dX0_falseNotes_12 (by decide) (by have := hB 9 5; omega) (by have := hB 9 5; omega) (fun h12_2 => ?_) (fun h12_2 => ?_)
    · refine G_iload_n C 1 dX0_falseNotes_38 rfl rfl ?_
      exact G_iret C hr dX0_falseNotes_39 (by rw [hi1_0]; rfl) (rfl)
    · exfalso; omega
  · intro n hn ih1 a hi1_0
    refine G_iload_n C 2 dX0_falseNotes_4 rfl rfl ?_
    refine G_aload_n C 0 dX0_falseNotes_5 rfl rfl ?_
    refine G_get (v := .ref (ad 9)) C 24 0 dX0_falseNotes_6 xc_24 rfl inG0 (by decide) wm_259 rfl rfl ?_
    refine G_getN (v := .int (nI (M 9 5))) C 9 5 dX0_falseNotes_9 xc_9 rfl inG1 (by decide) wn_125 rfl rfl ?_
    refine G_icmp_geN (tgt := 38) C dX0_falseNotes_12 (by decide) (by omega) (by have := hB 9 5; omega) (fun h12_3 => ?_) (fun h12_3 => ?_)
    · exfalso; omega
    · refine G_aload_n C 0 dX0_falseNotes_15 rfl rfl ?_
      refine G_get (v := .ref (ad 9)) C 24 0 dX0_falseNotes_16 xc_24 rfl inG0 (by decide) wm_259 rfl rfl ?_
      refine G_iload_n C 2 dX0_falseNotes_19 rfl rfl ?_
      refine G_callV1 C [.int (nI n)] 9 dX0_falseNotes_20 (c_X1_isFalse (by omega) hB) wm_530 wm_531 wm_532 wm_53 wm_533 xc_9 rfl ydc_X1_isFalse rfl ⟨Nat.le_of_ble_eq_true rfl, Nat.le_of_ble_eq_true rfl⟩ ⟨rfl, rfl⟩ ⟨Nat.le_refl _, Nat.le_refl _⟩ (Nat.le_of_ble_eq_true rfl) rfl ?_
      refine G_if_eqB (tgt := 32) C dX0_falseNotes_23 (by decide) (fun h23_4 => ?_) (fun h23_4 => ?_)
      · refine G_iincN (lv' := [(2, .int (nI (n + 1))), (0, .ref (ad 24)), (1, .int (nI a))]) C 2 dX0_falseNotes_32 rfl (by decide) rfl ?_
        refine G_goto (tgt := 4) C dX0_falseNotes_35 (by decide) ?_
        refine G_pick (lv' := [(0, .ref (ad 24)), (1, .int (nI a)), (2, .int (nI (n + 1)))]) [1, 2, 0] rfl ?_
        exact ih1 _ (by simp only [foldTo]; rw [← hi1_0]; simp [of_decide_eq_true, of_decide_eq_false, decide_eq_true_eq, decide_eq_false_iff_not] at h23_4; simp [h23_4])
      · refine G_iload_n C 1 dX0_falseNotes_26 rfl rfl ?_
        refine G_iconst C dX0_falseNotes_27 kI_1 ?_
        refine G_iload_n C 2 dX0_falseNotes_28 rfl rfl ?_
        refine G_ishlN C dX0_falseNotes_29 (by omega) (sh1 (by omega)) ?_
        refine G_iorN C dX0_falseNotes_30 ?_
        refine G_istore_n (lv' := [(1, .int (nI (a ||| (1 * 2 ^ n)))), (0, .ref (ad 24)), (2, .int (nI n))]) C dX0_falseNotes_31 rfl (by decide) rfl ?_
        refine G_iincN (lv' := [(2, .int (nI (n + 1))), (1, .int (nI (a ||| (1 * 2 ^ n)))), (0, .ref (ad 24))]) C 2 dX0_falseNotes_32 rfl (by decide) rfl ?_
        refine G_goto (tgt := 4) C dX0_falseNotes_35 (by decide) ?_
        refine G_pick (lv' := [(0, .ref (ad 24)), (1, .int (nI (a ||| (1 * 2 ^ n)))), (2, .int (nI (n + 1)))]) [2, 1, 0] rfl ?_
        exact ih1 _ (by simp only [foldTo]; rw [← hi1_0]; simp [of_decide_eq_true, of_decide_eq_false, decide_eq_true_eq, decide_eq_false_iff_not] at h23_4; simp [h23_4])
set_option maxHeartbeats 4000000 in
set_option maxRecDepth 100000 in
theorem c_X7_takersByLooks {n : Nat} (hn : n < 6) (hP : M 9 4 ≤ 5) (hB : ∀ k j, M k j < 1024) : CT l yX7_takersByLooks cX7_takersByLooks 4 (some .int) (rmOf 1 21) D (tyI cI cZ) [.ref (ad 20), .int (nI n)] (wX cI cZ ad M t) (some (.int (nI (x_tbl M n)))) (wX cI cZ ad M t) := by
  refine CT_of (own := "FalseParity$Paths") (by decide) rfl (Nat.le_of_ble_eq_true rfl) (fun p e s m args below meth c C hr => ?_)
  refine G_iconst C dX7_takersByLooks_0 kI_0 ?_
  refine G_istore_n (lv' := [(2, .int (nI 0)), (0, .ref (ad 20)), (1, .int (nI n))]) C dX7_takersByLooks_1 rfl (by decide) rfl ?_
  refine G_iconst C dX7_takersByLooks_2 kI_0 ?_
  refine G_istore_n (lv' := [(3, .int (nI 0)), (2, .int (nI 0)), (0, .ref (ad 20)), (1, .int (nI n))]) C dX7_takersByLooks_3 rfl (by decide) rfl ?_
  refine G_pick (lv' := [(0, .ref (ad 20)), (1, .int (nI n)), (2, .int (nI 0)), (3, .int (nI 0))]) [2, 3, 1, 0] rfl ?_
  refine loopN (P := fun q => ∀ a : Nat, (a = foldTo (fun q a => if M 12 n &&& M 15 (12 + q) = 0 then a ||| (1 * 2 ^ q) else a) 0 q) → G p l e (rmOf 1 21) s m args below meth c D _ 4 0 0 _ 4 [(0, .ref (ad 20)), (1, .int (nI n)), (2, .int (nI a)), (3, .int (nI q))] [] (wX cI cZ ad M t)) (M 9 4) ?_ ?_ 0 (Nat.zero_le _) (0) rfl
  · intro a hi1_0
    refine G_iload_n C 3 dX7_takersByLooks_4 rfl rfl ?_
    refine G_aload_n C 0 dX7_takersByLooks_5 rfl rfl ?_
    refine G_get (v := .ref (ad 9)) C 20 0 dX7_takersByLooks_6 xc_20 rfl inG7 (by decide) wm_223 rfl rfl ?_
    refine G_getN (v := .int (nI (M 9 4))) C 9 4 dX7_takersByLooks_9 xc_9 rfl inG1 (by decide) wn_119 rfl rfl ?_
    refine G_icmp_geN (tgt := 48) C dX7_takersByLooks_12 (by decide) (by have := hB 9 4; omega) (by have := hB 9 4; omega) (fun h12_2 => ?_) (fun h12_2 => ?_)
    · refine G_iload_n C 2 dX7_takersByLooks_48 rfl rfl ?_
      exact G_iret C hr dX7_takersByLooks_49 (by rw [hi1_0]; rfl) (rfl)
    · exfalso; omega
  · intro q hq ih1 a hi1_0
    refine G_iload_n C 3 dX7_takersByLooks_4 rfl rfl ?_
    refine G_aload_n C 0 dX7_takersByLooks_5 rfl rfl ?_
    refine G_get (v := .ref (ad 9)) C 20 0 dX7_takersByLooks_6 xc_20 rfl inG7 (by decide) wm_223 rfl rfl ?_
    refine G_getN (v := .int (nI (M 9 4))) C 9 4 dX7_takersByLooks_9 xc_9 rfl inG1 (by decide) wn_119 rfl rfl ?_
    refine G_icmp_geN (tgt := 48) C dX7_takersByLooks_12 (by decide) (by omega) (by have := hB 9 4; omega) (fun h12_3 => ?_) (fun h12_3 => ?_)
    · exfalso; omega
    · refine G_aload_n C 0 dX7_takersByLooks_15 rfl rfl ?_
      refine G_get (v := .ref (ad 9)) C 20 0 dX7_takersByLooks_16 xc_20 rfl inG7 (by decide) wm_223 rfl rfl ?_
      refine G_getN (v := .ref (ad 12)) C 9 2 dX7_takersByLooks_19 xc_9 rfl inG1 (by decide) wn_113 rfl rfl ?_
      refine G_iload_n C 1 dX7_takersByLooks_22 rfl rfl ?_
      refine G_iald (v := nI (M 12 n)) C 12 0 dX7_takersByLooks_23 xc_12 rfl (by omega) (by decide) rfl ?_
      refine G_aload_n C 0 dX7_takersByLooks_24 rfl rfl ?_
      refine G_get (v := .ref (ad 14)) C 20 1 dX7_takersByLooks_25 xc_20 rfl inG7 (by decide) wm_224 rfl rfl ?_
      refine G_iload_n C 3 dX7_takersByLooks_28 rfl rfl ?_
      refine G_callV1 C [.int (nI q)] 14 dX7_takersByLooks_29 (c_X6_looks (by omega)) wm_479 wm_480 wm_481 wm_54 wm_482 xc_14 rfl ydc_X6_looks rfl ⟨Nat.le_of_ble_eq_true rfl, Nat.le_of_ble_eq_true rfl⟩ ⟨rfl, rfl⟩ ⟨Nat.le_refl _, Nat.le_refl _⟩ (Nat.le_of_ble_eq_true rfl) rfl ?_
      refine G_iandN C dX7_takersByLooks_32 ?_
      refine G_if_neN (tgt := 42) C dX7_takersByLooks_33 (by decide) (andlt (hB _ _)) (fun h33_4 => ?_) (fun h33_4 => ?_)
      · refine G_iincN (lv' := [(3, .int (nI (q + 1))), (0, .ref (ad 20)), (1, .int (nI n)), (2, .int (nI a))]) C 3 dX7_takersByLooks_42 rfl (by decide) rfl ?_
        refine G_goto (tgt := 4) C dX7_takersByLooks_45 (by decide) ?_
        refine G_pick (lv' := [(0, .ref (ad 20)), (1, .int (nI n)), (2, .int (nI a)), (3, .int (nI (q + 1)))]) [1, 2, 3, 0] rfl ?_
        exact ih1 _ (by simp only [foldTo]; rw [← hi1_0]; first | rw [if_pos h33_4] | rw [if_neg (by omega)])
      · refine G_iload_n C 2 dX7_takersByLooks_36 rfl rfl ?_
        refine G_iconst C dX7_takersByLooks_37 kI_1 ?_
        refine G_iload_n C 3 dX7_takersByLooks_38 rfl rfl ?_
        refine G_ishlN C dX7_takersByLooks_39 (by omega) (sh1 (by omega)) ?_
        refine G_iorN C dX7_takersByLooks_40 ?_
        refine G_istore_n (lv' := [(2, .int (nI (a ||| (1 * 2 ^ q)))), (0, .ref (ad 20)), (1, .int (nI n)), (3, .int (nI q))]) C dX7_takersByLooks_41 rfl (by decide) rfl ?_
        refine G_iincN (lv' := [(3, .int (nI (q + 1))), (2, .int (nI (a ||| (1 * 2 ^ q)))), (0, .ref (ad 20)), (1, .int (nI n))]) C 3 dX7_takersByLooks_42 rfl (by decide) rfl ?_
        refine G_goto (tgt := 4) C dX7_takersByLooks_45 (by decide) ?_
        refine G_pick (lv' := [(0, .ref (ad 20)), (1, .int (nI n)), (2, .int (nI (a ||| (1 * 2 ^ q)))), (3, .int (nI (q + 1)))]) [2, 3, 1, 0] rfl ?_
        exact ih1 _ (by simp only [foldTo]; rw [← hi1_0]; first | rw [if_pos h33_4] | rw [if_neg (by omega)])
set_option maxHeartbeats 4000000 in
set_option maxRecDepth 100000 in
theorem c_X5_wouldTake {q a : Nat} (hq : q < 5) (hB : ∀ k j, M k j < 1024) : CT l yX5_wouldTake cX5_wouldTake 3 (some .int) (rmOf 1 21) D (tyI cI cZ) [.ref (ad 21), .int (nI q), .int (nI a)] (wX cI cZ ad M t) (some (.int (nI (bN (x_wt M q a))))) (wX cI cZ ad M t) := by
  refine CT_of (own := "FalseParity$Marks") (by decide) rfl (Nat.le_of_ble_eq_true rfl) (fun p e s m args below meth c C hr => ?_)
  refine G_aload_n C 0 dX5_wouldTake_0 rfl rfl ?_
  refine G_get (v := .ref (ad 14)) C 21 1 dX5_wouldTake_1 xc_21 rfl inG5 (by decide) wm_237 rfl rfl ?_
  refine G_iload_n C 1 dX5_wouldTake_4 rfl rfl ?_
  refine G_callV1 C [.int (nI q)] 14 dX5_wouldTake_5 (c_X6_looks (by omega)) wm_682 wm_480 wm_481 wm_54 wm_482 xc_14 rfl ydc_X6_looks rfl ⟨Nat.le_of_ble_eq_true rfl, Nat.le_of_ble_eq_true rfl⟩ ⟨rfl, rfl⟩ ⟨Nat.le_refl _, Nat.le_refl _⟩ (Nat.le_of_ble_eq_true rfl) rfl ?_
  refine G_iload_n C 2 dX5_wouldTake_8 rfl rfl ?_
  refine G_iandN C dX5_wouldTake_9 ?_
  refine G_if_neN (tgt := 17) C dX5_wouldTake_10 (by decide) (andlt (hB _ _)) (fun h10_1 => ?_) (fun h10_1 => ?_)
  · refine G_iconst C dX5_wouldTake_17 kI_0 ?_
    exact G_iret C hr dX5_wouldTake_18 (bI_f (decide_eq_false (by omega))) (rfl)
  · refine G_iconst C dX5_wouldTake_13 kI_1 ?_
    refine G_goto (tgt := 18) C dX5_wouldTake_14 (by decide) ?_
    exact G_iret C hr dX5_wouldTake_18 (bI_t (decide_eq_true h10_1)) (rfl)
set_option maxHeartbeats 4000000 in
set_option maxRecDepth 100000 in
theorem c_X5_fits {a : Nat} (hS : M 21 4 ≤ 6) (hq : ∀ i, i < M 21 4 → M 22 i < 5) (hB : ∀ k j, M k j < 1024) : CT l yX5_fits cX5_fits 3 (some .boolean) (rmOf 2 43) D (tyI cI cZ) [.ref (ad 21), .int (nI a)] (wX cI cZ ad M t) (some (.int (nI (bN (x_fits M a))))) (wX cI cZ ad M t) := by
  refine CT_of (own := "FalseParity$Marks") (by decide) rfl (Nat.le_of_ble_eq_true rfl) (fun p e s m args below meth c C hr => ?_)
  refine G_iconst C dX5_fits_0 kI_0 ?_
  refine G_istore_n (lv' := [(2, .int (nI 0)), (0, .ref (ad 21)), (1, .int (nI a))]) C dX5_fits_1 rfl (by decide) rfl ?_
  refine G_pick (lv' := [(0, .ref (ad 21)), (1, .int (nI a)), (2, .int (nI 0))]) [1, 2, 0] rfl ?_
  refine loopN (P := fun i => (∀ z, z < i → bN (x_wt M (M 22 z) a) = M 23 z) → G p l e (rmOf 2 43) s m args below meth c D _ 3 0 0 _ 2 [(0, .ref (ad 21)), (1, .int (nI a)), (2, .int (nI i))] [] (wX cI cZ ad M t)) (M 21 4) ?_ ?_ 0 (Nat.zero_le _)  (fun i h => absurd h (Nat.not_lt_zero i))
  · intro  hi1_0
    refine G_iload_n C 2 dX5_fits_2 rfl rfl ?_
    refine G_aload_n C 0 dX5_fits_3 rfl rfl ?_
    refine G_get (v := .int (nI (M 21 4))) C 21 4 dX5_fits_4 xc_21 rfl inG5 (by decide) wm_240 rfl rfl ?_
    refine G_icmp_geN (tgt := 38) C dX5_fits_7 (by decide) (by have := hB 21 4; omega) (by have := hB 21 4; omega) (fun h7_2 => ?_) (fun h7_2 => ?_)
    · refine G_iconst C dX5_fits_38 kI_1 ?_
      exact G_zret C hr dX5_fits_39 (by rfl) (bI_t (decide_eq_true hi1_0)) (rfl)
    · exfalso; omega
  · intro i hi ih1  hi1_0
    refine G_iload_n C 2 dX5_fits_2 rfl rfl ?_
    refine G_aload_n C 0 dX5_fits_3 rfl rfl ?_
    refine G_get (v := .int (nI (M 21 4))) C 21 4 dX5_fits_4 xc_21 rfl inG5 (by decide) wm_240 rfl rfl ?_
    refine G_icmp_geN (tgt := 38) C dX5_fits_7 (by decide) (by omega) (by have := hB 21 4; omega) (fun h7_3 => ?_) (fun h7_3 => ?_)
    · exfalso; omega
    · refine G_aload_n C 0 dX5_fits_10 rfl rfl ?_
      refine G_aload_n C 0 dX5_fits_11 rfl rfl ?_
      refine G_get (v := .ref (ad 22)) C 21 2 dX5_fits_12 xc_21 rfl inG5 (by decide) wm_238 rfl rfl ?_
      refine G_iload_n C 2 dX5_fits_15 rfl rfl ?_
      refine G_iald (v := nI (M 22 i)) C 22 0 dX5_fits_16 xc_22 rfl (by omega) (by decide) rfl ?_
      refine G_iload_n C 1 dX5_fits_17 rfl rfl ?_
      refine G_callV1 C [.int (nI (M 22 i)), .int (nI a)] 21 dX5_fits_18 (c_X5_wouldTake (hq _ hi) hB) wm_678 wm_680 wm_21 wm_58 wm_681 xc_21 rfl ydc_X5_wouldTake rfl ⟨Nat.le_of_ble_eq_true rfl, Nat.le_of_ble_eq_true rfl⟩ ⟨rfl, rfl⟩ ⟨Nat.le_refl _, Nat.le_refl _⟩ (Nat.le_of_ble_eq_true rfl) rfl ?_
      refine G_aload_n C 0 dX5_fits_21 rfl rfl ?_
      refine G_get (v := .ref (ad 23)) C 21 3 dX5_fits_22 xc_21 rfl inG5 (by decide) wm_239 rfl rfl ?_
      refine G_iload_n C 2 dX5_fits_25 rfl rfl ?_
      refine G_iald (v := nI (M 23 i)) C 23 0 dX5_fits_26 xc_23 rfl (by omega) (by decide) rfl ?_
      refine G_icmp_eqN (tgt := 32) C dX5_fits_27 (by decide) (bN_lt _) (by have := hB 23 i; omega) (fun h27_4 => ?_) (fun h27_4 => ?_)
      · refine G_iincN (lv' := [(2, .int (nI (i + 1))), (0, .ref (ad 21)), (1, .int (nI a))]) C 2 dX5_fits_32 rfl (by decide) rfl ?_
        refine G_goto (tgt := 2) C dX5_fits_35 (by decide) ?_
        refine G_pick (lv' := [(0, .ref (ad 21)), (1, .int (nI a)), (2, .int (nI (i + 1)))]) [1, 2, 0] rfl ?_
        exact ih1  (lt_succ_all (P := fun z => bN (x_wt M (M 22 z) a) = M 23 z) hi1_0 h27_4)
      · refine G_iconst C dX5_fits_30 kI_0 ?_
        exact G_zret C hr dX5_fits_31 (by rfl) (bI_f (decide_eq_false (fun z => h27_4 (z _ hi)))) (rfl)
end X2
