section X4
variable {l : Launch} {D : va_G} {cI cZ : ClassId} {ad : Nat → Nat} {M : Nat → Nat → Nat} {t : Int64}
set_option maxHeartbeats 4000000 in
set_option maxRecDepth 100000 in
theorem c_X5_empty   : CT l yX5_empty cX5_empty 1 none (rmOf 0 0) D (tyI cI cZ) [.ref (ad 21)] (wX cI cZ ad M t) (none) (wX cI cZ ad (ms M 21 (4) (0)) t) := by
  refine CT_of (own := "FalseParity$Marks") (by decide) rfl (Nat.le_of_ble_eq_true rfl) (fun p e s m args below meth c C hr => ?_)
  refine G_aload_n C 0 dX5_empty_0 rfl rfl ?_
  refine G_iconst C dX5_empty_1 kI_0 ?_
  refine G_put (w' := wX cI cZ ad (ms M 21 (4) (0)) t) (ty := .int) C 21 4 tyX5 dX5_empty_2 xc_21 rfl inG5 tyX5_ok nmX5 (by decide) wm_240 rfl rfl (by decide +kernel) rfl rfl (Nat.le_of_ble_eq_true rfl) (xp_21_4 _) ?_
  exact G_vret C hr dX5_empty_5 rfl (rfl)
set_option maxHeartbeats 4000000 in
set_option maxRecDepth 100000 in
theorem c_X5_add_full {q k : Nat} (hs : 6 ≤ M 21 4) (hB : ∀ k j, M k j < 1024) : CT l yX5_add cX5_add 3 (some .int) (rmOf 0 0) D (tyI cI cZ) [.ref (ad 21), .int (nI q), .int (nI k)] (wX cI cZ ad M t) (some (.int (-3))) (wX cI cZ ad M t) := by
  refine CT_of (own := "FalseParity$Marks") (by decide) rfl (Nat.le_of_ble_eq_true rfl) (fun p e s m args below meth c C hr => ?_)
  refine G_aload_n C 0 dX5_add_0 rfl rfl ?_
  refine G_get (v := .int (nI (M 21 4))) C 21 4 dX5_add_1 xc_21 rfl inG5 (by decide) wm_240 rfl rfl ?_
  refine G_bipush C dX5_add_4 kB_6 ?_
  refine G_icmp_ltN (tgt := 12) C dX5_add_6 (by decide) (by have := hB 21 4; omega) (by decide) (fun h6_1 => ?_) (fun h6_1 => ?_)
  · exfalso; omega
  · refine G_bipush C dX5_add_9 kB_m3 ?_
    exact G_iret C hr dX5_add_11 (rfl) (rfl)
set_option maxHeartbeats 4000000 in
set_option maxRecDepth 100000 in
theorem c_X5_add {q k : Nat} (hs : M 21 4 < 6) (hB : ∀ k j, M k j < 1024) : CT l yX5_add cX5_add 3 (some .int) (rmOf 0 0) D (tyI cI cZ) [.ref (ad 21), .int (nI q), .int (nI k)] (wX cI cZ ad M t) (some (.int (nI (M 21 4 + 1)))) (wX cI cZ ad (ms (ms (ms M 22 (M 21 4) (q)) 23 (M 21 4) (k)) 21 (4) (M 21 4 + 1)) t) := by
  refine CT_of (own := "FalseParity$Marks") (by decide) rfl (Nat.le_of_ble_eq_true rfl) (fun p e s m args below meth c C hr => ?_)
  refine G_aload_n C 0 dX5_add_0 rfl rfl ?_
  refine G_get (v := .int (nI (M 21 4))) C 21 4 dX5_add_1 xc_21 rfl inG5 (by decide) wm_240 rfl rfl ?_
  refine G_bipush C dX5_add_4 kB_6 ?_
  refine G_icmp_ltN (tgt := 12) C dX5_add_6 (by decide) (by have := hB 21 4; omega) (by decide) (fun h6_1 => ?_) (fun h6_1 => ?_)
  · refine G_aload_n C 0 dX5_add_12 rfl rfl ?_
    refine G_get (v := .ref (ad 22)) C 21 2 dX5_add_13 xc_21 rfl inG5 (by decide) wm_238 rfl rfl ?_
    refine G_aload_n C 0 dX5_add_16 rfl rfl ?_
    refine G_get (v := .int (nI (M 21 4))) C 21 4 dX5_add_17 xc_21 rfl inG5 (by decide) wm_240 rfl rfl ?_
    refine G_iload_n C 1 dX5_add_20 rfl rfl ?_
    refine G_iast (w' := wX cI cZ ad (ms M 22 (M 21 4) (q)) t) C 22 0 dX5_add_21 xc_22 rfl (by have := hB 21 4; omega) (by decide) (xs_22 _ _) ?_
    refine G_aload_n C 0 dX5_add_22 rfl rfl ?_
    refine G_get (v := .ref (ad 23)) C 21 3 dX5_add_23 xc_21 rfl inG5 (by decide) wm_239 rfl rfl ?_
    refine G_aload_n C 0 dX5_add_26 rfl rfl ?_
    refine G_get (v := .int (nI (M 21 4))) C 21 4 dX5_add_27 xc_21 rfl inG5 (by decide) wm_240 rfl rfl ?_
    refine G_iload_n C 2 dX5_add_30 rfl rfl ?_
    refine G_iast (w' := wX cI cZ ad (ms (ms M 22 (M 21 4) (q)) 23 (M 21 4) (k)) t) C 23 0 dX5_add_31 xc_23 rfl (by have := hB 21 4; omega) (by decide) (xs_23 _ _) ?_
    refine G_aload_n C 0 dX5_add_32 rfl rfl ?_
    refine G_dup C dX5_add_33 rfl ?_
    refine G_get (v := .int (nI (M 21 4))) C 21 4 dX5_add_34 xc_21 rfl inG5 (by decide) wm_240 rfl rfl ?_
    refine G_iconst C dX5_add_37 kI_1 ?_
    refine G_iaddN C dX5_add_38 ?_
    refine G_put (w' := wX cI cZ ad (ms (ms (ms M 22 (M 21 4) (q)) 23 (M 21 4) (k)) 21 (4) ((M 21 4) + 1)) t) (ty := .int) C 21 4 tyX5 dX5_add_39 xc_21 rfl inG5 tyX5_ok nmX5 (by decide) wm_240 rfl rfl (by decide +kernel) rfl rfl (Nat.le_of_ble_eq_true rfl) (xp_21_4 _) ?_
    refine G_aload_n C 0 dX5_add_42 rfl rfl ?_
    refine G_get (v := .int (nI ((M 21 4) + 1))) C 21 4 dX5_add_43 xc_21 rfl inG5 (by decide) wm_240 rfl rfl ?_
    exact G_iret C hr dX5_add_46 (rfl) (rfl)
  · exfalso; omega
set_option maxHeartbeats 4000000 in
set_option maxRecDepth 100000 in
theorem c_X0_empty   : CT l yX0_empty cX0_empty 1 none (rmOf 0 0) D (tyI cI cZ) [.ref (ad 24)] (wX cI cZ ad M t) (none) (wX cI cZ ad (ms M 24 (4) (0)) t) := by
  refine CT_of (own := "FalseParity$Board") (by decide) rfl (Nat.le_of_ble_eq_true rfl) (fun p e s m args below meth c C hr => ?_)
  refine G_aload_n C 0 dX0_empty_0 rfl rfl ?_
  refine G_iconst C dX0_empty_1 kI_0 ?_
  refine G_put (w' := wX cI cZ ad (ms M 24 (4) (0)) t) (ty := .int) C 24 4 tyX0 dX0_empty_2 xc_24 rfl inG0 tyX0_ok nmX0 (by decide) wm_263 rfl rfl (by decide +kernel) rfl rfl (Nat.le_of_ble_eq_true rfl) (xp_24_4 _) ?_
  exact G_vret C hr dX0_empty_5 rfl (rfl)
set_option maxHeartbeats 4000000 in
set_option maxRecDepth 100000 in
theorem c_X0_add_full {q k : Nat} (hs : 6 ≤ M 24 4) (hB : ∀ k j, M k j < 1024) : CT l yX0_add cX0_add 3 (some .int) (rmOf 0 0) D (tyI cI cZ) [.ref (ad 24), .int (nI q), .int (nI k)] (wX cI cZ ad M t) (some (.int (-3))) (wX cI cZ ad M t) := by
  refine CT_of (own := "FalseParity$Board") (by decide) rfl (Nat.le_of_ble_eq_true rfl) (fun p e s m args below meth c C hr => ?_)
  refine G_aload_n C 0 dX0_add_0 rfl rfl ?_
  refine G_get (v := .int (nI (M 24 4))) C 24 4 dX0_add_1 xc_24 rfl inG0 (by decide) wm_263 rfl rfl ?_
  refine G_bipush C dX0_add_4 kB_6 ?_
  refine G_icmp_ltN (tgt := 12) C dX0_add_6 (by decide) (by have := hB 24 4; omega) (by decide) (fun h6_1 => ?_) (fun h6_1 => ?_)
  · exfalso; omega
  · refine G_bipush C dX0_add_9 kB_m3 ?_
    exact G_iret C hr dX0_add_11 (rfl) (rfl)
set_option maxHeartbeats 4000000 in
set_option maxRecDepth 100000 in
theorem c_X0_add {q k : Nat} (hs : M 24 4 < 6) (hB : ∀ k j, M k j < 1024) : CT l yX0_add cX0_add 3 (some .int) (rmOf 0 0) D (tyI cI cZ) [.ref (ad 24), .int (nI q), .int (nI k)] (wX cI cZ ad M t) (some (.int (nI (M 24 4 + 1)))) (wX cI cZ ad (ms (ms (ms M 25 (M 24 4) (q)) 26 (M 24 4) (k)) 24 (4) (M 24 4 + 1)) t) := by
  refine CT_of (own := "FalseParity$Board") (by decide) rfl (Nat.le_of_ble_eq_true rfl) (fun p e s m args below meth c C hr => ?_)
  refine G_aload_n C 0 dX0_add_0 rfl rfl ?_
  refine G_get (v := .int (nI (M 24 4))) C 24 4 dX0_add_1 xc_24 rfl inG0 (by decide) wm_263 rfl rfl ?_
  refine G_bipush C dX0_add_4 kB_6 ?_
  refine G_icmp_ltN (tgt := 12) C dX0_add_6 (by decide) (by have := hB 24 4; omega) (by decide) (fun h6_1 => ?_) (fun h6_1 => ?_)
  · refine G_aload_n C 0 dX0_add_12 rfl rfl ?_
    refine G_get (v := .ref (ad 25)) C 24 2 dX0_add_13 xc_24 rfl inG0 (by decide) wm_261 rfl rfl ?_
    refine G_aload_n C 0 dX0_add_16 rfl rfl ?_
    refine G_get (v := .int (nI (M 24 4))) C 24 4 dX0_add_17 xc_24 rfl inG0 (by decide) wm_263 rfl rfl ?_
    refine G_iload_n C 1 dX0_add_20 rfl rfl ?_
    refine G_iast (w' := wX cI cZ ad (ms M 25 (M 24 4) (q)) t) C 25 0 dX0_add_21 xc_25 rfl (by have := hB 24 4; omega) (by decide) (xs_25 _ _) ?_
    refine G_aload_n C 0 dX0_add_22 rfl rfl ?_
    refine G_get (v := .ref (ad 26)) C 24 3 dX0_add_23 xc_24 rfl inG0 (by decide) wm_262 rfl rfl ?_
    refine G_aload_n C 0 dX0_add_26 rfl rfl ?_
    refine G_get (v := .int (nI (M 24 4))) C 24 4 dX0_add_27 xc_24 rfl inG0 (by decide) wm_263 rfl rfl ?_
    refine G_iload_n C 2 dX0_add_30 rfl rfl ?_
    refine G_iast (w' := wX cI cZ ad (ms (ms M 25 (M 24 4) (q)) 26 (M 24 4) (k)) t) C 26 0 dX0_add_31 xc_26 rfl (by have := hB 24 4; omega) (by decide) (xs_26 _ _) ?_
    refine G_aload_n C 0 dX0_add_32 rfl rfl ?_
    refine G_dup C dX0_add_33 rfl ?_
    refine G_get (v := .int (nI (M 24 4))) C 24 4 dX0_add_34 xc_24 rfl inG0 (by decide) wm_263 rfl rfl ?_
    refine G_iconst C dX0_add_37 kI_1 ?_
    refine G_iaddN C dX0_add_38 ?_
    refine G_put (w' := wX cI cZ ad (ms (ms (ms M 25 (M 24 4) (q)) 26 (M 24 4) (k)) 24 (4) ((M 24 4) + 1)) t) (ty := .int) C 24 4 tyX0 dX0_add_39 xc_24 rfl inG0 tyX0_ok nmX0 (by decide) wm_263 rfl rfl (by decide +kernel) rfl rfl (Nat.le_of_ble_eq_true rfl) (xp_24_4 _) ?_
    refine G_aload_n C 0 dX0_add_42 rfl rfl ?_
    refine G_get (v := .int (nI ((M 24 4) + 1))) C 24 4 dX0_add_43 xc_24 rfl inG0 (by decide) wm_263 rfl rfl ?_
    exact G_iret C hr dX0_add_46 (rfl) (rfl)
  · exfalso; omega
set_option maxHeartbeats 4000000 in
set_option maxRecDepth 100000 in
theorem c_X5_howMany  (hS : M 21 4 ≤ 6) (hq : ∀ i, i < M 21 4 → M 22 i < 5) (hB : ∀ k j, M k j < 1024) : CT l yX5_howMany cX5_howMany 3 (some .int) (rmOf 3 65) D (tyI cI cZ) [.ref (ad 21)] (wX cI cZ ad M t) (some (.int (nI (x_hm M)))) (wX cI cZ ad M t) := by
  refine CT_of (own := "FalseParity$Marks") (by decide) rfl (Nat.le_of_ble_eq_true rfl) (fun p e s m args below meth c C hr => ?_)
  refine G_iconst C dX5_howMany_0 kI_0 ?_
  refine G_istore_n (lv' := [(1, .int (nI 0)), (0, .ref (ad 21))]) C dX5_howMany_1 rfl (by decide) rfl ?_
  refine G_iconst C dX5_howMany_2 kI_0 ?_
  refine G_istore_n (lv' := [(2, .int (nI 0)), (1, .int (nI 0)), (0, .ref (ad 21))]) C dX5_howMany_3 rfl (by decide) rfl ?_
  refine G_pick (lv' := [(0, .ref (ad 21)), (1, .int (nI 0)), (2, .int (nI 0))]) [2, 1, 0] rfl ?_
  refine loopN (P := fun a => ∀ k : Nat, (k = sumTo (fun a => bN (x_fits M a)) a) → (k ≤ a) → G p l e (rmOf 3 65) s m args below meth c D _ 3 0 0 _ 4 [(0, .ref (ad 21)), (1, .int (nI k)), (2, .int (nI a))] [] (wX cI cZ ad M t)) (32) ?_ ?_ 0 (Nat.zero_le _) (0) rfl (Nat.le_refl _)
  · intro k hi1_0 hi1_1
    refine G_iload_n C 2 dX5_howMany_4 rfl rfl ?_
    refine G_bipush C dX5_howMany_5 kB_31 ?_
    refine G_icmp_gtN (tgt := 27) C dX5_howMany_7 (by decide) (by decide) (by decide) (fun h7_2 => ?_) (fun h7_2 => ?_)
    · refine G_iload_n C 1 dX5_howMany_27 rfl rfl ?_
      exact G_iret C hr dX5_howMany_28 (by rw [hi1_0]; rfl) (rfl)
    · exact absurd h7_2 (by decide)
  · intro a ha ih1 k hi1_0 hi1_1
    refine G_iload_n C 2 dX5_howMany_4 rfl rfl ?_
    refine G_bipush C dX5_howMany_5 kB_31 ?_
    refine G_icmp_gtN (tgt := 27) C dX5_howMany_7 (by decide) (by omega) (by decide) (fun h7_3 => ?_) (fun h7_3 => ?_)
    · exfalso; omega
    · refine G_aload_n C 0 dX5_howMany_10 rfl rfl ?_
      refine G_iload_n C 2 dX5_howMany_11 rfl rfl ?_
      refine G_callV1 C [.int (nI a)] 21 dX5_howMany_12 (c_X5_fits hS hq hB) wm_674 wm_676 wm_20 wm_58 wm_677 xc_21 rfl ydc_X5_fits rfl ⟨Nat.le_of_ble_eq_true rfl, Nat.le_of_ble_eq_true rfl⟩ ⟨rfl, rfl⟩ ⟨Nat.le_refl _, Nat.le_refl _⟩ (Nat.le_of_ble_eq_true rfl) rfl ?_
      refine G_if_eqB (tgt := 21) C dX5_howMany_15 (by decide) (fun h15_4 => ?_) (fun h15_4 => ?_)
      · refine G_iincN (lv' := [(2, .int (nI (a + 1))), (0, .ref (ad 21)), (1, .int (nI k))]) C 2 dX5_howMany_21 rfl (by decide) rfl ?_
        refine G_goto (tgt := 4) C dX5_howMany_24 (by decide) ?_
        refine G_pick (lv' := [(0, .ref (ad 21)), (1, .int (nI k)), (2, .int (nI (a + 1)))]) [1, 2, 0] rfl ?_
        exact ih1 _ (by simp [sumTo, hi1_0, h15_4]) (by omega)
      · refine G_iincN (lv' := [(1, .int (nI (k + 1))), (0, .ref (ad 21)), (2, .int (nI a))]) C 1 dX5_howMany_18 rfl (by decide) rfl ?_
        refine G_iincN (lv' := [(2, .int (nI (a + 1))), (1, .int (nI (k + 1))), (0, .ref (ad 21))]) C 2 dX5_howMany_21 rfl (by decide) rfl ?_
        refine G_goto (tgt := 4) C dX5_howMany_24 (by decide) ?_
        refine G_pick (lv' := [(0, .ref (ad 21)), (1, .int (nI (k + 1))), (2, .int (nI (a + 1)))]) [2, 1, 0] rfl ?_
        exact ih1 _ (by simp [sumTo, hi1_0, h15_4]) (by omega)
set_option maxHeartbeats 4000000 in
set_option maxRecDepth 100000 in
theorem c_X5_least  (hS : M 21 4 ≤ 6) (hq : ∀ i, i < M 21 4 → M 22 i < 5) (hB : ∀ k j, M k j < 1024) : CT l yX5_least cX5_least 2 (some .int) (rmOf 3 65) D (tyI cI cZ) [.ref (ad 21)] (wX cI cZ ad M t) (some (.int (x_least M))) (wX cI cZ ad M t) := by
  refine CT_of (own := "FalseParity$Marks") (by decide) rfl (Nat.le_of_ble_eq_true rfl) (fun p e s m args below meth c C hr => ?_)
  refine G_iconst C dX5_least_0 kI_0 ?_
  refine G_istore_n (lv' := [(1, .int (nI 0)), (0, .ref (ad 21))]) C dX5_least_1 rfl (by decide) rfl ?_
  refine G_pick (lv' := [(0, .ref (ad 21)), (1, .int (nI 0))]) [1, 0] rfl ?_
  refine loopN (P := fun a => (∀ z, z < a → x_fits M z = false) → G p l e (rmOf 3 65) s m args below meth c D _ 2 0 0 _ 2 [(0, .ref (ad 21)), (1, .int (nI a))] [] (wX cI cZ ad M t)) (32) ?_ ?_ 0 (Nat.zero_le _)  (fun z h => absurd h (Nat.not_lt_zero z))
  · intro  hi1_0
    refine G_iload_n C 1 dX5_least_2 rfl rfl ?_
    refine G_bipush C dX5_least_3 kB_31 ?_
    refine G_icmp_gtN (tgt := 24) C dX5_least_5 (by decide) (by decide) (by decide) (fun h5_2 => ?_) (fun h5_2 => ?_)
    · refine G_bipush C dX5_least_24 kB_m9 ?_
      exact G_iret C hr dX5_least_26 (by unfold x_least; rw [findTo_none _ _ 0 (fun z _ hz => hi1_0 z (by omega))]) (rfl)
    · exact absurd h5_2 (by decide)
  · intro a ha ih1  hi1_0
    refine G_iload_n C 1 dX5_least_2 rfl rfl ?_
    refine G_bipush C dX5_least_3 kB_31 ?_
    refine G_icmp_gtN (tgt := 24) C dX5_least_5 (by decide) (by omega) (by decide) (fun h5_3 => ?_) (fun h5_3 => ?_)
    · exfalso; omega
    · refine G_aload_n C 0 dX5_least_8 rfl rfl ?_
      refine G_iload_n C 1 dX5_least_9 rfl rfl ?_
      refine G_callV1 C [.int (nI a)] 21 dX5_least_10 (c_X5_fits hS hq hB) wm_674 wm_676 wm_20 wm_58 wm_677 xc_21 rfl ydc_X5_fits rfl ⟨Nat.le_of_ble_eq_true rfl, Nat.le_of_ble_eq_true rfl⟩ ⟨rfl, rfl⟩ ⟨Nat.le_refl _, Nat.le_refl _⟩ (Nat.le_of_ble_eq_true rfl) rfl ?_
      refine G_if_eqB (tgt := 18) C dX5_least_13 (by decide) (fun h13_4 => ?_) (fun h13_4 => ?_)
      · refine G_iincN (lv' := [(1, .int (nI (a + 1))), (0, .ref (ad 21))]) C 1 dX5_least_18 rfl (by decide) rfl ?_
        refine G_goto (tgt := 2) C dX5_least_21 (by decide) ?_
        refine G_pick (lv' := [(0, .ref (ad 21)), (1, .int (nI (a + 1)))]) [1, 0] rfl ?_
        exact ih1  (lt_succ_all (P := fun z => x_fits M z = false) hi1_0 h13_4)
      · refine G_iload_n C 1 dX5_least_16 rfl rfl ?_
        exact G_iret C hr dX5_least_17 (by unfold x_least; rw [findTo_some _ _ 0 a (by omega) (by omega) (fun z _ hz => hi1_0 z hz) h13_4]) (rfl)
set_option maxHeartbeats 4000000 in
set_option maxRecDepth 100000 in
theorem c_X5_inAll  (hS : M 21 4 ≤ 6) (hq : ∀ i, i < M 21 4 → M 22 i < 5) (hB : ∀ k j, M k j < 1024) : CT l yX5_inAll cX5_inAll 3 (some .int) (rmOf 3 65) D (tyI cI cZ) [.ref (ad 21)] (wX cI cZ ad M t) (some (.int (x_inAll M))) (wX cI cZ ad M t) := by
  refine CT_of (own := "FalseParity$Marks") (by decide) rfl (Nat.le_of_ble_eq_true rfl) (fun p e s m args below meth c C hr => ?_)
  refine G_bipush C dX5_inAll_0 kB_m9 ?_
  refine G_istore_n (lv' := [(1, .int (-9)), (0, .ref (ad 21))]) C dX5_inAll_2 rfl (by decide) rfl ?_
  refine G_iconst C dX5_inAll_3 kI_0 ?_
  refine G_istore_n (lv' := [(2, .int (nI 0)), (1, .int (-9)), (0, .ref (ad 21))]) C dX5_inAll_4 rfl (by decide) rfl ?_
  refine G_pick (lv' := [(0, .ref (ad 21)), (1, .int (-9)), (2, .int (nI 0))]) [2, 1, 0] rfl ?_
  refine loopN (P := fun a => ∀ k : Int32, (k = x_ial M a) → G p l e (rmOf 3 65) s m args below meth c D _ 3 0 0 _ 5 [(0, .ref (ad 21)), (1, .int (k)), (2, .int (nI a))] [] (wX cI cZ ad M t)) (32) ?_ ?_ 0 (Nat.zero_le _) (-9) rfl
  · intro k hi1_0
    refine G_iload_n C 2 dX5_inAll_5 rfl rfl ?_
    refine G_bipush C dX5_inAll_6 kB_31 ?_
    refine G_icmp_gtN (tgt := 39) C dX5_inAll_8 (by decide) (by decide) (by decide) (fun h8_2 => ?_) (fun h8_2 => ?_)
    · refine G_iload_n C 1 dX5_inAll_39 rfl rfl ?_
      exact G_iret C hr dX5_inAll_40 (by rw [hi1_0]; rfl) (rfl)
    · exact absurd h8_2 (by decide)
  · intro a ha ih1 k hi1_0
    refine G_iload_n C 2 dX5_inAll_5 rfl rfl ?_
    refine G_bipush C dX5_inAll_6 kB_31 ?_
    refine G_icmp_gtN (tgt := 39) C dX5_inAll_8 (by decide) (by omega) (by decide) (fun h8_3 => ?_) (fun h8_3 => ?_)
    · exfalso; omega
    · refine G_aload_n C 0 dX5_inAll_11 rfl rfl ?_
      refine G_iload_n C 2 dX5_inAll_12 rfl rfl ?_
      refine G_callV1 C [.int (nI a)] 21 dX5_inAll_13 (c_X5_fits hS hq hB) wm_674 wm_676 wm_20 wm_58 wm_677 xc_21 rfl ydc_X5_fits rfl ⟨Nat.le_of_ble_eq_true rfl, Nat.le_of_ble_eq_true rfl⟩ ⟨rfl, rfl⟩ ⟨Nat.le_refl _, Nat.le_refl _⟩ (Nat.le_of_ble_eq_true rfl) rfl ?_
      refine G_if_eqB (tgt := 33) C dX5_inAll_16 (by decide) (fun h16_4 => ?_) (fun h16_4 => ?_)
      · refine G_iincN (lv' := [(2, .int (nI (a + 1))), (0, .ref (ad 21)), (1, .int (k))]) C 2 dX5_inAll_33 rfl (by decide) rfl ?_
        refine G_goto (tgt := 5) C dX5_inAll_36 (by decide) ?_
        refine G_pick (lv' := [(0, .ref (ad 21)), (1, .int (k)), (2, .int (nI (a + 1)))]) [1, 2, 0] rfl ?_
        exact ih1 _ (by show _ = (if x_fits M a then (if x_ial M a = -9 then nI a else x_ial M a &&& nI a) else x_ial M a); rw [← hi1_0]; simp [h16_4])
      · refine G_iload_n C 1 dX5_inAll_19 rfl rfl ?_
        refine G_bipush C dX5_inAll_20 kB_m9 ?_
        refine G_icmp_ne (tgt := 29) C dX5_inAll_22 (by decide) (fun h22_5 => ?_) (fun h22_5 => ?_)
        · refine G_iload_n C 1 dX5_inAll_29 rfl rfl ?_
          refine G_iload_n C 2 dX5_inAll_30 rfl rfl ?_
          refine G_iand C dX5_inAll_31 ?_
          refine G_istore_n (lv' := [(1, .int ((k) &&& (nI (a)))), (0, .ref (ad 21)), (2, .int (nI a))]) C dX5_inAll_32 rfl (by decide) rfl ?_
          refine G_iincN (lv' := [(2, .int (nI (a + 1))), (1, .int ((k) &&& (nI (a)))), (0, .ref (ad 21))]) C 2 dX5_inAll_33 rfl (by decide) rfl ?_
          refine G_goto (tgt := 5) C dX5_inAll_36 (by decide) ?_
          refine G_pick (lv' := [(0, .ref (ad 21)), (1, .int ((k) &&& (nI (a)))), (2, .int (nI (a + 1)))]) [2, 1, 0] rfl ?_
          exact ih1 _ (by show _ = (if x_fits M a then (if x_ial M a = -9 then nI a else x_ial M a &&& nI a) else x_ial M a); rw [← hi1_0]; simp [h16_4, h22_5])
        · refine G_iload_n C 2 dX5_inAll_25 rfl rfl ?_
          refine G_goto (tgt := 32) C dX5_inAll_26 (by decide) ?_
          refine G_istore_n (lv' := [(1, .int (nI a)), (0, .ref (ad 21)), (2, .int (nI a))]) C dX5_inAll_32 rfl (by decide) rfl ?_
          refine G_iincN (lv' := [(2, .int (nI (a + 1))), (1, .int (nI a)), (0, .ref (ad 21))]) C 2 dX5_inAll_33 rfl (by decide) rfl ?_
          refine G_goto (tgt := 5) C dX5_inAll_36 (by decide) ?_
          refine G_pick (lv' := [(0, .ref (ad 21)), (1, .int (nI a)), (2, .int (nI (a + 1)))]) [2, 1, 0] rfl ?_
          exact ih1 _ (by show _ = (if x_fits M a then (if x_ial M a = -9 then nI a else x_ial M a &&& nI a) else x_ial M a); rw [← hi1_0]; simp [h16_4, h22_5])
set_option maxHeartbeats 4000000 in
set_option maxRecDepth 100000 in
theorem c_X5_howManyTakenBy {q : Nat} (hq5 : q < 5) (hS : M 21 4 ≤ 6) (hq : ∀ i, i < M 21 4 → M 22 i < 5) (hB : ∀ k j, M k j < 1024) : CT l yX5_howManyTakenBy cX5_howManyTakenBy 4 (some .int) (rmOf 3 65) D (tyI cI cZ) [.ref (ad 21), .int (nI q)] (wX cI cZ ad M t) (some (.int (nI (x_htb M q)))) (wX cI cZ ad M t) := by
  refine CT_of (own := "FalseParity$Marks") (by decide) rfl (Nat.le_of_ble_eq_true rfl) (fun p e s m args below meth c C hr => ?_)
  refine G_iconst C dX5_howManyTakenBy_0 kI_0 ?_
  refine G_istore_n (lv' := [(2, .int (nI 0)), (0, .ref (ad 21)), (1, .int (nI q))]) C dX5_howManyTakenBy_1 rfl (by decide) rfl ?_
  refine G_iconst C dX5_howManyTakenBy_2 kI_0 ?_
  refine G_istore_n (lv' := [(3, .int (nI 0)), (2, .int (nI 0)), (0, .ref (ad 21)), (1, .int (nI q))]) C dX5_howManyTakenBy_3 rfl (by decide) rfl ?_
  refine G_pick (lv' := [(0, .ref (ad 21)), (1, .int (nI q)), (2, .int (nI 0)), (3, .int (nI 0))]) [2, 3, 1, 0] rfl ?_
  refine loopN (P := fun a => ∀ k : Nat, (k = sumTo (fun a => bN (x_fits M a && x_wt M q a)) a) → (k ≤ a) → G p l e (rmOf 3 65) s m args below meth c D _ 4 0 0 _ 4 [(0, .ref (ad 21)), (1, .int (nI q)), (2, .int (nI k)), (3, .int (nI a))] [] (wX cI cZ ad M t)) (32) ?_ ?_ 0 (Nat.zero_le _) (0) rfl (Nat.le_refl _)
  · intro k hi1_0 hi1_1
    refine G_iload_n C 3 dX5_howManyTakenBy_4 rfl rfl ?_
    refine G_bipush C dX5_howManyTakenBy_5 kB_31 ?_
    refine G_icmp_gtN (tgt := 37) C dX5_howManyTakenBy_7 (by decide) (by decide) (by decide) (fun h7_2 => ?_) (fun h7_2 => ?_)
    · refine G_iload_n C 2 dX5_howManyTakenBy_37 rfl rfl ?_
      exact G_iret C hr dX5_howManyTakenBy_38 (by rw [hi1_0]; rfl) (rfl)
    · exact absurd h7_2 (by decide)
  · intro a ha ih1 k hi1_0 hi1_1
    refine G_iload_n C 3 dX5_howManyTakenBy_4 rfl rfl ?_
    refine G_bipush C dX5_howManyTakenBy_5 kB_31 ?_
    refine G_icmp_gtN (tgt := 37) C dX5_howManyTakenBy_7 (by decide) (by omega) (by decide) (fun h7_3 => ?_) (fun h7_3 => ?_)
    · exfalso; omega
    · refine G_aload_n C 0 dX5_howManyTakenBy_10 rfl rfl ?_
      refine G_iload_n C 3 dX5_howManyTakenBy_11 rfl rfl ?_
      refine G_callV1 C [.int (nI a)] 21 dX5_howManyTakenBy_12 (c_X5_fits hS hq hB) wm_674 wm_676 wm_20 wm_58 wm_677 xc_21 rfl ydc_X5_fits rfl ⟨Nat.le_of_ble_eq_true rfl, Nat.le_of_ble_eq_true rfl⟩ ⟨rfl, rfl⟩ ⟨Nat.le_refl _, Nat.le_refl _⟩ (Nat.le_of_ble_eq_true rfl) rfl ?_
      refine G_if_eqB (tgt := 31) C dX5_howManyTakenBy_15 (by decide) (fun h15_4 => ?_) (fun h15_4 => ?_)
      · refine G_iincN (lv' := [(3, .int (nI (a + 1))), (0, .ref (ad 21)), (1, .int (nI q)), (2, .int (nI k))]) C 3 dX5_howManyTakenBy_31 rfl (by decide) rfl ?_
        refine G_goto (tgt := 4) C dX5_howManyTakenBy_34 (by decide) ?_
        refine G_pick (lv' := [(0, .ref (ad 21)), (1, .int (nI q)), (2, .int (nI k)), (3, .int (nI (a + 1)))]) [1, 2, 3, 0] rfl ?_
        exact ih1 _ (by simp [sumTo, hi1_0, h15_4]) (by omega)
      · refine G_aload_n C 0 dX5_howManyTakenBy_18 rfl rfl ?_
        refine G_iload_n C 1 dX5_howManyTakenBy_19 rfl rfl ?_
        refine G_iload_n C 3 dX5_howManyTakenBy_20 rfl rfl ?_
        refine G_callV1 C [.int (nI q), .int (nI a)] 21 dX5_howManyTakenBy_21 (c_X5_wouldTake (by omega) hB) wm_678 wm_680 wm_21 wm_58 wm_681 xc_21 rfl ydc_X5_wouldTake rfl ⟨Nat.le_of_ble_eq_true rfl, Nat.le_of_ble_eq_true rfl⟩ ⟨rfl, rfl⟩ ⟨Nat.le_refl _, Nat.le_refl _⟩ (Nat.le_of_ble_eq_true rfl) rfl ?_
        refine G_iconst C dX5_howManyTakenBy_24 kI_1 ?_
        refine G_icmp_neN (tgt := 31) C dX5_howManyTakenBy_25 (by decide) (bN_lt _) (by decide) (fun h25_5 => ?_) (fun h25_5 => ?_)
        · replace h25_5 := bN_c0 h25_5
          refine G_iincN (lv' := [(3, .int (nI (a + 1))), (0, .ref (ad 21)), (1, .int (nI q)), (2, .int (nI k))]) C 3 dX5_howManyTakenBy_31 rfl (by decide) rfl ?_
          refine G_goto (tgt := 4) C dX5_howManyTakenBy_34 (by decide) ?_
          refine G_pick (lv' := [(0, .ref (ad 21)), (1, .int (nI q)), (2, .int (nI k)), (3, .int (nI (a + 1)))]) [1, 2, 3, 0] rfl ?_
          exact ih1 _ (by simp [sumTo, hi1_0, h15_4, h25_5]) (by omega)
        · replace h25_5 := bN_c1 h25_5
          refine G_iincN (lv' := [(2, .int (nI (k + 1))), (0, .ref (ad 21)), (1, .int (nI q)), (3, .int (nI a))]) C 2 dX5_howManyTakenBy_28 rfl (by decide) rfl ?_
          refine G_iincN (lv' := [(3, .int (nI (a + 1))), (2, .int (nI (k + 1))), (0, .ref (ad 21)), (1, .int (nI q))]) C 3 dX5_howManyTakenBy_31 rfl (by decide) rfl ?_
          refine G_goto (tgt := 4) C dX5_howManyTakenBy_34 (by decide) ?_
          refine G_pick (lv' := [(0, .ref (ad 21)), (1, .int (nI q)), (2, .int (nI (k + 1))), (3, .int (nI (a + 1)))]) [2, 3, 1, 0] rfl ?_
          exact ih1 _ (by simp [sumTo, hi1_0, h15_4, h25_5]) (by omega)
set_option maxHeartbeats 4000000 in
set_option maxRecDepth 100000 in
theorem c_X5_bestPerson  (hP : M 9 4 ≤ 5) (hS : M 21 4 ≤ 6) (hq : ∀ i, i < M 21 4 → M 22 i < 5) (hB : ∀ k j, M k j < 1024) : CT l yX5_bestPerson cX5_bestPerson 7 (some .int) (rmOf 4 88) D (tyI cI cZ) [.ref (ad 21)] (wX cI cZ ad M t) (some (.int (x_best M))) (wX cI cZ ad M t) := by
  have hm := x_hm_le M
  refine CT_of (own := "FalseParity$Marks") (by decide) rfl (Nat.le_of_ble_eq_true rfl) (fun p e s m args below meth c C hr => ?_)
  refine G_aload_n C 0 dX5_bestPerson_0 rfl rfl ?_
  refine G_callV1 C [] 21 dX5_bestPerson_1 (c_X5_howMany hS hq hB) wm_699 wm_671 wm_672 wm_58 wm_673 xc_21 rfl ydc_X5_howMany rfl ⟨Nat.le_of_ble_eq_true rfl, Nat.le_of_ble_eq_true rfl⟩ ⟨rfl, rfl⟩ ⟨Nat.le_refl _, Nat.le_refl _⟩ (Nat.le_of_ble_eq_true rfl) rfl ?_
  refine G_istore_n (lv' := [(1, .int (nI (x_hm M))), (0, .ref (ad 21))]) C dX5_bestPerson_4 rfl (by decide) rfl ?_
  refine G_iload_n C 0 dX5_bestPerson_5 rfl rfl ?_
  refine G_iconst C dX5_bestPerson_6 kI_1 ?_
  refine G_icmp_gtN (tgt := 13) C dX5_bestPerson_7 (by decide) (by omega) (by decide) (fun h7_1 => ?_) (fun h7_1 => ?_)
  · refine G_bipush C dX5_bestPerson_13 kB_m9 ?_
    refine G_istore_n (lv' := [(2, .int (-9)), (1, .int (nI (x_hm M))), (0, .ref (ad 21))]) C dX5_bestPerson_15 rfl (by decide) rfl ?_
    refine G_iload_n C 1 dX5_bestPerson_16 rfl rfl ?_
    refine G_iconst C dX5_bestPerson_17 kI_1 ?_
    refine G_iaddN C dX5_bestPerson_18 ?_
    refine G_istore_n (lv' := [(3, .int (nI ((x_hm M) + 1))), (2, .int (-9)), (1, .int (nI (x_hm M))), (0, .ref (ad 21))]) C dX5_bestPerson_19 rfl (by decide) rfl ?_
    refine G_iconst C dX5_bestPerson_20 kI_0 ?_
    refine G_istore (lv' := [(4, .int (nI 0)), (3, .int (nI ((x_hm M) + 1))), (2, .int (-9)), (1, .int (nI (x_hm M))), (0, .ref (ad 21))]) C dX5_bestPerson_21 (by decide) rfl ?_
    refine G_pick (lv' := [(0, .ref (ad 21)), (1, .int (nI (x_hm M))), (2, .int (-9)), (3, .int (nI ((x_hm M) + 1))), (4, .int (nI 0))]) [4, 3, 2, 1, 0] rfl ?_
    refine loopN (P := fun q => ∀ b : Int32, ∀ pt : Nat, ((b, pt) = x_bpf M q) → (pt ≤ 33) → G p l e (rmOf 4 88) s m args below meth c D _ 7 0 0 _ 23 [(0, .ref (ad 21)), (1, .int (nI (x_hm M))), (2, .int (b)), (3, .int (nI pt)), (4, .int (nI q))] [] (wX cI cZ ad M t)) (M 9 4) ?_ ?_ 0 (Nat.zero_le _) (-9) (x_hm M + 1) rfl (by omega)
    · intro b pt hi2_0 hi2_1
      refine G_iload C 4 dX5_bestPerson_23 rfl ?_
      refine G_aload_n C 0 dX5_bestPerson_25 rfl rfl ?_
      refine G_get (v := .ref (ad 9)) C 21 0 dX5_bestPerson_26 xc_21 rfl inG5 (by decide) wm_236 rfl rfl ?_
      refine G_getN (v := .int (nI (M 9 4))) C 9 4 dX5_bestPerson_29 xc_9 rfl inG1 (by decide) wn_120 rfl rfl ?_
      refine G_icmp_geN (tgt := 72) C dX5_bestPerson_32 (by decide) (by have := hB 9 4; omega) (by have := hB 9 4; omega) (fun h32_3 => ?_) (fun h32_3 => ?_)
      · refine G_iload_n C 2 dX5_bestPerson_72 rfl rfl ?_
        exact G_iret C hr dX5_bestPerson_73 (by unfold x_best; rw [if_neg (by omega), ← hi2_0]) (rfl)
      · exfalso; omega
    · intro q hqP ih2 b pt hi2_0 hi2_1
      refine G_iload C 4 dX5_bestPerson_23 rfl ?_
      refine G_aload_n C 0 dX5_bestPerson_25 rfl rfl ?_
      refine G_get (v := .ref (ad 9)) C 21 0 dX5_bestPerson_26 xc_21 rfl inG5 (by decide) wm_236 rfl rfl ?_
      refine G_getN (v := .int (nI (M 9 4))) C 9 4 dX5_bestPerson_29 xc_9 rfl inG1 (by decide) wn_120 rfl rfl ?_
      refine G_icmp_geN (tgt := 72) C dX5_bestPerson_32 (by decide) (by omega) (by have := hB 9 4; omega) (fun h32_4 => ?_) (fun h32_4 => ?_)
      · exfalso; omega
      · refine G_aload_n C 0 dX5_bestPerson_35 rfl rfl ?_
        refine G_iload C 4 dX5_bestPerson_36 rfl ?_
        refine G_callV1 C [.int (nI q)] 21 dX5_bestPerson_38 (c_X5_howManyTakenBy (by omega) hS hq hB) wm_700 wm_702 wm_22 wm_58 wm_703 xc_21 rfl ydc_X5_howManyTakenBy rfl ⟨Nat.le_of_ble_eq_true rfl, Nat.le_of_ble_eq_true rfl⟩ ⟨rfl, rfl⟩ ⟨Nat.le_refl _, Nat.le_refl _⟩ (Nat.le_of_ble_eq_true rfl) rfl ?_
        refine G_istore (lv' := [(5, .int (nI (x_htb M q))), (0, .ref (ad 21)), (1, .int (nI (x_hm M))), (2, .int (b)), (3, .int (nI pt)), (4, .int (nI q))]) C dX5_bestPerson_41 (by decide) rfl ?_
        refine G_iload C 0 dX5_bestPerson_43 rfl ?_
        refine G_iload_n C 2 dX5_bestPerson_45 rfl rfl ?_
        refine G_iload C 0 dX5_bestPerson_46 rfl ?_
        refine G_isubN C dX5_bestPerson_48 (x_htb_le M q) ?_
        refine G_max C dX5_bestPerson_49 wm_704 wm_705 wm_62 wm_706 (Nat.le_of_ble_eq_true rfl) (Nat.le_of_ble_eq_true rfl) (Nat.le_refl _) (Nat.le_refl _) ?_
        refine G_top (y := nI (max (x_htb M q) (x_hm M - x_htb M q))) (nI_max (by have h1 := x_hm_le M; have h2 := x_htb_le M q; omega) (by have h1 := x_hm_le M; have h2 := x_htb_le M q; omega)) ?_
        refine G_istore (lv' := [(6, .int (nI (max (x_htb M q) (x_hm M - x_htb M q)))), (5, .int (nI (x_htb M q))), (0, .ref (ad 21)), (1, .int (nI (x_hm M))), (2, .int (b)), (3, .int (nI pt)), (4, .int (nI q))]) C dX5_bestPerson_52 (by decide) rfl ?_
        refine G_iload C 0 dX5_bestPerson_54 rfl ?_
        refine G_iload_n C 5 dX5_bestPerson_56 rfl rfl ?_
        refine G_icmp_geN (tgt := 66) C dX5_bestPerson_57 (by decide) (by have h1 := x_hm_le M; have h2 := x_htb_le M q; omega) (by have h1 := x_hm_le M; have h2 := x_htb_le M q; omega) (fun h57_5 => ?_) (fun h57_5 => ?_)
        · refine G_iincN (lv' := [(4, .int (nI (q + 1))), (6, .int (nI (max (x_htb M q) (x_hm M - x_htb M q)))), (5, .int (nI (x_htb M q))), (0, .ref (ad 21)), (1, .int (nI (x_hm M))), (2, .int (b)), (3, .int (nI pt))]) C 6 dX5_bestPerson_66 rfl (by decide) rfl ?_
          refine G_goto (tgt := 23) C dX5_bestPerson_69 (by decide) ?_
          refine G_pick (lv' := [(0, .ref (ad 21)), (1, .int (nI (x_hm M))), (2, .int (b)), (3, .int (nI pt)), (4, .int (nI (q + 1)))]) [3, 4, 5, 6, 0] rfl ?_
          exact ih2 _ _ (by rw [x_bpf_s, ← hi2_0]; first | exact (if_pos h57_5).symm | exact (if_neg (Nat.not_lt.mpr h57_5)).symm) (by have h2 := x_htb_le M q; omega)
        · refine G_iload C 6 dX5_bestPerson_60 rfl ?_
          refine G_istore_n (lv' := [(2, .int (nI q)), (6, .int (nI (max (x_htb M q) (x_hm M - x_htb M q)))), (5, .int (nI (x_htb M q))), (0, .ref (ad 21)), (1, .int (nI (x_hm M))), (3, .int (nI pt)), (4, .int (nI q))]) C dX5_bestPerson_62 rfl (by decide) rfl ?_
          refine G_iload C 1 dX5_bestPerson_63 rfl ?_
          refine G_istore_n (lv' := [(3, .int (nI (max (x_htb M q) (x_hm M - x_htb M q)))), (2, .int (nI q)), (6, .int (nI (max (x_htb M q) (x_hm M - x_htb M q)))), (5, .int (nI (x_htb M q))), (0, .ref (ad 21)), (1, .int (nI (x_hm M))), (4, .int (nI q))]) C dX5_bestPerson_65 rfl (by decide) rfl ?_
          refine G_iincN (lv' := [(4, .int (nI (q + 1))), (3, .int (nI (max (x_htb M q) (x_hm M - x_htb M q)))), (2, .int (nI q)), (6, .int (nI (max (x_htb M q) (x_hm M - x_htb M q)))), (5, .int (nI (x_htb M q))), (0, .ref (ad 21)), (1, .int (nI (x_hm M)))]) C 6 dX5_bestPerson_66 rfl (by decide) rfl ?_
          refine G_goto (tgt := 23) C dX5_bestPerson_69 (by decide) ?_
          refine G_pick (lv' := [(0, .ref (ad 21)), (1, .int (nI (x_hm M))), (2, .int (nI q)), (3, .int (nI (max (x_htb M q) (x_hm M - x_htb M q)))), (4, .int (nI (q + 1)))]) [5, 6, 2, 1, 0] rfl ?_
          exact ih2 _ _ (by rw [x_bpf_s, ← hi2_0]; first | exact (if_pos h57_5).symm | exact (if_neg (Nat.not_lt.mpr h57_5)).symm) (by have h2 := x_htb_le M q; omega)
  · refine G_bipush C dX5_bestPerson_10 kB_m9 ?_
    exact G_iret C hr dX5_bestPerson_12 (by unfold x_best; rw [if_pos h7_1]) (rfl)
set_option maxHeartbeats 4000000 in
set_option maxRecDepth 100000 in
theorem c_X0_fits {y : Nat} (hy : y < 1024) (hH : M 24 4 ≤ 6) (hB : ∀ k j, M k j < 1024) : CT l yX0_fits cX0_fits 3 (some .boolean) (rmOf 0 0) D (tyI cI cZ) [.ref (ad 24), .int (nI y)] (wX cI cZ ad M t) (some (.int (nI (bN (x_bf M y))))) (wX cI cZ ad M t) := by
  refine CT_of (own := "FalseParity$Board") (by decide) rfl (Nat.le_of_ble_eq_true rfl) (fun p e s m args below meth c C hr => ?_)
  refine G_iconst C dX0_fits_0 kI_0 ?_
  refine G_istore_n (lv' := [(2, .int (nI 0)), (0, .ref (ad 24)), (1, .int (nI y))]) C dX0_fits_1 rfl (by decide) rfl ?_
  refine G_pick (lv' := [(0, .ref (ad 24)), (1, .int (nI y)), (2, .int (nI 0))]) [1, 2, 0] rfl ?_
  refine loopN (P := fun i => (∀ z, z < i → decide (y ≤ M 25 z) = decide (M 26 z = 1)) → G p l e (rmOf 0 0) s m args below meth c D _ 3 0 0 _ 2 [(0, .ref (ad 24)), (1, .int (nI y)), (2, .int (nI i))] [] (wX cI cZ ad M t)) (M 24 4) ?_ ?_ 0 (Nat.zero_le _)  (fun z h => absurd h (Nat.not_lt_zero z))
  · intro  hi1_0
    refine G_iload_n C 2 dX0_fits_2 rfl rfl ?_
    refine G_aload_n C 0 dX0_fits_3 rfl rfl ?_
    refine G_get (v := .int (nI (M 24 4))) C 24 4 dX0_fits_4 xc_24 rfl inG0 (by decide) wm_263 rfl rfl ?_
    refine G_icmp_geN (tgt := 51) C dX0_fits_7 (by decide) (by have := hB 24 4; omega) (by have := hB 24 4; omega) (fun h7_2 => ?_) (fun h7_2 => ?_)
    · refine G_iconst C dX0_fits_51 kI_1 ?_
      exact G_zret C hr dX0_fits_52 (by rfl) (bI_t (decide_eq_true hi1_0)) (rfl)
    · exfalso; omega
  · intro i hi ih1  hi1_0
    refine G_iload_n C 2 dX0_fits_2 rfl rfl ?_
    refine G_aload_n C 0 dX0_fits_3 rfl rfl ?_
    refine G_get (v := .int (nI (M 24 4))) C 24 4 dX0_fits_4 xc_24 rfl inG0 (by decide) wm_263 rfl rfl ?_
    refine G_icmp_geN (tgt := 51) C dX0_fits_7 (by decide) (by omega) (by have := hB 24 4; omega) (fun h7_3 => ?_) (fun h7_3 => ?_)
    · exfalso; omega
    · refine G_aload_n C 0 dX0_fits_10 rfl rfl ?_
      refine G_get (v := .ref (ad 25)) C 24 2 dX0_fits_11 xc_24 rfl inG0 (by decide) wm_261 rfl rfl ?_
      refine G_iload_n C 2 dX0_fits_14 rfl rfl ?_
      refine G_iald (v := nI (M 25 i)) C 25 0 dX0_fits_15 xc_25 rfl (by omega) (by decide) rfl ?_
      refine G_iload_n C 1 dX0_fits_16 rfl rfl ?_
      refine G_icmp_ltN (tgt := 24) C dX0_fits_17 (by decide) (by have := hB 25 i; omega) (by omega) (fun h17_4 => ?_) (fun h17_4 => ?_)
      · refine G_iconst C dX0_fits_24 kI_0 ?_
        refine G_aload_n C 0 dX0_fits_25 rfl rfl ?_
        refine G_get (v := .ref (ad 26)) C 24 3 dX0_fits_26 xc_24 rfl inG0 (by decide) wm_262 rfl rfl ?_
        refine G_iload_n C 2 dX0_fits_29 rfl rfl ?_
        refine G_iald (v := nI (M 26 i)) C 26 0 dX0_fits_30 xc_26 rfl (by omega) (by decide) rfl ?_
        refine G_iconst C dX0_fits_31 kI_1 ?_
        refine G_icmp_neN (tgt := 39) C dX0_fits_32 (by decide) (by have := hB 26 i; omega) (by decide) (fun h32_5 => ?_) (fun h32_5 => ?_)
        · refine G_iconst C dX0_fits_39 kI_0 ?_
          refine G_icmp_eqN (tgt := 45) C dX0_fits_40 (by decide) (by decide) (by decide) (fun h40_6 => ?_) (fun h40_6 => ?_)
          · refine G_iincN (lv' := [(2, .int (nI (i + 1))), (0, .ref (ad 24)), (1, .int (nI y))]) C 2 dX0_fits_45 rfl (by decide) rfl ?_
            refine G_goto (tgt := 2) C dX0_fits_48 (by decide) ?_
            refine G_pick (lv' := [(0, .ref (ad 24)), (1, .int (nI y)), (2, .int (nI (i + 1)))]) [1, 2, 0] rfl ?_
            exact ih1  (lt_succ_all (P := fun z => decide (y ≤ M 25 z) = decide (M 26 z = 1)) hi1_0 (by rw [decide_eq_decide]; omega))
          · exact absurd h40_6 (by decide)
        · refine G_iconst C dX0_fits_35 kI_1 ?_
          refine G_goto (tgt := 40) C dX0_fits_36 (by decide) ?_
          refine G_icmp_eqN (tgt := 45) C dX0_fits_40 (by decide) (by decide) (by decide) (fun h40_7 => ?_) (fun h40_7 => ?_)
          · exact absurd h40_7 (by decide)
          · refine G_iconst C dX0_fits_43 kI_0 ?_
            exact G_zret C hr dX0_fits_44 (by rfl) (bI_f (decide_eq_false (fun z => absurd (z i hi) (by rw [decide_eq_decide]; omega)))) (rfl)
      · refine G_iconst C dX0_fits_20 kI_1 ?_
        refine G_goto (tgt := 25) C dX0_fits_21 (by decide) ?_
        refine G_aload_n C 0 dX0_fits_25 rfl rfl ?_
        refine G_get (v := .ref (ad 26)) C 24 3 dX0_fits_26 xc_24 rfl inG0 (by decide) wm_262 rfl rfl ?_
        refine G_iload_n C 2 dX0_fits_29 rfl rfl ?_
        refine G_iald (v := nI (M 26 i)) C 26 0 dX0_fits_30 xc_26 rfl (by omega) (by decide) rfl ?_
        refine G_iconst C dX0_fits_31 kI_1 ?_
        refine G_icmp_neN (tgt := 39) C dX0_fits_32 (by decide) (by have := hB 26 i; omega) (by decide) (fun h32_8 => ?_) (fun h32_8 => ?_)
        · refine G_iconst C dX0_fits_39 kI_0 ?_
          refine G_icmp_eqN (tgt := 45) C dX0_fits_40 (by decide) (by decide) (by decide) (fun h40_9 => ?_) (fun h40_9 => ?_)
          · exact absurd h40_9 (by decide)
          · refine G_iconst C dX0_fits_43 kI_0 ?_
            exact G_zret C hr dX0_fits_44 (by rfl) (bI_f (decide_eq_false (fun z => absurd (z i hi) (by rw [decide_eq_decide]; omega)))) (rfl)
        · refine G_iconst C dX0_fits_35 kI_1 ?_
          refine G_goto (tgt := 40) C dX0_fits_36 (by decide) ?_
          refine G_icmp_eqN (tgt := 45) C dX0_fits_40 (by decide) (by decide) (by decide) (fun h40_10 => ?_) (fun h40_10 => ?_)
          · refine G_iincN (lv' := [(2, .int (nI (i + 1))), (0, .ref (ad 24)), (1, .int (nI y))]) C 2 dX0_fits_45 rfl (by decide) rfl ?_
            refine G_goto (tgt := 2) C dX0_fits_48 (by decide) ?_
            refine G_pick (lv' := [(0, .ref (ad 24)), (1, .int (nI y)), (2, .int (nI (i + 1)))]) [1, 2, 0] rfl ?_
            exact ih1  (lt_succ_all (P := fun z => decide (y ≤ M 25 z) = decide (M 26 z = 1)) hi1_0 (by rw [decide_eq_decide]; omega))
          · exact absurd h40_10 (by decide)
set_option maxHeartbeats 4000000 in
set_option maxRecDepth 100000 in
theorem c_X0_possibleYears  (hH : M 24 4 ≤ 6) (hB : ∀ k j, M k j < 1024) : CT l yX0_possibleYears cX0_possibleYears 3 (some .int) (rmOf 1 22) D (tyI cI cZ) [.ref (ad 24)] (wX cI cZ ad M t) (some (.int (nI (x_py M)))) (wX cI cZ ad M t) := by
  refine CT_of (own := "FalseParity$Board") (by decide) rfl (Nat.le_of_ble_eq_true rfl) (fun p e s m args below meth c C hr => ?_)
  refine G_iconst C dX0_possibleYears_0 kI_0 ?_
  refine G_istore_n (lv' := [(1, .int (nI 0)), (0, .ref (ad 24))]) C dX0_possibleYears_1 rfl (by decide) rfl ?_
  refine G_iconst C dX0_possibleYears_2 kI_1 ?_
  refine G_istore_n (lv' := [(2, .int (nI 1)), (1, .int (nI 0)), (0, .ref (ad 24))]) C dX0_possibleYears_3 rfl (by decide) rfl ?_
  refine G_pick (lv' := [(0, .ref (ad 24)), (1, .int (nI 0)), (2, .int (nI 1))]) [2, 1, 0] rfl ?_
  refine loopN (P := fun i => ∀ k : Nat, (k = x_pyf M i) → G p l e (rmOf 1 22) s m args below meth c D _ 3 0 0 _ 4 [(0, .ref (ad 24)), (1, .int (nI k)), (2, .int (nI (i + 1)))] [] (wX cI cZ ad M t)) (9) ?_ ?_ 0 (Nat.zero_le _) (0) rfl
  · intro k hi1_0
    refine G_iload_n C 2 dX0_possibleYears_4 rfl rfl ?_
    refine G_bipush C dX0_possibleYears_5 kB_9 ?_
    refine G_icmp_gtN (tgt := 30) C dX0_possibleYears_7 (by decide) (by omega) (by decide) (fun h7_2 => ?_) (fun h7_2 => ?_)
    · refine G_iload_n C 1 dX0_possibleYears_30 rfl rfl ?_
      exact G_iret C hr dX0_possibleYears_31 (by rw [hi1_0]; rfl) (rfl)
    · exfalso; omega
  · intro i hi9 ih1 k hi1_0
    refine G_iload_n C 2 dX0_possibleYears_4 rfl rfl ?_
    refine G_bipush C dX0_possibleYears_5 kB_9 ?_
    refine G_icmp_gtN (tgt := 30) C dX0_possibleYears_7 (by decide) (by omega) (by decide) (fun h7_3 => ?_) (fun h7_3 => ?_)
    · exfalso; omega
    · refine G_aload_n C 0 dX0_possibleYears_10 rfl rfl ?_
      refine G_iload_n C 2 dX0_possibleYears_11 rfl rfl ?_
      refine G_callV1 C [.int (nI (i + 1))] 24 dX0_possibleYears_12 (c_X0_fits (by omega) hH hB) wm_727 wm_729 wm_23 wm_59 wm_730 xc_24 rfl ydc_X0_fits rfl ⟨Nat.le_of_ble_eq_true rfl, Nat.le_of_ble_eq_true rfl⟩ ⟨rfl, rfl⟩ ⟨Nat.le_refl _, Nat.le_refl _⟩ (Nat.le_of_ble_eq_true rfl) rfl ?_
      refine G_if_eqB (tgt := 24) C dX0_possibleYears_15 (by decide) (fun h15_4 => ?_) (fun h15_4 => ?_)
      · refine G_iincN (lv' := [(2, .int (nI ((i + 1) + 1))), (0, .ref (ad 24)), (1, .int (nI k))]) C 2 dX0_possibleYears_24 rfl (by decide) rfl ?_
        refine G_goto (tgt := 4) C dX0_possibleYears_27 (by decide) ?_
        refine G_pick (lv' := [(0, .ref (ad 24)), (1, .int (nI k)), (2, .int (nI ((i + 1) + 1)))]) [1, 2, 0] rfl ?_
        exact ih1 _ (by show _ = (if x_bf M (i + 1) then x_pyf M i ||| (1 * 2 ^ (i + 1)) else x_pyf M i); rw [← hi1_0, h15_4]; rfl)
      · refine G_iload_n C 1 dX0_possibleYears_18 rfl rfl ?_
        refine G_iconst C dX0_possibleYears_19 kI_1 ?_
        refine G_iload_n C 2 dX0_possibleYears_20 rfl rfl ?_
        refine G_ishlN C dX0_possibleYears_21 (by omega) (sh1 (by omega)) ?_
        refine G_iorN C dX0_possibleYears_22 ?_
        refine G_istore_n (lv' := [(1, .int (nI (k ||| (1 * 2 ^ (i + 1))))), (0, .ref (ad 24)), (2, .int (nI (i + 1)))]) C dX0_possibleYears_23 rfl (by decide) rfl ?_
        refine G_iincN (lv' := [(2, .int (nI ((i + 1) + 1))), (1, .int (nI (k ||| (1 * 2 ^ (i + 1))))), (0, .ref (ad 24))]) C 2 dX0_possibleYears_24 rfl (by decide) rfl ?_
        refine G_goto (tgt := 4) C dX0_possibleYears_27 (by decide) ?_
        refine G_pick (lv' := [(0, .ref (ad 24)), (1, .int (nI (k ||| (1 * 2 ^ (i + 1))))), (2, .int (nI ((i + 1) + 1)))]) [2, 1, 0] rfl ?_
        exact ih1 _ (by show _ = (if x_bf M (i + 1) then x_pyf M i ||| (1 * 2 ^ (i + 1)) else x_pyf M i); rw [← hi1_0, h15_4]; rfl)
set_option maxHeartbeats 4000000 in
set_option maxRecDepth 100000 in
theorem c_X0_worthOfAll  (hN : M 9 5 ≤ 6) (hB : ∀ k j, M k j < 1024) : CT l yX0_worthOfAll cX0_worthOfAll 1 (some .int) (rmOf 2 44) D (tyI cI cZ) [.ref (ad 24)] (wX cI cZ ad M t) (some (.int (nI (x_wa M)))) (wX cI cZ ad M t) := by
  refine CT_of (own := "FalseParity$Board") (by decide) rfl (Nat.le_of_ble_eq_true rfl) (fun p e s m args below meth c C hr => ?_)
  refine G_aload_n C 0 dX0_worthOfAll_0 rfl rfl ?_
  refine G_aload_n C 0 dX0_worthOfAll_1 rfl rfl ?_
  refine G_get (v := .ref (ad 14)) C 24 1 dX0_worthOfAll_2 xc_24 rfl inG0 (by decide) wm_260 rfl rfl ?_
  refine G_callV1 C [] 14 dX0_worthOfAll_5 c_X6_away wm_516 wm_505 wm_506 wm_54 wm_507 xc_14 rfl ydc_X6_away rfl ⟨Nat.le_of_ble_eq_true rfl, Nat.le_of_ble_eq_true rfl⟩ ⟨rfl, rfl⟩ ⟨Nat.le_refl _, Nat.le_refl _⟩ (Nat.le_of_ble_eq_true rfl) rfl ?_
  refine G_iconst C dX0_worthOfAll_8 kI_m1 ?_
  refine G_ixor C dX0_worthOfAll_9 ?_
  refine G_callV1 C [.int ((nI (M 15 18)) ^^^ (-1))] 24 dX0_worthOfAll_10 (c_X0_worthOf hN hB) wm_517 wm_518 wm_519 wm_59 wm_520 xc_24 rfl ydc_X0_worthOf rfl ⟨Nat.le_of_ble_eq_true rfl, Nat.le_of_ble_eq_true rfl⟩ ⟨rfl, rfl⟩ ⟨Nat.le_refl _, Nat.le_refl _⟩ (Nat.le_of_ble_eq_true rfl) rfl ?_
  exact G_iret C hr dX0_worthOfAll_13 (rfl) (rfl)
set_option maxHeartbeats 4000000 in
set_option maxRecDepth 100000 in
theorem c_X0_worthOfFalse  (hN : M 9 5 ≤ 6) (hB : ∀ k j, M k j < 1024) : CT l yX0_worthOfFalse cX0_worthOfFalse 1 (some .int) (rmOf 2 44) D (tyI cI cZ) [.ref (ad 24)] (wX cI cZ ad M t) (some (.int (nI (x_wf M)))) (wX cI cZ ad M t) := by
  refine CT_of (own := "FalseParity$Board") (by decide) rfl (Nat.le_of_ble_eq_true rfl) (fun p e s m args below meth c C hr => ?_)
  refine G_aload_n C 0 dX0_worthOfFalse_0 rfl rfl ?_
  refine G_aload_n C 0 dX0_worthOfFalse_1 rfl rfl ?_
  refine G_callV1 C [] 24 dX0_worthOfFalse_2 (c_X0_falseNotes hN hB) wm_526 wm_528 wm_16 wm_59 wm_529 xc_24 rfl ydc_X0_falseNotes rfl ⟨Nat.le_of_ble_eq_true rfl, Nat.le_of_ble_eq_true rfl⟩ ⟨rfl, rfl⟩ ⟨Nat.le_refl _, Nat.le_refl _⟩ (Nat.le_of_ble_eq_true rfl) rfl ?_
  refine G_aload_n C 0 dX0_worthOfFalse_5 rfl rfl ?_
  refine G_get (v := .ref (ad 14)) C 24 1 dX0_worthOfFalse_6 xc_24 rfl inG0 (by decide) wm_260 rfl rfl ?_
  refine G_callV1 C [] 14 dX0_worthOfFalse_9 c_X6_away wm_516 wm_505 wm_506 wm_54 wm_507 xc_14 rfl ydc_X6_away rfl ⟨Nat.le_of_ble_eq_true rfl, Nat.le_of_ble_eq_true rfl⟩ ⟨rfl, rfl⟩ ⟨Nat.le_refl _, Nat.le_refl _⟩ (Nat.le_of_ble_eq_true rfl) rfl ?_
  refine G_iconst C dX0_worthOfFalse_12 kI_m1 ?_
  refine G_ixor C dX0_worthOfFalse_13 ?_
  refine G_iand C dX0_worthOfFalse_14 ?_
  refine G_callV1 C [.int ((nI (x_fn M)) &&& ((nI (M 15 18)) ^^^ (-1)))] 24 dX0_worthOfFalse_15 (c_X0_worthOf hN hB) wm_517 wm_518 wm_519 wm_59 wm_520 xc_24 rfl ydc_X0_worthOf rfl ⟨Nat.le_of_ble_eq_true rfl, Nat.le_of_ble_eq_true rfl⟩ ⟨rfl, rfl⟩ ⟨Nat.le_refl _, Nat.le_refl _⟩ (Nat.le_of_ble_eq_true rfl) rfl ?_
  exact G_iret C hr dX0_worthOfFalse_18 (rfl) (rfl)
set_option maxHeartbeats 4000000 in
set_option maxRecDepth 100000 in
theorem c_X0_isBetter_0 {a : Nat}  : CT l yX0_isBetter cX0_isBetter 4 (some .boolean) (rmOf 2 44) D (tyI cI cZ) [.ref (ad 24), .int (nI a), .int (-9)] (wX cI cZ ad M t) (some (.int (nI (bN (x_ib M a (-9)))))) (wX cI cZ ad M t) := by
  refine CT_of (own := "FalseParity$Board") (by decide) rfl (Nat.le_of_ble_eq_true rfl) (fun p e s m args below meth c C hr => ?_)
  refine G_iload_n C 2 dX0_isBetter_0 rfl rfl ?_
  refine G_bipush C dX0_isBetter_1 kB_m9 ?_
  refine G_icmp_ne (tgt := 8) C dX0_isBetter_3 (by decide) (fun h3_1 => ?_) (fun h3_1 => ?_)
  · exact absurd rfl h3_1
  · refine G_iconst C dX0_isBetter_6 kI_1 ?_
    exact G_zret C hr dX0_isBetter_7 (by rfl) (bI_t (by simp [x_ib])) (rfl)
set_option maxHeartbeats 4000000 in
set_option maxRecDepth 100000 in
theorem c_X0_isBetter_1 {a k : Nat} (ha : a < 64) (hk : k < 64) (hN : M 9 5 ≤ 6) (hB : ∀ k j, M k j < 1024) : CT l yX0_isBetter cX0_isBetter 4 (some .boolean) (rmOf 2 44) D (tyI cI cZ) [.ref (ad 24), .int (nI a), .int (nI k)] (wX cI cZ ad M t) (some (.int (nI (bN (x_ib M a (nI k)))))) (wX cI cZ ad M t) := by
  refine CT_of (own := "FalseParity$Board") (by decide) rfl (Nat.le_of_ble_eq_true rfl) (fun p e s m args below meth c C hr => ?_)
  refine G_iload_n C 2 dX0_isBetter_0 rfl rfl ?_
  refine G_bipush C dX0_isBetter_1 kB_m9 ?_
  refine G_icmp_ne (tgt := 8) C dX0_isBetter_3 (by decide) (fun h3_1 => ?_) (fun h3_1 => ?_)
  · refine G_iload_n C 1 dX0_isBetter_8 rfl rfl ?_
    refine G_callS1 C [.int (nI a)] dX0_isBetter_9 (c_J6_bitCount_0f7a4 (by omega)) wm_745 wm_586 wm_64 wm_587 ydc_J6_bitCount_0f7a4 rfl ⟨Nat.le_of_ble_eq_true rfl, Nat.le_of_ble_eq_true rfl⟩ ⟨rfl, rfl⟩ ⟨Nat.le_refl _, Nat.le_refl _⟩ (Nat.le_of_ble_eq_true rfl) rfl ?_
    refine G_iload_n C 2 dX0_isBetter_12 rfl rfl ?_
    refine G_callS1 C [.int (nI k)] dX0_isBetter_13 (c_J6_bitCount_0f7a4 (by omega)) wm_745 wm_586 wm_64 wm_587 ydc_J6_bitCount_0f7a4 rfl ⟨Nat.le_of_ble_eq_true rfl, Nat.le_of_ble_eq_true rfl⟩ ⟨rfl, rfl⟩ ⟨Nat.le_refl _, Nat.le_refl _⟩ (Nat.le_of_ble_eq_true rfl) rfl ?_
    refine G_isub C dX0_isBetter_16 ?_
    refine G_istore_n (lv' := [(3, .int ((nI (pc6 (a))) - (nI (pc6 (k))))), (0, .ref (ad 24)), (1, .int (nI a)), (2, .int (nI k))]) C dX0_isBetter_17 rfl (by decide) rfl ?_
    refine G_iload_n C 0 dX0_isBetter_18 rfl rfl ?_
    refine G_if_gt (tgt := 39) C dX0_isBetter_19 (by decide) (fun h19_2 => ?_) (fun h19_2 => ?_)
    · replace h19_2 := (sub_gt ha hk).mp h19_2
      refine G_iconst C dX0_isBetter_39 kI_1 ?_
      refine G_goto (tgt := 44) C dX0_isBetter_40 (by decide) ?_
      exact G_zret C hr dX0_isBetter_44 (by rfl) (bI_t (by rw [x_ib_some hk]; simp [h19_2])) (rfl)
    · replace h19_2 := (not_congr (sub_gt ha hk)).mp h19_2
      refine G_iload_n C 0 dX0_isBetter_22 rfl rfl ?_
      refine G_if_ne (tgt := 43) C dX0_isBetter_23 (by decide) (fun h23_3 => ?_) (fun h23_3 => ?_)
      · replace h23_3 := (not_congr (sub_z ha hk)).mp h23_3
        refine G_iconst C dX0_isBetter_43 kI_0 ?_
        exact G_zret C hr dX0_isBetter_44 (by rfl) (bI_f (by rw [x_ib_some hk]; simp [h19_2, h23_3])) (rfl)
      · replace h23_3 := (sub_z ha hk).mp h23_3
        refine G_aload_n C 1 dX0_isBetter_26 rfl rfl ?_
        refine G_iload_n C 2 dX0_isBetter_27 rfl rfl ?_
        refine G_callV1 C [.int (nI a)] 24 dX0_isBetter_28 (c_X0_worthOf hN hB) wm_517 wm_518 wm_519 wm_59 wm_520 xc_24 rfl ydc_X0_worthOf rfl ⟨Nat.le_of_ble_eq_true rfl, Nat.le_of_ble_eq_true rfl⟩ ⟨rfl, rfl⟩ ⟨Nat.le_refl _, Nat.le_refl _⟩ (Nat.le_of_ble_eq_true rfl) rfl ?_
        refine G_aload_n C 1 dX0_isBetter_31 rfl rfl ?_
        refine G_iload_n C 3 dX0_isBetter_32 rfl rfl ?_
        refine G_callV1 C [.int (nI k)] 24 dX0_isBetter_33 (c_X0_worthOf hN hB) wm_517 wm_518 wm_519 wm_59 wm_520 xc_24 rfl ydc_X0_worthOf rfl ⟨Nat.le_of_ble_eq_true rfl, Nat.le_of_ble_eq_true rfl⟩ ⟨rfl, rfl⟩ ⟨Nat.le_refl _, Nat.le_refl _⟩ (Nat.le_of_ble_eq_true rfl) rfl ?_
        refine G_icmp_leN (tgt := 43) C dX0_isBetter_36 (by decide) (Nat.lt_of_le_of_lt (x_wo_le hB hN _) (by decide)) (Nat.lt_of_le_of_lt (x_wo_le hB hN _) (by decide)) (fun h36_4 => ?_) (fun h36_4 => ?_)
        · refine G_iconst C dX0_isBetter_43 kI_0 ?_
          exact G_zret C hr dX0_isBetter_44 (by rfl) (bI_f (by rw [x_ib_some hk]; simp [h19_2, h23_3, Nat.not_lt.mpr h36_4])) (rfl)
        · refine G_iconst C dX0_isBetter_39 kI_1 ?_
          refine G_goto (tgt := 44) C dX0_isBetter_40 (by decide) ?_
          exact G_zret C hr dX0_isBetter_44 (by rfl) (bI_t (by rw [x_ib_some hk]; simp [h19_2, h23_3, h36_4])) (rfl)
  · exact absurd h3_1 (nI_n9 k hk)
theorem c_X0_isBetter {a : Nat} {b : Int32} (ha : a < 64) (hb0 : oS b) (hN : M 9 5 ≤ 6) (hB : ∀ k j, M k j < 1024) : CT l yX0_isBetter cX0_isBetter 4 (some .boolean) (rmOf 2 44) D (tyI cI cZ) [.ref (ad 24), .int (nI a), .int b] (wX cI cZ ad M t) (some (.int (nI (bN (x_ib M a b))))) (wX cI cZ ad M t) := by
  rcases hb0 with rfl | ⟨k, hk, rfl⟩
  · exact c_X0_isBetter_0
  · exact c_X0_isBetter_1 ha hk hN hB
set_option maxHeartbeats 4000000 in
set_option maxRecDepth 100000 in
theorem c_X0_bestSet  (hN : M 9 5 ≤ 6) (hB : ∀ k j, M k j < 1024) : CT l yX0_bestSet cX0_bestSet 5 (some .int) (rmOf 3 67) D (tyI cI cZ) [.ref (ad 24)] (wX cI cZ ad M t) (some (.int (x_bs M))) (wX cI cZ ad M t) := by
  refine CT_of (own := "FalseParity$Board") (by decide) rfl (Nat.le_of_ble_eq_true rfl) (fun p e s m args below meth c C hr => ?_)
  refine G_aload_n C 0 dX0_bestSet_0 rfl rfl ?_
  refine G_callV1 C [] 24 dX0_bestSet_1 (c_X0_falseNotes hN hB) wm_526 wm_528 wm_16 wm_59 wm_529 xc_24 rfl ydc_X0_falseNotes rfl ⟨Nat.le_of_ble_eq_true rfl, Nat.le_of_ble_eq_true rfl⟩ ⟨rfl, rfl⟩ ⟨Nat.le_refl _, Nat.le_refl _⟩ (Nat.le_of_ble_eq_true rfl) rfl ?_
  refine G_aload_n C 0 dX0_bestSet_4 rfl rfl ?_
  refine G_get (v := .ref (ad 14)) C 24 1 dX0_bestSet_5 xc_24 rfl inG0 (by decide) wm_260 rfl rfl ?_
  refine G_callV1 C [] 14 dX0_bestSet_8 c_X6_away wm_516 wm_505 wm_506 wm_54 wm_507 xc_14 rfl ydc_X6_away rfl ⟨Nat.le_of_ble_eq_true rfl, Nat.le_of_ble_eq_true rfl⟩ ⟨rfl, rfl⟩ ⟨Nat.le_refl _, Nat.le_refl _⟩ (Nat.le_of_ble_eq_true rfl) rfl ?_
  refine G_iconst C dX0_bestSet_11 kI_m1 ?_
  refine G_ixor C dX0_bestSet_12 ?_
  refine G_iand C dX0_bestSet_13 ?_
  refine G_aload_n C 0 dX0_bestSet_14 rfl rfl ?_
  refine G_get (v := .ref (ad 14)) C 24 1 dX0_bestSet_15 xc_24 rfl inG0 (by decide) wm_260 rfl rfl ?_
  refine G_callV1 C [] 14 dX0_bestSet_18 c_X6_parity wm_739 wm_501 wm_502 wm_54 wm_503 xc_14 rfl ydc_X6_parity rfl ⟨Nat.le_of_ble_eq_true rfl, Nat.le_of_ble_eq_true rfl⟩ ⟨rfl, rfl⟩ ⟨Nat.le_refl _, Nat.le_refl _⟩ (Nat.le_of_ble_eq_true rfl) rfl ?_
  refine G_iconst C dX0_bestSet_21 kI_m1 ?_
  refine G_ixor C dX0_bestSet_22 ?_
  refine G_iand C dX0_bestSet_23 ?_
  refine G_top (y := x_open M) rfl ?_
  refine G_istore_n (lv' := [(1, .int (x_open M)), (0, .ref (ad 24))]) C dX0_bestSet_24 rfl (by decide) rfl ?_
  refine G_aload_n C 1 dX0_bestSet_25 rfl rfl ?_
  refine G_get (v := .ref (ad 9)) C 24 0 dX0_bestSet_26 xc_24 rfl inG0 (by decide) wm_259 rfl rfl ?_
  refine G_getN (v := .int (nI (M 9 7))) C 9 7 dX0_bestSet_29 xc_9 rfl inG1 (by decide) wn_132 rfl rfl ?_
  refine G_aload_n C 1 dX0_bestSet_32 rfl rfl ?_
  refine G_callV1 C [] 24 dX0_bestSet_33 (c_X0_worthOfAll hN hB) wm_740 wm_513 wm_514 wm_59 wm_515 xc_24 rfl ydc_X0_worthOfAll rfl ⟨Nat.le_of_ble_eq_true rfl, Nat.le_of_ble_eq_true rfl⟩ ⟨rfl, rfl⟩ ⟨Nat.le_refl _, Nat.le_refl _⟩ (Nat.le_of_ble_eq_true rfl) rfl ?_
  refine G_imulN C dX0_bestSet_36 ?_
  refine G_bipush C dX0_bestSet_37 kB_10 ?_
  refine G_aload_n C 1 dX0_bestSet_39 rfl rfl ?_
  refine G_aload_n C 1 dX0_bestSet_40 rfl rfl ?_
  refine G_get (v := .ref (ad 14)) C 24 1 dX0_bestSet_41 xc_24 rfl inG0 (by decide) wm_260 rfl rfl ?_
  refine G_callV1 C [] 14 dX0_bestSet_44 c_X6_parity wm_739 wm_501 wm_502 wm_54 wm_503 xc_14 rfl ydc_X6_parity rfl ⟨Nat.le_of_ble_eq_true rfl, Nat.le_of_ble_eq_true rfl⟩ ⟨rfl, rfl⟩ ⟨Nat.le_refl _, Nat.le_refl _⟩ (Nat.le_of_ble_eq_true rfl) rfl ?_
  refine G_aload_n C 1 dX0_bestSet_47 rfl rfl ?_
  refine G_get (v := .ref (ad 14)) C 24 1 dX0_bestSet_48 xc_24 rfl inG0 (by decide) wm_260 rfl rfl ?_
  refine G_callV1 C [] 14 dX0_bestSet_51 c_X6_away wm_516 wm_505 wm_506 wm_54 wm_507 xc_14 rfl ydc_X6_away rfl ⟨Nat.le_of_ble_eq_true rfl, Nat.le_of_ble_eq_true rfl⟩ ⟨rfl, rfl⟩ ⟨Nat.le_refl _, Nat.le_refl _⟩ (Nat.le_of_ble_eq_true rfl) rfl ?_
  refine G_iconst C dX0_bestSet_54 kI_m1 ?_
  refine G_ixor C dX0_bestSet_55 ?_
  refine G_iand C dX0_bestSet_56 ?_
  refine G_callV1 C [.int ((nI (M 15 17)) &&& ((nI (M 15 18)) ^^^ (-1)))] 24 dX0_bestSet_57 (c_X0_worthOf hN hB) wm_517 wm_518 wm_519 wm_59 wm_520 xc_24 rfl ydc_X0_worthOf rfl ⟨Nat.le_of_ble_eq_true rfl, Nat.le_of_ble_eq_true rfl⟩ ⟨rfl, rfl⟩ ⟨Nat.le_refl _, Nat.le_refl _⟩ (Nat.le_of_ble_eq_true rfl) rfl ?_
  refine G_imulN C dX0_bestSet_60 ?_
  refine G_isub C dX0_bestSet_61 ?_
  refine G_top (y := x_room M) rfl ?_
  refine G_istore_n (lv' := [(2, .int (x_room M)), (1, .int (x_open M)), (0, .ref (ad 24))]) C dX0_bestSet_62 rfl (by decide) rfl ?_
  refine G_bipush C dX0_bestSet_63 kB_m9 ?_
  refine G_istore_n (lv' := [(3, .int (-9)), (2, .int (x_room M)), (1, .int (x_open M)), (0, .ref (ad 24))]) C dX0_bestSet_65 rfl (by decide) rfl ?_
  refine G_iconst C dX0_bestSet_66 kI_0 ?_
  refine G_istore (lv' := [(4, .int (nI 0)), (3, .int (-9)), (2, .int (x_room M)), (1, .int (x_open M)), (0, .ref (ad 24))]) C dX0_bestSet_67 (by decide) rfl ?_
  refine G_pick (lv' := [(0, .ref (ad 24)), (1, .int (x_open M)), (2, .int (x_room M)), (3, .int (-9)), (4, .int (nI 0))]) [4, 3, 2, 1, 0] rfl ?_
  refine loopN (P := fun a => ∀ b : Int32, (b = x_bsf M a) → (oS b) → G p l e (rmOf 3 67) s m args below meth c D _ 5 0 0 _ 69 [(0, .ref (ad 24)), (1, .int (x_open M)), (2, .int (x_room M)), (3, .int (b)), (4, .int (nI a))] [] (wX cI cZ ad M t)) (64) ?_ ?_ 0 (Nat.zero_le _) (-9) rfl (Or.inl rfl)
  · intro b hi1_0 hi1_1
    refine G_iload C 4 dX0_bestSet_69 rfl ?_
    refine G_bipush C dX0_bestSet_71 kB_64 ?_
    refine G_icmp_geN (tgt := 117) C dX0_bestSet_73 (by decide) (by decide) (by decide) (fun h73_2 => ?_) (fun h73_2 => ?_)
    · refine G_iload_n C 3 dX0_bestSet_117 rfl rfl ?_
      exact G_iret C hr dX0_bestSet_118 (by rw [hi1_0]; rfl) (rfl)
    · exact absurd h73_2 (by decide)
  · intro a ha64 ih1 b hi1_0 hi1_1
    refine G_iload C 4 dX0_bestSet_69 rfl ?_
    refine G_bipush C dX0_bestSet_71 kB_64 ?_
    refine G_icmp_geN (tgt := 117) C dX0_bestSet_73 (by decide) (by omega) (by decide) (fun h73_3 => ?_) (fun h73_3 => ?_)
    · exfalso; omega
    · refine G_iload C 4 dX0_bestSet_76 rfl ?_
      refine G_iload_n C 1 dX0_bestSet_78 rfl rfl ?_
      refine G_iconst C dX0_bestSet_79 kI_m1 ?_
      refine G_ixor C dX0_bestSet_80 ?_
      refine G_iand C dX0_bestSet_81 ?_
      refine G_if_ne (tgt := 111) C dX0_bestSet_82 (by decide) (fun h82_4 => ?_) (fun h82_4 => ?_)
      · refine G_iincN (lv' := [(4, .int (nI (a + 1))), (0, .ref (ad 24)), (1, .int (x_open M)), (2, .int (x_room M)), (3, .int (b))]) C 4 dX0_bestSet_111 rfl (by decide) rfl ?_
        refine G_goto (tgt := 69) C dX0_bestSet_114 (by decide) ?_
        refine G_pick (lv' := [(0, .ref (ad 24)), (1, .int (x_open M)), (2, .int (x_room M)), (3, .int (b)), (4, .int (nI (a + 1)))]) [1, 2, 3, 4, 0] rfl ?_
        exact ih1 _ (by rw [x_bsf_s, ← hi1_0]; exact (if_neg (fun q => h82_4 q.1)).symm) hi1_1
      · refine G_bipush C dX0_bestSet_85 kB_10 ?_
        refine G_aload_n C 0 dX0_bestSet_87 rfl rfl ?_
        refine G_iload C 4 dX0_bestSet_88 rfl ?_
        refine G_callV1 C [.int (nI a)] 24 dX0_bestSet_90 (c_X0_worthOf hN hB) wm_517 wm_518 wm_519 wm_59 wm_520 xc_24 rfl ydc_X0_worthOf rfl ⟨Nat.le_of_ble_eq_true rfl, Nat.le_of_ble_eq_true rfl⟩ ⟨rfl, rfl⟩ ⟨Nat.le_refl _, Nat.le_refl _⟩ (Nat.le_of_ble_eq_true rfl) rfl ?_
        refine G_imulN C dX0_bestSet_93 ?_
        refine G_iload_n C 2 dX0_bestSet_94 rfl rfl ?_
        refine G_icmp_gt (tgt := 111) C dX0_bestSet_95 (by decide) (fun h95_5 => ?_) (fun h95_5 => ?_)
        · refine G_iincN (lv' := [(4, .int (nI (a + 1))), (0, .ref (ad 24)), (1, .int (x_open M)), (2, .int (x_room M)), (3, .int (b))]) C 4 dX0_bestSet_111 rfl (by decide) rfl ?_
          refine G_goto (tgt := 69) C dX0_bestSet_114 (by decide) ?_
          refine G_pick (lv' := [(0, .ref (ad 24)), (1, .int (x_open M)), (2, .int (x_room M)), (3, .int (b)), (4, .int (nI (a + 1)))]) [1, 2, 3, 4, 0] rfl ?_
          exact ih1 _ (by rw [x_bsf_s, ← hi1_0]; exact (if_neg (fun q => q.2.1 h95_5)).symm) hi1_1
        · refine G_aload_n C 0 dX0_bestSet_98 rfl rfl ?_
          refine G_iload C 4 dX0_bestSet_99 rfl ?_
          refine G_iload_n C 3 dX0_bestSet_101 rfl rfl ?_
          refine G_callV1 C [.int (nI a), .int (b)] 24 dX0_bestSet_102 (c_X0_isBetter (by omega) hi1_1 hN hB) wm_741 wm_743 wm_24 wm_59 wm_744 xc_24 rfl ydc_X0_isBetter rfl ⟨Nat.le_of_ble_eq_true rfl, Nat.le_of_ble_eq_true rfl⟩ ⟨rfl, rfl⟩ ⟨Nat.le_refl _, Nat.le_refl _⟩ (Nat.le_of_ble_eq_true rfl) rfl ?_
          refine G_if_eqB (tgt := 111) C dX0_bestSet_105 (by decide) (fun h105_6 => ?_) (fun h105_6 => ?_)
          · refine G_iincN (lv' := [(4, .int (nI (a + 1))), (0, .ref (ad 24)), (1, .int (x_open M)), (2, .int (x_room M)), (3, .int (b))]) C 4 dX0_bestSet_111 rfl (by decide) rfl ?_
            refine G_goto (tgt := 69) C dX0_bestSet_114 (by decide) ?_
            refine G_pick (lv' := [(0, .ref (ad 24)), (1, .int (x_open M)), (2, .int (x_room M)), (3, .int (b)), (4, .int (nI (a + 1)))]) [1, 2, 3, 4, 0] rfl ?_
            exact ih1 _ (by rw [x_bsf_s, ← hi1_0]; exact (if_neg (fun q => by rw [h105_6] at q; exact absurd q.2.2 (by decide))).symm) hi1_1
          · refine G_iload C 4 dX0_bestSet_108 rfl ?_
            refine G_istore_n (lv' := [(3, .int (nI a)), (0, .ref (ad 24)), (1, .int (x_open M)), (2, .int (x_room M)), (4, .int (nI a))]) C dX0_bestSet_110 rfl (by decide) rfl ?_
            refine G_iincN (lv' := [(4, .int (nI (a + 1))), (3, .int (nI a)), (0, .ref (ad 24)), (1, .int (x_open M)), (2, .int (x_room M))]) C 4 dX0_bestSet_111 rfl (by decide) rfl ?_
            refine G_goto (tgt := 69) C dX0_bestSet_114 (by decide) ?_
            refine G_pick (lv' := [(0, .ref (ad 24)), (1, .int (x_open M)), (2, .int (x_room M)), (3, .int (nI a)), (4, .int (nI (a + 1)))]) [2, 3, 4, 1, 0] rfl ?_
            exact ih1 _ (by rw [x_bsf_s, ← hi1_0]; exact (if_pos ⟨h82_4, h95_5, h105_6⟩).symm) (Or.inr ⟨a, by omega, rfl⟩)
set_option maxHeartbeats 4000000 in
set_option maxRecDepth 100000 in
theorem c_X4_asNote {n : Nat} (hn : n < 6) : CT l yX4_asNote cX4_asNote 2 (some .int) (rmOf 0 0) D (tyI cI cZ) [.ref (ad 27), .int (nI n)] (wX cI cZ ad M t) (some (.int (nI (M 11 n)))) (wX cI cZ ad M (t + 1)) := by
  refine CT_of (own := "FalseParity$Kinds") (by decide) rfl (Nat.le_of_ble_eq_true rfl) (fun p e s m args below meth c C hr => ?_)
  refine G_aload_n C 0 dX4_asNote_0 rfl rfl ?_
  refine G_dup C dX4_asNote_1 rfl ?_
  refine G_get (v := .long (t)) C 27 2 dX4_asNote_2 xc_27 rfl inG4 (by decide) wm_284 rfl rfl ?_
  refine G_lconst (v := 1) C dX4_asNote_5 (by decide) ?_
  refine G_ladd C dX4_asNote_6 ?_
  refine G_put (w' := wX cI cZ ad M (t + 1)) (ty := .long) C 27 2 tyX4 dX4_asNote_7 xc_27 rfl inG4 tyX4_ok nmX4 (by decide) wm_284 rfl rfl (by decide +kernel) rfl rfl (Nat.le_of_ble_eq_true rfl) (xp_27_2 _ _) ?_
  refine G_aload_n C 0 dX4_asNote_10 rfl rfl ?_
  refine G_get (v := .ref (ad 9)) C 27 0 dX4_asNote_11 xc_27 rfl inG4 (by decide) wm_282 rfl rfl ?_
  refine G_getN (v := .ref (ad 11)) C 9 1 dX4_asNote_14 xc_9 rfl inG1 (by decide) wn_106 rfl rfl ?_
  refine G_iload_n C 1 dX4_asNote_17 rfl rfl ?_
  refine G_iald (v := nI (M 11 n)) C 11 0 dX4_asNote_18 xc_11 rfl (by omega) (by decide) rfl ?_
  exact G_iret C hr dX4_asNote_19 (rfl) (rfl)
set_option maxHeartbeats 4000000 in
set_option maxRecDepth 100000 in
theorem c_X4_asTwenty {n : Nat} (hn : n < 6) : CT l yX4_asTwenty cX4_asTwenty 2 (some .int) (rmOf 1 21) D (tyI cI cZ) [.ref (ad 27), .int (nI n)] (wX cI cZ ad M t) (some (.int (nI (M 11 n + M 15 (6 + n))))) (wX cI cZ ad M (t + 10 + 1)) := by
  refine CT_of (own := "FalseParity$Kinds") (by decide) rfl (Nat.le_of_ble_eq_true rfl) (fun p e s m args below meth c C hr => ?_)
  refine G_aload_n C 0 dX4_asTwenty_0 rfl rfl ?_
  refine G_dup C dX4_asTwenty_1 rfl ?_
  refine G_get (v := .long (t)) C 27 2 dX4_asTwenty_2 xc_27 rfl inG4 (by decide) wm_284 rfl rfl ?_
  refine G_ldc2 C dX4_asTwenty_5 wm_763 ?_
  refine G_ladd C dX4_asTwenty_8 ?_
  refine G_put (w' := wX cI cZ ad M (t + 10)) (ty := .long) C 27 2 tyX4 dX4_asTwenty_9 xc_27 rfl inG4 tyX4_ok nmX4 (by decide) wm_284 rfl rfl (by decide +kernel) rfl rfl (Nat.le_of_ble_eq_true rfl) (xp_27_2 _ _) ?_
  refine G_aload_n C 0 dX4_asTwenty_12 rfl rfl ?_
  refine G_iload_n C 1 dX4_asTwenty_13 rfl rfl ?_
  refine G_callV1 (w' := wX cI cZ ad M ((t + 10) + 1)) C [.int (nI n)] 27 dX4_asTwenty_14 (c_X4_asNote (by omega)) wm_755 wm_757 wm_25 wm_60 wm_758 xc_27 rfl ydc_X4_asNote rfl ⟨Nat.le_of_ble_eq_true rfl, Nat.le_of_ble_eq_true rfl⟩ ⟨rfl, rfl⟩ ⟨Nat.le_refl _, Nat.le_refl _⟩ (Nat.le_of_ble_eq_true rfl) rfl ?_
  refine G_aload_n C 0 dX4_asTwenty_17 rfl rfl ?_
  refine G_get (v := .ref (ad 14)) C 27 1 dX4_asTwenty_18 xc_27 rfl inG4 (by decide) wm_283 rfl rfl ?_
  refine G_iload_n C 1 dX4_asTwenty_21 rfl rfl ?_
  refine G_callV1 C [.int (nI n)] 14 dX4_asTwenty_22 (c_X6_uses (by omega)) wm_764 wm_456 wm_457 wm_54 wm_458 xc_14 rfl ydc_X6_uses rfl ⟨Nat.le_of_ble_eq_true rfl, Nat.le_of_ble_eq_true rfl⟩ ⟨rfl, rfl⟩ ⟨Nat.le_refl _, Nat.le_refl _⟩ (Nat.le_of_ble_eq_true rfl) rfl ?_
  refine G_iaddN C dX4_asTwenty_25 ?_
  exact G_iret C hr dX4_asTwenty_26 (rfl) (rfl)
set_option maxHeartbeats 4000000 in
set_option maxRecDepth 100000 in
theorem c_X4_asQueen {n : Nat} (hn : n < 6) (hm : M 12 n < 64) : CT l yX4_asQueen cX4_asQueen 2 (some .int) (rmOf 1 21) D (tyI cI cZ) [.ref (ad 27), .int (nI n)] (wX cI cZ ad M t) (some (.int (nI (M 11 n) - nI (pc6 (M 12 n))))) (wX cI cZ ad M (t + 100 + 1)) := by
  refine CT_of (own := "FalseParity$Kinds") (by decide) rfl (Nat.le_of_ble_eq_true rfl) (fun p e s m args below meth c C hr => ?_)
  refine G_aload_n C 0 dX4_asQueen_0 rfl rfl ?_
  refine G_dup C dX4_asQueen_1 rfl ?_
  refine G_get (v := .long (t)) C 27 2 dX4_asQueen_2 xc_27 rfl inG4 (by decide) wm_284 rfl rfl ?_
  refine G_ldc2 C dX4_asQueen_5 wm_769 ?_
  refine G_ladd C dX4_asQueen_8 ?_
  refine G_put (w' := wX cI cZ ad M (t + 100)) (ty := .long) C 27 2 tyX4 dX4_asQueen_9 xc_27 rfl inG4 tyX4_ok nmX4 (by decide) wm_284 rfl rfl (by decide +kernel) rfl rfl (Nat.le_of_ble_eq_true rfl) (xp_27_2 _ _) ?_
  refine G_aload_n C 0 dX4_asQueen_12 rfl rfl ?_
  refine G_iload_n C 1 dX4_asQueen_13 rfl rfl ?_
  refine G_callV1 (w' := wX cI cZ ad M ((t + 100) + 1)) C [.int (nI n)] 27 dX4_asQueen_14 (c_X4_asNote (by omega)) wm_755 wm_757 wm_25 wm_60 wm_758 xc_27 rfl ydc_X4_asNote rfl ⟨Nat.le_of_ble_eq_true rfl, Nat.le_of_ble_eq_true rfl⟩ ⟨rfl, rfl⟩ ⟨Nat.le_refl _, Nat.le_refl _⟩ (Nat.le_of_ble_eq_true rfl) rfl ?_
  refine G_aload_n C 0 dX4_asQueen_17 rfl rfl ?_
  refine G_get (v := .ref (ad 9)) C 27 0 dX4_asQueen_18 xc_27 rfl inG4 (by decide) wm_282 rfl rfl ?_
  refine G_getN (v := .ref (ad 12)) C 9 2 dX4_asQueen_21 xc_9 rfl inG1 (by decide) wn_111 rfl rfl ?_
  refine G_iload_n C 1 dX4_asQueen_24 rfl rfl ?_
  refine G_iald (v := nI (M 12 n)) C 12 0 dX4_asQueen_25 xc_12 rfl (by omega) (by decide) rfl ?_
  refine G_callS1 C [.int (nI (M 12 n))] dX4_asQueen_26 (c_J6_bitCount_0f7a4 hm) wm_770 wm_586 wm_64 wm_587 ydc_J6_bitCount_0f7a4 rfl ⟨Nat.le_of_ble_eq_true rfl, Nat.le_of_ble_eq_true rfl⟩ ⟨rfl, rfl⟩ ⟨Nat.le_refl _, Nat.le_refl _⟩ (Nat.le_of_ble_eq_true rfl) rfl ?_
  refine G_isub C dX4_asQueen_29 ?_
  exact G_iret C hr dX4_asQueen_30 (rfl) (rfl)
set_option maxHeartbeats 4000000 in
set_option maxRecDepth 100000 in
theorem c_X4_asAccent {n : Nat} (hn : n < 6) : CT l yX4_asAccent cX4_asAccent 2 (some .int) (rmOf 2 42) D (tyI cI cZ) [.ref (ad 27), .int (nI n)] (wX cI cZ ad M t) (some (.int (nI (2 * (M 11 n + M 15 (6 + n)))))) (wX cI cZ ad M (t + 1000 + 10 + 1)) := by
  refine CT_of (own := "FalseParity$Kinds") (by decide) rfl (Nat.le_of_ble_eq_true rfl) (fun p e s m args below meth c C hr => ?_)
  refine G_aload_n C 0 dX4_asAccent_0 rfl rfl ?_
  refine G_dup C dX4_asAccent_1 rfl ?_
  refine G_get (v := .long (t)) C 27 2 dX4_asAccent_2 xc_27 rfl inG4 (by decide) wm_284 rfl rfl ?_
  refine G_ldc2 C dX4_asAccent_5 wm_775 ?_
  refine G_ladd C dX4_asAccent_8 ?_
  refine G_put (w' := wX cI cZ ad M (t + 1000)) (ty := .long) C 27 2 tyX4 dX4_asAccent_9 xc_27 rfl inG4 tyX4_ok nmX4 (by decide) wm_284 rfl rfl (by decide +kernel) rfl rfl (Nat.le_of_ble_eq_true rfl) (xp_27_2 _ _) ?_
  refine G_iconst C dX4_asAccent_12 kI_2 ?_
  refine G_aload_n C 0 dX4_asAccent_13 rfl rfl ?_
  refine G_iload_n C 1 dX4_asAccent_14 rfl rfl ?_
  refine G_callV1 (w' := wX cI cZ ad M ((t + 1000) + 10 + 1)) C [.int (nI n)] 27 dX4_asAccent_15 (c_X4_asTwenty (by omega)) wm_759 wm_761 wm_26 wm_60 wm_762 xc_27 rfl ydc_X4_asTwenty rfl ⟨Nat.le_of_ble_eq_true rfl, Nat.le_of_ble_eq_true rfl⟩ ⟨rfl, rfl⟩ ⟨Nat.le_refl _, Nat.le_refl _⟩ (Nat.le_of_ble_eq_true rfl) rfl ?_
  refine G_imulN C dX4_asAccent_18 ?_
  exact G_iret C hr dX4_asAccent_19 (rfl) (rfl)
set_option maxHeartbeats 4000000 in
set_option maxRecDepth 100000 in
theorem c_X4_asNose {n : Nat} (hn : n < 6) (hm : M 12 n < 64) : CT l yX4_asNose cX4_asNose 2 (some .int) (rmOf 2 42) D (tyI cI cZ) [.ref (ad 27), .int (nI n)] (wX cI cZ ad M t) (some (.int ((nI (M 11 n) - nI (pc6 (M 12 n))) + nI n))) (wX cI cZ ad M (t + 10000 + 100 + 1)) := by
  refine CT_of (own := "FalseParity$Kinds") (by decide) rfl (Nat.le_of_ble_eq_true rfl) (fun p e s m args below meth c C hr => ?_)
  refine G_aload_n C 0 dX4_asNose_0 rfl rfl ?_
  refine G_dup C dX4_asNose_1 rfl ?_
  refine G_get (v := .long (t)) C 27 2 dX4_asNose_2 xc_27 rfl inG4 (by decide) wm_284 rfl rfl ?_
  refine G_ldc2 C dX4_asNose_5 wm_780 ?_
  refine G_ladd C dX4_asNose_8 ?_
  refine G_put (w' := wX cI cZ ad M (t + 10000)) (ty := .long) C 27 2 tyX4 dX4_asNose_9 xc_27 rfl inG4 tyX4_ok nmX4 (by decide) wm_284 rfl rfl (by decide +kernel) rfl rfl (Nat.le_of_ble_eq_true rfl) (xp_27_2 _ _) ?_
  refine G_aload_n C 0 dX4_asNose_12 rfl rfl ?_
  refine G_iload_n C 1 dX4_asNose_13 rfl rfl ?_
  refine G_callV1 (w' := wX cI cZ ad M ((t + 10000) + 100 + 1)) C [.int (nI n)] 27 dX4_asNose_14 (c_X4_asQueen (by omega) hm) wm_765 wm_767 wm_27 wm_60 wm_768 xc_27 rfl ydc_X4_asQueen rfl ⟨Nat.le_of_ble_eq_true rfl, Nat.le_of_ble_eq_true rfl⟩ ⟨rfl, rfl⟩ ⟨Nat.le_refl _, Nat.le_refl _⟩ (Nat.le_of_ble_eq_true rfl) rfl ?_
  refine G_iload_n C 1 dX4_asNose_17 rfl rfl ?_
  refine G_iadd C dX4_asNose_18 ?_
  exact G_iret C hr dX4_asNose_19 (rfl) (rfl)
set_option maxHeartbeats 4000000 in
set_option maxRecDepth 100000 in
theorem c_X4_asPaper {n : Nat} (hn : n < 6) : CT l yX4_asPaper cX4_asPaper 2 (some .int) (rmOf 1 21) D (tyI cI cZ) [.ref (ad 27), .int (nI n)] (wX cI cZ ad M t) (some (.int (nI (M 11 n + M 15 19)))) (wX cI cZ ad M (t + 100000 + 1)) := by
  refine CT_of (own := "FalseParity$Kinds") (by decide) rfl (Nat.le_of_ble_eq_true rfl) (fun p e s m args below meth c C hr => ?_)
  refine G_aload_n C 0 dX4_asPaper_0 rfl rfl ?_
  refine G_dup C dX4_asPaper_1 rfl ?_
  refine G_get (v := .long (t)) C 27 2 dX4_asPaper_2 xc_27 rfl inG4 (by decide) wm_284 rfl rfl ?_
  refine G_ldc2 C dX4_asPaper_5 wm_785 ?_
  refine G_ladd C dX4_asPaper_8 ?_
  refine G_put (w' := wX cI cZ ad M (t + 100000)) (ty := .long) C 27 2 tyX4 dX4_asPaper_9 xc_27 rfl inG4 tyX4_ok nmX4 (by decide) wm_284 rfl rfl (by decide +kernel) rfl rfl (Nat.le_of_ble_eq_true rfl) (xp_27_2 _ _) ?_
  refine G_aload_n C 0 dX4_asPaper_12 rfl rfl ?_
  refine G_iload_n C 1 dX4_asPaper_13 rfl rfl ?_
  refine G_callV1 (w' := wX cI cZ ad M ((t + 100000) + 1)) C [.int (nI n)] 27 dX4_asPaper_14 (c_X4_asNote (by omega)) wm_755 wm_757 wm_25 wm_60 wm_758 xc_27 rfl ydc_X4_asNote rfl ⟨Nat.le_of_ble_eq_true rfl, Nat.le_of_ble_eq_true rfl⟩ ⟨rfl, rfl⟩ ⟨Nat.le_refl _, Nat.le_refl _⟩ (Nat.le_of_ble_eq_true rfl) rfl ?_
  refine G_aload_n C 0 dX4_asPaper_17 rfl rfl ?_
  refine G_get (v := .ref (ad 14)) C 27 1 dX4_asPaper_18 xc_27 rfl inG4 (by decide) wm_283 rfl rfl ?_
  refine G_callV1 C [] 14 dX4_asPaper_21 c_X6_refused wm_786 wm_509 wm_510 wm_54 wm_511 xc_14 rfl ydc_X6_refused rfl ⟨Nat.le_of_ble_eq_true rfl, Nat.le_of_ble_eq_true rfl⟩ ⟨rfl, rfl⟩ ⟨Nat.le_refl _, Nat.le_refl _⟩ (Nat.le_of_ble_eq_true rfl) rfl ?_
  refine G_iaddN C dX4_asPaper_24 ?_
  exact G_iret C hr dX4_asPaper_25 (rfl) (rfl)
set_option maxHeartbeats 4000000 in
set_option maxRecDepth 100000 in
theorem c_X4_rateAs {k : Int32} {n : Nat} (hn : n < 6) (hm : M 12 n < 64) : CT l yX4_rateAs cX4_rateAs 3 (some .int) (rmOf 3 63) D (tyI cI cZ) [.ref (ad 27), .int (k), .int (nI n)] (wX cI cZ ad M t) (some (.int (x_rate M k n))) (wX cI cZ ad M (x_tr k t)) := by
  refine CT_of (own := "FalseParity$Kinds") (by decide) rfl (Nat.le_of_ble_eq_true rfl) (fun p e s m args below meth c C hr => ?_)
  refine G_iload_n C 1 dX4_rateAs_0 rfl rfl ?_
  by_cases h1_1_0 : k = 0
  · refine G_top h1_1_0 ?_
    refine G_tableIn (tgt := 40) C dX4_rateAs_1 (by decide) (by decide) rfl (by decide) ?_
    refine G_aload_n C 0 dX4_rateAs_40 rfl rfl ?_
    refine G_iload_n C 2 dX4_rateAs_41 rfl rfl ?_
    refine G_callV1 (w' := wX cI cZ ad M ((t) + 1)) C [.int (nI n)] 27 dX4_rateAs_42 (c_X4_asNote (by omega)) wm_755 wm_757 wm_25 wm_60 wm_758 xc_27 rfl ydc_X4_asNote rfl ⟨Nat.le_of_ble_eq_true rfl, Nat.le_of_ble_eq_true rfl⟩ ⟨rfl, rfl⟩ ⟨Nat.le_refl _, Nat.le_refl _⟩ (Nat.le_of_ble_eq_true rfl) rfl ?_
    exact G_iret C hr dX4_rateAs_45 (by simp [x_rate, h1_1_0]) (by simp [x_tr, h1_1_0])
  by_cases h1_1_1 : k = 1
  · refine G_top h1_1_1 ?_
    refine G_tableIn (tgt := 46) C dX4_rateAs_1 (by decide) (by decide) rfl (by decide) ?_
    refine G_aload_n C 0 dX4_rateAs_46 rfl rfl ?_
    refine G_iload_n C 2 dX4_rateAs_47 rfl rfl ?_
    refine G_callV1 (w' := wX cI cZ ad M ((t) + 10 + 1)) C [.int (nI n)] 27 dX4_rateAs_48 (c_X4_asTwenty (by omega)) wm_759 wm_761 wm_26 wm_60 wm_762 xc_27 rfl ydc_X4_asTwenty rfl ⟨Nat.le_of_ble_eq_true rfl, Nat.le_of_ble_eq_true rfl⟩ ⟨rfl, rfl⟩ ⟨Nat.le_refl _, Nat.le_refl _⟩ (Nat.le_of_ble_eq_true rfl) rfl ?_
    exact G_iret C hr dX4_rateAs_51 (by simp [x_rate, h1_1_1]) (by simp [x_tr, h1_1_1])
  by_cases h1_1_2 : k = 2
  · refine G_top h1_1_2 ?_
    refine G_tableIn (tgt := 52) C dX4_rateAs_1 (by decide) (by decide) rfl (by decide) ?_
    refine G_aload_n C 0 dX4_rateAs_52 rfl rfl ?_
    refine G_iload_n C 2 dX4_rateAs_53 rfl rfl ?_
    refine G_callV1 (w' := wX cI cZ ad M ((t) + 100 + 1)) C [.int (nI n)] 27 dX4_rateAs_54 (c_X4_asQueen (by omega) hm) wm_765 wm_767 wm_27 wm_60 wm_768 xc_27 rfl ydc_X4_asQueen rfl ⟨Nat.le_of_ble_eq_true rfl, Nat.le_of_ble_eq_true rfl⟩ ⟨rfl, rfl⟩ ⟨Nat.le_refl _, Nat.le_refl _⟩ (Nat.le_of_ble_eq_true rfl) rfl ?_
    exact G_iret C hr dX4_rateAs_57 (by simp [x_rate, h1_1_2]) (by simp [x_tr, h1_1_2])
  by_cases h1_1_3 : k = 3
  · refine G_top h1_1_3 ?_
    refine G_tableIn (tgt := 58) C dX4_rateAs_1 (by decide) (by decide) rfl (by decide) ?_
    refine G_aload_n C 0 dX4_rateAs_58 rfl rfl ?_
    refine G_iload_n C 2 dX4_rateAs_59 rfl rfl ?_
    refine G_callV1 (w' := wX cI cZ ad M ((t) + 1000 + 10 + 1)) C [.int (nI n)] 27 dX4_rateAs_60 (c_X4_asAccent (by omega)) wm_771 wm_773 wm_28 wm_60 wm_774 xc_27 rfl ydc_X4_asAccent rfl ⟨Nat.le_of_ble_eq_true rfl, Nat.le_of_ble_eq_true rfl⟩ ⟨rfl, rfl⟩ ⟨Nat.le_refl _, Nat.le_refl _⟩ (Nat.le_of_ble_eq_true rfl) rfl ?_
    exact G_iret C hr dX4_rateAs_63 (by simp [x_rate, h1_1_3]) (by simp [x_tr, h1_1_3])
  by_cases h1_1_4 : k = 4
  · refine G_top h1_1_4 ?_
    refine G_tableIn (tgt := 64) C dX4_rateAs_1 (by decide) (by decide) rfl (by decide) ?_
    refine G_aload_n C 0 dX4_rateAs_64 rfl rfl ?_
    refine G_iload_n C 2 dX4_rateAs_65 rfl rfl ?_
    refine G_callV1 (w' := wX cI cZ ad M ((t) + 10000 + 100 + 1)) C [.int (nI n)] 27 dX4_rateAs_66 (c_X4_asNose (by omega) hm) wm_776 wm_778 wm_29 wm_60 wm_779 xc_27 rfl ydc_X4_asNose rfl ⟨Nat.le_of_ble_eq_true rfl, Nat.le_of_ble_eq_true rfl⟩ ⟨rfl, rfl⟩ ⟨Nat.le_refl _, Nat.le_refl _⟩ (Nat.le_of_ble_eq_true rfl) rfl ?_
    exact G_iret C hr dX4_rateAs_69 (by simp [x_rate, h1_1_4]) (by simp [x_tr, h1_1_4])
  by_cases h1_1_5 : k = 5
  · refine G_top h1_1_5 ?_
    refine G_tableIn (tgt := 70) C dX4_rateAs_1 (by decide) (by decide) rfl (by decide) ?_
    refine G_aload_n C 0 dX4_rateAs_70 rfl rfl ?_
    refine G_iload_n C 2 dX4_rateAs_71 rfl rfl ?_
    refine G_callV1 (w' := wX cI cZ ad M ((t) + 100000 + 1)) C [.int (nI n)] 27 dX4_rateAs_72 (c_X4_asPaper (by omega)) wm_781 wm_783 wm_30 wm_60 wm_784 xc_27 rfl ydc_X4_asPaper rfl ⟨Nat.le_of_ble_eq_true rfl, Nat.le_of_ble_eq_true rfl⟩ ⟨rfl, rfl⟩ ⟨Nat.le_refl _, Nat.le_refl _⟩ (Nat.le_of_ble_eq_true rfl) rfl ?_
    exact G_iret C hr dX4_rateAs_75 (by simp [x_rate, h1_1_5]) (by simp [x_tr, h1_1_5])
  have h1_1_n0 := lv_neT h1_1_0 (a := 0) rfl
  have h1_1_n1 := lv_neT h1_1_1 (a := 1) rfl
  have h1_1_n2 := lv_neT h1_1_2 (a := 2) rfl
  have h1_1_n3 := lv_neT h1_1_3 (a := 3) rfl
  have h1_1_n4 := lv_neT h1_1_4 (a := 4) rfl
  have h1_1_n5 := lv_neT h1_1_5 (a := 5) rfl
  refine G_tableOut (tgt := 76) C dX4_rateAs_1 (by omega) (by decide) ?_
  refine G_ldc C dX4_rateAs_76 wm_787 ?_
  exact G_iret C hr dX4_rateAs_78 (by simp [x_rate, h1_1_0, h1_1_1, h1_1_2, h1_1_3, h1_1_4, h1_1_5]) (by simp [x_tr, h1_1_0, h1_1_1, h1_1_2, h1_1_3, h1_1_4, h1_1_5])
end X4
