section X3
variable {l : Launch} {D : va_G} {cI cZ : ClassId} {ad : Nat → Nat} {M : Nat → Nat → Nat} {t : Int64}
set_option maxHeartbeats 4000000 in
set_option maxRecDepth 100000 in
theorem c_J6_bitCount_0f7a4 {a : Nat} (ha : a < 64) : CT l yJ6_bitCount_0f7a4 cJ6_bitCount_0f7a4 1 (some .int) (rmOf 0 0) D (tyI cI cZ) [.int (nI a)] (wX cI cZ ad M t) (some (.int (nI (pc6 a)))) (wX cI cZ ad M t) := by
  refine CT_of (own := "java/lang/Integer") (by decide) rfl (Nat.le_of_ble_eq_true rfl) (fun p e s m args below meth c C hr => ?_)
  refine G_iload_n C 0 dJ6_bitCount_0f7a4_0 rfl rfl ?_
  refine G_iload_n C 0 dJ6_bitCount_0f7a4_1 rfl rfl ?_
  refine G_iconst C dJ6_bitCount_0f7a4_2 kI_1 ?_
  refine G_iushr (v := ((nI (a)).toUInt32 >>> ((nI (1)).toUInt32 &&& Int32.toUInt32 31)).toInt32) C dJ6_bitCount_0f7a4_3 rfl ?_
  refine G_ldcw C dJ6_bitCount_0f7a4_4 wm_588 ?_
  refine G_iand C dJ6_bitCount_0f7a4_7 ?_
  refine G_isub C dJ6_bitCount_0f7a4_8 ?_
  refine G_top (y := bc1 (nI a)) rfl ?_
  refine G_istore_n (lv' := [(0, .int (bc1 (nI a)))]) C dJ6_bitCount_0f7a4_9 rfl (by decide) rfl ?_
  refine G_iload_n C 0 dJ6_bitCount_0f7a4_10 rfl rfl ?_
  refine G_ldcw C dJ6_bitCount_0f7a4_11 wm_589 ?_
  refine G_iand C dJ6_bitCount_0f7a4_14 ?_
  refine G_iload_n C 0 dJ6_bitCount_0f7a4_15 rfl rfl ?_
  refine G_iconst C dJ6_bitCount_0f7a4_16 kI_2 ?_
  refine G_iushr (v := ((bc1 (nI a)).toUInt32 >>> ((nI (2)).toUInt32 &&& Int32.toUInt32 31)).toInt32) C dJ6_bitCount_0f7a4_17 rfl ?_
  refine G_ldcw C dJ6_bitCount_0f7a4_18 wm_589 ?_
  refine G_iand C dJ6_bitCount_0f7a4_21 ?_
  refine G_iadd C dJ6_bitCount_0f7a4_22 ?_
  refine G_top (y := bc2 (bc1 (nI a))) rfl ?_
  refine G_istore_n (lv' := [(0, .int (bc2 (bc1 (nI a))))]) C dJ6_bitCount_0f7a4_23 rfl (by decide) rfl ?_
  refine G_iload_n C 0 dJ6_bitCount_0f7a4_24 rfl rfl ?_
  refine G_iload_n C 0 dJ6_bitCount_0f7a4_25 rfl rfl ?_
  refine G_iconst C dJ6_bitCount_0f7a4_26 kI_4 ?_
  refine G_iushr (v := ((bc2 (bc1 (nI a))).toUInt32 >>> ((nI (4)).toUInt32 &&& Int32.toUInt32 31)).toInt32) C dJ6_bitCount_0f7a4_27 rfl ?_
  refine G_iadd C dJ6_bitCount_0f7a4_28 ?_
  refine G_ldcw C dJ6_bitCount_0f7a4_29 wm_590 ?_
  refine G_iand C dJ6_bitCount_0f7a4_32 ?_
  refine G_top (y := bc3 (bc2 (bc1 (nI a)))) rfl ?_
  refine G_istore_n (lv' := [(0, .int (bc3 (bc2 (bc1 (nI a)))))]) C dJ6_bitCount_0f7a4_33 rfl (by decide) rfl ?_
  refine G_iload_n C 0 dJ6_bitCount_0f7a4_34 rfl rfl ?_
  refine G_iload_n C 0 dJ6_bitCount_0f7a4_35 rfl rfl ?_
  refine G_bipush C dJ6_bitCount_0f7a4_36 kB_8 ?_
  refine G_iushr (v := ((bc3 (bc2 (bc1 (nI a)))).toUInt32 >>> ((nI (8)).toUInt32 &&& Int32.toUInt32 31)).toInt32) C dJ6_bitCount_0f7a4_38 rfl ?_
  refine G_iadd C dJ6_bitCount_0f7a4_39 ?_
  refine G_top (y := bc4 (bc3 (bc2 (bc1 (nI a))))) rfl ?_
  refine G_istore_n (lv' := [(0, .int (bc4 (bc3 (bc2 (bc1 (nI a))))))]) C dJ6_bitCount_0f7a4_40 rfl (by decide) rfl ?_
  refine G_iload_n C 0 dJ6_bitCount_0f7a4_41 rfl rfl ?_
  refine G_iload_n C 0 dJ6_bitCount_0f7a4_42 rfl rfl ?_
  refine G_bipush C dJ6_bitCount_0f7a4_43 kB_16 ?_
  refine G_iushr (v := ((bc4 (bc3 (bc2 (bc1 (nI a))))).toUInt32 >>> ((nI (16)).toUInt32 &&& Int32.toUInt32 31)).toInt32) C dJ6_bitCount_0f7a4_45 rfl ?_
  refine G_iadd C dJ6_bitCount_0f7a4_46 ?_
  refine G_top (y := bc5 (bc4 (bc3 (bc2 (bc1 (nI a)))))) rfl ?_
  refine G_istore_n (lv' := [(0, .int (bc5 (bc4 (bc3 (bc2 (bc1 (nI a)))))))]) C dJ6_bitCount_0f7a4_47 rfl (by decide) rfl ?_
  refine G_iload_n C 0 dJ6_bitCount_0f7a4_48 rfl rfl ?_
  refine G_bipush C dJ6_bitCount_0f7a4_49 kB_63 ?_
  refine G_iand C dJ6_bitCount_0f7a4_51 ?_
  refine G_top (y := nI (pc6 a)) (bc_ok a ha) ?_
  exact G_iret C hr dJ6_bitCount_0f7a4_52 (rfl) (rfl)
set_option maxHeartbeats 4000000 in
set_option maxRecDepth 100000 in
theorem c_X1_empty   : CT l yX1_empty cX1_empty 1 none (rmOf 0 0) D (tyI cI cZ) [.ref (ad 4)] (wX cI cZ ad M t) (none) (wX cI cZ ad (ms (ms (ms (ms M 4 (4) (0)) 4 (5) (0)) 4 (6) (3)) 4 (7) (3)) t) := by
  refine CT_of (own := "FalseParity$Country") (by decide) rfl (Nat.le_of_ble_eq_true rfl) (fun p e s m args below meth c C hr => ?_)
  refine G_aload_n C 0 dX1_empty_0 rfl rfl ?_
  refine G_iconst C dX1_empty_1 kI_0 ?_
  refine G_put (w' := wX cI cZ ad (ms M 4 (4) (0)) t) (ty := .int) C 4 4 tyX1 dX1_empty_2 xc_4 rfl inG1 tyX1_ok nmX1 (by decide) wm_118 rfl rfl (by decide +kernel) rfl rfl (Nat.le_of_ble_eq_true rfl) (xp_4_4 _) ?_
  refine G_aload_n C 0 dX1_empty_5 rfl rfl ?_
  refine G_iconst C dX1_empty_6 kI_0 ?_
  refine G_put (w' := wX cI cZ ad (ms (ms M 4 (4) (0)) 4 (5) (0)) t) (ty := .int) C 4 5 tyX1 dX1_empty_7 xc_4 rfl inG1 tyX1_ok nmX1 (by decide) wm_123 rfl rfl (by decide +kernel) rfl rfl (Nat.le_of_ble_eq_true rfl) (xp_4_5 _) ?_
  refine G_aload_n C 0 dX1_empty_10 rfl rfl ?_
  refine G_iconst C dX1_empty_11 kI_3 ?_
  refine G_put (w' := wX cI cZ ad (ms (ms (ms M 4 (4) (0)) 4 (5) (0)) 4 (6) (3)) t) (ty := .int) C 4 6 tyX1 dX1_empty_12 xc_4 rfl inG1 tyX1_ok nmX1 (by decide) wm_127 rfl rfl (by decide +kernel) rfl rfl (Nat.le_of_ble_eq_true rfl) (xp_4_6 _) ?_
  refine G_aload_n C 0 dX1_empty_15 rfl rfl ?_
  refine G_iconst C dX1_empty_16 kI_3 ?_
  refine G_put (w' := wX cI cZ ad (ms (ms (ms (ms M 4 (4) (0)) 4 (5) (0)) 4 (6) (3)) 4 (7) (3)) t) (ty := .int) C 4 7 tyX1 dX1_empty_17 xc_4 rfl inG1 tyX1_ok nmX1 (by decide) wm_131 rfl rfl (by decide +kernel) rfl rfl (Nat.le_of_ble_eq_true rfl) (xp_4_7 _) ?_
  exact G_vret C hr dX1_empty_20 rfl (rfl)
set_option maxHeartbeats 4000000 in
set_option maxRecDepth 100000 in
theorem c_X1_copyFrom   : CT l yX1_copyFrom cX1_copyFrom 2 none (rmOf 1 40) D (tyI cI cZ) [.ref (ad 9), .ref (ad 4)] (wX cI cZ ad M t) (none) (wX cI cZ ad (x_cp M) t) := by
  refine CT_of (own := "FalseParity$Country") (by decide) rfl (Nat.le_of_ble_eq_true rfl) (fun p e s m args below meth c C hr => ?_)
  refine G_aload_n C 1 dX1_copyFrom_0 rfl rfl ?_
  refine G_get (v := .ref (ad 5)) C 4 0 dX1_copyFrom_1 xc_4 rfl inG1 (by decide) wm_102 rfl rfl ?_
  refine G_iconst C dX1_copyFrom_4 kI_0 ?_
  refine G_aload_n C 0 dX1_copyFrom_5 rfl rfl ?_
  refine G_get (v := .ref (ad 10)) C 9 0 dX1_copyFrom_6 xc_9 rfl inG1 (by decide) wm_102 rfl rfl ?_
  refine G_iconst C dX1_copyFrom_9 kI_0 ?_
  refine G_iconst C dX1_copyFrom_10 kI_5 ?_
  refine G_copy (w' := wX cI cZ ad (va_up M 10 (va_cpy (M 5) (M 10) (0) (0) (5))) t) C 5 10 0 0 dX1_copyFrom_11 wm_419 wm_421 wm_420 wm_63 xc_5 xc_10 rfl rfl (by decide) (by decide) (by decide) (by decide) (Nat.le_of_ble_eq_true rfl) (Nat.le_of_ble_eq_true rfl) (by rw [cpy_nA]; exact xr_10 _) ?_
  refine G_aload_n C 1 dX1_copyFrom_14 rfl rfl ?_
  refine G_get (v := .ref (ad 6)) C 4 1 dX1_copyFrom_15 xc_4 rfl inG1 (by decide) wm_105 rfl rfl ?_
  refine G_iconst C dX1_copyFrom_18 kI_0 ?_
  refine G_aload_n C 0 dX1_copyFrom_19 rfl rfl ?_
  refine G_get (v := .ref (ad 11)) C 9 1 dX1_copyFrom_20 xc_9 rfl inG1 (by decide) wm_105 rfl rfl ?_
  refine G_iconst C dX1_copyFrom_23 kI_0 ?_
  refine G_bipush C dX1_copyFrom_24 kB_6 ?_
  refine G_copy (w' := wX cI cZ ad (va_up (va_up M 10 (va_cpy (M 5) (M 10) (0) (0) (5))) 11 (va_cpy (M 6) (M 11) (0) (0) (6))) t) C 6 11 0 0 dX1_copyFrom_26 wm_419 wm_421 wm_420 wm_63 xc_6 xc_11 rfl rfl (by decide) (by decide) (by decide) (by decide) (Nat.le_of_ble_eq_true rfl) (Nat.le_of_ble_eq_true rfl) (by rw [cpy_nA]; exact xr_11 _) ?_
  refine G_aload_n C 1 dX1_copyFrom_29 rfl rfl ?_
  refine G_get (v := .ref (ad 7)) C 4 2 dX1_copyFrom_30 xc_4 rfl inG1 (by decide) wm_110 rfl rfl ?_
  refine G_iconst C dX1_copyFrom_33 kI_0 ?_
  refine G_aload_n C 0 dX1_copyFrom_34 rfl rfl ?_
  refine G_get (v := .ref (ad 12)) C 9 2 dX1_copyFrom_35 xc_9 rfl inG1 (by decide) wm_110 rfl rfl ?_
  refine G_iconst C dX1_copyFrom_38 kI_0 ?_
  refine G_bipush C dX1_copyFrom_39 kB_6 ?_
  refine G_copy (w' := wX cI cZ ad (va_up (va_up (va_up M 10 (va_cpy (M 5) (M 10) (0) (0) (5))) 11 (va_cpy (M 6) (M 11) (0) (0) (6))) 12 (va_cpy (M 7) (M 12) (0) (0) (6))) t) C 7 12 0 0 dX1_copyFrom_41 wm_419 wm_421 wm_420 wm_63 xc_7 xc_12 rfl rfl (by decide) (by decide) (by decide) (by decide) (Nat.le_of_ble_eq_true rfl) (Nat.le_of_ble_eq_true rfl) (by rw [cpy_nA]; exact xr_12 _) ?_
  refine G_aload_n C 1 dX1_copyFrom_44 rfl rfl ?_
  refine G_get (v := .ref (ad 8)) C 4 3 dX1_copyFrom_45 xc_4 rfl inG1 (by decide) wm_115 rfl rfl ?_
  refine G_iconst C dX1_copyFrom_48 kI_0 ?_
  refine G_aload_n C 0 dX1_copyFrom_49 rfl rfl ?_
  refine G_get (v := .ref (ad 13)) C 9 3 dX1_copyFrom_50 xc_9 rfl inG1 (by decide) wm_115 rfl rfl ?_
  refine G_iconst C dX1_copyFrom_53 kI_0 ?_
  refine G_bipush C dX1_copyFrom_54 kB_6 ?_
  refine G_copy (w' := wX cI cZ ad (va_up (va_up (va_up (va_up M 10 (va_cpy (M 5) (M 10) (0) (0) (5))) 11 (va_cpy (M 6) (M 11) (0) (0) (6))) 12 (va_cpy (M 7) (M 12) (0) (0) (6))) 13 (va_cpy (M 8) (M 13) (0) (0) (6))) t) C 8 13 0 0 dX1_copyFrom_56 wm_419 wm_421 wm_420 wm_63 xc_8 xc_13 rfl rfl (by decide) (by decide) (by decide) (by decide) (Nat.le_of_ble_eq_true rfl) (Nat.le_of_ble_eq_true rfl) (by rw [cpy_nA]; exact xr_13 _) ?_
  refine G_aload_n C 0 dX1_copyFrom_59 rfl rfl ?_
  refine G_aload_n C 1 dX1_copyFrom_60 rfl rfl ?_
  refine G_get (v := .int (nI (M 4 4))) C 4 4 dX1_copyFrom_61 xc_4 rfl inG1 (by decide) wm_118 rfl rfl ?_
  refine G_put (w' := wX cI cZ ad (ms (va_up (va_up (va_up (va_up M 10 (va_cpy (M 5) (M 10) (0) (0) (5))) 11 (va_cpy (M 6) (M 11) (0) (0) (6))) 12 (va_cpy (M 7) (M 12) (0) (0) (6))) 13 (va_cpy (M 8) (M 13) (0) (0) (6))) 9 (4) (M 4 4)) t) (ty := .int) C 9 4 tyX1 dX1_copyFrom_64 xc_9 rfl inG1 tyX1_ok nmX1 (by decide) wm_118 rfl rfl (by decide +kernel) rfl rfl (Nat.le_of_ble_eq_true rfl) (xp_9_4 _) ?_
  refine G_aload_n C 0 dX1_copyFrom_67 rfl rfl ?_
  refine G_aload_n C 1 dX1_copyFrom_68 rfl rfl ?_
  refine G_get (v := .int (nI (M 4 5))) C 4 5 dX1_copyFrom_69 xc_4 rfl inG1 (by decide) wm_123 rfl rfl ?_
  refine G_put (w' := wX cI cZ ad (ms (ms (va_up (va_up (va_up (va_up M 10 (va_cpy (M 5) (M 10) (0) (0) (5))) 11 (va_cpy (M 6) (M 11) (0) (0) (6))) 12 (va_cpy (M 7) (M 12) (0) (0) (6))) 13 (va_cpy (M 8) (M 13) (0) (0) (6))) 9 (4) (M 4 4)) 9 (5) (M 4 5)) t) (ty := .int) C 9 5 tyX1 dX1_copyFrom_72 xc_9 rfl inG1 tyX1_ok nmX1 (by decide) wm_123 rfl rfl (by decide +kernel) rfl rfl (Nat.le_of_ble_eq_true rfl) (xp_9_5 _) ?_
  refine G_aload_n C 0 dX1_copyFrom_75 rfl rfl ?_
  refine G_aload_n C 1 dX1_copyFrom_76 rfl rfl ?_
  refine G_get (v := .int (nI (M 4 6))) C 4 6 dX1_copyFrom_77 xc_4 rfl inG1 (by decide) wm_127 rfl rfl ?_
  refine G_put (w' := wX cI cZ ad (ms (ms (ms (va_up (va_up (va_up (va_up M 10 (va_cpy (M 5) (M 10) (0) (0) (5))) 11 (va_cpy (M 6) (M 11) (0) (0) (6))) 12 (va_cpy (M 7) (M 12) (0) (0) (6))) 13 (va_cpy (M 8) (M 13) (0) (0) (6))) 9 (4) (M 4 4)) 9 (5) (M 4 5)) 9 (6) (M 4 6)) t) (ty := .int) C 9 6 tyX1 dX1_copyFrom_80 xc_9 rfl inG1 tyX1_ok nmX1 (by decide) wm_127 rfl rfl (by decide +kernel) rfl rfl (Nat.le_of_ble_eq_true rfl) (xp_9_6 _) ?_
  refine G_aload_n C 0 dX1_copyFrom_83 rfl rfl ?_
  refine G_aload_n C 1 dX1_copyFrom_84 rfl rfl ?_
  refine G_get (v := .int (nI (M 4 7))) C 4 7 dX1_copyFrom_85 xc_4 rfl inG1 (by decide) wm_131 rfl rfl ?_
  refine G_put (w' := wX cI cZ ad (ms (ms (ms (ms (va_up (va_up (va_up (va_up M 10 (va_cpy (M 5) (M 10) (0) (0) (5))) 11 (va_cpy (M 6) (M 11) (0) (0) (6))) 12 (va_cpy (M 7) (M 12) (0) (0) (6))) 13 (va_cpy (M 8) (M 13) (0) (0) (6))) 9 (4) (M 4 4)) 9 (5) (M 4 5)) 9 (6) (M 4 6)) 9 (7) (M 4 7)) t) (ty := .int) C 9 7 tyX1 dX1_copyFrom_88 xc_9 rfl inG1 tyX1_ok nmX1 (by decide) wm_131 rfl rfl (by decide +kernel) rfl rfl (Nat.le_of_ble_eq_true rfl) (xp_9_7 _) ?_
  exact G_vret C hr dX1_copyFrom_91 rfl (rfl)
set_option maxHeartbeats 4000000 in
set_option maxRecDepth 100000 in
theorem c_X9_empty   : CT l yX9_empty cX9_empty 2 (some .int) (rmOf 0 0) D (tyI cI cZ) [.ref (ad 1)] (wX cI cZ ad M t) (some (.int (nI (M 1 1)))) (wX cI cZ ad (ms M 1 (1) (0)) t) := by
  refine CT_of (own := "FalseParity$Text") (by decide) rfl (Nat.le_of_ble_eq_true rfl) (fun p e s m args below meth c C hr => ?_)
  refine G_aload_n C 0 dX9_empty_0 rfl rfl ?_
  refine G_get (v := .int (nI (M 1 1))) C 1 1 dX9_empty_1 xc_1 rfl inG9 (by decide) wm_81 rfl rfl ?_
  refine G_istore_n (lv' := [(1, .int (nI (M 1 1))), (0, .ref (ad 1))]) C dX9_empty_4 rfl (by decide) rfl ?_
  refine G_aload_n C 1 dX9_empty_5 rfl rfl ?_
  refine G_iconst C dX9_empty_6 kI_0 ?_
  refine G_put (w' := wX cI cZ ad (ms M 1 (1) (0)) t) (ty := .int) C 1 1 tyX9 dX9_empty_7 xc_1 rfl inG9 tyX9_ok nmX9 (by decide) wm_81 rfl rfl (by decide +kernel) rfl rfl (Nat.le_of_ble_eq_true rfl) (xp_1_1 _) ?_
  refine G_iload_n C 0 dX9_empty_10 rfl rfl ?_
  exact G_iret C hr dX9_empty_11 (rfl) (rfl)
set_option maxHeartbeats 4000000 in
set_option maxRecDepth 100000 in
theorem c_X9_hasDigit {x : Int32} (hL : M 1 1 ≤ 150) (hB : ∀ k j, M k j < 1024) : CT l yX9_hasDigit cX9_hasDigit 2 (some .boolean) (rmOf 0 0) D (tyI cI cZ) [.ref (ad 1), .int (x)] (wX cI cZ ad M t) (some (.int (nI (bN (x_dg M x))))) (wX cI cZ ad M t) := by
  refine CT_of (own := "FalseParity$Text") (by decide) rfl (Nat.le_of_ble_eq_true rfl) (fun p e s m args below meth c C hr => ?_)
  refine G_iload_n C 1 dX9_hasDigit_0 rfl rfl ?_
  refine G_if_lt (tgt := 38) C dX9_hasDigit_1 (by decide) (fun h1_1 => ?_) (fun h1_1 => ?_)
  · refine G_iconst C dX9_hasDigit_38 kI_0 ?_
    exact G_zret C hr dX9_hasDigit_39 (by rfl) (bI_f (x_dg_neg h1_1)) (rfl)
  · obtain ⟨j, hlt_j, rfl⟩ := nI_of h1_1
    refine G_iload_n C 1 dX9_hasDigit_4 rfl rfl ?_
    refine G_aload_n C 0 dX9_hasDigit_5 rfl rfl ?_
    refine G_get (v := .int (nI (M 1 1))) C 1 1 dX9_hasDigit_6 xc_1 rfl inG9 (by decide) wm_81 rfl rfl ?_
    refine G_icmp_geN (tgt := 38) C dX9_hasDigit_9 (by decide) (by omega) (by have := hB 1 1; omega) (fun h9_2 => ?_) (fun h9_2 => ?_)
    · refine G_iconst C dX9_hasDigit_38 kI_0 ?_
      exact G_zret C hr dX9_hasDigit_39 (by rfl) (bI_f (by rw [x_dg_nI hlt_j (by have := hB 1 1; omega)]; simp only [Bool.and_eq_false_iff, decide_eq_false_iff_not]; omega)) (rfl)
    · refine G_aload_n C 0 dX9_hasDigit_12 rfl rfl ?_
      refine G_get (v := .ref (ad 2)) C 1 0 dX9_hasDigit_13 xc_1 rfl inG9 (by decide) wm_79 rfl rfl ?_
      refine G_iload_n C 1 dX9_hasDigit_16 rfl rfl ?_
      refine G_iald (v := nI (M 2 j)) C 2 0 dX9_hasDigit_17 xc_2 rfl (by omega) (by decide) rfl ?_
      refine G_bipush C dX9_hasDigit_18 kB_48 ?_
      refine G_icmp_ltN (tgt := 38) C dX9_hasDigit_20 (by decide) (by have := hB 2 j; omega) (by decide) (fun h20_3 => ?_) (fun h20_3 => ?_)
      · refine G_iconst C dX9_hasDigit_38 kI_0 ?_
        exact G_zret C hr dX9_hasDigit_39 (by rfl) (bI_f (by rw [x_dg_nI hlt_j (by have := hB 1 1; omega)]; simp only [Bool.and_eq_false_iff, decide_eq_false_iff_not]; omega)) (rfl)
      · refine G_aload_n C 0 dX9_hasDigit_23 rfl rfl ?_
        refine G_get (v := .ref (ad 2)) C 1 0 dX9_hasDigit_24 xc_1 rfl inG9 (by decide) wm_79 rfl rfl ?_
        refine G_iload_n C 1 dX9_hasDigit_27 rfl rfl ?_
        refine G_iald (v := nI (M 2 j)) C 2 0 dX9_hasDigit_28 xc_2 rfl (by omega) (by decide) rfl ?_
        refine G_bipush C dX9_hasDigit_29 kB_57 ?_
        refine G_icmp_gtN (tgt := 38) C dX9_hasDigit_31 (by decide) (by have := hB 2 j; omega) (by decide) (fun h31_4 => ?_) (fun h31_4 => ?_)
        · refine G_iconst C dX9_hasDigit_38 kI_0 ?_
          exact G_zret C hr dX9_hasDigit_39 (by rfl) (bI_f (by rw [x_dg_nI hlt_j (by have := hB 1 1; omega)]; simp only [Bool.and_eq_false_iff, decide_eq_false_iff_not]; omega)) (rfl)
        · refine G_iconst C dX9_hasDigit_34 kI_1 ?_
          refine G_goto (tgt := 39) C dX9_hasDigit_35 (by decide) ?_
          exact G_zret C hr dX9_hasDigit_39 (by rfl) (bI_t (by rw [x_dg_nI hlt_j (by have := hB 1 1; omega)]; simp only [Bool.and_eq_true, decide_eq_true_eq]; omega)) (rfl)
set_option maxHeartbeats 4000000 in
set_option maxRecDepth 100000 in
theorem c_X6_copyTo_17 {sl : Nat} (hs : sl * 20 + 20 ≤ 200) : CT l yX6_copyTo cX6_copyTo 3 none (rmOf 1 40) D (tyI cI cZ) [.ref (ad 14), .ref (ad 17), .int (nI sl)] (wX cI cZ ad M t) (none) (wX cI cZ ad (va_up M 17 (va_cpy (M 15) (M 17) 0 (sl * 20) 20)) t) := by
  refine CT_of (own := "FalseParity$Now") (by decide) rfl (Nat.le_of_ble_eq_true rfl) (fun p e s m args below meth c C hr => ?_)
  refine G_aload_n C 0 dX6_copyTo_0 rfl rfl ?_
  refine G_get (v := .ref (ad 15)) C 14 0 dX6_copyTo_1 xc_14 rfl inG6 (by decide) wm_183 rfl rfl ?_
  refine G_iconst C dX6_copyTo_4 kI_0 ?_
  refine G_aload_n C 1 dX6_copyTo_5 rfl rfl ?_
  refine G_iload_n C 2 dX6_copyTo_6 rfl rfl ?_
  refine G_bipush C dX6_copyTo_7 kB_20 ?_
  refine G_imulN C dX6_copyTo_9 ?_
  refine G_bipush C dX6_copyTo_10 kB_20 ?_
  refine G_copy (w' := wX cI cZ ad (va_up M 17 (va_cpy (M 15) (M 17) (0) (sl * 20) (20))) t) C 15 17 0 0 dX6_copyTo_12 wm_426 wm_421 wm_420 wm_63 xc_15 xc_17 rfl rfl (by decide) hs (by decide) (by decide) (Nat.le_of_ble_eq_true rfl) (Nat.le_of_ble_eq_true rfl) (by rw [cpy_nA]; exact xr_17 _) ?_
  exact G_vret C hr dX6_copyTo_15 rfl (rfl)
set_option maxHeartbeats 4000000 in
set_option maxRecDepth 100000 in
theorem c_X6_copyFrom_17 {sl : Nat} (hs : sl * 20 + 20 ≤ 200) : CT l yX6_copyFrom cX6_copyFrom 3 none (rmOf 1 40) D (tyI cI cZ) [.ref (ad 14), .ref (ad 17), .int (nI sl)] (wX cI cZ ad M t) (none) (wX cI cZ ad (va_up M 15 (va_cpy (M 17) (M 15) (sl * 20) 0 20)) t) := by
  refine CT_of (own := "FalseParity$Now") (by decide) rfl (Nat.le_of_ble_eq_true rfl) (fun p e s m args below meth c C hr => ?_)
  refine G_aload_n C 1 dX6_copyFrom_0 rfl rfl ?_
  refine G_iload_n C 2 dX6_copyFrom_1 rfl rfl ?_
  refine G_bipush C dX6_copyFrom_2 kB_20 ?_
  refine G_imulN C dX6_copyFrom_4 ?_
  refine G_aload_n C 0 dX6_copyFrom_5 rfl rfl ?_
  refine G_get (v := .ref (ad 15)) C 14 0 dX6_copyFrom_6 xc_14 rfl inG6 (by decide) wm_183 rfl rfl ?_
  refine G_iconst C dX6_copyFrom_9 kI_0 ?_
  refine G_bipush C dX6_copyFrom_10 kB_20 ?_
  refine G_copy (w' := wX cI cZ ad (va_up M 15 (va_cpy (M 17) (M 15) (sl * 20) (0) (20))) t) C 17 15 0 0 dX6_copyFrom_12 wm_426 wm_421 wm_420 wm_63 xc_17 xc_15 rfl rfl hs (by decide) (by decide) (by decide) (Nat.le_of_ble_eq_true rfl) (Nat.le_of_ble_eq_true rfl) (by rw [cpy_nA]; exact xr_15 _) ?_
  exact G_vret C hr dX6_copyFrom_15 rfl (rfl)
set_option maxHeartbeats 4000000 in
set_option maxRecDepth 100000 in
theorem c_X6_copyTo_19 {sl : Nat} (hs : sl * 20 + 20 ≤ 40) : CT l yX6_copyTo cX6_copyTo 3 none (rmOf 1 40) D (tyI cI cZ) [.ref (ad 14), .ref (ad 19), .int (nI sl)] (wX cI cZ ad M t) (none) (wX cI cZ ad (va_up M 19 (va_cpy (M 15) (M 19) 0 (sl * 20) 20)) t) := by
  refine CT_of (own := "FalseParity$Now") (by decide) rfl (Nat.le_of_ble_eq_true rfl) (fun p e s m args below meth c C hr => ?_)
  refine G_aload_n C 0 dX6_copyTo_0 rfl rfl ?_
  refine G_get (v := .ref (ad 15)) C 14 0 dX6_copyTo_1 xc_14 rfl inG6 (by decide) wm_183 rfl rfl ?_
  refine G_iconst C dX6_copyTo_4 kI_0 ?_
  refine G_aload_n C 1 dX6_copyTo_5 rfl rfl ?_
  refine G_iload_n C 2 dX6_copyTo_6 rfl rfl ?_
  refine G_bipush C dX6_copyTo_7 kB_20 ?_
  refine G_imulN C dX6_copyTo_9 ?_
  refine G_bipush C dX6_copyTo_10 kB_20 ?_
  refine G_copy (w' := wX cI cZ ad (va_up M 19 (va_cpy (M 15) (M 19) (0) (sl * 20) (20))) t) C 15 19 0 0 dX6_copyTo_12 wm_426 wm_421 wm_420 wm_63 xc_15 xc_19 rfl rfl (by decide) hs (by decide) (by decide) (Nat.le_of_ble_eq_true rfl) (Nat.le_of_ble_eq_true rfl) (by rw [cpy_nA]; exact xr_19 _) ?_
  exact G_vret C hr dX6_copyTo_15 rfl (rfl)
set_option maxHeartbeats 4000000 in
set_option maxRecDepth 100000 in
theorem c_X6_copyFrom_19 {sl : Nat} (hs : sl * 20 + 20 ≤ 40) : CT l yX6_copyFrom cX6_copyFrom 3 none (rmOf 1 40) D (tyI cI cZ) [.ref (ad 14), .ref (ad 19), .int (nI sl)] (wX cI cZ ad M t) (none) (wX cI cZ ad (va_up M 15 (va_cpy (M 19) (M 15) (sl * 20) 0 20)) t) := by
  refine CT_of (own := "FalseParity$Now") (by decide) rfl (Nat.le_of_ble_eq_true rfl) (fun p e s m args below meth c C hr => ?_)
  refine G_aload_n C 1 dX6_copyFrom_0 rfl rfl ?_
  refine G_iload_n C 2 dX6_copyFrom_1 rfl rfl ?_
  refine G_bipush C dX6_copyFrom_2 kB_20 ?_
  refine G_imulN C dX6_copyFrom_4 ?_
  refine G_aload_n C 0 dX6_copyFrom_5 rfl rfl ?_
  refine G_get (v := .ref (ad 15)) C 14 0 dX6_copyFrom_6 xc_14 rfl inG6 (by decide) wm_183 rfl rfl ?_
  refine G_iconst C dX6_copyFrom_9 kI_0 ?_
  refine G_bipush C dX6_copyFrom_10 kB_20 ?_
  refine G_copy (w' := wX cI cZ ad (va_up M 15 (va_cpy (M 19) (M 15) (sl * 20) (0) (20))) t) C 19 15 0 0 dX6_copyFrom_12 wm_426 wm_421 wm_420 wm_63 xc_19 xc_15 rfl rfl hs (by decide) (by decide) (by decide) (Nat.le_of_ble_eq_true rfl) (Nat.le_of_ble_eq_true rfl) (by rw [cpy_nA]; exact xr_15 _) ?_
  exact G_vret C hr dX6_copyFrom_15 rfl (rfl)
set_option maxHeartbeats 4000000 in
set_option maxRecDepth 100000 in
theorem c_X6_giveParity {n : Nat} (hn : n < 6) : CT l yX6_giveParity cX6_giveParity 2 none (rmOf 0 0) D (tyI cI cZ) [.ref (ad 14), .int (nI n)] (wX cI cZ ad M t) (none) (wX cI cZ ad (ms M 15 (17) (M 15 17 ||| (1 * 2 ^ n))) t) := by
  refine CT_of (own := "FalseParity$Now") (by decide) rfl (Nat.le_of_ble_eq_true rfl) (fun p e s m args below meth c C hr => ?_)
  refine G_aload_n C 0 dX6_giveParity_0 rfl rfl ?_
  refine G_get (v := .ref (ad 15)) C 14 0 dX6_giveParity_1 xc_14 rfl inG6 (by decide) wm_183 rfl rfl ?_
  refine G_bipush C dX6_giveParity_4 kB_17 ?_
  refine G_dup2 C dX6_giveParity_6 rfl rfl ?_
  refine G_iald (v := nI (M 15 17)) C 15 0 dX6_giveParity_7 xc_15 rfl (by decide) (by decide) rfl ?_
  refine G_iconst C dX6_giveParity_8 kI_1 ?_
  refine G_iload_n C 1 dX6_giveParity_9 rfl rfl ?_
  refine G_ishlN C dX6_giveParity_10 (by omega) (sh1 (by omega)) ?_
  refine G_iorN C dX6_giveParity_11 ?_
  refine G_iast (w' := wX cI cZ ad (ms M 15 (17) ((M 15 17) ||| (1 * 2 ^ n))) t) C 15 0 dX6_giveParity_12 xc_15 rfl (by decide) (by decide) (xs_15 _ _) ?_
  exact G_vret C hr dX6_giveParity_13 rfl (rfl)
set_option maxHeartbeats 4000000 in
set_option maxRecDepth 100000 in
theorem c_X6_refuse {n : Nat} (hn : n < 6) : CT l yX6_refuse cX6_refuse 2 none (rmOf 0 0) D (tyI cI cZ) [.ref (ad 14), .int (nI n)] (wX cI cZ ad M t) (none) (wX cI cZ ad (ms (ms M 15 (6 + n) (0)) 15 (19) (M 15 19 + 1)) t) := by
  refine CT_of (own := "FalseParity$Now") (by decide) rfl (Nat.le_of_ble_eq_true rfl) (fun p e s m args below meth c C hr => ?_)
  refine G_aload_n C 0 dX6_refuse_0 rfl rfl ?_
  refine G_get (v := .ref (ad 15)) C 14 0 dX6_refuse_1 xc_14 rfl inG6 (by decide) wm_183 rfl rfl ?_
  refine G_bipush C dX6_refuse_4 kB_6 ?_
  refine G_iload_n C 1 dX6_refuse_6 rfl rfl ?_
  refine G_iaddN C dX6_refuse_7 ?_
  refine G_iconst C dX6_refuse_8 kI_0 ?_
  refine G_iast (w' := wX cI cZ ad (ms M 15 (6 + n) (0)) t) C 15 0 dX6_refuse_9 xc_15 rfl (by omega) (by decide) (xs_15 _ _) ?_
  refine G_aload_n C 0 dX6_refuse_10 rfl rfl ?_
  refine G_get (v := .ref (ad 15)) C 14 0 dX6_refuse_11 xc_14 rfl inG6 (by decide) wm_183 rfl rfl ?_
  refine G_bipush C dX6_refuse_14 kB_19 ?_
  refine G_dup2 C dX6_refuse_16 rfl rfl ?_
  refine G_iald (v := nI (M 15 19)) C 15 0 dX6_refuse_17 xc_15 rfl (by decide) (by decide) (congrArg nI (ms_ne (by omega))) ?_
  refine G_iconst C dX6_refuse_18 kI_1 ?_
  refine G_iaddN C dX6_refuse_19 ?_
  refine G_iast (w' := wX cI cZ ad (ms (ms M 15 (6 + n) (0)) 15 (19) ((M 15 19) + 1)) t) C 15 0 dX6_refuse_20 xc_15 rfl (by decide) (by decide) (xs_15 _ _) ?_
  exact G_vret C hr dX6_refuse_21 rfl (rfl)
set_option maxHeartbeats 4000000 in
set_option maxRecDepth 100000 in
theorem c_X6_teach {q a : Nat} (hq : q < 5) : CT l yX6_teach cX6_teach 3 none (rmOf 0 0) D (tyI cI cZ) [.ref (ad 14), .int (nI q), .int (nI a)] (wX cI cZ ad M t) (none) (wX cI cZ ad (ms M 15 (12 + q) (a)) t) := by
  refine CT_of (own := "FalseParity$Now") (by decide) rfl (Nat.le_of_ble_eq_true rfl) (fun p e s m args below meth c C hr => ?_)
  refine G_aload_n C 0 dX6_teach_0 rfl rfl ?_
  refine G_get (v := .ref (ad 15)) C 14 0 dX6_teach_1 xc_14 rfl inG6 (by decide) wm_183 rfl rfl ?_
  refine G_bipush C dX6_teach_4 kB_12 ?_
  refine G_iload_n C 1 dX6_teach_6 rfl rfl ?_
  refine G_iaddN C dX6_teach_7 ?_
  refine G_iload_n C 2 dX6_teach_8 rfl rfl ?_
  refine G_iast (w' := wX cI cZ ad (ms M 15 (12 + q) (a)) t) C 15 0 dX6_teach_9 xc_15 rfl (by omega) (by decide) (xs_15 _ _) ?_
  exact G_vret C hr dX6_teach_10 rfl (rfl)
set_option maxHeartbeats 4000000 in
set_option maxRecDepth 100000 in
theorem c_X6_turnAway {n : Nat} (hn : n < 6) : CT l yX6_turnAway cX6_turnAway 2 none (rmOf 0 0) D (tyI cI cZ) [.ref (ad 14), .int (nI n)] (wX cI cZ ad M t) (none) (wX cI cZ ad (ms M 15 (18) (M 15 18 ^^^ (1 * 2 ^ n))) t) := by
  refine CT_of (own := "FalseParity$Now") (by decide) rfl (Nat.le_of_ble_eq_true rfl) (fun p e s m args below meth c C hr => ?_)
  refine G_aload_n C 0 dX6_turnAway_0 rfl rfl ?_
  refine G_get (v := .ref (ad 15)) C 14 0 dX6_turnAway_1 xc_14 rfl inG6 (by decide) wm_183 rfl rfl ?_
  refine G_bipush C dX6_turnAway_4 kB_18 ?_
  refine G_dup2 C dX6_turnAway_6 rfl rfl ?_
  refine G_iald (v := nI (M 15 18)) C 15 0 dX6_turnAway_7 xc_15 rfl (by decide) (by decide) rfl ?_
  refine G_iconst C dX6_turnAway_8 kI_1 ?_
  refine G_iload_n C 1 dX6_turnAway_9 rfl rfl ?_
  refine G_ishlN C dX6_turnAway_10 (by omega) (sh1 (by omega)) ?_
  refine G_ixorN C dX6_turnAway_11 ?_
  refine G_iast (w' := wX cI cZ ad (ms M 15 (18) ((M 15 18) ^^^ (1 * 2 ^ n))) t) C 15 0 dX6_turnAway_12 xc_15 rfl (by decide) (by decide) (xs_15 _ _) ?_
  exact G_vret C hr dX6_turnAway_13 rfl (rfl)
set_option maxHeartbeats 4000000 in
set_option maxRecDepth 100000 in
theorem c_X6_begin   : CT l yX6_begin cX6_begin 3 none (rmOf 1 40) D (tyI cI cZ) [.ref (ad 14), .ref (ad 9)] (wX cI cZ ad M t) (none) (wX cI cZ ad (x_bg M) t) := by
  refine CT_of (own := "FalseParity$Now") (by decide) rfl (Nat.le_of_ble_eq_true rfl) (fun p e s m args below meth c C hr => ?_)
  refine G_aload_n C 1 dX6_begin_0 rfl rfl ?_
  refine G_getN (v := .ref (ad 13)) C 9 3 dX6_begin_1 xc_9 rfl inG1 (by decide) wn_116 rfl rfl ?_
  refine G_iconst C dX6_begin_4 kI_0 ?_
  refine G_aload_n C 0 dX6_begin_5 rfl rfl ?_
  refine G_get (v := .ref (ad 15)) C 14 0 dX6_begin_6 xc_14 rfl inG6 (by decide) wm_183 rfl rfl ?_
  refine G_iconst C dX6_begin_9 kI_0 ?_
  refine G_bipush C dX6_begin_10 kB_6 ?_
  refine G_copy (w' := wX cI cZ ad (va_up M 15 (va_cpy (M 13) (M 15) (0) (0) (6))) t) C 13 15 0 0 dX6_begin_12 wm_426 wm_421 wm_420 wm_63 xc_13 xc_15 rfl rfl (by decide) (by decide) (by decide) (by decide) (Nat.le_of_ble_eq_true rfl) (Nat.le_of_ble_eq_true rfl) (by rw [cpy_nA]; exact xr_15 _) ?_
  refine G_aload_n C 1 dX6_begin_15 rfl rfl ?_
  refine G_getN (v := .ref (ad 10)) C 9 0 dX6_begin_16 xc_9 rfl inG1 (by decide) wn_103 rfl rfl ?_
  refine G_iconst C dX6_begin_19 kI_0 ?_
  refine G_aload_n C 0 dX6_begin_20 rfl rfl ?_
  refine G_get (v := .ref (ad 15)) C 14 0 dX6_begin_21 xc_14 rfl inG6 (by decide) wm_183 rfl rfl ?_
  refine G_bipush C dX6_begin_24 kB_12 ?_
  refine G_iconst C dX6_begin_26 kI_5 ?_
  refine G_copy (w' := wX cI cZ ad (va_up (va_up M 15 (va_cpy (M 13) (M 15) (0) (0) (6))) 15 (va_cpy (M 10) ((va_up M 15 (va_cpy (M 13) (M 15) (0) (0) (6))) 15) (0) (12) (5))) t) C 10 15 0 0 dX6_begin_27 wm_426 wm_421 wm_420 wm_63 xc_10 xc_15 rfl rfl (by decide) (by decide) (by decide) (by decide) (Nat.le_of_ble_eq_true rfl) (Nat.le_of_ble_eq_true rfl) (by rw [cpy_nA]; exact xr_15 _) ?_
  refine G_iconst C dX6_begin_30 kI_0 ?_
  refine G_istore_n (lv' := [(2, .int (nI 0)), (0, .ref (ad 14)), (1, .ref (ad 9))]) C dX6_begin_31 rfl (by decide) rfl ?_
  refine G_w (w2 := wX cI cZ ad (x_bgn M 0) t) (congrArg (fun z => wX cI cZ ad z t) (x_bgn_0 M)) ?_
  refine G_pick (lv' := [(0, .ref (ad 14)), (1, .ref (ad 9)), (2, .int (nI 0))]) [1, 2, 0] rfl ?_
  refine loopN (P := fun n => G p l e (rmOf 1 40) s m args below meth c D _ 3 0 0 _ 32 [(0, .ref (ad 14)), (1, .ref (ad 9)), (2, .int (nI n))] [] (wX cI cZ ad (x_bgn M n) t)) (6) ?_ ?_ 0 (Nat.zero_le _)  
  · skip
    refine G_iload_n C 2 dX6_begin_32 rfl rfl ?_
    refine G_bipush C dX6_begin_33 kB_6 ?_
    refine G_icmp_geN (tgt := 54) C dX6_begin_35 (by decide) (by decide) (by decide) (fun h35_2 => ?_) (fun h35_2 => ?_)
    · refine G_aload_n C 0 dX6_begin_54 rfl rfl ?_
      refine G_get (v := .ref (ad 15)) C 14 0 dX6_begin_55 xc_14 rfl inG6 (by decide) wm_183 rfl rfl ?_
      refine G_bipush C dX6_begin_58 kB_17 ?_
      refine G_iconst C dX6_begin_60 kI_0 ?_
      refine G_iast (w' := wX cI cZ ad (ms (x_bgn M 6) 15 (17) (0)) t) C 15 0 dX6_begin_61 xc_15 rfl (by decide) (by decide) (xs_15 _ _) ?_
      refine G_aload_n C 0 dX6_begin_62 rfl rfl ?_
      refine G_get (v := .ref (ad 15)) C 14 0 dX6_begin_63 xc_14 rfl inG6 (by decide) wm_183 rfl rfl ?_
      refine G_bipush C dX6_begin_66 kB_18 ?_
      refine G_iconst C dX6_begin_68 kI_0 ?_
      refine G_iast (w' := wX cI cZ ad (ms (ms (x_bgn M 6) 15 (17) (0)) 15 (18) (0)) t) C 15 0 dX6_begin_69 xc_15 rfl (by decide) (by decide) (xs_15 _ _) ?_
      refine G_aload_n C 0 dX6_begin_70 rfl rfl ?_
      refine G_get (v := .ref (ad 15)) C 14 0 dX6_begin_71 xc_14 rfl inG6 (by decide) wm_183 rfl rfl ?_
      refine G_bipush C dX6_begin_74 kB_19 ?_
      refine G_iconst C dX6_begin_76 kI_0 ?_
      refine G_iast (w' := wX cI cZ ad (ms (ms (ms (x_bgn M 6) 15 (17) (0)) 15 (18) (0)) 15 (19) (0)) t) C 15 0 dX6_begin_77 xc_15 rfl (by decide) (by decide) (xs_15 _ _) ?_
      exact G_vret C hr dX6_begin_78 rfl (congrArg (fun z => wX cI cZ ad z t) (x_bg_end M))
    · exact absurd h35_2 (by decide)
  · intro n hn ih1  
    refine G_iload_n C 2 dX6_begin_32 rfl rfl ?_
    refine G_bipush C dX6_begin_33 kB_6 ?_
    refine G_icmp_geN (tgt := 54) C dX6_begin_35 (by decide) (by omega) (by decide) (fun h35_3 => ?_) (fun h35_3 => ?_)
    · exfalso; omega
    · refine G_aload_n C 0 dX6_begin_38 rfl rfl ?_
      refine G_get (v := .ref (ad 15)) C 14 0 dX6_begin_39 xc_14 rfl inG6 (by decide) wm_183 rfl rfl ?_
      refine G_bipush C dX6_begin_42 kB_6 ?_
      refine G_iload_n C 2 dX6_begin_44 rfl rfl ?_
      refine G_iaddN C dX6_begin_45 ?_
      refine G_iconst C dX6_begin_46 kI_0 ?_
      refine G_iast (w' := wX cI cZ ad (ms (x_bgn M n) 15 (6 + n) (0)) t) C 15 0 dX6_begin_47 xc_15 rfl (by omega) (by decide) (xs_15 _ _) ?_
      refine G_iincN (lv' := [(2, .int (nI (n + 1))), (0, .ref (ad 14)), (1, .ref (ad 9))]) C 2 dX6_begin_48 rfl (by decide) rfl ?_
      refine G_goto (tgt := 32) C dX6_begin_51 (by decide) ?_
      refine G_w (w2 := wX cI cZ ad (x_bgn M (n + 1)) t) (congrArg (fun z => wX cI cZ ad z t) (x_bgn_s M n hn)) ?_
      refine G_pick (lv' := [(0, .ref (ad 14)), (1, .ref (ad 9)), (2, .int (nI (n + 1)))]) [1, 2, 0] rfl ?_
      exact ih1  
set_option maxHeartbeats 4000000 in
set_option maxRecDepth 100000 in
theorem c_X2_empty   : CT l yX2_empty cX2_empty 1 none (rmOf 0 0) D (tyI cI cZ) [.ref (ad 16)] (wX cI cZ ad M t) (none) (wX cI cZ ad (ms (ms M 16 (1) (0)) 16 (2) (0)) t) := by
  refine CT_of (own := "FalseParity$History") (by decide) rfl (Nat.le_of_ble_eq_true rfl) (fun p e s m args below meth c C hr => ?_)
  refine G_aload_n C 0 dX2_empty_0 rfl rfl ?_
  refine G_iconst C dX2_empty_1 kI_0 ?_
  refine G_put (w' := wX cI cZ ad (ms M 16 (1) (0)) t) (ty := .int) C 16 1 tyX2 dX2_empty_2 xc_16 rfl inG2 tyX2_ok nmX2 (by decide) wm_194 rfl rfl (by decide +kernel) rfl rfl (Nat.le_of_ble_eq_true rfl) (xp_16_1 _) ?_
  refine G_aload_n C 0 dX2_empty_5 rfl rfl ?_
  refine G_iconst C dX2_empty_6 kI_0 ?_
  refine G_put (w' := wX cI cZ ad (ms (ms M 16 (1) (0)) 16 (2) (0)) t) (ty := .int) C 16 2 tyX2 dX2_empty_7 xc_16 rfl inG2 tyX2_ok nmX2 (by decide) wm_195 rfl rfl (by decide +kernel) rfl rfl (Nat.le_of_ble_eq_true rfl) (xp_16_2 _) ?_
  exact G_vret C hr dX2_empty_10 rfl (rfl)
set_option maxHeartbeats 4000000 in
set_option maxRecDepth 100000 in
theorem c_X2_push  (hx : M 16 1 < 10) (hB : ∀ k j, M k j < 1024) : CT l yX2_push cX2_push 2 none (rmOf 2 62) D (tyI cI cZ) [.ref (ad 16), .ref (ad 14)] (wX cI cZ ad M t) (none) (wX cI cZ ad (x_push M) t) := by
  refine CT_of (own := "FalseParity$History") (by decide) rfl (Nat.le_of_ble_eq_true rfl) (fun p e s m args below meth c C hr => ?_)
  refine G_aload_n C 1 dX2_push_0 rfl rfl ?_
  refine G_aload_n C 0 dX2_push_1 rfl rfl ?_
  refine G_get (v := .ref (ad 17)) C 16 0 dX2_push_2 xc_16 rfl inG2 (by decide) wm_193 rfl rfl ?_
  refine G_aload_n C 0 dX2_push_5 rfl rfl ?_
  refine G_get (v := .int (nI (M 16 1))) C 16 1 dX2_push_6 xc_16 rfl inG2 (by decide) wm_194 rfl rfl ?_
  refine G_callV0 (w' := wX cI cZ ad (va_up M 17 (va_cpy (M 15) (M 17) 0 ((M 16 1) * 20) 20)) t) C [.ref (ad 17), .int (nI (M 16 1))] 14 dX2_push_9 (c_X6_copyTo_17 (by omega)) wm_542 wm_543 wm_544 wm_54 wm_545 xc_14 rfl ydc_X6_copyTo rfl ⟨Nat.le_of_ble_eq_true rfl, Nat.le_of_ble_eq_true rfl⟩ ⟨rfl, rfl⟩ ⟨Nat.le_refl _, Nat.le_refl _⟩ (Nat.le_of_ble_eq_true rfl) rfl ?_
  refine G_aload_n C 0 dX2_push_12 rfl rfl ?_
  refine G_aload_n C 0 dX2_push_13 rfl rfl ?_
  refine G_get (v := .int (nI (M 16 1))) C 16 1 dX2_push_14 xc_16 rfl inG2 (by decide) wm_194 rfl rfl ?_
  refine G_iconst C dX2_push_17 kI_1 ?_
  refine G_iaddN C dX2_push_18 ?_
  refine G_bipush C dX2_push_19 kB_10 ?_
  refine G_iremN C dX2_push_21 (by omega) (by decide) (by decide) ?_
  refine G_put (w' := wX cI cZ ad (ms (va_up M 17 (va_cpy (M 15) (M 17) 0 ((M 16 1) * 20) 20)) 16 (1) (((M 16 1) + 1) % 10)) t) (ty := .int) C 16 1 tyX2 dX2_push_22 xc_16 rfl inG2 tyX2_ok nmX2 (by decide) wm_194 rfl rfl (by decide +kernel) rfl rfl (Nat.le_of_ble_eq_true rfl) (xp_16_1 _) ?_
  refine G_aload_n C 0 dX2_push_25 rfl rfl ?_
  refine G_bipush C dX2_push_26 kB_10 ?_
  refine G_aload_n C 0 dX2_push_28 rfl rfl ?_
  refine G_get (v := .int (nI (M 16 2))) C 16 2 dX2_push_29 xc_16 rfl inG2 (by decide) wm_195 rfl rfl ?_
  refine G_iconst C dX2_push_32 kI_1 ?_
  refine G_iaddN C dX2_push_33 ?_
  refine G_min C dX2_push_34 wm_546 wm_385 wm_62 wm_386 (Nat.le_of_ble_eq_true rfl) (Nat.le_of_ble_eq_true rfl) (Nat.le_refl _) (Nat.le_refl _) ?_
  refine G_top (y := nI (min 10 (M 16 2 + 1))) (nI_min (by decide) (by have := hB 16 2; omega)) ?_
  refine G_put (w' := wX cI cZ ad (ms (ms (va_up M 17 (va_cpy (M 15) (M 17) 0 ((M 16 1) * 20) 20)) 16 (1) (((M 16 1) + 1) % 10)) 16 (2) (min 10 (M 16 2 + 1))) t) (ty := .int) C 16 2 tyX2 dX2_push_37 xc_16 rfl inG2 tyX2_ok nmX2 (by decide) wm_195 rfl rfl (by decide +kernel) rfl rfl (Nat.le_of_ble_eq_true rfl) (xp_16_2 _) ?_
  exact G_vret C hr dX2_push_40 rfl (rfl)
set_option maxHeartbeats 4000000 in
set_option maxRecDepth 100000 in
theorem c_X2_pop  (hx : M 16 1 < 10) (hk : 0 < M 16 2) (hB : ∀ k j, M k j < 1024) : CT l yX2_pop cX2_pop 2 none (rmOf 2 62) D (tyI cI cZ) [.ref (ad 16), .ref (ad 14)] (wX cI cZ ad M t) (none) (wX cI cZ ad (x_pop M) t) := by
  refine CT_of (own := "FalseParity$History") (by decide) rfl (Nat.le_of_ble_eq_true rfl) (fun p e s m args below meth c C hr => ?_)
  refine G_aload_n C 0 dX2_pop_0 rfl rfl ?_
  refine G_aload_n C 0 dX2_pop_1 rfl rfl ?_
  refine G_get (v := .int (nI (M 16 1))) C 16 1 dX2_pop_2 xc_16 rfl inG2 (by decide) wm_194 rfl rfl ?_
  refine G_bipush C dX2_pop_5 kB_10 ?_
  refine G_iaddN C dX2_pop_7 ?_
  refine G_iconst C dX2_pop_8 kI_1 ?_
  refine G_isubN C dX2_pop_9 (by omega) ?_
  refine G_bipush C dX2_pop_10 kB_10 ?_
  refine G_iremN C dX2_pop_12 (by omega) (by decide) (by decide) ?_
  refine G_put (w' := wX cI cZ ad (ms M 16 (1) ((((M 16 1) + 10) - 1) % 10)) t) (ty := .int) C 16 1 tyX2 dX2_pop_13 xc_16 rfl inG2 tyX2_ok nmX2 (by decide) wm_194 rfl rfl (by decide +kernel) rfl rfl (Nat.le_of_ble_eq_true rfl) (xp_16_1 _) ?_
  refine G_aload_n C 0 dX2_pop_16 rfl rfl ?_
  refine G_dup C dX2_pop_17 rfl ?_
  refine G_get (v := .int (nI (M 16 2))) C 16 2 dX2_pop_18 xc_16 rfl inG2 (by decide) wm_195 rfl rfl ?_
  refine G_iconst C dX2_pop_21 kI_1 ?_
  refine G_isubN C dX2_pop_22 (by omega) ?_
  refine G_put (w' := wX cI cZ ad (ms (ms M 16 (1) ((((M 16 1) + 10) - 1) % 10)) 16 (2) ((M 16 2) - 1)) t) (ty := .int) C 16 2 tyX2 dX2_pop_23 xc_16 rfl inG2 tyX2_ok nmX2 (by decide) wm_195 rfl rfl (by decide +kernel) rfl rfl (Nat.le_of_ble_eq_true rfl) (xp_16_2 _) ?_
  refine G_aload_n C 1 dX2_pop_26 rfl rfl ?_
  refine G_aload_n C 0 dX2_pop_27 rfl rfl ?_
  refine G_get (v := .ref (ad 17)) C 16 0 dX2_pop_28 xc_16 rfl inG2 (by decide) wm_193 rfl rfl ?_
  refine G_aload_n C 0 dX2_pop_31 rfl rfl ?_
  refine G_get (v := .int (nI ((((M 16 1) + 10) - 1) % 10))) C 16 1 dX2_pop_32 xc_16 rfl inG2 (by decide) wm_194 rfl rfl ?_
  refine G_callV0 (w' := wX cI cZ ad (va_up (ms (ms M 16 (1) ((((M 16 1) + 10) - 1) % 10)) 16 (2) ((M 16 2) - 1)) 15 (va_cpy (M 17) (M 15) (((((M 16 1) + 10) - 1) % 10) * 20) 0 20)) t) C [.ref (ad 17), .int (nI ((((M 16 1) + 10) - 1) % 10))] 14 dX2_pop_35 (c_X6_copyFrom_17 (by omega)) wm_599 wm_600 wm_601 wm_54 wm_602 xc_14 rfl ydc_X6_copyFrom rfl ⟨Nat.le_of_ble_eq_true rfl, Nat.le_of_ble_eq_true rfl⟩ ⟨rfl, rfl⟩ ⟨Nat.le_refl _, Nat.le_refl _⟩ (Nat.le_of_ble_eq_true rfl) rfl ?_
  exact G_vret C hr dX2_pop_38 rfl (rfl)
set_option maxHeartbeats 4000000 in
set_option maxRecDepth 100000 in
theorem c_X3_empty   : CT l yX3_empty cX3_empty 1 none (rmOf 0 0) D (tyI cI cZ) [.ref (ad 18)] (wX cI cZ ad M t) (none) (wX cI cZ ad (ms M 18 (1) (0)) t) := by
  refine CT_of (own := "FalseParity$Images") (by decide) rfl (Nat.le_of_ble_eq_true rfl) (fun p e s m args below meth c C hr => ?_)
  refine G_aload_n C 0 dX3_empty_0 rfl rfl ?_
  refine G_iconst C dX3_empty_1 kI_0 ?_
  refine G_put (w' := wX cI cZ ad (ms M 18 (1) (0)) t) (ty := .int) C 18 1 tyX3 dX3_empty_2 xc_18 rfl inG3 tyX3_ok nmX3 (by decide) wm_211 rfl rfl (by decide +kernel) rfl rfl (Nat.le_of_ble_eq_true rfl) (xp_18_1 _) ?_
  exact G_vret C hr dX3_empty_5 rfl (rfl)
set_option maxHeartbeats 4000000 in
set_option maxRecDepth 100000 in
theorem c_X3_has {i : Nat}  : CT l yX3_has cX3_has 2 (some .boolean) (rmOf 1 21) D (tyI cI cZ) [.ref (ad 18), .int (nI i)] (wX cI cZ ad M t) (some (.int (nI (bN (hb (nI (M 18 1)) i))))) (wX cI cZ ad M t) := by
  refine CT_of (own := "FalseParity$Images") (by decide) rfl (Nat.le_of_ble_eq_true rfl) (fun p e s m args below meth c C hr => ?_)
  refine G_aload_n C 0 dX3_has_0 rfl rfl ?_
  refine G_get (v := .int (nI (M 18 1))) C 18 1 dX3_has_1 xc_18 rfl inG3 (by decide) wm_211 rfl rfl ?_
  refine G_iload_n C 1 dX3_has_4 rfl rfl ?_
  refine G_callSN1 C [.int (nI (M 18 1)), .int (nI i)] dX3_has_5 (c_X10_hasBit) wn_809 wm_464 wm_50 wm_465 ydc_X10_hasBit rfl ⟨Nat.le_of_ble_eq_true rfl, Nat.le_of_ble_eq_true rfl⟩ ⟨rfl, rfl⟩ ⟨Nat.le_refl _, Nat.le_refl _⟩ (Nat.le_of_ble_eq_true rfl) rfl ?_
  exact G_zret C hr dX3_has_8 (nB_nar _) (rfl) (rfl)
set_option maxHeartbeats 4000000 in
set_option maxRecDepth 100000 in
theorem c_X3_store {i : Nat} (hi : i < 2) : CT l yX3_store cX3_store 3 none (rmOf 2 62) D (tyI cI cZ) [.ref (ad 18), .int (nI i), .ref (ad 14)] (wX cI cZ ad M t) (none) (wX cI cZ ad (x_keep M i) t) := by
  refine CT_of (own := "FalseParity$Images") (by decide) rfl (Nat.le_of_ble_eq_true rfl) (fun p e s m args below meth c C hr => ?_)
  refine G_aload_n C 2 dX3_store_0 rfl rfl ?_
  refine G_aload_n C 0 dX3_store_1 rfl rfl ?_
  refine G_get (v := .ref (ad 19)) C 18 0 dX3_store_2 xc_18 rfl inG3 (by decide) wm_210 rfl rfl ?_
  refine G_iload_n C 1 dX3_store_5 rfl rfl ?_
  refine G_callV0 (w' := wX cI cZ ad (va_up M 19 (va_cpy (M 15) (M 19) 0 ((i) * 20) 20)) t) C [.ref (ad 19), .int (nI i)] 14 dX3_store_6 (c_X6_copyTo_19 (by omega)) wm_800 wm_543 wm_544 wm_54 wm_545 xc_14 rfl ydc_X6_copyTo rfl ⟨Nat.le_of_ble_eq_true rfl, Nat.le_of_ble_eq_true rfl⟩ ⟨rfl, rfl⟩ ⟨Nat.le_refl _, Nat.le_refl _⟩ (Nat.le_of_ble_eq_true rfl) rfl ?_
  refine G_aload_n C 0 dX3_store_9 rfl rfl ?_
  refine G_dup C dX3_store_10 rfl ?_
  refine G_get (v := .int (nI (M 18 1))) C 18 1 dX3_store_11 xc_18 rfl inG3 (by decide) wm_211 rfl rfl ?_
  refine G_iconst C dX3_store_14 kI_1 ?_
  refine G_iload_n C 1 dX3_store_15 rfl rfl ?_
  refine G_ishlN C dX3_store_16 (by omega) (sh1 (by omega)) ?_
  refine G_iorN C dX3_store_17 ?_
  refine G_put (w' := wX cI cZ ad (ms (va_up M 19 (va_cpy (M 15) (M 19) 0 ((i) * 20) 20)) 18 (1) ((M 18 1) ||| (1 * 2 ^ i))) t) (ty := .int) C 18 1 tyX3 dX3_store_18 xc_18 rfl inG3 tyX3_ok nmX3 (by decide) wm_211 rfl rfl (by decide +kernel) rfl rfl (Nat.le_of_ble_eq_true rfl) (xp_18_1 _) ?_
  exact G_vret C hr dX3_store_21 rfl (rfl)
set_option maxHeartbeats 4000000 in
set_option maxRecDepth 100000 in
theorem c_X3_restore {i : Nat} (hi : i < 2) : CT l yX3_restore cX3_restore 3 none (rmOf 2 62) D (tyI cI cZ) [.ref (ad 18), .int (nI i), .ref (ad 14)] (wX cI cZ ad M t) (none) (wX cI cZ ad (x_back M i) t) := by
  refine CT_of (own := "FalseParity$Images") (by decide) rfl (Nat.le_of_ble_eq_true rfl) (fun p e s m args below meth c C hr => ?_)
  refine G_aload_n C 2 dX3_restore_0 rfl rfl ?_
  refine G_aload_n C 0 dX3_restore_1 rfl rfl ?_
  refine G_get (v := .ref (ad 19)) C 18 0 dX3_restore_2 xc_18 rfl inG3 (by decide) wm_210 rfl rfl ?_
  refine G_iload_n C 1 dX3_restore_5 rfl rfl ?_
  refine G_callV0 (w' := wX cI cZ ad (va_up M 15 (va_cpy (M 19) (M 15) ((i) * 20) 0 20)) t) C [.ref (ad 19), .int (nI i)] 14 dX3_restore_6 (c_X6_copyFrom_19 (by omega)) wm_814 wm_600 wm_601 wm_54 wm_602 xc_14 rfl ydc_X6_copyFrom rfl ⟨Nat.le_of_ble_eq_true rfl, Nat.le_of_ble_eq_true rfl⟩ ⟨rfl, rfl⟩ ⟨Nat.le_refl _, Nat.le_refl _⟩ (Nat.le_of_ble_eq_true rfl) rfl ?_
  exact G_vret C hr dX3_restore_9 rfl (rfl)
set_option maxHeartbeats 4000000 in
set_option maxRecDepth 100000 in
theorem c_X7_takers {n : Nat} (hn : n < 6) (hP : M 9 4 ≤ 5) (hB : ∀ k j, M k j < 1024) : CT l yX7_takers cX7_takers 2 (some .int) (rmOf 2 44) D (tyI cI cZ) [.ref (ad 20), .int (nI n)] (wX cI cZ ad M t) (some (.int (nI (x_tk M n)))) (wX cI cZ ad M t) := by
  refine CT_of (own := "FalseParity$Paths") (by decide) rfl (Nat.le_of_ble_eq_true rfl) (fun p e s m args below meth c C hr => ?_)
  refine G_aload_n C 0 dX7_takers_0 rfl rfl ?_
  refine G_get (v := .ref (ad 14)) C 20 1 dX7_takers_1 xc_20 rfl inG7 (by decide) wm_224 rfl rfl ?_
  refine G_iload_n C 1 dX7_takers_4 rfl rfl ?_
  refine G_callV1 C [.int (nI n)] 14 dX7_takers_5 c_X6_hasParity wm_474 wm_460 wm_461 wm_54 wm_462 xc_14 rfl ydc_X6_hasParity rfl ⟨Nat.le_of_ble_eq_true rfl, Nat.le_of_ble_eq_true rfl⟩ ⟨rfl, rfl⟩ ⟨Nat.le_refl _, Nat.le_refl _⟩ (Nat.le_of_ble_eq_true rfl) rfl ?_
  refine G_if_eqB (tgt := 25) C dX7_takers_8 (by decide) (fun h8_1 => ?_) (fun h8_1 => ?_)
  · refine G_aload_n C 0 dX7_takers_25 rfl rfl ?_
    refine G_iload_n C 1 dX7_takers_26 rfl rfl ?_
    refine G_callV1 C [.int (nI n)] 20 dX7_takers_27 (c_X7_takersByLooks (by omega) hP hB) wm_475 wm_477 wm_14 wm_57 wm_478 xc_20 rfl ydc_X7_takersByLooks rfl ⟨Nat.le_of_ble_eq_true rfl, Nat.le_of_ble_eq_true rfl⟩ ⟨rfl, rfl⟩ ⟨Nat.le_refl _, Nat.le_refl _⟩ (Nat.le_of_ble_eq_true rfl) rfl ?_
    exact G_iret C hr dX7_takers_30 (by unfold x_tk; rw [if_neg (by rw [h8_1]; decide)]) (rfl)
  · refine G_iconst C dX7_takers_11 kI_1 ?_
    refine G_aload_n C 0 dX7_takers_12 rfl rfl ?_
    refine G_get (v := .ref (ad 9)) C 20 0 dX7_takers_13 xc_20 rfl inG7 (by decide) wm_223 rfl rfl ?_
    refine G_getN (v := .int (nI (M 9 4))) C 9 4 dX7_takers_16 xc_9 rfl inG1 (by decide) wn_119 rfl rfl ?_
    refine G_ishlN C dX7_takers_19 (by omega) (sh1 (by omega)) ?_
    refine G_iconst C dX7_takers_20 kI_1 ?_
    refine G_isubN C dX7_takers_21 pw1 ?_
    refine G_goto (tgt := 30) C dX7_takers_22 (by decide) ?_
    exact G_iret C hr dX7_takers_30 (by unfold x_tk; rw [if_pos h8_1]) (rfl)
set_option maxHeartbeats 4000000 in
set_option maxRecDepth 100000 in
theorem c_X7_takes {n q : Nat} (hn : n < 6) (hP : M 9 4 ≤ 5) (hB : ∀ k j, M k j < 1024) : CT l yX7_takes cX7_takes 3 (some .boolean) (rmOf 3 65) D (tyI cI cZ) [.ref (ad 20), .int (nI n), .int (nI q)] (wX cI cZ ad M t) (some (.int (nI (bN (hb (nI (x_tk M n)) q))))) (wX cI cZ ad M t) := by
  refine CT_of (own := "FalseParity$Paths") (by decide) rfl (Nat.le_of_ble_eq_true rfl) (fun p e s m args below meth c C hr => ?_)
  refine G_aload_n C 0 dX7_takes_0 rfl rfl ?_
  refine G_iload_n C 1 dX7_takes_1 rfl rfl ?_
  refine G_callV1 C [.int (nI n)] 20 dX7_takes_2 (c_X7_takers (by omega) hP hB) wm_551 wm_471 wm_472 wm_57 wm_473 xc_20 rfl ydc_X7_takers rfl ⟨Nat.le_of_ble_eq_true rfl, Nat.le_of_ble_eq_true rfl⟩ ⟨rfl, rfl⟩ ⟨Nat.le_refl _, Nat.le_refl _⟩ (Nat.le_of_ble_eq_true rfl) rfl ?_
  refine G_iload_n C 2 dX7_takes_5 rfl rfl ?_
  refine G_callSN1 C [.int (nI (x_tk M (n))), .int (nI q)] dX7_takes_6 (c_X10_hasBit) wn_552 wm_464 wm_50 wm_465 ydc_X10_hasBit rfl ⟨Nat.le_of_ble_eq_true rfl, Nat.le_of_ble_eq_true rfl⟩ ⟨rfl, rfl⟩ ⟨Nat.le_refl _, Nat.le_refl _⟩ (Nat.le_of_ble_eq_true rfl) rfl ?_
  exact G_zret C hr dX7_takes_9 (nB_nar _) (rfl) (rfl)
set_option maxHeartbeats 4000000 in
set_option maxRecDepth 100000 in
theorem c_X7_neededForParity {n : Nat} (hn : n < 6) (hu : M 15 (6 + n) ≤ M 9 6) : CT l yX7_neededForParity cX7_neededForParity 2 (some .int) (rmOf 1 21) D (tyI cI cZ) [.ref (ad 20), .int (nI n)] (wX cI cZ ad M t) (some (.int (nI (M 9 6 - M 15 (6 + n))))) (wX cI cZ ad M t) := by
  refine CT_of (own := "FalseParity$Paths") (by decide) rfl (Nat.le_of_ble_eq_true rfl) (fun p e s m args below meth c C hr => ?_)
  refine G_aload_n C 0 dX7_neededForParity_0 rfl rfl ?_
  refine G_get (v := .ref (ad 9)) C 20 0 dX7_neededForParity_1 xc_20 rfl inG7 (by decide) wm_223 rfl rfl ?_
  refine G_getN (v := .int (nI (M 9 6))) C 9 6 dX7_neededForParity_4 xc_9 rfl inG1 (by decide) wn_128 rfl rfl ?_
  refine G_aload_n C 0 dX7_neededForParity_7 rfl rfl ?_
  refine G_get (v := .ref (ad 14)) C 20 1 dX7_neededForParity_8 xc_20 rfl inG7 (by decide) wm_224 rfl rfl ?_
  refine G_iload_n C 1 dX7_neededForParity_11 rfl rfl ?_
  refine G_callV1 C [.int (nI n)] 14 dX7_neededForParity_12 (c_X6_uses (by omega)) wm_611 wm_456 wm_457 wm_54 wm_458 xc_14 rfl ydc_X6_uses rfl ⟨Nat.le_of_ble_eq_true rfl, Nat.le_of_ble_eq_true rfl⟩ ⟨rfl, rfl⟩ ⟨Nat.le_refl _, Nat.le_refl _⟩ (Nat.le_of_ble_eq_true rfl) rfl ?_
  refine G_isubN C dX7_neededForParity_15 (by omega) ?_
  exact G_iret C hr dX7_neededForParity_16 (rfl) (rfl)
set_option maxHeartbeats 4000000 in
set_option maxRecDepth 100000 in
theorem c_X7_hasParityBehind {n b : Nat} (hn : n < 6) (hb0 : b < 1024) (hB : ∀ k j, M k j < 1024) : CT l yX7_hasParityBehind cX7_hasParityBehind 3 (some .boolean) (rmOf 2 42) D (tyI cI cZ) [.ref (ad 20), .int (nI n), .int (nI b)] (wX cI cZ ad M t) (some (.int (nI (bN (x_hpb M n b))))) (wX cI cZ ad M t) := by
  refine CT_of (own := "FalseParity$Paths") (by decide) rfl (Nat.le_of_ble_eq_true rfl) (fun p e s m args below meth c C hr => ?_)
  refine G_aload_n C 0 dX7_hasParityBehind_0 rfl rfl ?_
  refine G_get (v := .ref (ad 14)) C 20 1 dX7_hasParityBehind_1 xc_20 rfl inG7 (by decide) wm_224 rfl rfl ?_
  refine G_iload_n C 1 dX7_hasParityBehind_4 rfl rfl ?_
  refine G_callV1 C [.int (nI n)] 14 dX7_hasParityBehind_5 c_X6_hasParity wm_474 wm_460 wm_461 wm_54 wm_462 xc_14 rfl ydc_X6_hasParity rfl ⟨Nat.le_of_ble_eq_true rfl, Nat.le_of_ble_eq_true rfl⟩ ⟨rfl, rfl⟩ ⟨Nat.le_refl _, Nat.le_refl _⟩ (Nat.le_of_ble_eq_true rfl) rfl ?_
  refine G_if_neB (tgt := 42) C dX7_hasParityBehind_8 (by decide) (fun h8_1 => ?_) (fun h8_1 => ?_)
  · refine G_iconst C dX7_hasParityBehind_42 kI_1 ?_
    refine G_goto (tgt := 47) C dX7_hasParityBehind_43 (by decide) ?_
    exact G_zret C hr dX7_hasParityBehind_47 (by rfl) (bI_t (by simp [x_hpb, h8_1])) (rfl)
  · refine G_aload_n C 0 dX7_hasParityBehind_11 rfl rfl ?_
    refine G_get (v := .ref (ad 9)) C 20 0 dX7_hasParityBehind_12 xc_20 rfl inG7 (by decide) wm_223 rfl rfl ?_
    refine G_iload_n C 1 dX7_hasParityBehind_15 rfl rfl ?_
    refine G_callV1 C [.int (nI n)] 9 dX7_hasParityBehind_16 (c_X1_isFalse (by omega) hB) wm_624 wm_531 wm_532 wm_53 wm_533 xc_9 rfl ydc_X1_isFalse rfl ⟨Nat.le_of_ble_eq_true rfl, Nat.le_of_ble_eq_true rfl⟩ ⟨rfl, rfl⟩ ⟨Nat.le_refl _, Nat.le_refl _⟩ (Nat.le_of_ble_eq_true rfl) rfl ?_
    refine G_if_eqB (tgt := 46) C dX7_hasParityBehind_19 (by decide) (fun h19_2 => ?_) (fun h19_2 => ?_)
    · refine G_iconst C dX7_hasParityBehind_46 kI_0 ?_
      exact G_zret C hr dX7_hasParityBehind_47 (by rfl) (bI_f (by simp [x_hpb, h8_1, h19_2])) (rfl)
    · refine G_aload_n C 0 dX7_hasParityBehind_22 rfl rfl ?_
      refine G_get (v := .ref (ad 14)) C 20 1 dX7_hasParityBehind_23 xc_20 rfl inG7 (by decide) wm_224 rfl rfl ?_
      refine G_iload_n C 1 dX7_hasParityBehind_26 rfl rfl ?_
      refine G_callV1 C [.int (nI n)] 14 dX7_hasParityBehind_27 (c_X6_uses (by omega)) wm_611 wm_456 wm_457 wm_54 wm_458 xc_14 rfl ydc_X6_uses rfl ⟨Nat.le_of_ble_eq_true rfl, Nat.le_of_ble_eq_true rfl⟩ ⟨rfl, rfl⟩ ⟨Nat.le_refl _, Nat.le_refl _⟩ (Nat.le_of_ble_eq_true rfl) rfl ?_
      refine G_iload_n C 2 dX7_hasParityBehind_30 rfl rfl ?_
      refine G_iaddN C dX7_hasParityBehind_31 ?_
      refine G_aload_n C 0 dX7_hasParityBehind_32 rfl rfl ?_
      refine G_get (v := .ref (ad 9)) C 20 0 dX7_hasParityBehind_33 xc_20 rfl inG7 (by decide) wm_223 rfl rfl ?_
      refine G_getN (v := .int (nI (M 9 6))) C 9 6 dX7_hasParityBehind_36 xc_9 rfl inG1 (by decide) wn_128 rfl rfl ?_
      refine G_icmp_ltN (tgt := 46) C dX7_hasParityBehind_39 (by decide) (by have := hB 15 (6 + n); omega) (by have := hB 9 6; omega) (fun h39_3 => ?_) (fun h39_3 => ?_)
      · refine G_iconst C dX7_hasParityBehind_46 kI_0 ?_
        exact G_zret C hr dX7_hasParityBehind_47 (by rfl) (bI_f (by simp [x_hpb, h8_1, h19_2, Nat.not_le.mpr h39_3])) (rfl)
      · refine G_iconst C dX7_hasParityBehind_42 kI_1 ?_
        refine G_goto (tgt := 47) C dX7_hasParityBehind_43 (by decide) ?_
        exact G_zret C hr dX7_hasParityBehind_47 (by rfl) (bI_t (by simp [x_hpb, h8_1, h19_2, h39_3])) (rfl)
set_option maxHeartbeats 4000000 in
set_option maxRecDepth 100000 in
theorem c_X7_choices {n b : Nat} (hn : n < 6) (hb0 : b < 1024) (hP : M 9 4 ≤ 5) (hB : ∀ k j, M k j < 1024) : CT l yX7_choices cX7_choices 5 (some .int) (rmOf 3 64) D (tyI cI cZ) [.ref (ad 20), .int (nI n), .int (nI b)] (wX cI cZ ad M t) (some (.int (x_ch M n b))) (wX cI cZ ad M t) := by
  refine CT_of (own := "FalseParity$Paths") (by decide) rfl (Nat.le_of_ble_eq_true rfl) (fun p e s m args below meth c C hr => ?_)
  refine G_aload_n C 0 dX7_choices_0 rfl rfl ?_
  refine G_iload_n C 1 dX7_choices_1 rfl rfl ?_
  refine G_iload_n C 2 dX7_choices_2 rfl rfl ?_
  refine G_callV1 C [.int (nI n), .int (nI b)] 20 dX7_choices_3 (c_X7_hasParityBehind (by omega) (by omega) hB) wm_620 wm_622 wm_18 wm_57 wm_623 xc_20 rfl ydc_X7_hasParityBehind rfl ⟨Nat.le_of_ble_eq_true rfl, Nat.le_of_ble_eq_true rfl⟩ ⟨rfl, rfl⟩ ⟨Nat.le_refl _, Nat.le_refl _⟩ (Nat.le_of_ble_eq_true rfl) rfl ?_
  refine G_if_eqB (tgt := 19) C dX7_choices_6 (by decide) (fun h6_1 => ?_) (fun h6_1 => ?_)
  · refine G_aload_n C 0 dX7_choices_19 rfl rfl ?_
    refine G_iload_n C 1 dX7_choices_20 rfl rfl ?_
    refine G_callV1 C [.int (nI n)] 20 dX7_choices_21 (c_X7_takersByLooks (by omega) hP hB) wm_475 wm_477 wm_14 wm_57 wm_478 xc_20 rfl ydc_X7_takersByLooks rfl ⟨Nat.le_of_ble_eq_true rfl, Nat.le_of_ble_eq_true rfl⟩ ⟨rfl, rfl⟩ ⟨Nat.le_refl _, Nat.le_refl _⟩ (Nat.le_of_ble_eq_true rfl) rfl ?_
    refine G_istore_n (lv' := [(3, .int (nI (x_tbl M (n)))), (0, .ref (ad 20)), (1, .int (nI n)), (2, .int (nI b))]) C dX7_choices_24 rfl (by decide) rfl ?_
    refine G_iload_n C 3 dX7_choices_25 rfl rfl ?_
    refine G_if_gtN (tgt := 44) C dX7_choices_26 (by decide) (by omega) (fun h26_2 => ?_) (fun h26_2 => ?_)
    · refine G_iconst C dX7_choices_44 kI_1 ?_
      refine G_goto (tgt := 49) C dX7_choices_45 (by decide) ?_
      refine G_istore (lv' := [(4, .int (nI 1)), (3, .int (nI (x_tbl M (n)))), (0, .ref (ad 20)), (1, .int (nI n)), (2, .int (nI b))]) C dX7_choices_49 (by decide) rfl ?_
      refine G_iload_n C 1 dX7_choices_51 rfl rfl ?_
      refine G_callS1 C [.int (nI (x_tbl M (n)))] dX7_choices_52 (c_J6_bitCount_0f7a4 (Nat.lt_trans (x_tbl_lt hP) (by decide))) wm_626 wm_586 wm_64 wm_587 ydc_J6_bitCount_0f7a4 rfl ⟨Nat.le_of_ble_eq_true rfl, Nat.le_of_ble_eq_true rfl⟩ ⟨rfl, rfl⟩ ⟨Nat.le_refl _, Nat.le_refl _⟩ (Nat.le_of_ble_eq_true rfl) rfl ?_
      refine G_iload C 0 dX7_choices_55 rfl ?_
      refine G_if_eqN (tgt := 64) C dX7_choices_57 (by decide) (by decide) (fun h57_3 => ?_) (fun h57_3 => ?_)
      · exact absurd h57_3 (by decide)
      · refine G_iconst C dX7_choices_60 kI_1 ?_
        refine G_goto (tgt := 65) C dX7_choices_61 (by decide) ?_
        refine G_isub C dX7_choices_65 ?_
        exact G_iret C hr dX7_choices_66 (by unfold x_ch; rw [if_neg (by rw [h6_1]; decide)]; simp [h6_1, h26_2, h57_3]) (rfl)
    · refine G_iload_n C 0 dX7_choices_29 rfl rfl ?_
      refine G_aload_n C 1 dX7_choices_30 rfl rfl ?_
      refine G_get (v := .ref (ad 14)) C 20 1 dX7_choices_31 xc_20 rfl inG7 (by decide) wm_224 rfl rfl ?_
      refine G_iload_n C 2 dX7_choices_34 rfl rfl ?_
      refine G_callV1 C [.int (nI n)] 14 dX7_choices_35 (c_X6_holder (by omega)) wm_625 wm_452 wm_453 wm_54 wm_454 xc_14 rfl ydc_X6_holder rfl ⟨Nat.le_of_ble_eq_true rfl, Nat.le_of_ble_eq_true rfl⟩ ⟨rfl, rfl⟩ ⟨Nat.le_refl _, Nat.le_refl _⟩ (Nat.le_of_ble_eq_true rfl) rfl ?_
      refine G_callSN1 C [.int (nI (x_tbl M (n))), .int (nI (M 15 n))] dX7_choices_38 (c_X10_hasBit) wn_552 wm_464 wm_50 wm_465 ydc_X10_hasBit rfl ⟨Nat.le_of_ble_eq_true rfl, Nat.le_of_ble_eq_true rfl⟩ ⟨rfl, rfl⟩ ⟨Nat.le_refl _, Nat.le_refl _⟩ (Nat.le_of_ble_eq_true rfl) rfl ?_
      refine G_if_eqB (tgt := 48) C dX7_choices_41 (by decide) (fun h41_4 => ?_) (fun h41_4 => ?_)
      · refine G_iconst C dX7_choices_48 kI_0 ?_
        refine G_istore (lv' := [(4, .int (nI 0)), (3, .int (nI (x_tbl M (n)))), (0, .ref (ad 20)), (1, .int (nI n)), (2, .int (nI b))]) C dX7_choices_49 (by decide) rfl ?_
        refine G_iload_n C 1 dX7_choices_51 rfl rfl ?_
        refine G_callS1 C [.int (nI (x_tbl M (n)))] dX7_choices_52 (c_J6_bitCount_0f7a4 (Nat.lt_trans (x_tbl_lt hP) (by decide))) wm_626 wm_586 wm_64 wm_587 ydc_J6_bitCount_0f7a4 rfl ⟨Nat.le_of_ble_eq_true rfl, Nat.le_of_ble_eq_true rfl⟩ ⟨rfl, rfl⟩ ⟨Nat.le_refl _, Nat.le_refl _⟩ (Nat.le_of_ble_eq_true rfl) rfl ?_
        refine G_iload C 0 dX7_choices_55 rfl ?_
        refine G_if_eqN (tgt := 64) C dX7_choices_57 (by decide) (by decide) (fun h57_5 => ?_) (fun h57_5 => ?_)
        · refine G_iconst C dX7_choices_64 kI_0 ?_
          refine G_isub C dX7_choices_65 ?_
          exact G_iret C hr dX7_choices_66 (by unfold x_ch; rw [if_neg (by rw [h6_1]; decide)]; simp [h6_1, h26_2, h41_4, h57_5]) (rfl)
        · exact absurd h57_5 (by decide)
      · refine G_iconst C dX7_choices_44 kI_1 ?_
        refine G_goto (tgt := 49) C dX7_choices_45 (by decide) ?_
        refine G_istore (lv' := [(4, .int (nI 1)), (3, .int (nI (x_tbl M (n)))), (0, .ref (ad 20)), (1, .int (nI n)), (2, .int (nI b))]) C dX7_choices_49 (by decide) rfl ?_
        refine G_iload_n C 1 dX7_choices_51 rfl rfl ?_
        refine G_callS1 C [.int (nI (x_tbl M (n)))] dX7_choices_52 (c_J6_bitCount_0f7a4 (Nat.lt_trans (x_tbl_lt hP) (by decide))) wm_626 wm_586 wm_64 wm_587 ydc_J6_bitCount_0f7a4 rfl ⟨Nat.le_of_ble_eq_true rfl, Nat.le_of_ble_eq_true rfl⟩ ⟨rfl, rfl⟩ ⟨Nat.le_refl _, Nat.le_refl _⟩ (Nat.le_of_ble_eq_true rfl) rfl ?_
        refine G_iload C 0 dX7_choices_55 rfl ?_
        refine G_if_eqN (tgt := 64) C dX7_choices_57 (by decide) (by decide) (fun h57_6 => ?_) (fun h57_6 => ?_)
        · exact absurd h57_6 (by decide)
        · refine G_iconst C dX7_choices_60 kI_1 ?_
          refine G_goto (tgt := 65) C dX7_choices_61 (by decide) ?_
          refine G_isub C dX7_choices_65 ?_
          exact G_iret C hr dX7_choices_66 (by unfold x_ch; rw [if_neg (by rw [h6_1]; decide)]; simp [h6_1, h26_2, h41_4, h57_6]) (rfl)
  · refine G_aload_n C 0 dX7_choices_9 rfl rfl ?_
    refine G_get (v := .ref (ad 9)) C 20 0 dX7_choices_10 xc_20 rfl inG7 (by decide) wm_223 rfl rfl ?_
    refine G_getN (v := .int (nI (M 9 4))) C 9 4 dX7_choices_13 xc_9 rfl inG1 (by decide) wn_119 rfl rfl ?_
    refine G_iconst C dX7_choices_16 kI_1 ?_
    refine G_isub C dX7_choices_17 ?_
    exact G_iret C hr dX7_choices_18 (by unfold x_ch; rw [if_pos h6_1]) (rfl)
set_option maxHeartbeats 4000000 in
set_option maxRecDepth 100000 in
theorem c_X7_canGoOn {n k : Nat} (hn : n < 6) (hk : k < 1024) (hP : M 9 4 ≤ 5) (hB : ∀ k j, M k j < 1024) : CT l yX7_canGoOn cX7_canGoOn 4 (some .boolean) (rmOf 4 88) D (tyI cI cZ) [.ref (ad 20), .int (nI n), .int (nI k)] (wX cI cZ ad M t) (some (.int (nI (bN (x_cgo M n k))))) (wX cI cZ ad M t) := by
  refine CT_of (own := "FalseParity$Paths") (by decide) rfl (Nat.le_of_ble_eq_true rfl) (fun p e s m args below meth c C hr => ?_)
  refine G_iconst C dX7_canGoOn_0 kI_0 ?_
  refine G_istore_n (lv' := [(3, .int (nI 0)), (0, .ref (ad 20)), (1, .int (nI n)), (2, .int (nI k))]) C dX7_canGoOn_1 rfl (by decide) rfl ?_
  refine G_pick (lv' := [(0, .ref (ad 20)), (1, .int (nI n)), (2, .int (nI k)), (3, .int (nI 0))]) [1, 2, 3, 0] rfl ?_
  refine loopN (P := fun b => (∀ z, z < b → ¬ x_ch M n z = 0) → G p l e (rmOf 4 88) s m args below meth c D _ 4 0 0 _ 2 [(0, .ref (ad 20)), (1, .int (nI n)), (2, .int (nI k)), (3, .int (nI b))] [] (wX cI cZ ad M t)) (k) ?_ ?_ 0 (Nat.zero_le _)  (fun z h => absurd h (Nat.not_lt_zero z))
  · intro  hi1_0
    refine G_iload_n C 3 dX7_canGoOn_2 rfl rfl ?_
    refine G_iload_n C 2 dX7_canGoOn_3 rfl rfl ?_
    refine G_icmp_geN (tgt := 24) C dX7_canGoOn_4 (by decide) (by omega) (by omega) (fun h4_2 => ?_) (fun h4_2 => ?_)
    · refine G_iconst C dX7_canGoOn_24 kI_1 ?_
      exact G_zret C hr dX7_canGoOn_25 (by rfl) (bI_t (decide_eq_true hi1_0)) (rfl)
    · exfalso; omega
  · intro b hbk ih1  hi1_0
    refine G_iload_n C 3 dX7_canGoOn_2 rfl rfl ?_
    refine G_iload_n C 2 dX7_canGoOn_3 rfl rfl ?_
    refine G_icmp_geN (tgt := 24) C dX7_canGoOn_4 (by decide) (by omega) (by omega) (fun h4_3 => ?_) (fun h4_3 => ?_)
    · exfalso; omega
    · refine G_aload_n C 0 dX7_canGoOn_7 rfl rfl ?_
      refine G_iload_n C 1 dX7_canGoOn_8 rfl rfl ?_
      refine G_iload_n C 3 dX7_canGoOn_9 rfl rfl ?_
      refine G_callV1 C [.int (nI n), .int (nI b)] 20 dX7_canGoOn_10 (c_X7_choices (by omega) (by omega) hP hB) wm_616 wm_618 wm_17 wm_57 wm_619 xc_20 rfl ydc_X7_choices rfl ⟨Nat.le_of_ble_eq_true rfl, Nat.le_of_ble_eq_true rfl⟩ ⟨rfl, rfl⟩ ⟨Nat.le_refl _, Nat.le_refl _⟩ (Nat.le_of_ble_eq_true rfl) rfl ?_
      refine G_if_ne (tgt := 18) C dX7_canGoOn_13 (by decide) (fun h13_4 => ?_) (fun h13_4 => ?_)
      · refine G_iincN (lv' := [(3, .int (nI (b + 1))), (0, .ref (ad 20)), (1, .int (nI n)), (2, .int (nI k))]) C 3 dX7_canGoOn_18 rfl (by decide) rfl ?_
        refine G_goto (tgt := 2) C dX7_canGoOn_21 (by decide) ?_
        refine G_pick (lv' := [(0, .ref (ad 20)), (1, .int (nI n)), (2, .int (nI k)), (3, .int (nI (b + 1)))]) [1, 2, 3, 0] rfl ?_
        exact ih1  (lt_succ_all (P := fun z => ¬ x_ch M n z = 0) hi1_0 h13_4)
      · refine G_iconst C dX7_canGoOn_16 kI_0 ?_
        exact G_zret C hr dX7_canGoOn_17 (by rfl) (bI_f (decide_eq_false (fun z => z b hbk h13_4))) (rfl)
set_option maxHeartbeats 4000000 in
set_option maxRecDepth 100000 in
theorem c_X7_most {n : Nat} (hn : n < 6) (hP : M 9 4 ≤ 5) (hB : ∀ k j, M k j < 1024) : CT l yX7_most cX7_most 3 (some .int) (rmOf 4 88) D (tyI cI cZ) [.ref (ad 20), .int (nI n)] (wX cI cZ ad M t) (some (.int (x_most M n))) (wX cI cZ ad M t) := by
  refine CT_of (own := "FalseParity$Paths") (by decide) rfl (Nat.le_of_ble_eq_true rfl) (fun p e s m args below meth c C hr => ?_)
  refine G_iconst C dX7_most_0 kI_0 ?_
  refine G_istore_n (lv' := [(2, .int (nI 0)), (0, .ref (ad 20)), (1, .int (nI n))]) C dX7_most_1 rfl (by decide) rfl ?_
  refine G_pick (lv' := [(0, .ref (ad 20)), (1, .int (nI n)), (2, .int (nI 0))]) [1, 2, 0] rfl ?_
  refine loopN (P := fun b => (∀ z, z < b → ¬ x_ch M n z = 0) → G p l e (rmOf 4 88) s m args below meth c D _ 3 0 0 _ 2 [(0, .ref (ad 20)), (1, .int (nI n)), (2, .int (nI b))] [] (wX cI cZ ad M t)) (10) ?_ ?_ 0 (Nat.zero_le _)  (fun z h => absurd h (Nat.not_lt_zero z))
  · intro  hi1_0
    refine G_iload_n C 2 dX7_most_2 rfl rfl ?_
    refine G_bipush C dX7_most_3 kB_9 ?_
    refine G_icmp_gtN (tgt := 25) C dX7_most_5 (by decide) (by decide) (by decide) (fun h5_2 => ?_) (fun h5_2 => ?_)
    · refine G_bipush C dX7_most_25 kB_m5 ?_
      exact G_iret C hr dX7_most_27 (by unfold x_most; rw [findTo_none _ 10 0 (fun z _ hz => decide_eq_false (hi1_0 z (by omega)))]) (rfl)
    · exact absurd h5_2 (by decide)
  · intro b hbk ih1  hi1_0
    refine G_iload_n C 2 dX7_most_2 rfl rfl ?_
    refine G_bipush C dX7_most_3 kB_9 ?_
    refine G_icmp_gtN (tgt := 25) C dX7_most_5 (by decide) (by omega) (by decide) (fun h5_3 => ?_) (fun h5_3 => ?_)
    · exfalso; omega
    · refine G_aload_n C 0 dX7_most_8 rfl rfl ?_
      refine G_iload_n C 1 dX7_most_9 rfl rfl ?_
      refine G_iload_n C 2 dX7_most_10 rfl rfl ?_
      refine G_callV1 C [.int (nI n), .int (nI b)] 20 dX7_most_11 (c_X7_choices (by omega) (by omega) hP hB) wm_616 wm_618 wm_17 wm_57 wm_619 xc_20 rfl ydc_X7_choices rfl ⟨Nat.le_of_ble_eq_true rfl, Nat.le_of_ble_eq_true rfl⟩ ⟨rfl, rfl⟩ ⟨Nat.le_refl _, Nat.le_refl _⟩ (Nat.le_of_ble_eq_true rfl) rfl ?_
      refine G_if_ne (tgt := 19) C dX7_most_14 (by decide) (fun h14_4 => ?_) (fun h14_4 => ?_)
      · refine G_iincN (lv' := [(2, .int (nI (b + 1))), (0, .ref (ad 20)), (1, .int (nI n))]) C 2 dX7_most_19 rfl (by decide) rfl ?_
        refine G_goto (tgt := 2) C dX7_most_22 (by decide) ?_
        refine G_pick (lv' := [(0, .ref (ad 20)), (1, .int (nI n)), (2, .int (nI (b + 1)))]) [1, 2, 0] rfl ?_
        exact ih1  (lt_succ_all (P := fun z => ¬ x_ch M n z = 0) hi1_0 h14_4)
      · refine G_iload_n C 2 dX7_most_17 rfl rfl ?_
        exact G_iret C hr dX7_most_18 (by unfold x_most; rw [findTo_some _ 10 0 b (by omega) (by omega) (fun z _ hz => decide_eq_false (hi1_0 z hz)) (decide_eq_true h14_4)]) (rfl)
set_option maxHeartbeats 4000000 in
set_option maxRecDepth 100000 in
theorem c_X7_waysTaken {n k : Nat} (hn : n < 6) (hk : k < 1024) (hP : M 9 4 ≤ 5) (hB : ∀ k j, M k j < 1024) : CT l yX7_waysTaken cX7_waysTaken 5 (some .int) (rmOf 4 88) D (tyI cI cZ) [.ref (ad 20), .int (nI n), .int (nI k)] (wX cI cZ ad M t) (some (.int (x_wtk M n k))) (wX cI cZ ad M t) := by
  refine CT_of (own := "FalseParity$Paths") (by decide) rfl (Nat.le_of_ble_eq_true rfl) (fun p e s m args below meth c C hr => ?_)
  refine G_iconst C dX7_waysTaken_0 kI_1 ?_
  refine G_istore_n (lv' := [(3, .int (nI 1)), (0, .ref (ad 20)), (1, .int (nI n)), (2, .int (nI k))]) C dX7_waysTaken_1 rfl (by decide) rfl ?_
  refine G_iconst C dX7_waysTaken_2 kI_0 ?_
  refine G_istore (lv' := [(4, .int (nI 0)), (3, .int (nI 1)), (0, .ref (ad 20)), (1, .int (nI n)), (2, .int (nI k))]) C dX7_waysTaken_3 (by decide) rfl ?_
  refine G_pick (lv' := [(0, .ref (ad 20)), (1, .int (nI n)), (2, .int (nI k)), (3, .int (nI 1)), (4, .int (nI 0))]) [2, 3, 4, 1, 0] rfl ?_
  refine loopN (P := fun b => ∀ a : Int32, (a = x_wtk M n b) → G p l e (rmOf 4 88) s m args below meth c D _ 5 0 0 _ 5 [(0, .ref (ad 20)), (1, .int (nI n)), (2, .int (nI k)), (3, .int (a)), (4, .int (nI b))] [] (wX cI cZ ad M t)) (k) ?_ ?_ 0 (Nat.zero_le _) (nI 1) rfl
  · intro a hi1_0
    refine G_iload C 4 dX7_waysTaken_5 rfl ?_
    refine G_iload_n C 2 dX7_waysTaken_7 rfl rfl ?_
    refine G_icmp_geN (tgt := 27) C dX7_waysTaken_8 (by decide) (by omega) (by omega) (fun h8_2 => ?_) (fun h8_2 => ?_)
    · refine G_iload_n C 3 dX7_waysTaken_27 rfl rfl ?_
      exact G_iret C hr dX7_waysTaken_28 (by rw [hi1_0]) (rfl)
    · exfalso; omega
  · intro b hbk ih1 a hi1_0
    refine G_iload C 4 dX7_waysTaken_5 rfl ?_
    refine G_iload_n C 2 dX7_waysTaken_7 rfl rfl ?_
    refine G_icmp_geN (tgt := 27) C dX7_waysTaken_8 (by decide) (by omega) (by omega) (fun h8_3 => ?_) (fun h8_3 => ?_)
    · exfalso; omega
    · refine G_iload_n C 3 dX7_waysTaken_11 rfl rfl ?_
      refine G_aload_n C 0 dX7_waysTaken_12 rfl rfl ?_
      refine G_iload_n C 1 dX7_waysTaken_13 rfl rfl ?_
      refine G_iload C 4 dX7_waysTaken_14 rfl ?_
      refine G_callV1 C [.int (nI n), .int (nI b)] 20 dX7_waysTaken_16 (c_X7_choices (by omega) (by omega) hP hB) wm_616 wm_618 wm_17 wm_57 wm_619 xc_20 rfl ydc_X7_choices rfl ⟨Nat.le_of_ble_eq_true rfl, Nat.le_of_ble_eq_true rfl⟩ ⟨rfl, rfl⟩ ⟨Nat.le_refl _, Nat.le_refl _⟩ (Nat.le_of_ble_eq_true rfl) rfl ?_
      refine G_imul C dX7_waysTaken_19 ?_
      refine G_istore_n (lv' := [(3, .int ((a) * (x_ch M (n) (b)))), (0, .ref (ad 20)), (1, .int (nI n)), (2, .int (nI k)), (4, .int (nI b))]) C dX7_waysTaken_20 rfl (by decide) rfl ?_
      refine G_iincN (lv' := [(4, .int (nI (b + 1))), (3, .int ((a) * (x_ch M (n) (b)))), (0, .ref (ad 20)), (1, .int (nI n)), (2, .int (nI k))]) C 4 dX7_waysTaken_21 rfl (by decide) rfl ?_
      refine G_goto (tgt := 5) C dX7_waysTaken_24 (by decide) ?_
      refine G_pick (lv' := [(0, .ref (ad 20)), (1, .int (nI n)), (2, .int (nI k)), (3, .int ((a) * (x_ch M (n) (b)))), (4, .int (nI (b + 1)))]) [2, 3, 4, 1, 0] rfl ?_
      exact ih1 _ (by rw [hi1_0]; rfl)
set_option maxHeartbeats 4000000 in
set_option maxRecDepth 100000 in
theorem c_X7_waysAtAll {k : Nat} (hk : k < 1024) (hB : ∀ k j, M k j < 1024) : CT l yX7_waysAtAll cX7_waysAtAll 4 (some .int) (rmOf 0 0) D (tyI cI cZ) [.ref (ad 20), .int (nI k)] (wX cI cZ ad M t) (some (.int (x_all M k))) (wX cI cZ ad M t) := by
  refine CT_of (own := "FalseParity$Paths") (by decide) rfl (Nat.le_of_ble_eq_true rfl) (fun p e s m args below meth c C hr => ?_)
  refine G_iconst C dX7_waysAtAll_0 kI_1 ?_
  refine G_istore_n (lv' := [(2, .int (nI 1)), (0, .ref (ad 20)), (1, .int (nI k))]) C dX7_waysAtAll_1 rfl (by decide) rfl ?_
  refine G_iconst C dX7_waysAtAll_2 kI_0 ?_
  refine G_istore_n (lv' := [(3, .int (nI 0)), (2, .int (nI 1)), (0, .ref (ad 20)), (1, .int (nI k))]) C dX7_waysAtAll_3 rfl (by decide) rfl ?_
  refine G_pick (lv' := [(0, .ref (ad 20)), (1, .int (nI k)), (2, .int (nI 1)), (3, .int (nI 0))]) [2, 3, 1, 0] rfl ?_
  refine loopN (P := fun b => ∀ a : Int32, (a = x_all M b) → G p l e (rmOf 0 0) s m args below meth c D _ 4 0 0 _ 4 [(0, .ref (ad 20)), (1, .int (nI k)), (2, .int (a)), (3, .int (nI b))] [] (wX cI cZ ad M t)) (k) ?_ ?_ 0 (Nat.zero_le _) (nI 1) rfl
  · intro a hi1_0
    refine G_iload_n C 3 dX7_waysAtAll_4 rfl rfl ?_
    refine G_iload_n C 1 dX7_waysAtAll_5 rfl rfl ?_
    refine G_icmp_geN (tgt := 27) C dX7_waysAtAll_6 (by decide) (by omega) (by omega) (fun h6_2 => ?_) (fun h6_2 => ?_)
    · refine G_iload_n C 2 dX7_waysAtAll_27 rfl rfl ?_
      exact G_iret C hr dX7_waysAtAll_28 (by rw [hi1_0]) (rfl)
    · exfalso; omega
  · intro b hbk ih1 a hi1_0
    refine G_iload_n C 3 dX7_waysAtAll_4 rfl rfl ?_
    refine G_iload_n C 1 dX7_waysAtAll_5 rfl rfl ?_
    refine G_icmp_geN (tgt := 27) C dX7_waysAtAll_6 (by decide) (by omega) (by omega) (fun h6_3 => ?_) (fun h6_3 => ?_)
    · exfalso; omega
    · refine G_iload_n C 2 dX7_waysAtAll_9 rfl rfl ?_
      refine G_aload_n C 0 dX7_waysAtAll_10 rfl rfl ?_
      refine G_get (v := .ref (ad 9)) C 20 0 dX7_waysAtAll_11 xc_20 rfl inG7 (by decide) wm_223 rfl rfl ?_
      refine G_getN (v := .int (nI (M 9 4))) C 9 4 dX7_waysAtAll_14 xc_9 rfl inG1 (by decide) wn_119 rfl rfl ?_
      refine G_iconst C dX7_waysAtAll_17 kI_1 ?_
      refine G_isub C dX7_waysAtAll_18 ?_
      refine G_imul C dX7_waysAtAll_19 ?_
      refine G_istore_n (lv' := [(2, .int ((a) * ((nI (M 9 4)) - (nI (1))))), (0, .ref (ad 20)), (1, .int (nI k)), (3, .int (nI b))]) C dX7_waysAtAll_20 rfl (by decide) rfl ?_
      refine G_iincN (lv' := [(3, .int (nI (b + 1))), (2, .int ((a) * ((nI (M 9 4)) - (nI (1))))), (0, .ref (ad 20)), (1, .int (nI k))]) C 3 dX7_waysAtAll_21 rfl (by decide) rfl ?_
      refine G_goto (tgt := 4) C dX7_waysAtAll_24 (by decide) ?_
      refine G_pick (lv' := [(0, .ref (ad 20)), (1, .int (nI k)), (2, .int ((a) * ((nI (M 9 4)) - (nI (1))))), (3, .int (nI (b + 1)))]) [2, 3, 1, 0] rfl ?_
      exact ih1 _ (by rw [hi1_0]; rfl)
set_option maxHeartbeats 4000000 in
set_option maxRecDepth 100000 in
theorem c_X7_lowestOther {a h : Nat} (hh : h < 1024) (hP : M 9 4 ≤ 5) (hB : ∀ k j, M k j < 1024) : CT l yX7_lowestOther cX7_lowestOther 4 (some .int) (rmOf 1 21) D (tyI cI cZ) [.ref (ad 20), .int (nI a), .int (nI h)] (wX cI cZ ad M t) (some (.int (nI (x_low M a h)))) (wX cI cZ ad M t) := by
  refine CT_of (own := "FalseParity$Paths") (by decide) rfl (Nat.le_of_ble_eq_true rfl) (fun p e s m args below meth c C hr => ?_)
  refine G_iconst C dX7_lowestOther_0 kI_0 ?_
  refine G_istore_n (lv' := [(3, .int (nI 0)), (0, .ref (ad 20)), (1, .int (nI a)), (2, .int (nI h))]) C dX7_lowestOther_1 rfl (by decide) rfl ?_
  refine G_pick (lv' := [(0, .ref (ad 20)), (1, .int (nI a)), (2, .int (nI h)), (3, .int (nI 0))]) [1, 2, 3, 0] rfl ?_
  refine loopN (P := fun b => (∀ z, z < b → (decide (z ≠ h) && hb (nI a) z) = false) → G p l e (rmOf 1 21) s m args below meth c D _ 4 0 0 _ 2 [(0, .ref (ad 20)), (1, .int (nI a)), (2, .int (nI h)), (3, .int (nI b))] [] (wX cI cZ ad M t)) (M 9 4) ?_ ?_ 0 (Nat.zero_le _)  (fun z h => absurd h (Nat.not_lt_zero z))
  · intro  hi1_0
    refine G_iload_n C 3 dX7_lowestOther_2 rfl rfl ?_
    refine G_aload_n C 0 dX7_lowestOther_3 rfl rfl ?_
    refine G_get (v := .ref (ad 9)) C 20 0 dX7_lowestOther_4 xc_20 rfl inG7 (by decide) wm_223 rfl rfl ?_
    refine G_getN (v := .int (nI (M 9 4))) C 9 4 dX7_lowestOther_7 xc_9 rfl inG1 (by decide) wn_119 rfl rfl ?_
    refine G_icmp_geN (tgt := 34) C dX7_lowestOther_10 (by decide) (by have := hB 9 4; omega) (by have := hB 9 4; omega) (fun h10_2 => ?_) (fun h10_2 => ?_)
    · refine G_iload_n C 2 dX7_lowestOther_34 rfl rfl ?_
      exact G_iret C hr dX7_lowestOther_35 (by unfold x_low; rw [findTo_none _ _ 0 (fun z _ hz => hi1_0 z (by omega))]) (rfl)
    · exfalso; omega
  · intro b hbk ih1  hi1_0
    refine G_iload_n C 3 dX7_lowestOther_2 rfl rfl ?_
    refine G_aload_n C 0 dX7_lowestOther_3 rfl rfl ?_
    refine G_get (v := .ref (ad 9)) C 20 0 dX7_lowestOther_4 xc_20 rfl inG7 (by decide) wm_223 rfl rfl ?_
    refine G_getN (v := .int (nI (M 9 4))) C 9 4 dX7_lowestOther_7 xc_9 rfl inG1 (by decide) wn_119 rfl rfl ?_
    refine G_icmp_geN (tgt := 34) C dX7_lowestOther_10 (by decide) (by omega) (by have := hB 9 4; omega) (fun h10_3 => ?_) (fun h10_3 => ?_)
    · exfalso; omega
    · refine G_iload_n C 3 dX7_lowestOther_13 rfl rfl ?_
      refine G_iload_n C 2 dX7_lowestOther_14 rfl rfl ?_
      refine G_icmp_eqN (tgt := 28) C dX7_lowestOther_15 (by decide) (by omega) (by omega) (fun h15_4 => ?_) (fun h15_4 => ?_)
      · refine G_iincN (lv' := [(3, .int (nI (b + 1))), (0, .ref (ad 20)), (1, .int (nI a)), (2, .int (nI h))]) C 3 dX7_lowestOther_28 rfl (by decide) rfl ?_
        refine G_goto (tgt := 2) C dX7_lowestOther_31 (by decide) ?_
        refine G_pick (lv' := [(0, .ref (ad 20)), (1, .int (nI a)), (2, .int (nI h)), (3, .int (nI (b + 1)))]) [1, 2, 3, 0] rfl ?_
        exact ih1  (lt_succ_all (P := fun z => (decide (z ≠ h) && hb (nI a) z) = false) hi1_0 (by simp [h15_4]))
      · refine G_iload_n C 1 dX7_lowestOther_18 rfl rfl ?_
        refine G_iload_n C 3 dX7_lowestOther_19 rfl rfl ?_
        refine G_callSN1 C [.int (nI a), .int (nI b)] dX7_lowestOther_20 (c_X10_hasBit) wn_552 wm_464 wm_50 wm_465 ydc_X10_hasBit rfl ⟨Nat.le_of_ble_eq_true rfl, Nat.le_of_ble_eq_true rfl⟩ ⟨rfl, rfl⟩ ⟨Nat.le_refl _, Nat.le_refl _⟩ (Nat.le_of_ble_eq_true rfl) rfl ?_
        refine G_if_eqB (tgt := 28) C dX7_lowestOther_23 (by decide) (fun h23_5 => ?_) (fun h23_5 => ?_)
        · refine G_iincN (lv' := [(3, .int (nI (b + 1))), (0, .ref (ad 20)), (1, .int (nI a)), (2, .int (nI h))]) C 3 dX7_lowestOther_28 rfl (by decide) rfl ?_
          refine G_goto (tgt := 2) C dX7_lowestOther_31 (by decide) ?_
          refine G_pick (lv' := [(0, .ref (ad 20)), (1, .int (nI a)), (2, .int (nI h)), (3, .int (nI (b + 1)))]) [1, 2, 3, 0] rfl ?_
          exact ih1  (lt_succ_all (P := fun z => (decide (z ≠ h) && hb (nI a) z) = false) hi1_0 (by simp [h23_5]))
        · refine G_iload_n C 3 dX7_lowestOther_26 rfl rfl ?_
          exact G_iret C hr dX7_lowestOther_27 (by unfold x_low; rw [findTo_some _ _ 0 b (by omega) (by omega) (fun z _ hz => hi1_0 z hz) (by simp [h15_4, h23_5])]) (rfl)
set_option maxHeartbeats 4000000 in
set_option maxRecDepth 100000 in
theorem c_X7_personOfRow {n k : Nat} (hn : n < 6) (hk : k < 1024) (hP : M 9 4 ≤ 5) (hB : ∀ k j, M k j < 1024) : CT l yX7_personOfRow cX7_personOfRow 6 (some .int) (rmOf 2 44) D (tyI cI cZ) [.ref (ad 20), .int (nI n), .int (nI k)] (wX cI cZ ad M t) (some (.int (nI (x_row M n k)))) (wX cI cZ ad M t) := by
  refine CT_of (own := "FalseParity$Paths") (by decide) rfl (Nat.le_of_ble_eq_true rfl) (fun p e s m args below meth c C hr => ?_)
  refine G_aload_n C 0 dX7_personOfRow_0 rfl rfl ?_
  refine G_iload_n C 1 dX7_personOfRow_1 rfl rfl ?_
  refine G_callV1 C [.int (nI n)] 20 dX7_personOfRow_2 (c_X7_takersByLooks (by omega) hP hB) wm_475 wm_477 wm_14 wm_57 wm_478 xc_20 rfl ydc_X7_takersByLooks rfl ⟨Nat.le_of_ble_eq_true rfl, Nat.le_of_ble_eq_true rfl⟩ ⟨rfl, rfl⟩ ⟨Nat.le_refl _, Nat.le_refl _⟩ (Nat.le_of_ble_eq_true rfl) rfl ?_
  refine G_istore_n (lv' := [(3, .int (nI (x_tbl M (n)))), (0, .ref (ad 20)), (1, .int (nI n)), (2, .int (nI k))]) C dX7_personOfRow_5 rfl (by decide) rfl ?_
  refine G_aload_n C 1 dX7_personOfRow_6 rfl rfl ?_
  refine G_get (v := .ref (ad 14)) C 20 1 dX7_personOfRow_7 xc_20 rfl inG7 (by decide) wm_224 rfl rfl ?_
  refine G_iload_n C 2 dX7_personOfRow_10 rfl rfl ?_
  refine G_callV1 C [.int (nI n)] 14 dX7_personOfRow_11 (c_X6_holder (by omega)) wm_625 wm_452 wm_453 wm_54 wm_454 xc_14 rfl ydc_X6_holder rfl ⟨Nat.le_of_ble_eq_true rfl, Nat.le_of_ble_eq_true rfl⟩ ⟨rfl, rfl⟩ ⟨Nat.le_refl _, Nat.le_refl _⟩ (Nat.le_of_ble_eq_true rfl) rfl ?_
  refine G_istore (lv' := [(4, .int (nI (M 15 n))), (3, .int (nI (x_tbl M (n)))), (0, .ref (ad 20)), (1, .int (nI n)), (2, .int (nI k))]) C dX7_personOfRow_14 (by decide) rfl ?_
  refine G_iconst C dX7_personOfRow_16 kI_0 ?_
  refine G_istore (lv' := [(5, .int (nI 0)), (4, .int (nI (M 15 n))), (3, .int (nI (x_tbl M (n)))), (0, .ref (ad 20)), (1, .int (nI n)), (2, .int (nI k))]) C dX7_personOfRow_17 (by decide) rfl ?_
  refine G_pick (lv' := [(0, .ref (ad 20)), (1, .int (nI n)), (2, .int (nI k)), (3, .int (nI (x_tbl M (n)))), (4, .int (nI (M 15 n))), (5, .int (nI 0))]) [3, 4, 5, 2, 1, 0] rfl ?_
  refine loopN (P := fun b => ∀ h : Nat, (h = foldTo (fun _ h => x_low M (x_tbl M n) h) (M 15 n) b) → (h < 1024) → G p l e (rmOf 2 44) s m args below meth c D _ 6 0 0 _ 19 [(0, .ref (ad 20)), (1, .int (nI n)), (2, .int (nI k)), (3, .int (nI (x_tbl M (n)))), (4, .int (nI h)), (5, .int (nI b))] [] (wX cI cZ ad M t)) (k + 1) ?_ ?_ 0 (Nat.zero_le _) (M 15 n) rfl (hB _ _)
  · intro h hi1_0 hi1_1
    refine G_iload C 5 dX7_personOfRow_19 rfl ?_
    refine G_iload_n C 2 dX7_personOfRow_21 rfl rfl ?_
    refine G_icmp_gtN (tgt := 40) C dX7_personOfRow_22 (by decide) (by omega) (by omega) (fun h22_2 => ?_) (fun h22_2 => ?_)
    · refine G_iload C 4 dX7_personOfRow_40 rfl ?_
      exact G_iret C hr dX7_personOfRow_42 (by rw [hi1_0]; rfl) (rfl)
    · exfalso; omega
  · intro b hbk ih1 h hi1_0 hi1_1
    refine G_iload C 5 dX7_personOfRow_19 rfl ?_
    refine G_iload_n C 2 dX7_personOfRow_21 rfl rfl ?_
    refine G_icmp_gtN (tgt := 40) C dX7_personOfRow_22 (by decide) (by omega) (by omega) (fun h22_3 => ?_) (fun h22_3 => ?_)
    · exfalso; omega
    · refine G_aload_n C 0 dX7_personOfRow_25 rfl rfl ?_
      refine G_iload_n C 3 dX7_personOfRow_26 rfl rfl ?_
      refine G_iload C 4 dX7_personOfRow_27 rfl ?_
      refine G_callV1 C [.int (nI (x_tbl M (n))), .int (nI h)] 20 dX7_personOfRow_29 (c_X7_lowestOther (by omega) hP hB) wm_631 wm_633 wm_19 wm_57 wm_634 xc_20 rfl ydc_X7_lowestOther rfl ⟨Nat.le_of_ble_eq_true rfl, Nat.le_of_ble_eq_true rfl⟩ ⟨rfl, rfl⟩ ⟨Nat.le_refl _, Nat.le_refl _⟩ (Nat.le_of_ble_eq_true rfl) rfl ?_
      refine G_istore (lv' := [(4, .int (nI (x_low M (x_tbl M (n)) (h)))), (0, .ref (ad 20)), (1, .int (nI n)), (2, .int (nI k)), (3, .int (nI (x_tbl M (n)))), (5, .int (nI b))]) C dX7_personOfRow_32 (by decide) rfl ?_
      refine G_iincN (lv' := [(5, .int (nI (b + 1))), (4, .int (nI (x_low M (x_tbl M (n)) (h)))), (0, .ref (ad 20)), (1, .int (nI n)), (2, .int (nI k)), (3, .int (nI (x_tbl M (n))))]) C 5 dX7_personOfRow_34 rfl (by decide) rfl ?_
      refine G_goto (tgt := 19) C dX7_personOfRow_37 (by decide) ?_
      refine G_pick (lv' := [(0, .ref (ad 20)), (1, .int (nI n)), (2, .int (nI k)), (3, .int (nI (x_tbl M (n)))), (4, .int (nI (x_low M (x_tbl M (n)) (h)))), (5, .int (nI (b + 1)))]) [2, 3, 4, 5, 1, 0] rfl ?_
      exact ih1 _ (by rw [hi1_0]; rfl) (x_low_lt hi1_1 hP)
end X3
