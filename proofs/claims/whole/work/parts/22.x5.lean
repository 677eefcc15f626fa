section X5
variable {l : Launch} {D : va_G} {cI cZ : ClassId} {ad : Nat → Nat} {M : Nat → Nat → Nat} {t : Int64}
set_option maxHeartbeats 4000000 in
set_option maxRecDepth 100000 in
theorem c_X8_begin   : CT l yX8_begin cX8_begin 1 none (rmOf 1 20) D (tyI cI cZ) [.ref (ad 3)] (wX cI cZ ad M t) (none) (wX cI cZ ad (x_rb M) t) := by
  refine CT_of (own := "FalseParity$Reader") (by decide) rfl (Nat.le_of_ble_eq_true rfl) (fun p e s m args below meth c C hr => ?_)
  refine G_aload_n C 0 dX8_begin_0 rfl rfl ?_
  refine G_get (v := .ref (ad 4)) C 3 1 dX8_begin_1 xc_3 rfl inG8 (by decide) wm_153 rfl rfl ?_
  refine G_callV0 (w' := wX cI cZ ad (ms (ms (ms (ms M 4 (4) (0)) 4 (5) (0)) 4 (6) (3)) 4 (7) (3)) t) C [] 4 dX8_begin_4 c_X1_empty wm_352 wm_353 wm_354 wm_53 wm_355 xc_4 rfl ydc_X1_empty rfl ⟨Nat.le_of_ble_eq_true rfl, Nat.le_of_ble_eq_true rfl⟩ ⟨rfl, rfl⟩ ⟨Nat.le_refl _, Nat.le_refl _⟩ (Nat.le_of_ble_eq_true rfl) rfl ?_
  refine G_aload_n C 0 dX8_begin_7 rfl rfl ?_
  refine G_iconst C dX8_begin_8 kI_0 ?_
  refine G_put (w' := wX cI cZ ad (ms (ms (ms (ms (ms M 4 (4) (0)) 4 (5) (0)) 4 (6) (3)) 4 (7) (3)) 3 (2) (0)) t) (ty := .int) C 3 2 tyX8 dX8_begin_9 xc_3 rfl inG8 tyX8_ok nmX8 (by decide) wm_155 rfl rfl (by decide +kernel) rfl rfl (Nat.le_of_ble_eq_true rfl) (xp_3_2 _) ?_
  refine G_aload_n C 0 dX8_begin_12 rfl rfl ?_
  refine G_iconst C dX8_begin_13 kI_0 ?_
  refine G_put (w' := wX cI cZ ad (ms (ms (ms (ms (ms (ms M 4 (4) (0)) 4 (5) (0)) 4 (6) (3)) 4 (7) (3)) 3 (2) (0)) 3 (3) (0)) t) (ty := .int) C 3 3 tyX8 dX8_begin_14 xc_3 rfl inG8 tyX8_ok nmX8 (by decide) wm_156 rfl rfl (by decide +kernel) rfl rfl (Nat.le_of_ble_eq_true rfl) (xp_3_3 _) ?_
  refine G_aload_n C 0 dX8_begin_17 rfl rfl ?_
  refine G_iconst C dX8_begin_18 kI_0 ?_
  refine G_put (w' := wX cI cZ ad (ms (ms (ms (ms (ms (ms (ms M 4 (4) (0)) 4 (5) (0)) 4 (6) (3)) 4 (7) (3)) 3 (2) (0)) 3 (3) (0)) 3 (5) (0)) t) (ty := .boolean) C 3 5 tyX8 dX8_begin_19 xc_3 rfl inG8 tyX8_ok nmX8 (by decide) wm_158 rfl rfl (by decide +kernel) (by rfl) (by rfl) (Nat.le_of_ble_eq_true rfl) (xp_3_5 _) ?_
  refine G_aload_n C 0 dX8_begin_22 rfl rfl ?_
  refine G_iconst C dX8_begin_23 kI_0 ?_
  refine G_put (w' := wX cI cZ ad (ms (ms (ms (ms (ms (ms (ms (ms M 4 (4) (0)) 4 (5) (0)) 4 (6) (3)) 4 (7) (3)) 3 (2) (0)) 3 (3) (0)) 3 (5) (0)) 3 (6) (0)) t) (ty := .boolean) C 3 6 tyX8 dX8_begin_24 xc_3 rfl inG8 tyX8_ok nmX8 (by decide) wm_159 rfl rfl (by decide +kernel) (by rfl) (by rfl) (Nat.le_of_ble_eq_true rfl) (xp_3_6 _) ?_
  exact G_vret C hr dX8_begin_27 rfl (rfl)
set_option maxHeartbeats 4000000 in
set_option maxRecDepth 100000 in
theorem c_X8_beginsToken {a : Nat} (ha : a < M 1 1) (hL : M 1 1 ≤ 150) (hB : ∀ k j, M k j < 1024) : CT l yX8_beginsToken cX8_beginsToken 2 (some .boolean) (rmOf 1 21) D (tyI cI cZ) [.ref (ad 3), .int (nI a)] (wX cI cZ ad M t) (some (.int (nI (bN (x_bt M a))))) (wX cI cZ ad M t) := by
  refine CT_of (own := "FalseParity$Reader") (by decide) rfl (Nat.le_of_ble_eq_true rfl) (fun p e s m args below meth c C hr => ?_)
  refine G_aload_n C 0 dX8_beginsToken_0 rfl rfl ?_
  refine G_get (v := .ref (ad 1)) C 3 0 dX8_beginsToken_1 xc_3 rfl inG8 (by decide) wm_152 rfl rfl ?_
  refine G_iload_n C 1 dX8_beginsToken_4 rfl rfl ?_
  refine G_callV1 C [.int (nI a)] 1 dX8_beginsToken_5 (c_X9_hasDigit hL hB) wm_360 wm_361 wm_362 wm_51 wm_363 xc_1 rfl ydc_X9_hasDigit rfl ⟨Nat.le_of_ble_eq_true rfl, Nat.le_of_ble_eq_true rfl⟩ ⟨rfl, rfl⟩ ⟨Nat.le_refl _, Nat.le_refl _⟩ (Nat.le_of_ble_eq_true rfl) rfl ?_
  refine G_if_eqB (tgt := 30) C dX8_beginsToken_8 (by decide) (fun h8_1 => ?_) (fun h8_1 => ?_)
  · refine G_aload_n C 0 dX8_beginsToken_30 rfl rfl ?_
    refine G_get (v := .ref (ad 1)) C 3 0 dX8_beginsToken_31 xc_3 rfl inG8 (by decide) wm_152 rfl rfl ?_
    refine G_getN (v := .ref (ad 2)) C 1 0 dX8_beginsToken_34 xc_1 rfl inG9 (by decide) wn_80 rfl rfl ?_
    refine G_iload_n C 1 dX8_beginsToken_37 rfl rfl ?_
    refine G_iald (v := nI (M 2 a)) C 2 0 dX8_beginsToken_38 xc_2 rfl (by omega) (by decide) rfl ?_
    refine G_bipush C dX8_beginsToken_39 kB_32 ?_
    refine G_icmp_eqN (tgt := 48) C dX8_beginsToken_41 (by decide) (by have := hB 2 a; omega) (by decide) (fun h41_2 => ?_) (fun h41_2 => ?_)
    · refine G_iconst C dX8_beginsToken_48 kI_0 ?_
      exact G_zret C hr dX8_beginsToken_49 (by rfl) (bI_f (by simp [x_bt, h8_1, h41_2])) (rfl)
    · refine G_iconst C dX8_beginsToken_44 kI_1 ?_
      refine G_goto (tgt := 49) C dX8_beginsToken_45 (by decide) ?_
      exact G_zret C hr dX8_beginsToken_49 (by rfl) (bI_t (by simp [x_bt, h8_1, h41_2])) (rfl)
  · refine G_aload_n C 0 dX8_beginsToken_11 rfl rfl ?_
    refine G_get (v := .ref (ad 1)) C 3 0 dX8_beginsToken_12 xc_3 rfl inG8 (by decide) wm_152 rfl rfl ?_
    refine G_iload_n C 1 dX8_beginsToken_15 rfl rfl ?_
    refine G_iconst C dX8_beginsToken_16 kI_1 ?_
    refine G_isub C dX8_beginsToken_17 ?_
    refine G_callV1 C [.int ((nI (a)) - (nI (1)))] 1 dX8_beginsToken_18 (c_X9_hasDigit hL hB) wm_360 wm_361 wm_362 wm_51 wm_363 xc_1 rfl ydc_X9_hasDigit rfl ⟨Nat.le_of_ble_eq_true rfl, Nat.le_of_ble_eq_true rfl⟩ ⟨rfl, rfl⟩ ⟨Nat.le_refl _, Nat.le_refl _⟩ (Nat.le_of_ble_eq_true rfl) rfl ?_
    refine G_if_neB (tgt := 28) C dX8_beginsToken_21 (by decide) (fun h21_3 => ?_) (fun h21_3 => ?_)
    · refine G_iconst C dX8_beginsToken_28 kI_0 ?_
      exact G_zret C hr dX8_beginsToken_29 (by rfl) (bI_f (by simp [x_bt, h8_1, h21_3])) (rfl)
    · refine G_iconst C dX8_beginsToken_24 kI_1 ?_
      refine G_goto (tgt := 29) C dX8_beginsToken_25 (by decide) ?_
      exact G_zret C hr dX8_beginsToken_29 (by rfl) (bI_t (by simp [x_bt, h8_1, h21_3])) (rfl)
set_option maxHeartbeats 4000000 in
set_option maxRecDepth 100000 in
theorem c_X8_canBegin {ch : Nat} (hc : ch < 1024) (hB : ∀ k j, M k j < 1024) : CT l yX8_canBegin cX8_canBegin 2 (some .boolean) (rmOf 0 0) D (tyI cI cZ) [.ref (ad 3), .int (nI ch)] (wX cI cZ ad M t) (some (.int (nI (bN (x_cb M ch))))) (wX cI cZ ad M t) := by
  refine CT_of (own := "FalseParity$Reader") (by decide) rfl (Nat.le_of_ble_eq_true rfl) (fun p e s m args below meth c C hr => ?_)
  refine G_iload_n C 1 dX8_canBegin_0 rfl rfl ?_
  by_cases h1_1_98 : nI (ch) = 98
  · refine G_top h1_1_98 ?_
    refine G_lookup (off := 78) (tgt := 79) C dX8_canBegin_1 (by decide) rfl (by decide) ?_
    replace h1_1_98 : ch = 98 := (nI_eq (by omega) (by decide)).mp h1_1_98
    refine G_aload_n C 0 dX8_canBegin_79 rfl rfl ?_
    refine G_get (v := .int (nI (M 3 5))) C 3 5 dX8_canBegin_80 xc_3 rfl inG8 (by decide) wm_158 rfl rfl ?_
    refine G_if_neN (tgt := 90) C dX8_canBegin_83 (by decide) (by have := hB 3 5; omega) (fun h83_2 => ?_) (fun h83_2 => ?_)
    · refine G_iconst C dX8_canBegin_90 kI_0 ?_
      exact G_zret C hr dX8_canBegin_91 (by rfl) (bI_f (by simp [x_cb, h1_1_98, Nat.pos_iff_ne_zero.mp h83_2])) (rfl)
    · refine G_iconst C dX8_canBegin_86 kI_1 ?_
      refine G_goto (tgt := 91) C dX8_canBegin_87 (by decide) ?_
      exact G_zret C hr dX8_canBegin_91 (by rfl) (bI_t (by simp [x_cb, h1_1_98, h83_2])) (rfl)
  by_cases h1_1_110 : nI (ch) = 110
  · refine G_top h1_1_110 ?_
    refine G_lookup (off := 60) (tgt := 61) C dX8_canBegin_1 (by decide) rfl (by decide) ?_
    replace h1_1_110 : ch = 110 := (nI_eq (by omega) (by decide)).mp h1_1_110
    refine G_aload_n C 0 dX8_canBegin_61 rfl rfl ?_
    refine G_get (v := .ref (ad 4)) C 3 1 dX8_canBegin_62 xc_3 rfl inG8 (by decide) wm_153 rfl rfl ?_
    refine G_getN (v := .int (nI (M 4 5))) C 4 5 dX8_canBegin_65 xc_4 rfl inG1 (by decide) wn_124 rfl rfl ?_
    refine G_bipush C dX8_canBegin_68 kB_6 ?_
    refine G_icmp_geN (tgt := 77) C dX8_canBegin_70 (by decide) (by have := hB 4 5; omega) (by decide) (fun h70_3 => ?_) (fun h70_3 => ?_)
    · refine G_iconst C dX8_canBegin_77 kI_0 ?_
      exact G_zret C hr dX8_canBegin_78 (by rfl) (bI_f (by simp [x_cb, h1_1_110, h70_3])) (rfl)
    · refine G_iconst C dX8_canBegin_73 kI_1 ?_
      refine G_goto (tgt := 78) C dX8_canBegin_74 (by decide) ?_
      exact G_zret C hr dX8_canBegin_78 (by rfl) (bI_t (by simp [x_cb, h1_1_110, h70_3])) (rfl)
  by_cases h1_1_112 : nI (ch) = 112
  · refine G_top h1_1_112 ?_
    refine G_lookup (off := 43) (tgt := 44) C dX8_canBegin_1 (by decide) rfl (by decide) ?_
    replace h1_1_112 : ch = 112 := (nI_eq (by omega) (by decide)).mp h1_1_112
    refine G_aload_n C 0 dX8_canBegin_44 rfl rfl ?_
    refine G_get (v := .ref (ad 4)) C 3 1 dX8_canBegin_45 xc_3 rfl inG8 (by decide) wm_153 rfl rfl ?_
    refine G_getN (v := .int (nI (M 4 4))) C 4 4 dX8_canBegin_48 xc_4 rfl inG1 (by decide) wn_121 rfl rfl ?_
    refine G_iconst C dX8_canBegin_51 kI_5 ?_
    refine G_icmp_geN (tgt := 59) C dX8_canBegin_52 (by decide) (by have := hB 4 4; omega) (by decide) (fun h52_4 => ?_) (fun h52_4 => ?_)
    · refine G_iconst C dX8_canBegin_59 kI_0 ?_
      exact G_zret C hr dX8_canBegin_60 (by rfl) (bI_f (by simp [x_cb, h1_1_112, h52_4])) (rfl)
    · refine G_iconst C dX8_canBegin_55 kI_1 ?_
      refine G_goto (tgt := 60) C dX8_canBegin_56 (by decide) ?_
      exact G_zret C hr dX8_canBegin_60 (by rfl) (bI_t (by simp [x_cb, h1_1_112, h52_4])) (rfl)
  by_cases h1_1_115 : nI (ch) = 115
  · refine G_top h1_1_115 ?_
    refine G_lookup (off := 91) (tgt := 92) C dX8_canBegin_1 (by decide) rfl (by decide) ?_
    replace h1_1_115 : ch = 115 := (nI_eq (by omega) (by decide)).mp h1_1_115
    refine G_aload_n C 0 dX8_canBegin_92 rfl rfl ?_
    refine G_get (v := .int (nI (M 3 6))) C 3 6 dX8_canBegin_93 xc_3 rfl inG8 (by decide) wm_159 rfl rfl ?_
    refine G_if_neN (tgt := 103) C dX8_canBegin_96 (by decide) (by have := hB 3 6; omega) (fun h96_5 => ?_) (fun h96_5 => ?_)
    · refine G_iconst C dX8_canBegin_103 kI_0 ?_
      exact G_zret C hr dX8_canBegin_104 (by rfl) (bI_f (by simp [x_cb, h1_1_115, Nat.pos_iff_ne_zero.mp h96_5])) (rfl)
    · refine G_iconst C dX8_canBegin_99 kI_1 ?_
      refine G_goto (tgt := 104) C dX8_canBegin_100 (by decide) ?_
      exact G_zret C hr dX8_canBegin_104 (by rfl) (bI_t (by simp [x_cb, h1_1_115, h96_5])) (rfl)
  refine G_lookup (off := 104) (tgt := 105) C dX8_canBegin_1 (by decide) (by refine (lv_osw h1_1_98 rfl).trans ?_; refine (lv_osw h1_1_110 rfl).trans ?_; refine (lv_osw h1_1_112 rfl).trans ?_; refine (lv_osw h1_1_115 rfl).trans ?_; rfl) (by decide) ?_
  replace h1_1_98 : ¬ ch = 98 := fun q => h1_1_98 ((nI_eq (by omega) (by decide)).mpr q)
  replace h1_1_110 : ¬ ch = 110 := fun q => h1_1_110 ((nI_eq (by omega) (by decide)).mpr q)
  replace h1_1_112 : ¬ ch = 112 := fun q => h1_1_112 ((nI_eq (by omega) (by decide)).mpr q)
  replace h1_1_115 : ¬ ch = 115 := fun q => h1_1_115 ((nI_eq (by omega) (by decide)).mpr q)
  refine G_iconst C dX8_canBegin_105 kI_0 ?_
  exact G_zret C hr dX8_canBegin_106 (by rfl) (bI_f (by simp [x_cb, h1_1_98, h1_1_110, h1_1_112, h1_1_115])) (rfl)
set_option maxHeartbeats 4000000 in
set_option maxRecDepth 100000 in
theorem c_X8_beginsItem {ch : Nat} (hc : ch < 1024) (hB : ∀ k j, M k j < 1024) : CT l yX8_beginsItem cX8_beginsItem 2 (some .boolean) (rmOf 1 21) D (tyI cI cZ) [.ref (ad 3), .int (nI ch)] (wX cI cZ ad M t) (some (.int (nI (bN (x_bi M ch).1)))) (wX cI cZ ad (x_bi M ch).2 t) := by
  refine CT_of (own := "FalseParity$Reader") (by decide) rfl (Nat.le_of_ble_eq_true rfl) (fun p e s m args below meth c C hr => ?_)
  refine G_aload_n C 0 dX8_beginsItem_0 rfl rfl ?_
  refine G_iload_n C 1 dX8_beginsItem_1 rfl rfl ?_
  refine G_callV1 C [.int (nI ch)] 3 dX8_beginsItem_2 (c_X8_canBegin (by omega) hB) wm_372 wm_374 wm_4 wm_52 wm_375 xc_3 rfl ydc_X8_canBegin rfl ⟨Nat.le_of_ble_eq_true rfl, Nat.le_of_ble_eq_true rfl⟩ ⟨rfl, rfl⟩ ⟨Nat.le_refl _, Nat.le_refl _⟩ (Nat.le_of_ble_eq_true rfl) rfl ?_
  refine G_if_neB (tgt := 10) C dX8_beginsItem_5 (by decide) (fun h5_1 => ?_) (fun h5_1 => ?_)
  · refine G_aload_n C 0 dX8_beginsItem_10 rfl rfl ?_
    refine G_iload_n C 1 dX8_beginsItem_11 rfl rfl ?_
    refine G_put (w' := wX cI cZ ad (ms M 3 (3) (ch)) t) (ty := .int) C 3 3 tyX8 dX8_beginsItem_12 xc_3 rfl inG8 tyX8_ok nmX8 (by decide) wm_156 rfl rfl (by decide +kernel) rfl rfl (Nat.le_of_ble_eq_true rfl) (xp_3_3 _) ?_
    refine G_aload_n C 0 dX8_beginsItem_15 rfl rfl ?_
    refine G_iconst C dX8_beginsItem_16 kI_0 ?_
    refine G_put (w' := wX cI cZ ad (ms (ms M 3 (3) (ch)) 3 (4) (0)) t) (ty := .int) C 3 4 tyX8 dX8_beginsItem_17 xc_3 rfl inG8 tyX8_ok nmX8 (by decide) wm_157 rfl rfl (by decide +kernel) rfl rfl (Nat.le_of_ble_eq_true rfl) (xp_3_4 _) ?_
    refine G_iconst C dX8_beginsItem_20 kI_1 ?_
    exact G_zret C hr dX8_beginsItem_21 (by rfl) (bI_t (by simp [x_bi, h5_1])) (congrArg (fun z => wX cI cZ ad z t) (by simp [x_bi, h5_1]))
  · refine G_iconst C dX8_beginsItem_8 kI_0 ?_
    exact G_zret C hr dX8_beginsItem_9 (by rfl) (bI_f (by simp [x_bi, h5_1])) (congrArg (fun z => wX cI cZ ad z t) (by simp [x_bi, h5_1]))
set_option maxHeartbeats 4000000 in
set_option maxRecDepth 100000 in
theorem c_X8_numbersOfItem  (hB : ∀ k j, M k j < 1024) : CT l yX8_numbersOfItem cX8_numbersOfItem 1 (some .int) (rmOf 0 0) D (tyI cI cZ) [.ref (ad 3)] (wX cI cZ ad M t) (some (.int (nI (x_noi M)))) (wX cI cZ ad M t) := by
  refine CT_of (own := "FalseParity$Reader") (by decide) rfl (Nat.le_of_ble_eq_true rfl) (fun p e s m args below meth c C hr => ?_)
  refine G_aload_n C 0 dX8_numbersOfItem_0 rfl rfl ?_
  refine G_get (v := .int (nI (M 3 3))) C 3 3 dX8_numbersOfItem_1 xc_3 rfl inG8 (by decide) wm_156 rfl rfl ?_
  refine G_bipush C dX8_numbersOfItem_4 kB_110 ?_
  refine G_icmp_neN (tgt := 13) C dX8_numbersOfItem_6 (by decide) (by have := hB 3 3; omega) (by decide) (fun h6_1 => ?_) (fun h6_1 => ?_)
  · refine G_iconst C dX8_numbersOfItem_13 kI_1 ?_
    exact G_iret C hr dX8_numbersOfItem_14 (by simp [x_noi, h6_1]) (rfl)
  · refine G_iconst C dX8_numbersOfItem_9 kI_3 ?_
    refine G_goto (tgt := 14) C dX8_numbersOfItem_10 (by decide) ?_
    exact G_iret C hr dX8_numbersOfItem_14 (by simp [x_noi, h6_1]) (rfl)
set_option maxHeartbeats 4000000 in
set_option maxRecDepth 100000 in
theorem c_X8_numberAt {a : Nat} (ha : a < M 1 1) (hL : M 1 1 ≤ 150) (hB : ∀ k j, M k j < 1024) : CT l yX8_numberAt cX8_numberAt 4 (some .int) (rmOf 1 21) D (tyI cI cZ) [.ref (ad 3), .int (nI a)] (wX cI cZ ad M t) (some (.int (nI (x_na M a)))) (wX cI cZ ad M t) := by
  refine CT_of (own := "FalseParity$Reader") (by decide) rfl (Nat.le_of_ble_eq_true rfl) (fun p e s m args below meth c C hr => ?_)
  refine G_aload_n C 0 dX8_numberAt_0 rfl rfl ?_
  refine G_get (v := .ref (ad 1)) C 3 0 dX8_numberAt_1 xc_3 rfl inG8 (by decide) wm_152 rfl rfl ?_
  refine G_getN (v := .ref (ad 2)) C 1 0 dX8_numberAt_4 xc_1 rfl inG9 (by decide) wn_80 rfl rfl ?_
  refine G_iload_n C 1 dX8_numberAt_7 rfl rfl ?_
  refine G_iald (v := nI (M 2 a)) C 2 0 dX8_numberAt_8 xc_2 rfl (by omega) (by decide) rfl ?_
  refine G_bipush C dX8_numberAt_9 kB_48 ?_
  refine G_icmp_neN (tgt := 30) C dX8_numberAt_11 (by decide) (by have := hB 2 a; omega) (by decide) (fun h11_1 => ?_) (fun h11_1 => ?_)
  · refine G_iconst C dX8_numberAt_30 kI_0 ?_
    refine G_istore_n (lv' := [(2, .int (nI 0)), (0, .ref (ad 3)), (1, .int (nI a))]) C dX8_numberAt_31 rfl (by decide) rfl ?_
    refine G_iload_n C 2 dX8_numberAt_32 rfl rfl ?_
    refine G_istore_n (lv' := [(3, .int (nI a)), (2, .int (nI 0)), (0, .ref (ad 3)), (1, .int (nI a))]) C dX8_numberAt_33 rfl (by decide) rfl ?_
    refine G_pick (lv' := [(0, .ref (ad 3)), (1, .int (nI a)), (2, .int (nI 0)), (3, .int (nI a))]) [2, 3, 1, 0] rfl ?_
    refine loopN (P := fun i => ∀ v : Nat, (x_nl M (M 1 1 - i) i v = x_na M a) → (v ≤ 100) → G p l e (rmOf 1 21) s m args below meth c D _ 4 0 0 _ 34 [(0, .ref (ad 3)), (1, .int (nI a)), (2, .int (nI v)), (3, .int (nI i))] [] (wX cI cZ ad M t)) (M 1 1) ?_ ?_ a (by omega) (0) (by unfold x_na; rw [if_neg (fun q => h11_1 q.1)]) (by decide)
    · intro v hi2_0 hi2_1
      refine G_iload_n C 3 dX8_numberAt_34 rfl rfl ?_
      refine G_aload_n C 0 dX8_numberAt_35 rfl rfl ?_
      refine G_get (v := .ref (ad 1)) C 3 0 dX8_numberAt_36 xc_3 rfl inG8 (by decide) wm_152 rfl rfl ?_
      refine G_getN (v := .int (nI (M 1 1))) C 1 1 dX8_numberAt_39 xc_1 rfl inG9 (by decide) wn_82 rfl rfl ?_
      refine G_icmp_geN (tgt := 85) C dX8_numberAt_42 (by decide) (by have := hB 1 1; omega) (by have := hB 1 1; omega) (fun h42_3 => ?_) (fun h42_3 => ?_)
      · refine G_iload_n C 2 dX8_numberAt_85 rfl rfl ?_
        exact G_iret C hr dX8_numberAt_86 (by rw [← hi2_0]; rw [Nat.sub_self]; rfl) (rfl)
      · exfalso; omega
    · intro i hiL ih2 v hi2_0 hi2_1
      refine G_iload_n C 3 dX8_numberAt_34 rfl rfl ?_
      refine G_aload_n C 0 dX8_numberAt_35 rfl rfl ?_
      refine G_get (v := .ref (ad 1)) C 3 0 dX8_numberAt_36 xc_3 rfl inG8 (by decide) wm_152 rfl rfl ?_
      refine G_getN (v := .int (nI (M 1 1))) C 1 1 dX8_numberAt_39 xc_1 rfl inG9 (by decide) wn_82 rfl rfl ?_
      refine G_icmp_geN (tgt := 85) C dX8_numberAt_42 (by decide) (by omega) (by have := hB 1 1; omega) (fun h42_4 => ?_) (fun h42_4 => ?_)
      · exfalso; omega
      · refine G_aload_n C 0 dX8_numberAt_45 rfl rfl ?_
        refine G_get (v := .ref (ad 1)) C 3 0 dX8_numberAt_46 xc_3 rfl inG8 (by decide) wm_152 rfl rfl ?_
        refine G_iload_n C 3 dX8_numberAt_49 rfl rfl ?_
        refine G_callV1 C [.int (nI i)] 1 dX8_numberAt_50 (c_X9_hasDigit hL hB) wm_360 wm_361 wm_362 wm_51 wm_363 xc_1 rfl ydc_X9_hasDigit rfl ⟨Nat.le_of_ble_eq_true rfl, Nat.le_of_ble_eq_true rfl⟩ ⟨rfl, rfl⟩ ⟨Nat.le_refl _, Nat.le_refl _⟩ (Nat.le_of_ble_eq_true rfl) rfl ?_
        refine G_if_eqB (tgt := 85) C dX8_numberAt_53 (by decide) (fun h53_5 => ?_) (fun h53_5 => ?_)
        · refine G_iload_n C 2 dX8_numberAt_85 rfl rfl ?_
          exact G_iret C hr dX8_numberAt_86 (by rw [← hi2_0]; rw [show M 1 1 - i = (M 1 1 - (i + 1)) + 1 by omega]; simp [x_nl, h53_5]) (rfl)
        · have hd := x_dg_ge (by omega) (by omega) h53_5
          have hb1 := hB 2 i
          refine G_bipush C dX8_numberAt_56 kB_100 ?_
          refine G_iload_n C 2 dX8_numberAt_58 rfl rfl ?_
          refine G_bipush C dX8_numberAt_59 kB_10 ?_
          refine G_imulN C dX8_numberAt_61 ?_
          refine G_aload_n C 0 dX8_numberAt_62 rfl rfl ?_
          refine G_get (v := .ref (ad 1)) C 3 0 dX8_numberAt_63 xc_3 rfl inG8 (by decide) wm_152 rfl rfl ?_
          refine G_getN (v := .ref (ad 2)) C 1 0 dX8_numberAt_66 xc_1 rfl inG9 (by decide) wn_80 rfl rfl ?_
          refine G_iload_n C 3 dX8_numberAt_69 rfl rfl ?_
          refine G_iald (v := nI (M 2 i)) C 2 0 dX8_numberAt_70 xc_2 rfl (by omega) (by decide) rfl ?_
          refine G_iaddN C dX8_numberAt_71 ?_
          refine G_bipush C dX8_numberAt_72 kB_48 ?_
          refine G_isubN C dX8_numberAt_74 (by omega) ?_
          refine G_min C dX8_numberAt_75 wm_384 wm_385 wm_62 wm_386 (Nat.le_of_ble_eq_true rfl) (Nat.le_of_ble_eq_true rfl) (Nat.le_refl _) (Nat.le_refl _) ?_
          refine G_top (y := nI (min 100 (v * 10 + M 2 i - 48))) (nI_min (by decide) (by omega)) ?_
          refine G_istore_n (lv' := [(2, .int (nI (min 100 (v * 10 + M 2 i - 48)))), (0, .ref (ad 3)), (1, .int (nI a)), (3, .int (nI i))]) C dX8_numberAt_78 rfl (by decide) rfl ?_
          refine G_iincN (lv' := [(3, .int (nI (i + 1))), (2, .int (nI (min 100 (v * 10 + M 2 i - 48)))), (0, .ref (ad 3)), (1, .int (nI a))]) C 3 dX8_numberAt_79 rfl (by decide) rfl ?_
          refine G_goto (tgt := 34) C dX8_numberAt_82 (by decide) ?_
          refine G_pick (lv' := [(0, .ref (ad 3)), (1, .int (nI a)), (2, .int (nI (min 100 (v * 10 + M 2 i - 48)))), (3, .int (nI (i + 1)))]) [2, 3, 1, 0] rfl ?_
          exact ih2 _ (by rw [← hi2_0]; rw [show M 1 1 - i = (M 1 1 - (i + 1)) + 1 by omega]; simp [x_nl, h53_5]) (Nat.min_le_left _ _)
  · refine G_aload_n C 0 dX8_numberAt_14 rfl rfl ?_
    refine G_get (v := .ref (ad 1)) C 3 0 dX8_numberAt_15 xc_3 rfl inG8 (by decide) wm_152 rfl rfl ?_
    refine G_iload_n C 1 dX8_numberAt_18 rfl rfl ?_
    refine G_iconst C dX8_numberAt_19 kI_1 ?_
    refine G_iaddN C dX8_numberAt_20 ?_
    refine G_callV1 C [.int (nI (a + 1))] 1 dX8_numberAt_21 (c_X9_hasDigit hL hB) wm_360 wm_361 wm_362 wm_51 wm_363 xc_1 rfl ydc_X9_hasDigit rfl ⟨Nat.le_of_ble_eq_true rfl, Nat.le_of_ble_eq_true rfl⟩ ⟨rfl, rfl⟩ ⟨Nat.le_refl _, Nat.le_refl _⟩ (Nat.le_of_ble_eq_true rfl) rfl ?_
    refine G_if_eqB (tgt := 30) C dX8_numberAt_24 (by decide) (fun h24_6 => ?_) (fun h24_6 => ?_)
    · refine G_iconst C dX8_numberAt_30 kI_0 ?_
      refine G_istore_n (lv' := [(2, .int (nI 0)), (0, .ref (ad 3)), (1, .int (nI a))]) C dX8_numberAt_31 rfl (by decide) rfl ?_
      refine G_iload_n C 2 dX8_numberAt_32 rfl rfl ?_
      refine G_istore_n (lv' := [(3, .int (nI a)), (2, .int (nI 0)), (0, .ref (ad 3)), (1, .int (nI a))]) C dX8_numberAt_33 rfl (by decide) rfl ?_
      refine G_pick (lv' := [(0, .ref (ad 3)), (1, .int (nI a)), (2, .int (nI 0)), (3, .int (nI a))]) [2, 3, 1, 0] rfl ?_
      refine loopN (P := fun i => ∀ v : Nat, (x_nl M (M 1 1 - i) i v = x_na M a) → (v ≤ 100) → G p l e (rmOf 1 21) s m args below meth c D _ 4 0 0 _ 34 [(0, .ref (ad 3)), (1, .int (nI a)), (2, .int (nI v)), (3, .int (nI i))] [] (wX cI cZ ad M t)) (M 1 1) ?_ ?_ a (by omega) (0) (by unfold x_na; rw [if_neg (fun q => by rw [h24_6] at q; exact absurd q.2 (by decide))]) (by decide)
      · intro v hi7_0 hi7_1
        refine G_iload_n C 3 dX8_numberAt_34 rfl rfl ?_
        refine G_aload_n C 0 dX8_numberAt_35 rfl rfl ?_
        refine G_get (v := .ref (ad 1)) C 3 0 dX8_numberAt_36 xc_3 rfl inG8 (by decide) wm_152 rfl rfl ?_
        refine G_getN (v := .int (nI (M 1 1))) C 1 1 dX8_numberAt_39 xc_1 rfl inG9 (by decide) wn_82 rfl rfl ?_
        refine G_icmp_geN (tgt := 85) C dX8_numberAt_42 (by decide) (by have := hB 1 1; omega) (by have := hB 1 1; omega) (fun h42_8 => ?_) (fun h42_8 => ?_)
        · refine G_iload_n C 2 dX8_numberAt_85 rfl rfl ?_
          exact G_iret C hr dX8_numberAt_86 (by rw [← hi7_0]; rw [Nat.sub_self]; rfl) (rfl)
        · exfalso; omega
      · intro i hiL ih7 v hi7_0 hi7_1
        refine G_iload_n C 3 dX8_numberAt_34 rfl rfl ?_
        refine G_aload_n C 0 dX8_numberAt_35 rfl rfl ?_
        refine G_get (v := .ref (ad 1)) C 3 0 dX8_numberAt_36 xc_3 rfl inG8 (by decide) wm_152 rfl rfl ?_
        refine G_getN (v := .int (nI (M 1 1))) C 1 1 dX8_numberAt_39 xc_1 rfl inG9 (by decide) wn_82 rfl rfl ?_
        refine G_icmp_geN (tgt := 85) C dX8_numberAt_42 (by decide) (by omega) (by have := hB 1 1; omega) (fun h42_9 => ?_) (fun h42_9 => ?_)
        · exfalso; omega
        · refine G_aload_n C 0 dX8_numberAt_45 rfl rfl ?_
          refine G_get (v := .ref (ad 1)) C 3 0 dX8_numberAt_46 xc_3 rfl inG8 (by decide) wm_152 rfl rfl ?_
          refine G_iload_n C 3 dX8_numberAt_49 rfl rfl ?_
          refine G_callV1 C [.int (nI i)] 1 dX8_numberAt_50 (c_X9_hasDigit hL hB) wm_360 wm_361 wm_362 wm_51 wm_363 xc_1 rfl ydc_X9_hasDigit rfl ⟨Nat.le_of_ble_eq_true rfl, Nat.le_of_ble_eq_true rfl⟩ ⟨rfl, rfl⟩ ⟨Nat.le_refl _, Nat.le_refl _⟩ (Nat.le_of_ble_eq_true rfl) rfl ?_
          refine G_if_eqB (tgt := 85) C dX8_numberAt_53 (by decide) (fun h53_10 => ?_) (fun h53_10 => ?_)
          · refine G_iload_n C 2 dX8_numberAt_85 rfl rfl ?_
            exact G_iret C hr dX8_numberAt_86 (by rw [← hi7_0]; rw [show M 1 1 - i = (M 1 1 - (i + 1)) + 1 by omega]; simp [x_nl, h53_10]) (rfl)
          · have hd := x_dg_ge (by omega) (by omega) h53_10
            have hb1 := hB 2 i
            refine G_bipush C dX8_numberAt_56 kB_100 ?_
            refine G_iload_n C 2 dX8_numberAt_58 rfl rfl ?_
            refine G_bipush C dX8_numberAt_59 kB_10 ?_
            refine G_imulN C dX8_numberAt_61 ?_
            refine G_aload_n C 0 dX8_numberAt_62 rfl rfl ?_
            refine G_get (v := .ref (ad 1)) C 3 0 dX8_numberAt_63 xc_3 rfl inG8 (by decide) wm_152 rfl rfl ?_
            refine G_getN (v := .ref (ad 2)) C 1 0 dX8_numberAt_66 xc_1 rfl inG9 (by decide) wn_80 rfl rfl ?_
            refine G_iload_n C 3 dX8_numberAt_69 rfl rfl ?_
            refine G_iald (v := nI (M 2 i)) C 2 0 dX8_numberAt_70 xc_2 rfl (by omega) (by decide) rfl ?_
            refine G_iaddN C dX8_numberAt_71 ?_
            refine G_bipush C dX8_numberAt_72 kB_48 ?_
            refine G_isubN C dX8_numberAt_74 (by omega) ?_
            refine G_min C dX8_numberAt_75 wm_384 wm_385 wm_62 wm_386 (Nat.le_of_ble_eq_true rfl) (Nat.le_of_ble_eq_true rfl) (Nat.le_refl _) (Nat.le_refl _) ?_
            refine G_top (y := nI (min 100 (v * 10 + M 2 i - 48))) (nI_min (by decide) (by omega)) ?_
            refine G_istore_n (lv' := [(2, .int (nI (min 100 (v * 10 + M 2 i - 48)))), (0, .ref (ad 3)), (1, .int (nI a)), (3, .int (nI i))]) C dX8_numberAt_78 rfl (by decide) rfl ?_
            refine G_iincN (lv' := [(3, .int (nI (i + 1))), (2, .int (nI (min 100 (v * 10 + M 2 i - 48)))), (0, .ref (ad 3)), (1, .int (nI a))]) C 3 dX8_numberAt_79 rfl (by decide) rfl ?_
            refine G_goto (tgt := 34) C dX8_numberAt_82 (by decide) ?_
            refine G_pick (lv' := [(0, .ref (ad 3)), (1, .int (nI a)), (2, .int (nI (min 100 (v * 10 + M 2 i - 48)))), (3, .int (nI (i + 1)))]) [2, 3, 1, 0] rfl ?_
            exact ih7 _ (by rw [← hi7_0]; rw [show M 1 1 - i = (M 1 1 - (i + 1)) + 1 by omega]; simp [x_nl, h53_10]) (Nat.min_le_left _ _)
    · refine G_bipush C dX8_numberAt_27 kB_100 ?_
      exact G_iret C hr dX8_numberAt_29 (by unfold x_na; rw [if_pos ⟨h11_1, h24_6⟩]) (rfl)
set_option maxHeartbeats 4000000 in
set_option maxRecDepth 100000 in
theorem c_X8_leastNumber  (hB : ∀ k j, M k j < 1024) : CT l yX8_leastNumber cX8_leastNumber 1 (some .int) (rmOf 0 0) D (tyI cI cZ) [.ref (ad 3)] (wX cI cZ ad M t) (some (.int (nI (x_ln M)))) (wX cI cZ ad M t) := by
  refine CT_of (own := "FalseParity$Reader") (by decide) rfl (Nat.le_of_ble_eq_true rfl) (fun p e s m args below meth c C hr => ?_)
  refine G_aload_n C 0 dX8_leastNumber_0 rfl rfl ?_
  refine G_get (v := .int (nI (M 3 3))) C 3 3 dX8_leastNumber_1 xc_3 rfl inG8 (by decide) wm_156 rfl rfl ?_
  refine G_bipush C dX8_leastNumber_4 kB_98 ?_
  refine G_icmp_eqN (tgt := 25) C dX8_leastNumber_6 (by decide) (by have := hB 3 3; omega) (by decide) (fun h6_1 => ?_) (fun h6_1 => ?_)
  · refine G_iconst C dX8_leastNumber_25 kI_1 ?_
    refine G_goto (tgt := 30) C dX8_leastNumber_26 (by decide) ?_
    exact G_iret C hr dX8_leastNumber_30 (by simp [x_ln, h6_1]) (rfl)
  · refine G_aload_n C 0 dX8_leastNumber_9 rfl rfl ?_
    refine G_get (v := .int (nI (M 3 3))) C 3 3 dX8_leastNumber_10 xc_3 rfl inG8 (by decide) wm_156 rfl rfl ?_
    refine G_bipush C dX8_leastNumber_13 kB_110 ?_
    refine G_icmp_neN (tgt := 29) C dX8_leastNumber_15 (by decide) (by have := hB 3 3; omega) (by decide) (fun h15_2 => ?_) (fun h15_2 => ?_)
    · refine G_iconst C dX8_leastNumber_29 kI_0 ?_
      exact G_iret C hr dX8_leastNumber_30 (by simp [x_ln, h6_1, h15_2]) (rfl)
    · refine G_aload_n C 0 dX8_leastNumber_18 rfl rfl ?_
      refine G_get (v := .int (nI (M 3 4))) C 3 4 dX8_leastNumber_19 xc_3 rfl inG8 (by decide) wm_157 rfl rfl ?_
      refine G_if_neN (tgt := 29) C dX8_leastNumber_22 (by decide) (by have := hB 3 4; omega) (fun h22_3 => ?_) (fun h22_3 => ?_)
      · refine G_iconst C dX8_leastNumber_29 kI_0 ?_
        exact G_iret C hr dX8_leastNumber_30 (by simp [x_ln, h6_1, h15_2, Nat.pos_iff_ne_zero.mp h22_3]) (rfl)
      · refine G_iconst C dX8_leastNumber_25 kI_1 ?_
        refine G_goto (tgt := 30) C dX8_leastNumber_26 (by decide) ?_
        exact G_iret C hr dX8_leastNumber_30 (by simp [x_ln, h6_1, h15_2, h22_3]) (rfl)
set_option maxHeartbeats 4000000 in
set_option maxRecDepth 100000 in
theorem c_X8_mostOfNote  (hB : ∀ k j, M k j < 1024) : CT l yX8_mostOfNote cX8_mostOfNote 1 (some .int) (rmOf 0 0) D (tyI cI cZ) [.ref (ad 3)] (wX cI cZ ad M t) (some (.int (nI (x_mo M) - nI 1))) (wX cI cZ ad M t) := by
  refine CT_of (own := "FalseParity$Reader") (by decide) rfl (Nat.le_of_ble_eq_true rfl) (fun p e s m args below meth c C hr => ?_)
  refine G_aload_n C 0 dX8_mostOfNote_0 rfl rfl ?_
  refine G_get (v := .int (nI (M 3 4))) C 3 4 dX8_mostOfNote_1 xc_3 rfl inG8 (by decide) wm_157 rfl rfl ?_
  by_cases h4_1_0 : nI (M 3 4) = 0
  · refine G_top h4_1_0 ?_
    refine G_lookup (off := 28) (tgt := 32) C dX8_mostOfNote_4 (by decide) rfl (by decide) ?_
    replace h4_1_0 : M 3 4 = 0 := (nI_eq (by have := hB 3 4; omega) (by decide)).mp h4_1_0
    refine G_bipush C dX8_mostOfNote_32 kB_99 ?_
    exact G_iret C hr dX8_mostOfNote_34 (by simp [x_mo, h4_1_0]; decide) (rfl)
  by_cases h4_1_1 : nI (M 3 4) = 1
  · refine G_top h4_1_1 ?_
    refine G_lookup (off := 31) (tgt := 35) C dX8_mostOfNote_4 (by decide) rfl (by decide) ?_
    replace h4_1_1 : M 3 4 = 1 := (nI_eq (by have := hB 3 4; omega) (by decide)).mp h4_1_1
    refine G_bipush C dX8_mostOfNote_35 kB_31 ?_
    exact G_iret C hr dX8_mostOfNote_37 (by simp [x_mo, h4_1_1]; decide) (rfl)
  refine G_lookup (off := 34) (tgt := 38) C dX8_mostOfNote_4 (by decide) (by refine (lv_osw h4_1_0 rfl).trans ?_; refine (lv_osw h4_1_1 rfl).trans ?_; rfl) (by decide) ?_
  replace h4_1_0 : ¬ M 3 4 = 0 := fun q => h4_1_0 ((nI_eq (by have := hB 3 4; omega) (by decide)).mpr q)
  replace h4_1_1 : ¬ M 3 4 = 1 := fun q => h4_1_1 ((nI_eq (by have := hB 3 4; omega) (by decide)).mpr q)
  refine G_aload_n C 0 dX8_mostOfNote_38 rfl rfl ?_
  refine G_get (v := .ref (ad 4)) C 3 1 dX8_mostOfNote_39 xc_3 rfl inG8 (by decide) wm_153 rfl rfl ?_
  refine G_getN (v := .int (nI (M 4 4))) C 4 4 dX8_mostOfNote_42 xc_4 rfl inG1 (by decide) wn_121 rfl rfl ?_
  refine G_iconst C dX8_mostOfNote_45 kI_1 ?_
  refine G_isub C dX8_mostOfNote_46 ?_
  exact G_iret C hr dX8_mostOfNote_47 (by simp [x_mo, h4_1_0, h4_1_1]) (rfl)
set_option maxHeartbeats 4000000 in
set_option maxRecDepth 100000 in
theorem c_X8_mostNumber  (hB : ∀ k j, M k j < 1024) : CT l yX8_mostNumber cX8_mostNumber 1 (some .int) (rmOf 1 20) D (tyI cI cZ) [.ref (ad 3)] (wX cI cZ ad M t) (some (.int (nI (x_mx M) - nI 1))) (wX cI cZ ad M t) := by
  refine CT_of (own := "FalseParity$Reader") (by decide) rfl (Nat.le_of_ble_eq_true rfl) (fun p e s m args below meth c C hr => ?_)
  refine G_aload_n C 0 dX8_mostNumber_0 rfl rfl ?_
  refine G_get (v := .int (nI (M 3 3))) C 3 3 dX8_mostNumber_1 xc_3 rfl inG8 (by decide) wm_156 rfl rfl ?_
  by_cases h4_1_98 : nI (M 3 3) = 98
  · refine G_top h4_1_98 ?_
    refine G_lookup (off := 36) (tgt := 40) C dX8_mostNumber_4 (by decide) rfl (by decide) ?_
    replace h4_1_98 : M 3 3 = 98 := (nI_eq (by have := hB 3 3; omega) (by decide)).mp h4_1_98
    refine G_bipush C dX8_mostNumber_40 kB_9 ?_
    exact G_iret C hr dX8_mostNumber_42 (by simp [x_mx, h4_1_98]; decide) (rfl)
  by_cases h4_1_110 : nI (M 3 3) = 110
  · refine G_top h4_1_110 ?_
    refine G_lookup (off := 42) (tgt := 46) C dX8_mostNumber_4 (by decide) rfl (by decide) ?_
    replace h4_1_110 : M 3 3 = 110 := (nI_eq (by have := hB 3 3; omega) (by decide)).mp h4_1_110
    refine G_aload_n C 0 dX8_mostNumber_46 rfl rfl ?_
    refine G_callV1 C [] 3 dX8_mostNumber_47 (c_X8_mostOfNote hB) wm_399 wm_401 wm_10 wm_52 wm_402 xc_3 rfl ydc_X8_mostOfNote rfl ⟨Nat.le_of_ble_eq_true rfl, Nat.le_of_ble_eq_true rfl⟩ ⟨rfl, rfl⟩ ⟨Nat.le_refl _, Nat.le_refl _⟩ (Nat.le_of_ble_eq_true rfl) rfl ?_
    exact G_iret C hr dX8_mostNumber_50 (by simp [x_mx, h4_1_110]) (rfl)
  by_cases h4_1_115 : nI (M 3 3) = 115
  · refine G_top h4_1_115 ?_
    refine G_lookup (off := 39) (tgt := 43) C dX8_mostNumber_4 (by decide) rfl (by decide) ?_
    replace h4_1_115 : M 3 3 = 115 := (nI_eq (by have := hB 3 3; omega) (by decide)).mp h4_1_115
    refine G_bipush C dX8_mostNumber_43 kB_10 ?_
    exact G_iret C hr dX8_mostNumber_45 (by simp [x_mx, h4_1_115]; decide) (rfl)
  refine G_lookup (off := 47) (tgt := 51) C dX8_mostNumber_4 (by decide) (by refine (lv_osw h4_1_98 rfl).trans ?_; refine (lv_osw h4_1_110 rfl).trans ?_; refine (lv_osw h4_1_115 rfl).trans ?_; rfl) (by decide) ?_
  replace h4_1_98 : ¬ M 3 3 = 98 := fun q => h4_1_98 ((nI_eq (by have := hB 3 3; omega) (by decide)).mpr q)
  replace h4_1_110 : ¬ M 3 3 = 110 := fun q => h4_1_110 ((nI_eq (by have := hB 3 3; omega) (by decide)).mpr q)
  replace h4_1_115 : ¬ M 3 3 = 115 := fun q => h4_1_115 ((nI_eq (by have := hB 3 3; omega) (by decide)).mpr q)
  refine G_bipush C dX8_mostNumber_51 kB_31 ?_
  exact G_iret C hr dX8_mostNumber_53 (by simp [x_mx, h4_1_98, h4_1_110, h4_1_115]; decide) (rfl)
set_option maxHeartbeats 4000000 in
set_option maxRecDepth 100000 in
theorem c_X8_storeOfNote {n v : Nat} (hn : n < 6) (hB : ∀ k j, M k j < 1024) : CT l yX8_storeOfNote cX8_storeOfNote 3 none (rmOf 0 0) D (tyI cI cZ) [.ref (ad 3), .int (nI n), .int (nI v)] (wX cI cZ ad M t) (none) (wX cI cZ ad (x_son M n v) t) := by
  refine CT_of (own := "FalseParity$Reader") (by decide) rfl (Nat.le_of_ble_eq_true rfl) (fun p e s m args below meth c C hr => ?_)
  refine G_aload_n C 0 dX8_storeOfNote_0 rfl rfl ?_
  refine G_get (v := .int (nI (M 3 4))) C 3 4 dX8_storeOfNote_1 xc_3 rfl inG8 (by decide) wm_157 rfl rfl ?_
  by_cases h4_1_0 : nI (M 3 4) = 0
  · refine G_top h4_1_0 ?_
    refine G_lookup (off := 28) (tgt := 32) C dX8_storeOfNote_4 (by decide) rfl (by decide) ?_
    replace h4_1_0 : M 3 4 = 0 := (nI_eq (by have := hB 3 4; omega) (by decide)).mp h4_1_0
    refine G_aload_n C 0 dX8_storeOfNote_32 rfl rfl ?_
    refine G_get (v := .ref (ad 4)) C 3 1 dX8_storeOfNote_33 xc_3 rfl inG8 (by decide) wm_153 rfl rfl ?_
    refine G_getN (v := .ref (ad 6)) C 4 1 dX8_storeOfNote_36 xc_4 rfl inG1 (by decide) wn_109 rfl rfl ?_
    refine G_iload_n C 1 dX8_storeOfNote_39 rfl rfl ?_
    refine G_iload_n C 2 dX8_storeOfNote_40 rfl rfl ?_
    refine G_iast (w' := wX cI cZ ad (ms M 6 (n) (v)) t) C 6 0 dX8_storeOfNote_41 xc_6 rfl (by omega) (by decide) (xs_6 _ _) ?_
    refine G_goto (tgt := 68) C dX8_storeOfNote_42 (by decide) ?_
    exact G_vret C hr dX8_storeOfNote_68 rfl (congrArg (fun z => wX cI cZ ad z t) (by simp [x_son, h4_1_0]))
  by_cases h4_1_1 : nI (M 3 4) = 1
  · refine G_top h4_1_1 ?_
    refine G_lookup (off := 41) (tgt := 45) C dX8_storeOfNote_4 (by decide) rfl (by decide) ?_
    replace h4_1_1 : M 3 4 = 1 := (nI_eq (by have := hB 3 4; omega) (by decide)).mp h4_1_1
    refine G_aload_n C 0 dX8_storeOfNote_45 rfl rfl ?_
    refine G_get (v := .ref (ad 4)) C 3 1 dX8_storeOfNote_46 xc_3 rfl inG8 (by decide) wm_153 rfl rfl ?_
    refine G_getN (v := .ref (ad 7)) C 4 2 dX8_storeOfNote_49 xc_4 rfl inG1 (by decide) wn_114 rfl rfl ?_
    refine G_iload_n C 1 dX8_storeOfNote_52 rfl rfl ?_
    refine G_iload_n C 2 dX8_storeOfNote_53 rfl rfl ?_
    refine G_iast (w' := wX cI cZ ad (ms M 7 (n) (v)) t) C 7 0 dX8_storeOfNote_54 xc_7 rfl (by omega) (by decide) (xs_7 _ _) ?_
    refine G_goto (tgt := 68) C dX8_storeOfNote_55 (by decide) ?_
    exact G_vret C hr dX8_storeOfNote_68 rfl (congrArg (fun z => wX cI cZ ad z t) (by simp [x_son, h4_1_1]))
  refine G_lookup (off := 54) (tgt := 58) C dX8_storeOfNote_4 (by decide) (by refine (lv_osw h4_1_0 rfl).trans ?_; refine (lv_osw h4_1_1 rfl).trans ?_; rfl) (by decide) ?_
  replace h4_1_0 : ¬ M 3 4 = 0 := fun q => h4_1_0 ((nI_eq (by have := hB 3 4; omega) (by decide)).mpr q)
  replace h4_1_1 : ¬ M 3 4 = 1 := fun q => h4_1_1 ((nI_eq (by have := hB 3 4; omega) (by decide)).mpr q)
  refine G_aload_n C 0 dX8_storeOfNote_58 rfl rfl ?_
  refine G_get (v := .ref (ad 4)) C 3 1 dX8_storeOfNote_59 xc_3 rfl inG8 (by decide) wm_153 rfl rfl ?_
  refine G_getN (v := .ref (ad 8)) C 4 3 dX8_storeOfNote_62 xc_4 rfl inG1 (by decide) wn_117 rfl rfl ?_
  refine G_iload_n C 1 dX8_storeOfNote_65 rfl rfl ?_
  refine G_iload_n C 2 dX8_storeOfNote_66 rfl rfl ?_
  refine G_iast (w' := wX cI cZ ad (ms M 8 (n) (v)) t) C 8 0 dX8_storeOfNote_67 xc_8 rfl (by omega) (by decide) (xs_8 _ _) ?_
  exact G_vret C hr dX8_storeOfNote_68 rfl (congrArg (fun z => wX cI cZ ad z t) (by simp [x_son, h4_1_0, h4_1_1]))
set_option maxHeartbeats 4000000 in
set_option maxRecDepth 100000 in
theorem c_X8_store {v : Nat} (h112 : M 3 3 = 112 → M 4 4 < 5) (h110 : M 3 3 = 110 → M 4 5 < 6) (hB : ∀ k j, M k j < 1024) : CT l yX8_store cX8_store 2 none (rmOf 1 22) D (tyI cI cZ) [.ref (ad 3), .int (nI v)] (wX cI cZ ad M t) (none) (wX cI cZ ad (x_st M v) t) := by
  refine CT_of (own := "FalseParity$Reader") (by decide) rfl (Nat.le_of_ble_eq_true rfl) (fun p e s m args below meth c C hr => ?_)
  refine G_aload_n C 0 dX8_store_0 rfl rfl ?_
  refine G_get (v := .int (nI (M 3 3))) C 3 3 dX8_store_1 xc_3 rfl inG8 (by decide) wm_156 rfl rfl ?_
  by_cases h4_1_98 : nI (M 3 3) = 98
  · refine G_top h4_1_98 ?_
    refine G_lookup (off := 70) (tgt := 74) C dX8_store_4 (by decide) rfl (by decide) ?_
    replace h4_1_98 : M 3 3 = 98 := (nI_eq (by have := hB 3 3; omega) (by decide)).mp h4_1_98
    refine G_aload_n C 0 dX8_store_74 rfl rfl ?_
    refine G_get (v := .ref (ad 4)) C 3 1 dX8_store_75 xc_3 rfl inG8 (by decide) wm_153 rfl rfl ?_
    refine G_iload_n C 1 dX8_store_78 rfl rfl ?_
    refine G_putN (w' := wX cI cZ ad (ms M 4 (6) (v)) t) (ty := .int) C 4 6 tyX1 dX8_store_79 xc_4 rfl inG1 tyX1_ok nmX1 (by decide) wn_130 rfl rfl (by decide +kernel) rfl rfl (Nat.le_of_ble_eq_true rfl) (xp_4_6 _) ?_
    refine G_goto (tgt := 93) C dX8_store_82 (by decide) ?_
    exact G_vret C hr dX8_store_93 rfl (congrArg (fun z => wX cI cZ ad z t) (by simp [x_st, h4_1_98]))
  by_cases h4_1_110 : nI (M 3 3) = 110
  · refine G_top h4_1_110 ?_
    refine G_lookup (off := 55) (tgt := 59) C dX8_store_4 (by decide) rfl (by decide) ?_
    replace h4_1_110 : M 3 3 = 110 := (nI_eq (by have := hB 3 3; omega) (by decide)).mp h4_1_110
    have hn := h110 h4_1_110
    refine G_aload_n C 0 dX8_store_59 rfl rfl ?_
    refine G_aload_n C 0 dX8_store_60 rfl rfl ?_
    refine G_get (v := .ref (ad 4)) C 3 1 dX8_store_61 xc_3 rfl inG8 (by decide) wm_153 rfl rfl ?_
    refine G_getN (v := .int (nI (M 4 5))) C 4 5 dX8_store_64 xc_4 rfl inG1 (by decide) wn_124 rfl rfl ?_
    refine G_iload_n C 1 dX8_store_67 rfl rfl ?_
    refine G_callV0 (w' := wX cI cZ ad (x_son M (M 4 5) v) t) C [.int (nI (M 4 5)), .int (nI v)] 3 dX8_store_68 (c_X8_storeOfNote (by omega) hB) wm_407 wm_409 wm_12 wm_52 wm_410 xc_3 rfl ydc_X8_storeOfNote rfl ⟨Nat.le_of_ble_eq_true rfl, Nat.le_of_ble_eq_true rfl⟩ ⟨rfl, rfl⟩ ⟨Nat.le_refl _, Nat.le_refl _⟩ (Nat.le_of_ble_eq_true rfl) rfl ?_
    refine G_goto (tgt := 93) C dX8_store_71 (by decide) ?_
    exact G_vret C hr dX8_store_93 rfl (congrArg (fun z => wX cI cZ ad z t) (by simp [x_st, h4_1_110]))
  by_cases h4_1_112 : nI (M 3 3) = 112
  · refine G_top h4_1_112 ?_
    refine G_lookup (off := 36) (tgt := 40) C dX8_store_4 (by decide) rfl (by decide) ?_
    replace h4_1_112 : M 3 3 = 112 := (nI_eq (by have := hB 3 3; omega) (by decide)).mp h4_1_112
    have hp := h112 h4_1_112
    refine G_aload_n C 0 dX8_store_40 rfl rfl ?_
    refine G_get (v := .ref (ad 4)) C 3 1 dX8_store_41 xc_3 rfl inG8 (by decide) wm_153 rfl rfl ?_
    refine G_getN (v := .ref (ad 5)) C 4 0 dX8_store_44 xc_4 rfl inG1 (by decide) wn_104 rfl rfl ?_
    refine G_aload_n C 0 dX8_store_47 rfl rfl ?_
    refine G_get (v := .ref (ad 4)) C 3 1 dX8_store_48 xc_3 rfl inG8 (by decide) wm_153 rfl rfl ?_
    refine G_getN (v := .int (nI (M 4 4))) C 4 4 dX8_store_51 xc_4 rfl inG1 (by decide) wn_121 rfl rfl ?_
    refine G_iload_n C 1 dX8_store_54 rfl rfl ?_
    refine G_iast (w' := wX cI cZ ad (ms M 5 (M 4 4) (v)) t) C 5 0 dX8_store_55 xc_5 rfl (by have := hB 4 4; omega) (by decide) (xs_5 _ _) ?_
    refine G_goto (tgt := 93) C dX8_store_56 (by decide) ?_
    exact G_vret C hr dX8_store_93 rfl (congrArg (fun z => wX cI cZ ad z t) (by simp [x_st, h4_1_112]))
  refine G_lookup (off := 81) (tgt := 85) C dX8_store_4 (by decide) (by refine (lv_osw h4_1_98 rfl).trans ?_; refine (lv_osw h4_1_110 rfl).trans ?_; refine (lv_osw h4_1_112 rfl).trans ?_; rfl) (by decide) ?_
  replace h4_1_98 : ¬ M 3 3 = 98 := fun q => h4_1_98 ((nI_eq (by have := hB 3 3; omega) (by decide)).mpr q)
  replace h4_1_110 : ¬ M 3 3 = 110 := fun q => h4_1_110 ((nI_eq (by have := hB 3 3; omega) (by decide)).mpr q)
  replace h4_1_112 : ¬ M 3 3 = 112 := fun q => h4_1_112 ((nI_eq (by have := hB 3 3; omega) (by decide)).mpr q)
  refine G_aload_n C 0 dX8_store_85 rfl rfl ?_
  refine G_get (v := .ref (ad 4)) C 3 1 dX8_store_86 xc_3 rfl inG8 (by decide) wm_153 rfl rfl ?_
  refine G_iload_n C 1 dX8_store_89 rfl rfl ?_
  refine G_putN (w' := wX cI cZ ad (ms M 4 (7) (v)) t) (ty := .int) C 4 7 tyX1 dX8_store_90 xc_4 rfl inG1 tyX1_ok nmX1 (by decide) wn_133 rfl rfl (by decide +kernel) rfl rfl (Nat.le_of_ble_eq_true rfl) (xp_4_7 _) ?_
  exact G_vret C hr dX8_store_93 rfl (congrArg (fun z => wX cI cZ ad z t) (by simp [x_st, h4_1_98, h4_1_110, h4_1_112]))
set_option maxHeartbeats 4000000 in
set_option maxRecDepth 100000 in
theorem c_X8_acceptsNumber {v : Nat} (hv : v < 1024) (h112 : M 3 3 = 112 → M 4 4 < 5) (h110 : M 3 3 = 110 → M 4 5 < 6) (hB : ∀ k j, M k j < 1024) : CT l yX8_acceptsNumber cX8_acceptsNumber 2 (some .boolean) (rmOf 2 43) D (tyI cI cZ) [.ref (ad 3), .int (nI v)] (wX cI cZ ad M t) (some (.int (nI (bN (x_an M v).1)))) (wX cI cZ ad (x_an M v).2 t) := by
  have hln := x_ln_le (M := M)
  refine CT_of (own := "FalseParity$Reader") (by decide) rfl (Nat.le_of_ble_eq_true rfl) (fun p e s m args below meth c C hr => ?_)
  refine G_iload_n C 1 dX8_acceptsNumber_0 rfl rfl ?_
  refine G_aload_n C 0 dX8_acceptsNumber_1 rfl rfl ?_
  refine G_callV1 C [] 3 dX8_acceptsNumber_2 (c_X8_leastNumber hB) wm_391 wm_393 wm_8 wm_52 wm_394 xc_3 rfl ydc_X8_leastNumber rfl ⟨Nat.le_of_ble_eq_true rfl, Nat.le_of_ble_eq_true rfl⟩ ⟨rfl, rfl⟩ ⟨Nat.le_refl _, Nat.le_refl _⟩ (Nat.le_of_ble_eq_true rfl) rfl ?_
  refine G_icmp_ltN (tgt := 16) C dX8_acceptsNumber_5 (by decide) (by omega) (by omega) (fun h5_1 => ?_) (fun h5_1 => ?_)
  · refine G_iconst C dX8_acceptsNumber_16 kI_0 ?_
    exact G_zret C hr dX8_acceptsNumber_17 (by rfl) (bI_f (by rw [show x_an M v = _ from if_neg (fun q => absurd q.1 (Nat.not_le.mpr h5_1))])) (congrArg (fun z => wX cI cZ ad z t) (by rw [show x_an M v = _ from if_neg (fun q => absurd q.1 (Nat.not_le.mpr h5_1))]))
  · refine G_iload_n C 1 dX8_acceptsNumber_8 rfl rfl ?_
    refine G_aload_n C 0 dX8_acceptsNumber_9 rfl rfl ?_
    refine G_callV1 C [] 3 dX8_acceptsNumber_10 (c_X8_mostNumber hB) wm_395 wm_397 wm_9 wm_52 wm_398 xc_3 rfl ydc_X8_mostNumber rfl ⟨Nat.le_of_ble_eq_true rfl, Nat.le_of_ble_eq_true rfl⟩ ⟨rfl, rfl⟩ ⟨Nat.le_refl _, Nat.le_refl _⟩ (Nat.le_of_ble_eq_true rfl) rfl ?_
    refine G_icmp_le (tgt := 18) C dX8_acceptsNumber_13 (by decide) (fun h13_2 => ?_) (fun h13_2 => ?_)
    · replace h13_2 := (le_sub1 hv (x_mx_lt hB)).mp h13_2
      refine G_aload_n C 0 dX8_acceptsNumber_18 rfl rfl ?_
      refine G_iload_n C 1 dX8_acceptsNumber_19 rfl rfl ?_
      refine G_callV0 (w' := wX cI cZ ad (x_st M v) t) C [.int (nI v)] 3 dX8_acceptsNumber_20 (c_X8_store h112 h110 hB) wm_403 wm_405 wm_11 wm_52 wm_406 xc_3 rfl ydc_X8_store rfl ⟨Nat.le_of_ble_eq_true rfl, Nat.le_of_ble_eq_true rfl⟩ ⟨rfl, rfl⟩ ⟨Nat.le_refl _, Nat.le_refl _⟩ (Nat.le_of_ble_eq_true rfl) rfl ?_
      refine G_aload_n C 0 dX8_acceptsNumber_23 rfl rfl ?_
      refine G_dup C dX8_acceptsNumber_24 rfl ?_
      refine G_get (v := .int (nI ((x_st M v) 3 4))) C 3 4 dX8_acceptsNumber_25 xc_3 rfl inG8 (by decide) wm_157 rfl rfl ?_
      refine G_iconst C dX8_acceptsNumber_28 kI_1 ?_
      refine G_iaddN C dX8_acceptsNumber_29 ?_
      refine G_put (w' := wX cI cZ ad (ms (x_st M v) 3 (4) (((x_st M v) 3 4) + 1)) t) (ty := .int) C 3 4 tyX8 dX8_acceptsNumber_30 xc_3 rfl inG8 tyX8_ok nmX8 (by decide) wm_157 rfl rfl (by decide +kernel) rfl rfl (Nat.le_of_ble_eq_true rfl) (xp_3_4 _) ?_
      refine G_iconst C dX8_acceptsNumber_33 kI_1 ?_
      exact G_zret C hr dX8_acceptsNumber_34 (by rfl) (bI_t (by rw [show x_an M v = _ from if_pos ⟨h5_1, h13_2⟩])) (congrArg (fun z => wX cI cZ ad z t) (by rw [show x_an M v = _ from if_pos ⟨h5_1, h13_2⟩]))
    · replace h13_2 := (not_congr (le_sub1 hv (x_mx_lt hB))).mp h13_2
      refine G_iconst C dX8_acceptsNumber_16 kI_0 ?_
      exact G_zret C hr dX8_acceptsNumber_17 (by rfl) (bI_f (by rw [show x_an M v = _ from if_neg (fun q => h13_2 q.2)])) (congrArg (fun z => wX cI cZ ad z t) (by rw [show x_an M v = _ from if_neg (fun q => h13_2 q.2)]))
set_option maxHeartbeats 4000000 in
set_option maxRecDepth 100000 in
theorem c_X8_endsItem  (hB : ∀ k j, M k j < 1024) : CT l yX8_endsItem cX8_endsItem 1 (some .boolean) (rmOf 0 0) D (tyI cI cZ) [.ref (ad 3)] (wX cI cZ ad M t) (some (.int (nI (bN true)))) (wX cI cZ ad (x_ei M) t) := by
  refine CT_of (own := "FalseParity$Reader") (by decide) rfl (Nat.le_of_ble_eq_true rfl) (fun p e s m args below meth c C hr => ?_)
  refine G_aload_n C 0 dX8_endsItem_0 rfl rfl ?_
  refine G_get (v := .int (nI (M 3 3))) C 3 3 dX8_endsItem_1 xc_3 rfl inG8 (by decide) wm_156 rfl rfl ?_
  by_cases h4_1_98 : nI (M 3 3) = 98
  · refine G_top h4_1_98 ?_
    refine G_lookup (off := 68) (tgt := 72) C dX8_endsItem_4 (by decide) rfl (by decide) ?_
    replace h4_1_98 : M 3 3 = 98 := (nI_eq (by have := hB 3 3; omega) (by decide)).mp h4_1_98
    refine G_aload_n C 0 dX8_endsItem_72 rfl rfl ?_
    refine G_iconst C dX8_endsItem_73 kI_1 ?_
    refine G_put (w' := wX cI cZ ad (ms M 3 (5) (1)) t) (ty := .boolean) C 3 5 tyX8 dX8_endsItem_74 xc_3 rfl inG8 tyX8_ok nmX8 (by decide) wm_158 rfl rfl (by decide +kernel) (by rfl) (by rfl) (Nat.le_of_ble_eq_true rfl) (xp_3_5 _) ?_
    refine G_goto (tgt := 85) C dX8_endsItem_77 (by decide) ?_
    refine G_aload_n C 0 dX8_endsItem_85 rfl rfl ?_
    refine G_iconst C dX8_endsItem_86 kI_0 ?_
    refine G_put (w' := wX cI cZ ad (ms (ms M 3 (5) (1)) 3 (3) (0)) t) (ty := .int) C 3 3 tyX8 dX8_endsItem_87 xc_3 rfl inG8 tyX8_ok nmX8 (by decide) wm_156 rfl rfl (by decide +kernel) rfl rfl (Nat.le_of_ble_eq_true rfl) (xp_3_3 _) ?_
    refine G_aload_n C 0 dX8_endsItem_90 rfl rfl ?_
    refine G_dup C dX8_endsItem_91 rfl ?_
    refine G_get (v := .int (nI (M 3 2))) C 3 2 dX8_endsItem_92 xc_3 rfl inG8 (by decide) wm_155 rfl rfl ?_
    refine G_iconst C dX8_endsItem_95 kI_1 ?_
    refine G_iaddN C dX8_endsItem_96 ?_
    refine G_put (w' := wX cI cZ ad (ms (ms (ms M 3 (5) (1)) 3 (3) (0)) 3 (2) ((M 3 2) + 1)) t) (ty := .int) C 3 2 tyX8 dX8_endsItem_97 xc_3 rfl inG8 tyX8_ok nmX8 (by decide) wm_155 rfl rfl (by decide +kernel) rfl rfl (Nat.le_of_ble_eq_true rfl) (xp_3_2 _) ?_
    refine G_iconst C dX8_endsItem_100 kI_1 ?_
    exact G_zret C hr dX8_endsItem_101 (by rfl) (rfl) (congrArg (fun z => wX cI cZ ad z t) (by simp [x_ei, x_eiN, h4_1_98]))
  by_cases h4_1_110 : nI (M 3 3) = 110
  · refine G_top h4_1_110 ?_
    refine G_lookup (off := 52) (tgt := 56) C dX8_endsItem_4 (by decide) rfl (by decide) ?_
    replace h4_1_110 : M 3 3 = 110 := (nI_eq (by have := hB 3 3; omega) (by decide)).mp h4_1_110
    refine G_aload_n C 0 dX8_endsItem_56 rfl rfl ?_
    refine G_get (v := .ref (ad 4)) C 3 1 dX8_endsItem_57 xc_3 rfl inG8 (by decide) wm_153 rfl rfl ?_
    refine G_dup C dX8_endsItem_60 rfl ?_
    refine G_getN (v := .int (nI (M 4 5))) C 4 5 dX8_endsItem_61 xc_4 rfl inG1 (by decide) wn_124 rfl rfl ?_
    refine G_iconst C dX8_endsItem_64 kI_1 ?_
    refine G_iaddN C dX8_endsItem_65 ?_
    refine G_putN (w' := wX cI cZ ad (ms M 4 (5) ((M 4 5) + 1)) t) (ty := .int) C 4 5 tyX1 dX8_endsItem_66 xc_4 rfl inG1 tyX1_ok nmX1 (by decide) wn_124 rfl rfl (by decide +kernel) rfl rfl (Nat.le_of_ble_eq_true rfl) (xp_4_5 _) ?_
    refine G_goto (tgt := 85) C dX8_endsItem_69 (by decide) ?_
    refine G_aload_n C 0 dX8_endsItem_85 rfl rfl ?_
    refine G_iconst C dX8_endsItem_86 kI_0 ?_
    refine G_put (w' := wX cI cZ ad (ms (ms M 4 (5) ((M 4 5) + 1)) 3 (3) (0)) t) (ty := .int) C 3 3 tyX8 dX8_endsItem_87 xc_3 rfl inG8 tyX8_ok nmX8 (by decide) wm_156 rfl rfl (by decide +kernel) rfl rfl (Nat.le_of_ble_eq_true rfl) (xp_3_3 _) ?_
    refine G_aload_n C 0 dX8_endsItem_90 rfl rfl ?_
    refine G_dup C dX8_endsItem_91 rfl ?_
    refine G_get (v := .int (nI (M 3 2))) C 3 2 dX8_endsItem_92 xc_3 rfl inG8 (by decide) wm_155 rfl rfl ?_
    refine G_iconst C dX8_endsItem_95 kI_1 ?_
    refine G_iaddN C dX8_endsItem_96 ?_
    refine G_put (w' := wX cI cZ ad (ms (ms (ms M 4 (5) ((M 4 5) + 1)) 3 (3) (0)) 3 (2) ((M 3 2) + 1)) t) (ty := .int) C 3 2 tyX8 dX8_endsItem_97 xc_3 rfl inG8 tyX8_ok nmX8 (by decide) wm_155 rfl rfl (by decide +kernel) rfl rfl (Nat.le_of_ble_eq_true rfl) (xp_3_2 _) ?_
    refine G_iconst C dX8_endsItem_100 kI_1 ?_
    exact G_zret C hr dX8_endsItem_101 (by rfl) (rfl) (congrArg (fun z => wX cI cZ ad z t) (by simp [x_ei, x_eiN, h4_1_110]))
  by_cases h4_1_112 : nI (M 3 3) = 112
  · refine G_top h4_1_112 ?_
    refine G_lookup (off := 36) (tgt := 40) C dX8_endsItem_4 (by decide) rfl (by decide) ?_
    replace h4_1_112 : M 3 3 = 112 := (nI_eq (by have := hB 3 3; omega) (by decide)).mp h4_1_112
    refine G_aload_n C 0 dX8_endsItem_40 rfl rfl ?_
    refine G_get (v := .ref (ad 4)) C 3 1 dX8_endsItem_41 xc_3 rfl inG8 (by decide) wm_153 rfl rfl ?_
    refine G_dup C dX8_endsItem_44 rfl ?_
    refine G_getN (v := .int (nI (M 4 4))) C 4 4 dX8_endsItem_45 xc_4 rfl inG1 (by decide) wn_121 rfl rfl ?_
    refine G_iconst C dX8_endsItem_48 kI_1 ?_
    refine G_iaddN C dX8_endsItem_49 ?_
    refine G_putN (w' := wX cI cZ ad (ms M 4 (4) ((M 4 4) + 1)) t) (ty := .int) C 4 4 tyX1 dX8_endsItem_50 xc_4 rfl inG1 tyX1_ok nmX1 (by decide) wn_121 rfl rfl (by decide +kernel) rfl rfl (Nat.le_of_ble_eq_true rfl) (xp_4_4 _) ?_
    refine G_goto (tgt := 85) C dX8_endsItem_53 (by decide) ?_
    refine G_aload_n C 0 dX8_endsItem_85 rfl rfl ?_
    refine G_iconst C dX8_endsItem_86 kI_0 ?_
    refine G_put (w' := wX cI cZ ad (ms (ms M 4 (4) ((M 4 4) + 1)) 3 (3) (0)) t) (ty := .int) C 3 3 tyX8 dX8_endsItem_87 xc_3 rfl inG8 tyX8_ok nmX8 (by decide) wm_156 rfl rfl (by decide +kernel) rfl rfl (Nat.le_of_ble_eq_true rfl) (xp_3_3 _) ?_
    refine G_aload_n C 0 dX8_endsItem_90 rfl rfl ?_
    refine G_dup C dX8_endsItem_91 rfl ?_
    refine G_get (v := .int (nI (M 3 2))) C 3 2 dX8_endsItem_92 xc_3 rfl inG8 (by decide) wm_155 rfl rfl ?_
    refine G_iconst C dX8_endsItem_95 kI_1 ?_
    refine G_iaddN C dX8_endsItem_96 ?_
    refine G_put (w' := wX cI cZ ad (ms (ms (ms M 4 (4) ((M 4 4) + 1)) 3 (3) (0)) 3 (2) ((M 3 2) + 1)) t) (ty := .int) C 3 2 tyX8 dX8_endsItem_97 xc_3 rfl inG8 tyX8_ok nmX8 (by decide) wm_155 rfl rfl (by decide +kernel) rfl rfl (Nat.le_of_ble_eq_true rfl) (xp_3_2 _) ?_
    refine G_iconst C dX8_endsItem_100 kI_1 ?_
    exact G_zret C hr dX8_endsItem_101 (by rfl) (rfl) (congrArg (fun z => wX cI cZ ad z t) (by simp [x_ei, x_eiN, h4_1_112]))
  refine G_lookup (off := 76) (tgt := 80) C dX8_endsItem_4 (by decide) (by refine (lv_osw h4_1_98 rfl).trans ?_; refine (lv_osw h4_1_110 rfl).trans ?_; refine (lv_osw h4_1_112 rfl).trans ?_; rfl) (by decide) ?_
  replace h4_1_98 : ¬ M 3 3 = 98 := fun q => h4_1_98 ((nI_eq (by have := hB 3 3; omega) (by decide)).mpr q)
  replace h4_1_110 : ¬ M 3 3 = 110 := fun q => h4_1_110 ((nI_eq (by have := hB 3 3; omega) (by decide)).mpr q)
  replace h4_1_112 : ¬ M 3 3 = 112 := fun q => h4_1_112 ((nI_eq (by have := hB 3 3; omega) (by decide)).mpr q)
  refine G_aload_n C 0 dX8_endsItem_80 rfl rfl ?_
  refine G_iconst C dX8_endsItem_81 kI_1 ?_
  refine G_put (w' := wX cI cZ ad (ms M 3 (6) (1)) t) (ty := .boolean) C 3 6 tyX8 dX8_endsItem_82 xc_3 rfl inG8 tyX8_ok nmX8 (by decide) wm_159 rfl rfl (by decide +kernel) (by rfl) (by rfl) (Nat.le_of_ble_eq_true rfl) (xp_3_6 _) ?_
  refine G_aload_n C 0 dX8_endsItem_85 rfl rfl ?_
  refine G_iconst C dX8_endsItem_86 kI_0 ?_
  refine G_put (w' := wX cI cZ ad (ms (ms M 3 (6) (1)) 3 (3) (0)) t) (ty := .int) C 3 3 tyX8 dX8_endsItem_87 xc_3 rfl inG8 tyX8_ok nmX8 (by decide) wm_156 rfl rfl (by decide +kernel) rfl rfl (Nat.le_of_ble_eq_true rfl) (xp_3_3 _) ?_
  refine G_aload_n C 0 dX8_endsItem_90 rfl rfl ?_
  refine G_dup C dX8_endsItem_91 rfl ?_
  refine G_get (v := .int (nI (M 3 2))) C 3 2 dX8_endsItem_92 xc_3 rfl inG8 (by decide) wm_155 rfl rfl ?_
  refine G_iconst C dX8_endsItem_95 kI_1 ?_
  refine G_iaddN C dX8_endsItem_96 ?_
  refine G_put (w' := wX cI cZ ad (ms (ms (ms M 3 (6) (1)) 3 (3) (0)) 3 (2) ((M 3 2) + 1)) t) (ty := .int) C 3 2 tyX8 dX8_endsItem_97 xc_3 rfl inG8 tyX8_ok nmX8 (by decide) wm_155 rfl rfl (by decide +kernel) rfl rfl (Nat.le_of_ble_eq_true rfl) (xp_3_2 _) ?_
  refine G_iconst C dX8_endsItem_100 kI_1 ?_
  exact G_zret C hr dX8_endsItem_101 (by rfl) (rfl) (congrArg (fun z => wX cI cZ ad z t) (by simp [x_ei, x_eiN, h4_1_98, h4_1_110, h4_1_112]))
set_option maxHeartbeats 4000000 in
set_option maxRecDepth 100000 in
theorem c_X8_accepts {a : Nat} (hR : x_RI M a) (ha : a < M 1 1) : CT l yX8_accepts cX8_accepts 3 (some .boolean) (rmOf 3 64) D (tyI cI cZ) [.ref (ad 3), .int (nI a)] (wX cI cZ ad M t) (some (.int (nI (bN (x_acc M a).1)))) (wX cI cZ ad (x_acc M a).2 t) := by
  obtain ⟨hB, hL, hit, h112, h110, hlet⟩ := hR
  refine CT_of (own := "FalseParity$Reader") (by decide) rfl (Nat.le_of_ble_eq_true rfl) (fun p e s m args below meth c C hr => ?_)
  refine G_aload_n C 0 dX8_accepts_0 rfl rfl ?_
  refine G_get (v := .ref (ad 1)) C 3 0 dX8_accepts_1 xc_3 rfl inG8 (by decide) wm_152 rfl rfl ?_
  refine G_getN (v := .ref (ad 2)) C 1 0 dX8_accepts_4 xc_1 rfl inG9 (by decide) wn_80 rfl rfl ?_
  refine G_iload_n C 1 dX8_accepts_7 rfl rfl ?_
  refine G_iald (v := nI (M 2 a)) C 2 0 dX8_accepts_8 xc_2 rfl (by omega) (by decide) rfl ?_
  refine G_istore_n (lv' := [(2, .int (nI (M 2 a))), (0, .ref (ad 3)), (1, .int (nI a))]) C dX8_accepts_9 rfl (by decide) rfl ?_
  refine G_aload_n C 1 dX8_accepts_10 rfl rfl ?_
  refine G_get (v := .int (nI (M 3 3))) C 3 3 dX8_accepts_11 xc_3 rfl inG8 (by decide) wm_156 rfl rfl ?_
  refine G_if_neN (tgt := 23) C dX8_accepts_14 (by decide) (by have := hB 3 3; omega) (fun h14_1 => ?_) (fun h14_1 => ?_)
  · refine G_aload_n C 1 dX8_accepts_23 rfl rfl ?_
    refine G_get (v := .int (nI (M 3 4))) C 3 4 dX8_accepts_24 xc_3 rfl inG8 (by decide) wm_157 rfl rfl ?_
    refine G_aload_n C 1 dX8_accepts_27 rfl rfl ?_
    refine G_callV1 C [] 3 dX8_accepts_28 (c_X8_numbersOfItem hB) wm_376 wm_378 wm_5 wm_52 wm_379 xc_3 rfl ydc_X8_numbersOfItem rfl ⟨Nat.le_of_ble_eq_true rfl, Nat.le_of_ble_eq_true rfl⟩ ⟨rfl, rfl⟩ ⟨Nat.le_refl _, Nat.le_refl _⟩ (Nat.le_of_ble_eq_true rfl) rfl ?_
    refine G_icmp_geN (tgt := 63) C dX8_accepts_31 (by decide) (by have h1 := hB 3 4; have h2 : x_noi M ≤ 3 := (by unfold x_noi; split <;> decide); omega) (by have h1 := hB 3 4; have h2 : x_noi M ≤ 3 := (by unfold x_noi; split <;> decide); omega) (fun h31_2 => ?_) (fun h31_2 => ?_)
    · refine G_iload_n C 0 dX8_accepts_63 rfl rfl ?_
      refine G_bipush C dX8_accepts_64 kB_59 ?_
      refine G_icmp_neN (tgt := 80) C dX8_accepts_66 (by decide) (by have := hB 2 a; omega) (by decide) (fun h66_3 => ?_) (fun h66_3 => ?_)
      · refine G_iconst C dX8_accepts_80 kI_0 ?_
        exact G_zret C hr dX8_accepts_81 (by rfl) (bI_f (by simp [x_acc, Nat.pos_iff_ne_zero.mp h14_1, Nat.not_lt.mpr h31_2, h66_3])) (congrArg (fun z => wX cI cZ ad z t) (by simp [x_acc, Nat.pos_iff_ne_zero.mp h14_1, Nat.not_lt.mpr h31_2, h66_3]))
      · refine G_aload_n C 1 dX8_accepts_69 rfl rfl ?_
        refine G_callV1 (w' := wX cI cZ ad (x_ei M) t) C [] 3 dX8_accepts_70 (c_X8_endsItem hB) wm_411 wm_413 wm_13 wm_52 wm_414 xc_3 rfl ydc_X8_endsItem rfl ⟨Nat.le_of_ble_eq_true rfl, Nat.le_of_ble_eq_true rfl⟩ ⟨rfl, rfl⟩ ⟨Nat.le_refl _, Nat.le_refl _⟩ (Nat.le_of_ble_eq_true rfl) rfl ?_
        refine G_if_eqB (tgt := 80) C dX8_accepts_73 (by decide) (fun h73_4 => ?_) (fun h73_4 => ?_)
        · exact absurd h73_4 (by decide)
        · refine G_iconst C dX8_accepts_76 kI_1 ?_
          refine G_goto (tgt := 81) C dX8_accepts_77 (by decide) ?_
          exact G_zret C hr dX8_accepts_81 (by rfl) (bI_t (by simp [x_acc, Nat.pos_iff_ne_zero.mp h14_1, Nat.not_lt.mpr h31_2, h66_3, h73_4])) (congrArg (fun z => wX cI cZ ad z t) (by simp [x_acc, Nat.pos_iff_ne_zero.mp h14_1, Nat.not_lt.mpr h31_2, h66_3, h73_4]))
    · refine G_aload_n C 1 dX8_accepts_34 rfl rfl ?_
      refine G_get (v := .ref (ad 1)) C 3 0 dX8_accepts_35 xc_3 rfl inG8 (by decide) wm_152 rfl rfl ?_
      refine G_iload_n C 2 dX8_accepts_38 rfl rfl ?_
      refine G_callV1 C [.int (nI a)] 1 dX8_accepts_39 (c_X9_hasDigit hL hB) wm_360 wm_361 wm_362 wm_51 wm_363 xc_1 rfl ydc_X9_hasDigit rfl ⟨Nat.le_of_ble_eq_true rfl, Nat.le_of_ble_eq_true rfl⟩ ⟨rfl, rfl⟩ ⟨Nat.le_refl _, Nat.le_refl _⟩ (Nat.le_of_ble_eq_true rfl) rfl ?_
      refine G_if_eqB (tgt := 61) C dX8_accepts_42 (by decide) (fun h42_5 => ?_) (fun h42_5 => ?_)
      · refine G_iconst C dX8_accepts_61 kI_0 ?_
        exact G_zret C hr dX8_accepts_62 (by rfl) (bI_f (by simp [x_acc, Nat.pos_iff_ne_zero.mp h14_1, h31_2, h42_5])) (congrArg (fun z => wX cI cZ ad z t) (by simp [x_acc, Nat.pos_iff_ne_zero.mp h14_1, h31_2, h42_5]))
      · refine G_aload_n C 1 dX8_accepts_45 rfl rfl ?_
        refine G_aload_n C 1 dX8_accepts_46 rfl rfl ?_
        refine G_iload_n C 2 dX8_accepts_47 rfl rfl ?_
        refine G_callV1 C [.int (nI a)] 3 dX8_accepts_48 (c_X8_numberAt (by omega) hL hB) wm_380 wm_382 wm_6 wm_52 wm_383 xc_3 rfl ydc_X8_numberAt rfl ⟨Nat.le_of_ble_eq_true rfl, Nat.le_of_ble_eq_true rfl⟩ ⟨rfl, rfl⟩ ⟨Nat.le_refl _, Nat.le_refl _⟩ (Nat.le_of_ble_eq_true rfl) rfl ?_
        refine G_callV1 (w' := wX cI cZ ad (x_an M (x_na M (a))).2 t) C [.int (nI (x_na M (a)))] 3 dX8_accepts_51 (c_X8_acceptsNumber (Nat.lt_of_le_of_lt x_na_le (by decide)) h112 h110 hB) wm_387 wm_389 wm_7 wm_52 wm_390 xc_3 rfl ydc_X8_acceptsNumber rfl ⟨Nat.le_of_ble_eq_true rfl, Nat.le_of_ble_eq_true rfl⟩ ⟨rfl, rfl⟩ ⟨Nat.le_refl _, Nat.le_refl _⟩ (Nat.le_of_ble_eq_true rfl) rfl ?_
        refine G_if_eqB (tgt := 61) C dX8_accepts_54 (by decide) (fun h54_6 => ?_) (fun h54_6 => ?_)
        · refine G_iconst C dX8_accepts_61 kI_0 ?_
          exact G_zret C hr dX8_accepts_62 (by rfl) (bI_f (by simp [x_acc, Nat.pos_iff_ne_zero.mp h14_1, h31_2, h42_5, h54_6])) (congrArg (fun z => wX cI cZ ad z t) (by simp [x_acc, Nat.pos_iff_ne_zero.mp h14_1, h31_2, h42_5, h54_6]))
        · refine G_iconst C dX8_accepts_57 kI_1 ?_
          refine G_goto (tgt := 62) C dX8_accepts_58 (by decide) ?_
          exact G_zret C hr dX8_accepts_62 (by rfl) (bI_t (by simp [x_acc, Nat.pos_iff_ne_zero.mp h14_1, h31_2, h42_5, h54_6])) (congrArg (fun z => wX cI cZ ad z t) (by simp [x_acc, Nat.pos_iff_ne_zero.mp h14_1, h31_2, h42_5, h54_6]))
  · refine G_aload_n C 1 dX8_accepts_17 rfl rfl ?_
    refine G_iload_n C 0 dX8_accepts_18 rfl rfl ?_
    refine G_callV1 (w' := wX cI cZ ad (x_bi M (M 2 a)).2 t) C [.int (nI (M 2 a))] 3 dX8_accepts_19 (c_X8_beginsItem (hB _ _) hB) wm_368 wm_370 wm_3 wm_52 wm_371 xc_3 rfl ydc_X8_beginsItem rfl ⟨Nat.le_of_ble_eq_true rfl, Nat.le_of_ble_eq_true rfl⟩ ⟨rfl, rfl⟩ ⟨Nat.le_refl _, Nat.le_refl _⟩ (Nat.le_of_ble_eq_true rfl) rfl ?_
    exact G_zret C hr dX8_accepts_22 (nB_nar _) (by rw [show x_acc M a = _ from if_pos h14_1]) (congrArg (fun z => wX cI cZ ad z t) (by simp [x_acc, h14_1]))
set_option maxHeartbeats 4000000 in
set_option maxRecDepth 100000 in
theorem c_X8_read  (hL : M 1 1 ≤ 150) (hlet : ∀ j, M 2 j ≤ 255) (hB0 : ∀ k j, M k j < 1024) : CT l yX8_read cX8_read 2 (some .int) (rmOf 4 86) D (tyI cI cZ) [.ref (ad 3)] (wX cI cZ ad M t) (some (.int (x_rd (M 1 1) 0 (x_rb M)).1)) (wX cI cZ ad (x_rd (M 1 1) 0 (x_rb M)).2 t) := by
  refine CT_of (own := "FalseParity$Reader") (by decide) rfl (Nat.le_of_ble_eq_true rfl) (fun p e s m args below meth c C hr => ?_)
  refine G_aload_n C 0 dX8_read_0 rfl rfl ?_
  refine G_callV0 (w' := wX cI cZ ad (x_rb M) t) C [] 3 dX8_read_1 c_X8_begin wm_348 wm_350 wm_0 wm_52 wm_351 xc_3 rfl ydc_X8_begin rfl ⟨Nat.le_of_ble_eq_true rfl, Nat.le_of_ble_eq_true rfl⟩ ⟨rfl, rfl⟩ ⟨Nat.le_refl _, Nat.le_refl _⟩ (Nat.le_of_ble_eq_true rfl) rfl ?_
  refine G_iconst C dX8_read_4 kI_0 ?_
  refine G_istore_n (lv' := [(1, .int (nI 0)), (0, .ref (ad 3))]) C dX8_read_5 rfl (by decide) rfl ?_
  refine G_pick (lv' := [(0, .ref (ad 3)), (1, .int (nI 0))]) [1, 0] rfl ?_
  refine loopN (P := fun a => ∀ M1 : Nat → Nat → Nat, (x_RI M1 a) → (M1 1 = M 1) → (M1 2 = M 2) → (x_rd (M 1 1 - a) a M1 = x_rd (M 1 1) 0 (x_rb M)) → G p l e (rmOf 4 86) s m args below meth c D _ 2 0 0 _ 6 [(0, .ref (ad 3)), (1, .int (nI a))] [] (wX cI cZ ad M1 t)) (M 1 1) ?_ ?_ 0 (Nat.zero_le _) (x_rb M) (x_rb_RI hL hlet hB0) rfl rfl rfl
  · intro M1 hi1_0 hi1_1 hi1_2 hi1_3
    have e11 : M1 1 1 = M 1 1 := congrFun hi1_1 1
    have hB := hi1_0.1
    refine G_iload_n C 1 dX8_read_6 rfl rfl ?_
    refine G_aload_n C 0 dX8_read_7 rfl rfl ?_
    refine G_get (v := .ref (ad 1)) C 3 0 dX8_read_8 xc_3 rfl inG8 (by decide) wm_152 rfl rfl ?_
    refine G_getN (v := .int (nI (M1 1 1))) C 1 1 dX8_read_11 xc_1 rfl inG9 (by decide) wn_82 rfl rfl ?_
    refine G_icmp_geN (tgt := 44) C dX8_read_14 (by decide) (by have := hB 1 1; omega) (by omega) (fun h14_2 => ?_) (fun h14_2 => ?_)
    · refine G_aload_n C 0 dX8_read_44 rfl rfl ?_
      refine G_get (v := .int (nI (M1 3 3))) C 3 3 dX8_read_45 xc_3 rfl inG8 (by decide) wm_156 rfl rfl ?_
      refine G_if_neN (tgt := 58) C dX8_read_48 (by decide) (by have := hB 3 3; omega) (fun h48_3 => ?_) (fun h48_3 => ?_)
      · refine G_bipush C dX8_read_58 kB_m10 ?_
        refine G_aload_n C 0 dX8_read_60 rfl rfl ?_
        refine G_get (v := .ref (ad 1)) C 3 0 dX8_read_61 xc_3 rfl inG8 (by decide) wm_152 rfl rfl ?_
        refine G_getN (v := .int (nI (M1 1 1))) C 1 1 dX8_read_64 xc_1 rfl inG9 (by decide) wn_82 rfl rfl ?_
        refine G_isub C dX8_read_67 ?_
        exact G_iret C hr dX8_read_68 (by rw [← hi1_3]; rw [Nat.sub_self]; simp [x_rd, Nat.pos_iff_ne_zero.mp h48_3]) (congrArg (fun z => wX cI cZ ad z t) (by rw [← hi1_3]; rw [Nat.sub_self]; simp [x_rd, Nat.pos_iff_ne_zero.mp h48_3]))
      · refine G_aload_n C 0 dX8_read_51 rfl rfl ?_
        refine G_get (v := .int (nI (M1 3 2))) C 3 2 dX8_read_52 xc_3 rfl inG8 (by decide) wm_155 rfl rfl ?_
        refine G_goto (tgt := 68) C dX8_read_55 (by decide) ?_
        exact G_iret C hr dX8_read_68 (by rw [← hi1_3]; rw [Nat.sub_self]; simp [x_rd, h48_3]) (congrArg (fun z => wX cI cZ ad z t) (by rw [← hi1_3]; rw [Nat.sub_self]; simp [x_rd, h48_3]))
    · exfalso; omega
  · intro a haL ih1 M1 hi1_0 hi1_1 hi1_2 hi1_3
    have e11 : M1 1 1 = M 1 1 := congrFun hi1_1 1
    have hB := hi1_0.1
    refine G_iload_n C 1 dX8_read_6 rfl rfl ?_
    refine G_aload_n C 0 dX8_read_7 rfl rfl ?_
    refine G_get (v := .ref (ad 1)) C 3 0 dX8_read_8 xc_3 rfl inG8 (by decide) wm_152 rfl rfl ?_
    refine G_getN (v := .int (nI (M1 1 1))) C 1 1 dX8_read_11 xc_1 rfl inG9 (by decide) wn_82 rfl rfl ?_
    refine G_icmp_geN (tgt := 44) C dX8_read_14 (by decide) (by omega) (by omega) (fun h14_4 => ?_) (fun h14_4 => ?_)
    · exfalso; omega
    · refine G_aload_n C 0 dX8_read_17 rfl rfl ?_
      refine G_iload_n C 1 dX8_read_18 rfl rfl ?_
      refine G_callV1 C [.int (nI a)] 3 dX8_read_19 (c_X8_beginsToken (by omega) (by omega) hi1_0.1) wm_356 wm_358 wm_1 wm_52 wm_359 xc_3 rfl ydc_X8_beginsToken rfl ⟨Nat.le_of_ble_eq_true rfl, Nat.le_of_ble_eq_true rfl⟩ ⟨rfl, rfl⟩ ⟨Nat.le_refl _, Nat.le_refl _⟩ (Nat.le_of_ble_eq_true rfl) rfl ?_
      refine G_if_eqB (tgt := 38) C dX8_read_22 (by decide) (fun h22_5 => ?_) (fun h22_5 => ?_)
      · refine G_iincN (lv' := [(1, .int (nI (a + 1))), (0, .ref (ad 3))]) C 1 dX8_read_38 rfl (by decide) rfl ?_
        refine G_goto (tgt := 6) C dX8_read_41 (by decide) ?_
        refine G_pick (lv' := [(0, .ref (ad 3)), (1, .int (nI (a + 1)))]) [1, 0] rfl ?_
        exact ih1 _ ⟨hi1_0.1, hi1_0.2.1, Nat.le_succ_of_le hi1_0.2.2.1, hi1_0.2.2.2⟩ hi1_1 hi1_2 (by rw [← hi1_3]; rw [show M 1 1 - a = (M 1 1 - (a + 1)) + 1 by omega]; simp [x_rd, h22_5])
      · refine G_aload_n C 0 dX8_read_25 rfl rfl ?_
        refine G_iload_n C 1 dX8_read_26 rfl rfl ?_
        refine G_callV1 (w' := wX cI cZ ad (x_acc M1 a).2 t) C [.int (nI a)] 3 dX8_read_27 (c_X8_accepts hi1_0 (by omega)) wm_364 wm_366 wm_2 wm_52 wm_367 xc_3 rfl ydc_X8_accepts rfl ⟨Nat.le_of_ble_eq_true rfl, Nat.le_of_ble_eq_true rfl⟩ ⟨rfl, rfl⟩ ⟨Nat.le_refl _, Nat.le_refl _⟩ (Nat.le_of_ble_eq_true rfl) rfl ?_
        refine G_if_neB (tgt := 38) C dX8_read_30 (by decide) (fun h30_6 => ?_) (fun h30_6 => ?_)
        · refine G_iincN (lv' := [(1, .int (nI (a + 1))), (0, .ref (ad 3))]) C 1 dX8_read_38 rfl (by decide) rfl ?_
          refine G_goto (tgt := 6) C dX8_read_41 (by decide) ?_
          refine G_pick (lv' := [(0, .ref (ad 3)), (1, .int (nI (a + 1)))]) [1, 0] rfl ?_
          exact ih1 _ (x_acc_RI hi1_0 (by omega)).1 ((x_acc_RI hi1_0 (by omega)).2.1.trans hi1_1) ((x_acc_RI hi1_0 (by omega)).2.2.trans hi1_2) (by rw [← hi1_3]; rw [show M 1 1 - a = (M 1 1 - (a + 1)) + 1 by omega]; simp [x_rd, h22_5, h30_6])
        · refine G_bipush C dX8_read_33 kB_m10 ?_
          refine G_iload_n C 1 dX8_read_35 rfl rfl ?_
          refine G_isub C dX8_read_36 ?_
          exact G_iret C hr dX8_read_37 (by rw [← hi1_3]; rw [show M 1 1 - a = (M 1 1 - (a + 1)) + 1 by omega]; simp [x_rd, h22_5, h30_6]) (congrArg (fun z => wX cI cZ ad z t) (by rw [← hi1_3]; rw [show M 1 1 - a = (M 1 1 - (a + 1)) + 1 by omega]; simp [x_rd, h22_5, h30_6]))
set_option maxHeartbeats 4000000 in
set_option maxRecDepth 100000 in
theorem c_X10_country  (hL : M 1 1 ≤ 150) (hlet : ∀ j, M 2 j ≤ 255) (hB : ∀ k j, M k j < 1024) : CT l yX10_country cX10_country 2 (some .int) (rmOf 5 107) D (tyI cI cZ) [.ref (ad 0)] (wX cI cZ ad M t) (some (.int (x_cty M).1)) (wX cI cZ ad (x_cty M).2 t) := by
  refine CT_of (own := "FalseParity") (by decide) rfl (Nat.le_of_ble_eq_true rfl) (fun p e s m args below meth c C hr => ?_)
  refine G_aload_n C 0 dX10_country_0 rfl rfl ?_
  refine G_get (v := .ref (ad 3)) C 0 1 dX10_country_1 xc_0 rfl inG10 (by decide) wm_294 rfl rfl ?_
  refine G_callV1 (w' := wX cI cZ ad (x_Z M).2 t) C [] 3 dX10_country_4 (c_X8_read hL hlet hB) wm_344 wm_345 wm_346 wm_52 wm_347 xc_3 rfl ydc_X8_read rfl ⟨Nat.le_of_ble_eq_true rfl, Nat.le_of_ble_eq_true rfl⟩ ⟨rfl, rfl⟩ ⟨Nat.le_refl _, Nat.le_refl _⟩ (Nat.le_of_ble_eq_true rfl) rfl ?_
  refine G_istore_n (lv' := [(1, .int ((x_Z M).1)), (0, .ref (ad 0))]) C dX10_country_7 rfl (by decide) rfl ?_
  refine G_iload_n C 0 dX10_country_8 rfl rfl ?_
  refine G_if_ge (tgt := 14) C dX10_country_9 (by decide) (fun h9_1 => ?_) (fun h9_1 => ?_)
  · refine G_aload_n C 1 dX10_country_14 rfl rfl ?_
    refine G_get (v := .ref (ad 9)) C 0 2 dX10_country_15 xc_0 rfl inG10 (by decide) wm_295 rfl rfl ?_
    refine G_aload_n C 1 dX10_country_18 rfl rfl ?_
    refine G_get (v := .ref (ad 3)) C 0 1 dX10_country_19 xc_0 rfl inG10 (by decide) wm_294 rfl rfl ?_
    refine G_getN (v := .ref (ad 4)) C 3 1 dX10_country_22 xc_3 rfl inG8 (by decide) wn_154 rfl rfl ?_
    refine G_callV0 (w' := wX cI cZ ad (x_cp (x_Z M).2) t) C [.ref (ad 4)] 9 dX10_country_25 c_X1_copyFrom wm_415 wm_416 wm_417 wm_53 wm_418 xc_9 rfl ydc_X1_copyFrom rfl ⟨Nat.le_of_ble_eq_true rfl, Nat.le_of_ble_eq_true rfl⟩ ⟨rfl, rfl⟩ ⟨Nat.le_refl _, Nat.le_refl _⟩ (Nat.le_of_ble_eq_true rfl) rfl ?_
    refine G_aload_n C 1 dX10_country_28 rfl rfl ?_
    refine G_get (v := .ref (ad 14)) C 0 3 dX10_country_29 xc_0 rfl inG10 (by decide) wm_296 rfl rfl ?_
    refine G_aload_n C 1 dX10_country_32 rfl rfl ?_
    refine G_get (v := .ref (ad 9)) C 0 2 dX10_country_33 xc_0 rfl inG10 (by decide) wm_295 rfl rfl ?_
    refine G_callV0 (w' := wX cI cZ ad (x_bg (x_cp (x_Z M).2)) t) C [.ref (ad 9)] 14 dX10_country_36 c_X6_begin wm_422 wm_423 wm_424 wm_54 wm_425 xc_14 rfl ydc_X6_begin rfl ⟨Nat.le_of_ble_eq_true rfl, Nat.le_of_ble_eq_true rfl⟩ ⟨rfl, rfl⟩ ⟨Nat.le_refl _, Nat.le_refl _⟩ (Nat.le_of_ble_eq_true rfl) rfl ?_
    refine G_aload_n C 1 dX10_country_39 rfl rfl ?_
    refine G_get (v := .ref (ad 16)) C 0 4 dX10_country_40 xc_0 rfl inG10 (by decide) wm_297 rfl rfl ?_
    refine G_callV0 (w' := wX cI cZ ad (ms (ms (x_bg (x_cp (x_Z M).2)) 16 (1) (0)) 16 (2) (0)) t) C [] 16 dX10_country_43 c_X2_empty wm_427 wm_428 wm_429 wm_55 wm_430 xc_16 rfl ydc_X2_empty rfl ⟨Nat.le_of_ble_eq_true rfl, Nat.le_of_ble_eq_true rfl⟩ ⟨rfl, rfl⟩ ⟨Nat.le_refl _, Nat.le_refl _⟩ (Nat.le_of_ble_eq_true rfl) rfl ?_
    refine G_aload_n C 1 dX10_country_46 rfl rfl ?_
    refine G_get (v := .ref (ad 18)) C 0 5 dX10_country_47 xc_0 rfl inG10 (by decide) wm_298 rfl rfl ?_
    refine G_callV0 (w' := wX cI cZ ad (ms (ms (ms (x_bg (x_cp (x_Z M).2)) 16 (1) (0)) 16 (2) (0)) 18 (1) (0)) t) C [] 18 dX10_country_50 c_X3_empty wm_431 wm_432 wm_433 wm_56 wm_434 xc_18 rfl ydc_X3_empty rfl ⟨Nat.le_of_ble_eq_true rfl, Nat.le_of_ble_eq_true rfl⟩ ⟨rfl, rfl⟩ ⟨Nat.le_refl _, Nat.le_refl _⟩ (Nat.le_of_ble_eq_true rfl) rfl ?_
    refine G_aload_n C 1 dX10_country_53 rfl rfl ?_
    refine G_get (v := .ref (ad 21)) C 0 7 dX10_country_54 xc_0 rfl inG10 (by decide) wm_300 rfl rfl ?_
    refine G_callV0 (w' := wX cI cZ ad (ms (ms (ms (ms (x_bg (x_cp (x_Z M).2)) 16 (1) (0)) 16 (2) (0)) 18 (1) (0)) 21 (4) (0)) t) C [] 21 dX10_country_57 c_X5_empty wm_435 wm_436 wm_437 wm_58 wm_438 xc_21 rfl ydc_X5_empty rfl ⟨Nat.le_of_ble_eq_true rfl, Nat.le_of_ble_eq_true rfl⟩ ⟨rfl, rfl⟩ ⟨Nat.le_refl _, Nat.le_refl _⟩ (Nat.le_of_ble_eq_true rfl) rfl ?_
    refine G_aload_n C 1 dX10_country_60 rfl rfl ?_
    refine G_get (v := .ref (ad 24)) C 0 8 dX10_country_61 xc_0 rfl inG10 (by decide) wm_301 rfl rfl ?_
    refine G_callV0 (w' := wX cI cZ ad (ms (ms (ms (ms (ms (x_bg (x_cp (x_Z M).2)) 16 (1) (0)) 16 (2) (0)) 18 (1) (0)) 21 (4) (0)) 24 (4) (0)) t) C [] 24 dX10_country_64 c_X0_empty wm_439 wm_440 wm_441 wm_59 wm_442 xc_24 rfl ydc_X0_empty rfl ⟨Nat.le_of_ble_eq_true rfl, Nat.le_of_ble_eq_true rfl⟩ ⟨rfl, rfl⟩ ⟨Nat.le_refl _, Nat.le_refl _⟩ (Nat.le_of_ble_eq_true rfl) rfl ?_
    refine G_aload_n C 1 dX10_country_67 rfl rfl ?_
    refine G_get (v := .ref (ad 1)) C 0 0 dX10_country_68 xc_0 rfl inG10 (by decide) wm_293 rfl rfl ?_
    refine G_callV1 (v := .int (nI ((x_Z M).2 1 1))) (w' := wX cI cZ ad (ms (ms (ms (ms (ms (ms (x_bg (x_cp (x_Z M).2)) 16 (1) (0)) 16 (2) (0)) 18 (1) (0)) 21 (4) (0)) 24 (4) (0)) 1 (1) (0)) t) C [] 1 dX10_country_71 c_X9_empty wm_336 wm_337 wm_338 wm_51 wm_339 xc_1 rfl ydc_X9_empty rfl ⟨Nat.le_of_ble_eq_true rfl, Nat.le_of_ble_eq_true rfl⟩ ⟨rfl, rfl⟩ ⟨Nat.le_refl _, Nat.le_refl _⟩ (Nat.le_of_ble_eq_true rfl) rfl ?_
    refine G_pop C dX10_country_74 rfl ?_
    refine G_iload_n C 0 dX10_country_75 rfl rfl ?_
    exact G_iret C hr dX10_country_76 (by simp [x_cty, x_set, h9_1]) (congrArg (fun z => wX cI cZ ad z t) (by simp [x_cty, x_set, h9_1]))
  · refine G_iload_n C 0 dX10_country_12 rfl rfl ?_
    exact G_iret C hr dX10_country_13 (by simp [x_cty, x_set, h9_1]) (congrArg (fun z => wX cI cZ ad z t) (by simp [x_cty, x_set, h9_1]))
end X5
