section X6
variable {l : Launch} {D : va_G} {cI cZ : ClassId} {ad : Nat → Nat} {M : Nat → Nat → Nat} {t : Int64}
set_option maxHeartbeats 4000000 in
set_option maxRecDepth 100000 in
theorem c_X9_add_full {ch : Nat} (hlen : 150 ≤ M 1 1) (hB : ∀ k j, M k j < 1024) : CT l yX9_add cX9_add 2 (some .int) (rmOf 0 0) D (tyI cI cZ) [.ref (ad 1), .int (nI ch)] (wX cI cZ ad M t) (some (.int (-3))) (wX cI cZ ad M t) := by
  refine CT_of (own := "FalseParity$Text") (by decide) rfl (Nat.le_of_ble_eq_true rfl) (fun p e s m args below meth c C hr => ?_)
  refine G_aload_n C 0 dX9_add_0 rfl rfl ?_
  refine G_get (v := .int (nI (M 1 1))) C 1 1 dX9_add_1 xc_1 rfl inG9 (by decide) wm_81 rfl rfl ?_
  refine G_sipush C dX9_add_4 kS_150 ?_
  refine G_icmp_ltN (tgt := 13) C dX9_add_7 (by decide) (by have := hB 1 1; omega) (by decide) (fun h7_1 => ?_) (fun h7_1 => ?_)
  · exfalso; omega
  · refine G_bipush C dX9_add_10 kB_m3 ?_
    exact G_iret C hr dX9_add_12 (rfl) (rfl)
set_option maxHeartbeats 4000000 in
set_option maxRecDepth 100000 in
theorem c_X10_type {x : Int32} (hB : ∀ k j, M k j < 1024) : CT l yX10_type cX10_type 2 (some .int) (rmOf 1 21) D (tyI cI cZ) [.ref (ad 0), .int (x)] (wX cI cZ ad M t) (some (.int (x_type M x).1)) (wX cI cZ ad (x_type M x).2 t) := by
  refine CT_of (own := "FalseParity") (by decide) rfl (Nat.le_of_ble_eq_true rfl) (fun p e s m args below meth c C hr => ?_)
  refine G_iload_n C 1 dX10_type_0 rfl rfl ?_
  refine G_if_lt (tgt := 11) C dX10_type_1 (by decide) (fun h1_1 => ?_) (fun h1_1 => ?_)
  · refine G_iconst C dX10_type_11 kI_m1 ?_
    exact G_iret C hr dX10_type_12 (by simp [x_type, inR_neg h1_1]) (congrArg (fun z => wX cI cZ ad z t) (by simp [x_type, inR_neg h1_1]))
  · obtain ⟨j, hlt_j, rfl⟩ := nI_of h1_1
    refine G_iload_n C 1 dX10_type_4 rfl rfl ?_
    refine G_sipush C dX10_type_5 kS_255 ?_
    refine G_icmp_leN (tgt := 13) C dX10_type_8 (by decide) (by omega) (by decide) (fun h8_2 => ?_) (fun h8_2 => ?_)
    · by_cases hlen : M 1 1 < 150
      · refine G_aload_n C 0 dX10_type_13 rfl rfl ?_
        refine G_get (v := .ref (ad 1)) C 0 0 dX10_type_14 xc_0 rfl inG10 (by decide) wm_293 rfl rfl ?_
        refine G_iload_n C 1 dX10_type_17 rfl rfl ?_
        refine G_callV1 (w' := wX cI cZ ad (ms (ms M 2 (M 1 1) (j)) 1 (1) (M 1 1 + 1)) t) C [.int (nI j)] 1 dX10_type_18 (c_X9_add hlen hB) wm_328 wm_329 wm_330 wm_51 wm_331 xc_1 rfl ydc_X9_add rfl ⟨Nat.le_of_ble_eq_true rfl, Nat.le_of_ble_eq_true rfl⟩ ⟨rfl, rfl⟩ ⟨Nat.le_refl _, Nat.le_refl _⟩ (Nat.le_of_ble_eq_true rfl) rfl ?_
        exact G_iret C hr dX10_type_21 (by simp [x_type, inR_nI hlt_j (show 256 < 2 ^ 31 by decide), nI_clamp hlt_j, show (j < 256) = True from propext ⟨fun _ => trivial, fun _ => (by omega)⟩, hlen]) (congrArg (fun z => wX cI cZ ad z t) (by simp [x_type, inR_nI hlt_j (show 256 < 2 ^ 31 by decide), nI_clamp hlt_j, show (j < 256) = True from propext ⟨fun _ => trivial, fun _ => (by omega)⟩, hlen]))
      · refine G_aload_n C 0 dX10_type_13 rfl rfl ?_
        refine G_get (v := .ref (ad 1)) C 0 0 dX10_type_14 xc_0 rfl inG10 (by decide) wm_293 rfl rfl ?_
        refine G_iload_n C 1 dX10_type_17 rfl rfl ?_
        refine G_callV1 C [.int (nI j)] 1 dX10_type_18 (c_X9_add_full (Nat.not_lt.mp hlen) hB) wm_328 wm_329 wm_330 wm_51 wm_331 xc_1 rfl ydc_X9_add rfl ⟨Nat.le_of_ble_eq_true rfl, Nat.le_of_ble_eq_true rfl⟩ ⟨rfl, rfl⟩ ⟨Nat.le_refl _, Nat.le_refl _⟩ (Nat.le_of_ble_eq_true rfl) rfl ?_
        exact G_iret C hr dX10_type_21 (by simp [x_type, inR_nI hlt_j (show 256 < 2 ^ 31 by decide), nI_clamp hlt_j, show (j < 256) = True from propext ⟨fun _ => trivial, fun _ => (by omega)⟩, hlen]) (congrArg (fun z => wX cI cZ ad z t) (by simp [x_type, inR_nI hlt_j (show 256 < 2 ^ 31 by decide), nI_clamp hlt_j, show (j < 256) = True from propext ⟨fun _ => trivial, fun _ => (by omega)⟩, hlen]))
    · refine G_iconst C dX10_type_11 kI_m1 ?_
      exact G_iret C hr dX10_type_12 (by simp [x_type, inR_nI hlt_j (show 256 < 2 ^ 31 by decide), nI_clamp hlt_j, show (j < 256) = False from propext ⟨fun q => (by omega), fun q => q.elim⟩]) (congrArg (fun z => wX cI cZ ad z t) (by simp [x_type, inR_nI hlt_j (show 256 < 2 ^ 31 by decide), nI_clamp hlt_j, show (j < 256) = False from propext ⟨fun q => (by omega), fun q => q.elim⟩]))
set_option maxHeartbeats 4000000 in
set_option maxRecDepth 100000 in
theorem c_X10_clear   : CT l yX10_clear cX10_clear 1 (some .int) (rmOf 1 21) D (tyI cI cZ) [.ref (ad 0)] (wX cI cZ ad M t) (some (.int (nI (M 1 1)))) (wX cI cZ ad (ms M 1 (1) (0)) t) := by
  refine CT_of (own := "FalseParity") (by decide) rfl (Nat.le_of_ble_eq_true rfl) (fun p e s m args below meth c C hr => ?_)
  refine G_aload_n C 0 dX10_clear_0 rfl rfl ?_
  refine G_get (v := .ref (ad 1)) C 0 0 dX10_clear_1 xc_0 rfl inG10 (by decide) wm_293 rfl rfl ?_
  refine G_callV1 (w' := wX cI cZ ad (ms M 1 (1) (0)) t) C [] 1 dX10_clear_4 c_X9_empty wm_336 wm_337 wm_338 wm_51 wm_339 xc_1 rfl ydc_X9_empty rfl ⟨Nat.le_of_ble_eq_true rfl, Nat.le_of_ble_eq_true rfl⟩ ⟨rfl, rfl⟩ ⟨Nat.le_refl _, Nat.le_refl _⟩ (Nat.le_of_ble_eq_true rfl) rfl ?_
  exact G_iret C hr dX10_clear_7 (rfl) (rfl)
set_option maxHeartbeats 4000000 in
set_option maxRecDepth 100000 in
theorem c_X10_note {x y : Int32} (hN : M 9 5 ≤ 6) (hP : M 9 4 ≤ 5) (hB : ∀ k j, M k j < 1024) : CT l yX10_note cX10_note 3 (some .int) (rmOf 3 65) D (tyI cI cZ) [.ref (ad 0), .int (x), .int (y)] (wX cI cZ ad M t) (some (.int (x_note M x y))) (wX cI cZ ad M t) := by
  refine CT_of (own := "FalseParity") (by decide) rfl (Nat.le_of_ble_eq_true rfl) (fun p e s m args below meth c C hr => ?_)
  refine G_aload_n C 0 dX10_note_0 rfl rfl ?_
  refine G_get (v := .ref (ad 9)) C 0 2 dX10_note_1 xc_0 rfl inG10 (by decide) wm_295 rfl rfl ?_
  refine G_iload_n C 1 dX10_note_4 rfl rfl ?_
  refine G_callV1 C [.int (x)] 9 dX10_note_5 (c_X1_hasNote hB) wm_447 wm_448 wm_449 wm_53 wm_450 xc_9 rfl ydc_X1_hasNote rfl ⟨Nat.le_of_ble_eq_true rfl, Nat.le_of_ble_eq_true rfl⟩ ⟨rfl, rfl⟩ ⟨Nat.le_refl _, Nat.le_refl _⟩ (Nat.le_of_ble_eq_true rfl) rfl ?_
  refine G_if_neB (tgt := 13) C dX10_note_8 (by decide) (fun h8_1 => ?_) (fun h8_1 => ?_)
  · obtain ⟨n, hx_n, rfl⟩ := inR_of (by have := hB 9 5; omega) h8_1
    have cl_n := nI_clamp (n := n) (by have := hB 9 5; omega)
    refine G_iload_n C 2 dX10_note_13 rfl rfl ?_
    by_cases h14_2_0 : y = 0
    · refine G_top h14_2_0 ?_
      refine G_tableIn (tgt := 56) C dX10_note_14 (by decide) (by decide) rfl (by decide) ?_
      refine G_aload_n C 0 dX10_note_56 rfl rfl ?_
      refine G_get (v := .ref (ad 9)) C 0 2 dX10_note_57 xc_0 rfl inG10 (by decide) wm_295 rfl rfl ?_
      refine G_getN (v := .ref (ad 11)) C 9 1 dX10_note_60 xc_9 rfl inG1 (by decide) wn_107 rfl rfl ?_
      refine G_iload_n C 1 dX10_note_63 rfl rfl ?_
      refine G_iald (v := nI (M 11 n)) C 11 0 dX10_note_64 xc_11 rfl (by omega) (by decide) rfl ?_
      exact G_iret C hr dX10_note_65 (by simp [x_note, x_noteN, h8_1, h14_2_0, cl_n]) (rfl)
    by_cases h14_2_1 : y = 1
    · refine G_top h14_2_1 ?_
      refine G_tableIn (tgt := 66) C dX10_note_14 (by decide) (by decide) rfl (by decide) ?_
      refine G_aload_n C 0 dX10_note_66 rfl rfl ?_
      refine G_get (v := .ref (ad 9)) C 0 2 dX10_note_67 xc_0 rfl inG10 (by decide) wm_295 rfl rfl ?_
      refine G_getN (v := .ref (ad 12)) C 9 2 dX10_note_70 xc_9 rfl inG1 (by decide) wn_112 rfl rfl ?_
      refine G_iload_n C 1 dX10_note_73 rfl rfl ?_
      refine G_iald (v := nI (M 12 n)) C 12 0 dX10_note_74 xc_12 rfl (by omega) (by decide) rfl ?_
      exact G_iret C hr dX10_note_75 (by simp [x_note, x_noteN, h8_1, h14_2_1, cl_n]) (rfl)
    by_cases h14_2_2 : y = 2
    · refine G_top h14_2_2 ?_
      refine G_tableIn (tgt := 76) C dX10_note_14 (by decide) (by decide) rfl (by decide) ?_
      refine G_aload_n C 0 dX10_note_76 rfl rfl ?_
      refine G_get (v := .ref (ad 14)) C 0 3 dX10_note_77 xc_0 rfl inG10 (by decide) wm_296 rfl rfl ?_
      refine G_iload_n C 1 dX10_note_80 rfl rfl ?_
      refine G_callV1 C [.int (nI n)] 14 dX10_note_81 (c_X6_holder (by omega)) wm_451 wm_452 wm_453 wm_54 wm_454 xc_14 rfl ydc_X6_holder rfl ⟨Nat.le_of_ble_eq_true rfl, Nat.le_of_ble_eq_true rfl⟩ ⟨rfl, rfl⟩ ⟨Nat.le_refl _, Nat.le_refl _⟩ (Nat.le_of_ble_eq_true rfl) rfl ?_
      exact G_iret C hr dX10_note_84 (by simp [x_note, x_noteN, h8_1, h14_2_2, cl_n]) (rfl)
    by_cases h14_2_3 : y = 3
    · refine G_top h14_2_3 ?_
      refine G_tableIn (tgt := 85) C dX10_note_14 (by decide) (by decide) rfl (by decide) ?_
      refine G_aload_n C 0 dX10_note_85 rfl rfl ?_
      refine G_get (v := .ref (ad 14)) C 0 3 dX10_note_86 xc_0 rfl inG10 (by decide) wm_296 rfl rfl ?_
      refine G_iload_n C 1 dX10_note_89 rfl rfl ?_
      refine G_callV1 C [.int (nI n)] 14 dX10_note_90 (c_X6_uses (by omega)) wm_455 wm_456 wm_457 wm_54 wm_458 xc_14 rfl ydc_X6_uses rfl ⟨Nat.le_of_ble_eq_true rfl, Nat.le_of_ble_eq_true rfl⟩ ⟨rfl, rfl⟩ ⟨Nat.le_refl _, Nat.le_refl _⟩ (Nat.le_of_ble_eq_true rfl) rfl ?_
      exact G_iret C hr dX10_note_93 (by simp [x_note, x_noteN, h8_1, h14_2_3, cl_n]) (rfl)
    by_cases h14_2_4 : y = 4
    · refine G_top h14_2_4 ?_
      refine G_tableIn (tgt := 94) C dX10_note_14 (by decide) (by decide) rfl (by decide) ?_
      refine G_aload_n C 0 dX10_note_94 rfl rfl ?_
      refine G_get (v := .ref (ad 14)) C 0 3 dX10_note_95 xc_0 rfl inG10 (by decide) wm_296 rfl rfl ?_
      refine G_iload_n C 1 dX10_note_98 rfl rfl ?_
      refine G_callV1 C [.int (nI n)] 14 dX10_note_99 c_X6_hasParity wm_459 wm_460 wm_461 wm_54 wm_462 xc_14 rfl ydc_X6_hasParity rfl ⟨Nat.le_of_ble_eq_true rfl, Nat.le_of_ble_eq_true rfl⟩ ⟨rfl, rfl⟩ ⟨Nat.le_refl _, Nat.le_refl _⟩ (Nat.le_of_ble_eq_true rfl) rfl ?_
      refine G_if_eqB (tgt := 109) C dX10_note_102 (by decide) (fun h102_3 => ?_) (fun h102_3 => ?_)
      · refine G_iconst C dX10_note_109 kI_0 ?_
        exact G_iret C hr dX10_note_110 (by simp [x_note, x_noteN, h8_1, h14_2_4, h102_3, cl_n]) (rfl)
      · refine G_iconst C dX10_note_105 kI_1 ?_
        refine G_goto (tgt := 110) C dX10_note_106 (by decide) ?_
        exact G_iret C hr dX10_note_110 (by simp [x_note, x_noteN, h8_1, h14_2_4, h102_3, cl_n]) (rfl)
    by_cases h14_2_5 : y = 5
    · refine G_top h14_2_5 ?_
      refine G_tableIn (tgt := 111) C dX10_note_14 (by decide) (by decide) rfl (by decide) ?_
      refine G_aload_n C 0 dX10_note_111 rfl rfl ?_
      refine G_get (v := .ref (ad 14)) C 0 3 dX10_note_112 xc_0 rfl inG10 (by decide) wm_296 rfl rfl ?_
      refine G_iload_n C 1 dX10_note_115 rfl rfl ?_
      refine G_callV1 C [.int (nI n)] 14 dX10_note_116 c_X6_isAway wm_466 wm_467 wm_468 wm_54 wm_469 xc_14 rfl ydc_X6_isAway rfl ⟨Nat.le_of_ble_eq_true rfl, Nat.le_of_ble_eq_true rfl⟩ ⟨rfl, rfl⟩ ⟨Nat.le_refl _, Nat.le_refl _⟩ (Nat.le_of_ble_eq_true rfl) rfl ?_
      refine G_if_eqB (tgt := 126) C dX10_note_119 (by decide) (fun h119_4 => ?_) (fun h119_4 => ?_)
      · refine G_iconst C dX10_note_126 kI_0 ?_
        exact G_iret C hr dX10_note_127 (by simp [x_note, x_noteN, h8_1, h14_2_5, h119_4, cl_n]) (rfl)
      · refine G_iconst C dX10_note_122 kI_1 ?_
        refine G_goto (tgt := 127) C dX10_note_123 (by decide) ?_
        exact G_iret C hr dX10_note_127 (by simp [x_note, x_noteN, h8_1, h14_2_5, h119_4, cl_n]) (rfl)
    by_cases h14_2_6 : y = 6
    · refine G_top h14_2_6 ?_
      refine G_tableIn (tgt := 128) C dX10_note_14 (by decide) (by decide) rfl (by decide) ?_
      refine G_aload_n C 0 dX10_note_128 rfl rfl ?_
      refine G_get (v := .ref (ad 20)) C 0 6 dX10_note_129 xc_0 rfl inG10 (by decide) wm_299 rfl rfl ?_
      refine G_iload_n C 1 dX10_note_132 rfl rfl ?_
      refine G_callV1 C [.int (nI n)] 20 dX10_note_133 (c_X7_takers (by omega) hP hB) wm_470 wm_471 wm_472 wm_57 wm_473 xc_20 rfl ydc_X7_takers rfl ⟨Nat.le_of_ble_eq_true rfl, Nat.le_of_ble_eq_true rfl⟩ ⟨rfl, rfl⟩ ⟨Nat.le_refl _, Nat.le_refl _⟩ (Nat.le_of_ble_eq_true rfl) rfl ?_
      exact G_iret C hr dX10_note_136 (by simp [x_note, x_noteN, h8_1, h14_2_6, cl_n]) (rfl)
    have h14_2_n0 := lv_neT h14_2_0 (a := 0) rfl
    have h14_2_n1 := lv_neT h14_2_1 (a := 1) rfl
    have h14_2_n2 := lv_neT h14_2_2 (a := 2) rfl
    have h14_2_n3 := lv_neT h14_2_3 (a := 3) rfl
    have h14_2_n4 := lv_neT h14_2_4 (a := 4) rfl
    have h14_2_n5 := lv_neT h14_2_5 (a := 5) rfl
    have h14_2_n6 := lv_neT h14_2_6 (a := 6) rfl
    refine G_tableOut (tgt := 137) C dX10_note_14 (by omega) (by decide) ?_
    refine G_iconst C dX10_note_137 kI_m1 ?_
    exact G_iret C hr dX10_note_138 (by simp [x_note, x_noteN, h8_1, h14_2_0, h14_2_1, h14_2_2, h14_2_3, h14_2_4, h14_2_5, h14_2_6, cl_n]) (rfl)
  · refine G_iconst C dX10_note_11 kI_m1 ?_
    exact G_iret C hr dX10_note_12 (by simp [x_note, x_noteN, h8_1]) (rfl)
set_option maxHeartbeats 4000000 in
set_option maxRecDepth 100000 in
theorem c_X10_purse {q : Nat} (hq : q < 1024) (hN : M 9 5 ≤ 6) (hB : ∀ k j, M k j < 1024) : CT l yX10_purse cX10_purse 4 (some .int) (rmOf 2 42) D (tyI cI cZ) [.ref (ad 0), .int (nI q)] (wX cI cZ ad M t) (some (.int (nI (x_purse M q)))) (wX cI cZ ad M t) := by
  refine CT_of (own := "FalseParity") (by decide) rfl (Nat.le_of_ble_eq_true rfl) (fun p e s m args below meth c C hr => ?_)
  refine G_iconst C dX10_purse_0 kI_0 ?_
  refine G_istore_n (lv' := [(2, .int (nI 0)), (0, .ref (ad 0)), (1, .int (nI q))]) C dX10_purse_1 rfl (by decide) rfl ?_
  refine G_iconst C dX10_purse_2 kI_0 ?_
  refine G_istore_n (lv' := [(3, .int (nI 0)), (2, .int (nI 0)), (0, .ref (ad 0)), (1, .int (nI q))]) C dX10_purse_3 rfl (by decide) rfl ?_
  refine G_pick (lv' := [(0, .ref (ad 0)), (1, .int (nI q)), (2, .int (nI 0)), (3, .int (nI 0))]) [2, 3, 1, 0] rfl ?_
  refine loopN (P := fun n => ∀ sm : Nat, (sm = sumTo (fun n => if M 15 n = q ∧ hb (nI (M 15 18)) n = false then M 11 n else 0) n) → G p l e (rmOf 2 42) s m args below meth c D _ 4 0 0 _ 4 [(0, .ref (ad 0)), (1, .int (nI q)), (2, .int (nI sm)), (3, .int (nI n))] [] (wX cI cZ ad M t)) (M 9 5) ?_ ?_ 0 (Nat.zero_le _) (0) rfl
  · intro sm hi1_0
    refine G_iload_n C 3 dX10_purse_4 rfl rfl ?_
    refine G_aload_n C 0 dX10_purse_5 rfl rfl ?_
    refine G_get (v := .ref (ad 9)) C 0 2 dX10_purse_6 xc_0 rfl inG10 (by decide) wm_295 rfl rfl ?_
    refine G_getN (v := .int (nI (M 9 5))) C 9 5 dX10_purse_9 xc_9 rfl inG1 (by decide) wn_126 rfl rfl ?_
    refine G_icmp_geN (tgt := 56) C dX10_purse_12 (by decide) (by have := hB 9 5; omega) (by have := hB 9 5; omega) (fun h12_2 => ?_) (fun h12_2 => ?_)
    · refine G_iload_n C 2 dX10_purse_56 rfl rfl ?_
      exact G_iret C hr dX10_purse_57 (by rw [hi1_0]; rfl) (rfl)
    · exfalso; omega
  · intro n hn ih1 sm hi1_0
    refine G_iload_n C 3 dX10_purse_4 rfl rfl ?_
    refine G_aload_n C 0 dX10_purse_5 rfl rfl ?_
    refine G_get (v := .ref (ad 9)) C 0 2 dX10_purse_6 xc_0 rfl inG10 (by decide) wm_295 rfl rfl ?_
    refine G_getN (v := .int (nI (M 9 5))) C 9 5 dX10_purse_9 xc_9 rfl inG1 (by decide) wn_126 rfl rfl ?_
    refine G_icmp_geN (tgt := 56) C dX10_purse_12 (by decide) (by omega) (by have := hB 9 5; omega) (fun h12_3 => ?_) (fun h12_3 => ?_)
    · exfalso; omega
    · refine G_aload_n C 0 dX10_purse_15 rfl rfl ?_
      refine G_get (v := .ref (ad 14)) C 0 3 dX10_purse_16 xc_0 rfl inG10 (by decide) wm_296 rfl rfl ?_
      refine G_iload_n C 3 dX10_purse_19 rfl rfl ?_
      refine G_callV1 C [.int (nI n)] 14 dX10_purse_20 (c_X6_holder (by omega)) wm_451 wm_452 wm_453 wm_54 wm_454 xc_14 rfl ydc_X6_holder rfl ⟨Nat.le_of_ble_eq_true rfl, Nat.le_of_ble_eq_true rfl⟩ ⟨rfl, rfl⟩ ⟨Nat.le_refl _, Nat.le_refl _⟩ (Nat.le_of_ble_eq_true rfl) rfl ?_
      refine G_iload_n C 1 dX10_purse_23 rfl rfl ?_
      refine G_icmp_neN (tgt := 50) C dX10_purse_24 (by decide) (by have := hB 15 n; omega) (by omega) (fun h24_4 => ?_) (fun h24_4 => ?_)
      · refine G_iincN (lv' := [(3, .int (nI (n + 1))), (0, .ref (ad 0)), (1, .int (nI q)), (2, .int (nI sm))]) C 3 dX10_purse_50 rfl (by decide) rfl ?_
        refine G_goto (tgt := 4) C dX10_purse_53 (by decide) ?_
        refine G_pick (lv' := [(0, .ref (ad 0)), (1, .int (nI q)), (2, .int (nI sm)), (3, .int (nI (n + 1)))]) [1, 2, 3, 0] rfl ?_
        exact ih1 _ (by simp [sumTo, hi1_0, h24_4])
      · refine G_aload_n C 0 dX10_purse_27 rfl rfl ?_
        refine G_get (v := .ref (ad 14)) C 0 3 dX10_purse_28 xc_0 rfl inG10 (by decide) wm_296 rfl rfl ?_
        refine G_iload_n C 3 dX10_purse_31 rfl rfl ?_
        refine G_callV1 C [.int (nI n)] 14 dX10_purse_32 c_X6_isAway wm_466 wm_467 wm_468 wm_54 wm_469 xc_14 rfl ydc_X6_isAway rfl ⟨Nat.le_of_ble_eq_true rfl, Nat.le_of_ble_eq_true rfl⟩ ⟨rfl, rfl⟩ ⟨Nat.le_refl _, Nat.le_refl _⟩ (Nat.le_of_ble_eq_true rfl) rfl ?_
        refine G_if_neB (tgt := 50) C dX10_purse_35 (by decide) (fun h35_5 => ?_) (fun h35_5 => ?_)
        · refine G_iincN (lv' := [(3, .int (nI (n + 1))), (0, .ref (ad 0)), (1, .int (nI q)), (2, .int (nI sm))]) C 3 dX10_purse_50 rfl (by decide) rfl ?_
          refine G_goto (tgt := 4) C dX10_purse_53 (by decide) ?_
          refine G_pick (lv' := [(0, .ref (ad 0)), (1, .int (nI q)), (2, .int (nI sm)), (3, .int (nI (n + 1)))]) [1, 2, 3, 0] rfl ?_
          exact ih1 _ (by simp [sumTo, hi1_0, h24_4, h35_5])
        · refine G_iload_n C 2 dX10_purse_38 rfl rfl ?_
          refine G_aload_n C 0 dX10_purse_39 rfl rfl ?_
          refine G_get (v := .ref (ad 9)) C 0 2 dX10_purse_40 xc_0 rfl inG10 (by decide) wm_295 rfl rfl ?_
          refine G_getN (v := .ref (ad 11)) C 9 1 dX10_purse_43 xc_9 rfl inG1 (by decide) wn_107 rfl rfl ?_
          refine G_iload_n C 3 dX10_purse_46 rfl rfl ?_
          refine G_iald (v := nI (M 11 n)) C 11 0 dX10_purse_47 xc_11 rfl (by omega) (by decide) rfl ?_
          refine G_iaddN C dX10_purse_48 ?_
          refine G_istore_n (lv' := [(2, .int (nI (sm + (M 11 n)))), (0, .ref (ad 0)), (1, .int (nI q)), (3, .int (nI n))]) C dX10_purse_49 rfl (by decide) rfl ?_
          refine G_iincN (lv' := [(3, .int (nI (n + 1))), (2, .int (nI (sm + (M 11 n)))), (0, .ref (ad 0)), (1, .int (nI q))]) C 3 dX10_purse_50 rfl (by decide) rfl ?_
          refine G_goto (tgt := 4) C dX10_purse_53 (by decide) ?_
          refine G_pick (lv' := [(0, .ref (ad 0)), (1, .int (nI q)), (2, .int (nI (sm + (M 11 n)))), (3, .int (nI (n + 1)))]) [2, 3, 1, 0] rfl ?_
          exact ih1 _ (by simp [sumTo, hi1_0, h24_4, h35_5])
set_option maxHeartbeats 4000000 in
set_option maxRecDepth 100000 in
theorem c_X10_person {x y : Int32} (hN : M 9 5 ≤ 6) (hP : M 9 4 ≤ 5) (hB : ∀ k j, M k j < 1024) : CT l yX10_person cX10_person 3 (some .int) (rmOf 3 65) D (tyI cI cZ) [.ref (ad 0), .int (x), .int (y)] (wX cI cZ ad M t) (some (.int (x_person M x y))) (wX cI cZ ad M t) := by
  refine CT_of (own := "FalseParity") (by decide) rfl (Nat.le_of_ble_eq_true rfl) (fun p e s m args below meth c C hr => ?_)
  refine G_aload_n C 0 dX10_person_0 rfl rfl ?_
  refine G_get (v := .ref (ad 9)) C 0 2 dX10_person_1 xc_0 rfl inG10 (by decide) wm_295 rfl rfl ?_
  refine G_iload_n C 1 dX10_person_4 rfl rfl ?_
  refine G_callV1 C [.int (x)] 9 dX10_person_5 (c_X1_hasPerson hB) wm_487 wm_488 wm_489 wm_53 wm_490 xc_9 rfl ydc_X1_hasPerson rfl ⟨Nat.le_of_ble_eq_true rfl, Nat.le_of_ble_eq_true rfl⟩ ⟨rfl, rfl⟩ ⟨Nat.le_refl _, Nat.le_refl _⟩ (Nat.le_of_ble_eq_true rfl) rfl ?_
  refine G_if_neB (tgt := 13) C dX10_person_8 (by decide) (fun h8_1 => ?_) (fun h8_1 => ?_)
  · obtain ⟨q, hx_q, rfl⟩ := inR_of (by have := hB 9 4; omega) h8_1
    have cl_q := nI_clamp (n := q) (by have := hB 9 4; omega)
    refine G_iload_n C 2 dX10_person_13 rfl rfl ?_
    by_cases h14_2_0 : y = 0
    · refine G_top h14_2_0 ?_
      refine G_lookup (off := 26) (tgt := 40) C dX10_person_14 (by decide) rfl (by decide) ?_
      refine G_aload_n C 0 dX10_person_40 rfl rfl ?_
      refine G_get (v := .ref (ad 14)) C 0 3 dX10_person_41 xc_0 rfl inG10 (by decide) wm_296 rfl rfl ?_
      refine G_iload_n C 1 dX10_person_44 rfl rfl ?_
      refine G_callV1 C [.int (nI q)] 14 dX10_person_45 (c_X6_looks (by omega)) wm_491 wm_480 wm_481 wm_54 wm_482 xc_14 rfl ydc_X6_looks rfl ⟨Nat.le_of_ble_eq_true rfl, Nat.le_of_ble_eq_true rfl⟩ ⟨rfl, rfl⟩ ⟨Nat.le_refl _, Nat.le_refl _⟩ (Nat.le_of_ble_eq_true rfl) rfl ?_
      exact G_iret C hr dX10_person_48 (by simp [x_person, h8_1, h14_2_0, cl_q]) (rfl)
    by_cases h14_2_1 : y = 1
    · refine G_top h14_2_1 ?_
      refine G_lookup (off := 35) (tgt := 49) C dX10_person_14 (by decide) rfl (by decide) ?_
      refine G_aload_n C 0 dX10_person_49 rfl rfl ?_
      refine G_iload_n C 1 dX10_person_50 rfl rfl ?_
      refine G_callV1 C [.int (nI q)] 0 dX10_person_51 (c_X10_purse (by omega) hN hB) wm_492 wm_494 wm_15 wm_50 wm_495 xc_0 rfl ydc_X10_purse rfl ⟨Nat.le_of_ble_eq_true rfl, Nat.le_of_ble_eq_true rfl⟩ ⟨rfl, rfl⟩ ⟨Nat.le_refl _, Nat.le_refl _⟩ (Nat.le_of_ble_eq_true rfl) rfl ?_
      exact G_iret C hr dX10_person_54 (by simp [x_person, h8_1, h14_2_1, cl_q]) (rfl)
    refine G_lookup (off := 41) (tgt := 55) C dX10_person_14 (by decide) (by refine (lv_osw h14_2_0 rfl).trans ?_; refine (lv_osw h14_2_1 rfl).trans ?_; rfl) (by decide) ?_
    refine G_iconst C dX10_person_55 kI_m1 ?_
    exact G_iret C hr dX10_person_56 (by simp [x_person, h8_1, h14_2_0, h14_2_1, cl_q]) (rfl)
  · refine G_iconst C dX10_person_11 kI_m1 ?_
    exact G_iret C hr dX10_person_12 (by simp [x_person, h8_1]) (rfl)
set_option maxHeartbeats 4000000 in
set_option maxRecDepth 100000 in
theorem c_X10_now {y : Int32} (hN : M 9 5 ≤ 6) (hB : ∀ k j, M k j < 1024) : CT l yX10_now cX10_now 2 (some .int) (rmOf 3 64) D (tyI cI cZ) [.ref (ad 0), .int (y)] (wX cI cZ ad M t) (some (.int (x_now M y))) (wX cI cZ ad M t) := by
  refine CT_of (own := "FalseParity") (by decide) rfl (Nat.le_of_ble_eq_true rfl) (fun p e s m args below meth c C hr => ?_)
  refine G_iload_n C 1 dX10_now_0 rfl rfl ?_
  by_cases h1_1_0 : y = 0
  · refine G_top h1_1_0 ?_
    refine G_tableIn (tgt := 40) C dX10_now_1 (by decide) (by decide) rfl (by decide) ?_
    refine G_aload_n C 0 dX10_now_40 rfl rfl ?_
    refine G_get (v := .ref (ad 14)) C 0 3 dX10_now_41 xc_0 rfl inG10 (by decide) wm_296 rfl rfl ?_
    refine G_callV1 C [] 14 dX10_now_44 c_X6_parity wm_500 wm_501 wm_502 wm_54 wm_503 xc_14 rfl ydc_X6_parity rfl ⟨Nat.le_of_ble_eq_true rfl, Nat.le_of_ble_eq_true rfl⟩ ⟨rfl, rfl⟩ ⟨Nat.le_refl _, Nat.le_refl _⟩ (Nat.le_of_ble_eq_true rfl) rfl ?_
    exact G_iret C hr dX10_now_47 (by simp [x_now, h1_1_0]) (rfl)
  by_cases h1_1_1 : y = 1
  · refine G_top h1_1_1 ?_
    refine G_tableIn (tgt := 48) C dX10_now_1 (by decide) (by decide) rfl (by decide) ?_
    refine G_aload_n C 0 dX10_now_48 rfl rfl ?_
    refine G_get (v := .ref (ad 14)) C 0 3 dX10_now_49 xc_0 rfl inG10 (by decide) wm_296 rfl rfl ?_
    refine G_callV1 C [] 14 dX10_now_52 c_X6_away wm_504 wm_505 wm_506 wm_54 wm_507 xc_14 rfl ydc_X6_away rfl ⟨Nat.le_of_ble_eq_true rfl, Nat.le_of_ble_eq_true rfl⟩ ⟨rfl, rfl⟩ ⟨Nat.le_refl _, Nat.le_refl _⟩ (Nat.le_of_ble_eq_true rfl) rfl ?_
    exact G_iret C hr dX10_now_55 (by simp [x_now, h1_1_1]) (rfl)
  by_cases h1_1_2 : y = 2
  · refine G_top h1_1_2 ?_
    refine G_tableIn (tgt := 56) C dX10_now_1 (by decide) (by decide) rfl (by decide) ?_
    refine G_aload_n C 0 dX10_now_56 rfl rfl ?_
    refine G_get (v := .ref (ad 14)) C 0 3 dX10_now_57 xc_0 rfl inG10 (by decide) wm_296 rfl rfl ?_
    refine G_callV1 C [] 14 dX10_now_60 c_X6_refused wm_508 wm_509 wm_510 wm_54 wm_511 xc_14 rfl ydc_X6_refused rfl ⟨Nat.le_of_ble_eq_true rfl, Nat.le_of_ble_eq_true rfl⟩ ⟨rfl, rfl⟩ ⟨Nat.le_refl _, Nat.le_refl _⟩ (Nat.le_of_ble_eq_true rfl) rfl ?_
    exact G_iret C hr dX10_now_63 (by simp [x_now, h1_1_2]) (rfl)
  by_cases h1_1_3 : y = 3
  · refine G_top h1_1_3 ?_
    refine G_tableIn (tgt := 64) C dX10_now_1 (by decide) (by decide) rfl (by decide) ?_
    refine G_aload_n C 0 dX10_now_64 rfl rfl ?_
    refine G_get (v := .ref (ad 24)) C 0 8 dX10_now_65 xc_0 rfl inG10 (by decide) wm_301 rfl rfl ?_
    refine G_callV1 C [] 24 dX10_now_68 (c_X0_worthOfAll hN hB) wm_512 wm_513 wm_514 wm_59 wm_515 xc_24 rfl ydc_X0_worthOfAll rfl ⟨Nat.le_of_ble_eq_true rfl, Nat.le_of_ble_eq_true rfl⟩ ⟨rfl, rfl⟩ ⟨Nat.le_refl _, Nat.le_refl _⟩ (Nat.le_of_ble_eq_true rfl) rfl ?_
    exact G_iret C hr dX10_now_71 (by simp [x_now, h1_1_3]) (rfl)
  by_cases h1_1_4 : y = 4
  · refine G_top h1_1_4 ?_
    refine G_tableIn (tgt := 72) C dX10_now_1 (by decide) (by decide) rfl (by decide) ?_
    refine G_aload_n C 0 dX10_now_72 rfl rfl ?_
    refine G_get (v := .ref (ad 24)) C 0 8 dX10_now_73 xc_0 rfl inG10 (by decide) wm_301 rfl rfl ?_
    refine G_callV1 C [] 24 dX10_now_76 (c_X0_worthOfFalse hN hB) wm_522 wm_523 wm_524 wm_59 wm_525 xc_24 rfl ydc_X0_worthOfFalse rfl ⟨Nat.le_of_ble_eq_true rfl, Nat.le_of_ble_eq_true rfl⟩ ⟨rfl, rfl⟩ ⟨Nat.le_refl _, Nat.le_refl _⟩ (Nat.le_of_ble_eq_true rfl) rfl ?_
    exact G_iret C hr dX10_now_79 (by simp [x_now, h1_1_4]) (rfl)
  by_cases h1_1_5 : y = 5
  · refine G_top h1_1_5 ?_
    refine G_tableIn (tgt := 80) C dX10_now_1 (by decide) (by decide) rfl (by decide) ?_
    refine G_aload_n C 0 dX10_now_80 rfl rfl ?_
    refine G_get (v := .ref (ad 16)) C 0 4 dX10_now_81 xc_0 rfl inG10 (by decide) wm_297 rfl rfl ?_
    refine G_getN (v := .int (nI (M 16 2))) C 16 2 dX10_now_84 xc_16 rfl inG2 (by decide) wn_196 rfl rfl ?_
    exact G_iret C hr dX10_now_87 (by simp [x_now, h1_1_5]) (rfl)
  have h1_1_n0 := lv_neT h1_1_0 (a := 0) rfl
  have h1_1_n1 := lv_neT h1_1_1 (a := 1) rfl
  have h1_1_n2 := lv_neT h1_1_2 (a := 2) rfl
  have h1_1_n3 := lv_neT h1_1_3 (a := 3) rfl
  have h1_1_n4 := lv_neT h1_1_4 (a := 4) rfl
  have h1_1_n5 := lv_neT h1_1_5 (a := 5) rfl
  refine G_tableOut (tgt := 88) C dX10_now_1 (by omega) (by decide) ?_
  refine G_iconst C dX10_now_88 kI_m1 ?_
  exact G_iret C hr dX10_now_89 (by simp [x_now, h1_1_0, h1_1_1, h1_1_2, h1_1_3, h1_1_4, h1_1_5]) (rfl)
set_option maxHeartbeats 4000000 in
set_option maxRecDepth 100000 in
theorem c_X10_passes {x y : Int32} (hx : M 16 1 < 10) (hN : M 9 5 ≤ 6) (hP : M 9 4 ≤ 5) (hB : ∀ k j, M k j < 1024) : CT l yX10_passes cX10_passes 3 (some .int) (rmOf 4 87) D (tyI cI cZ) [.ref (ad 0), .int (x), .int (y)] (wX cI cZ ad M t) (some (.int (x_pass M x y).1)) (wX cI cZ ad (x_pass M x y).2 t) := by
  refine CT_of (own := "FalseParity") (by decide) rfl (Nat.le_of_ble_eq_true rfl) (fun p e s m args below meth c C hr => ?_)
  refine G_aload_n C 0 dX10_passes_0 rfl rfl ?_
  refine G_get (v := .ref (ad 9)) C 0 2 dX10_passes_1 xc_0 rfl inG10 (by decide) wm_295 rfl rfl ?_
  refine G_iload_n C 1 dX10_passes_4 rfl rfl ?_
  refine G_callV1 C [.int (x)] 9 dX10_passes_5 (c_X1_hasNote hB) wm_447 wm_448 wm_449 wm_53 wm_450 xc_9 rfl ydc_X1_hasNote rfl ⟨Nat.le_of_ble_eq_true rfl, Nat.le_of_ble_eq_true rfl⟩ ⟨rfl, rfl⟩ ⟨Nat.le_refl _, Nat.le_refl _⟩ (Nat.le_of_ble_eq_true rfl) rfl ?_
  refine G_if_eqB (tgt := 22) C dX10_passes_8 (by decide) (fun h8_1 => ?_) (fun h8_1 => ?_)
  · refine G_iconst C dX10_passes_22 kI_m1 ?_
    exact G_iret C hr dX10_passes_23 (by simp [x_pass, x_passN, h8_1]) (congrArg (fun z => wX cI cZ ad z t) (by simp [x_pass, x_passN, h8_1]))
  · obtain ⟨n, hx_n, rfl⟩ := inR_of (by have := hB 9 5; omega) h8_1
    have cl_n := nI_clamp (n := n) (by have := hB 9 5; omega)
    refine G_aload_n C 0 dX10_passes_11 rfl rfl ?_
    refine G_get (v := .ref (ad 9)) C 0 2 dX10_passes_12 xc_0 rfl inG10 (by decide) wm_295 rfl rfl ?_
    refine G_iload_n C 2 dX10_passes_15 rfl rfl ?_
    refine G_callV1 C [.int (y)] 9 dX10_passes_16 (c_X1_hasPerson hB) wm_487 wm_488 wm_489 wm_53 wm_490 xc_9 rfl ydc_X1_hasPerson rfl ⟨Nat.le_of_ble_eq_true rfl, Nat.le_of_ble_eq_true rfl⟩ ⟨rfl, rfl⟩ ⟨Nat.le_refl _, Nat.le_refl _⟩ (Nat.le_of_ble_eq_true rfl) rfl ?_
    refine G_if_neB (tgt := 24) C dX10_passes_19 (by decide) (fun h19_2 => ?_) (fun h19_2 => ?_)
    · obtain ⟨q, hx_q, rfl⟩ := inR_of (by have := hB 9 4; omega) h19_2
      have cl_q := nI_clamp (n := q) (by have := hB 9 4; omega)
      refine G_aload_n C 0 dX10_passes_24 rfl rfl ?_
      refine G_get (v := .ref (ad 14)) C 0 3 dX10_passes_25 xc_0 rfl inG10 (by decide) wm_296 rfl rfl ?_
      refine G_iload_n C 1 dX10_passes_28 rfl rfl ?_
      refine G_callV1 C [.int (nI n)] 14 dX10_passes_29 c_X6_isAway wm_466 wm_467 wm_468 wm_54 wm_469 xc_14 rfl ydc_X6_isAway rfl ⟨Nat.le_of_ble_eq_true rfl, Nat.le_of_ble_eq_true rfl⟩ ⟨rfl, rfl⟩ ⟨Nat.le_refl _, Nat.le_refl _⟩ (Nat.le_of_ble_eq_true rfl) rfl ?_
      refine G_if_neB (tgt := 47) C dX10_passes_32 (by decide) (fun h32_3 => ?_) (fun h32_3 => ?_)
      · refine G_bipush C dX10_passes_47 kB_m2 ?_
        exact G_iret C hr dX10_passes_49 (by simp [x_pass, x_passN, h8_1, h19_2, h32_3, cl_n, cl_q]) (congrArg (fun z => wX cI cZ ad z t) (by simp [x_pass, x_passN, h8_1, h19_2, h32_3, cl_n, cl_q]))
      · refine G_aload_n C 0 dX10_passes_35 rfl rfl ?_
        refine G_get (v := .ref (ad 14)) C 0 3 dX10_passes_36 xc_0 rfl inG10 (by decide) wm_296 rfl rfl ?_
        refine G_iload_n C 1 dX10_passes_39 rfl rfl ?_
        refine G_callV1 C [.int (nI n)] 14 dX10_passes_40 (c_X6_holder (by omega)) wm_451 wm_452 wm_453 wm_54 wm_454 xc_14 rfl ydc_X6_holder rfl ⟨Nat.le_of_ble_eq_true rfl, Nat.le_of_ble_eq_true rfl⟩ ⟨rfl, rfl⟩ ⟨Nat.le_refl _, Nat.le_refl _⟩ (Nat.le_of_ble_eq_true rfl) rfl ?_
        refine G_iload_n C 2 dX10_passes_43 rfl rfl ?_
        refine G_icmp_neN (tgt := 50) C dX10_passes_44 (by decide) (by have := hB 15 n; omega) (by omega) (fun h44_4 => ?_) (fun h44_4 => ?_)
        · refine G_aload_n C 0 dX10_passes_50 rfl rfl ?_
          refine G_get (v := .ref (ad 14)) C 0 3 dX10_passes_51 xc_0 rfl inG10 (by decide) wm_296 rfl rfl ?_
          refine G_iload_n C 1 dX10_passes_54 rfl rfl ?_
          refine G_callV1 C [.int (nI n)] 14 dX10_passes_55 (c_X6_uses (by omega)) wm_455 wm_456 wm_457 wm_54 wm_458 xc_14 rfl ydc_X6_uses rfl ⟨Nat.le_of_ble_eq_true rfl, Nat.le_of_ble_eq_true rfl⟩ ⟨rfl, rfl⟩ ⟨Nat.le_refl _, Nat.le_refl _⟩ (Nat.le_of_ble_eq_true rfl) rfl ?_
          refine G_sipush C dX10_passes_58 kS_999 ?_
          refine G_icmp_geN (tgt := 77) C dX10_passes_61 (by decide) (by have := hB 15 (6 + n); omega) (by decide) (fun h61_5 => ?_) (fun h61_5 => ?_)
          · refine G_bipush C dX10_passes_77 kB_m2 ?_
            exact G_iret C hr dX10_passes_79 (by simp [x_pass, x_passN, h8_1, h19_2, h32_3, h44_4, h61_5, cl_n, cl_q]) (congrArg (fun z => wX cI cZ ad z t) (by simp [x_pass, x_passN, h8_1, h19_2, h32_3, h44_4, h61_5, cl_n, cl_q]))
          · refine G_aload_n C 0 dX10_passes_64 rfl rfl ?_
            refine G_get (v := .ref (ad 14)) C 0 3 dX10_passes_65 xc_0 rfl inG10 (by decide) wm_296 rfl rfl ?_
            refine G_callV1 C [] 14 dX10_passes_68 c_X6_refused wm_508 wm_509 wm_510 wm_54 wm_511 xc_14 rfl ydc_X6_refused rfl ⟨Nat.le_of_ble_eq_true rfl, Nat.le_of_ble_eq_true rfl⟩ ⟨rfl, rfl⟩ ⟨Nat.le_refl _, Nat.le_refl _⟩ (Nat.le_of_ble_eq_true rfl) rfl ?_
            refine G_sipush C dX10_passes_71 kS_999 ?_
            refine G_icmp_ltN (tgt := 80) C dX10_passes_74 (by decide) (by have := hB 15 19; omega) (by decide) (fun h74_6 => ?_) (fun h74_6 => ?_)
            · refine G_aload_n C 0 dX10_passes_80 rfl rfl ?_
              refine G_get (v := .ref (ad 16)) C 0 4 dX10_passes_81 xc_0 rfl inG10 (by decide) wm_297 rfl rfl ?_
              refine G_aload_n C 0 dX10_passes_84 rfl rfl ?_
              refine G_get (v := .ref (ad 14)) C 0 3 dX10_passes_85 xc_0 rfl inG10 (by decide) wm_296 rfl rfl ?_
              refine G_callV0 (w' := wX cI cZ ad (x_push M) t) C [.ref (ad 14)] 16 dX10_passes_88 (c_X2_push hx hB) wm_538 wm_539 wm_540 wm_55 wm_541 xc_16 rfl ydc_X2_push rfl ⟨Nat.le_of_ble_eq_true rfl, Nat.le_of_ble_eq_true rfl⟩ ⟨rfl, rfl⟩ ⟨Nat.le_refl _, Nat.le_refl _⟩ (Nat.le_of_ble_eq_true rfl) rfl ?_
              refine G_aload_n C 0 dX10_passes_91 rfl rfl ?_
              refine G_get (v := .ref (ad 20)) C 0 6 dX10_passes_92 xc_0 rfl inG10 (by decide) wm_299 rfl rfl ?_
              refine G_iload_n C 1 dX10_passes_95 rfl rfl ?_
              refine G_iload_n C 2 dX10_passes_96 rfl rfl ?_
              refine G_callV1 (v := .int (nI (bN (hb (nI (x_tk (x_push M) (n))) (q))))) C [.int (nI n), .int (nI q)] 20 dX10_passes_97 (c_X7_takes (by omega) hP (hB_push hB)) wm_547 wm_548 wm_549 wm_57 wm_550 xc_20 rfl ydc_X7_takes rfl ⟨Nat.le_of_ble_eq_true rfl, Nat.le_of_ble_eq_true rfl⟩ ⟨rfl, rfl⟩ ⟨Nat.le_refl _, Nat.le_refl _⟩ (Nat.le_of_ble_eq_true rfl) rfl ?_
              refine G_if_neB (tgt := 113) C dX10_passes_100 (by decide) (fun h100_7 => ?_) (fun h100_7 => ?_)
              · refine G_aload_n C 0 dX10_passes_113 rfl rfl ?_
                refine G_get (v := .ref (ad 14)) C 0 3 dX10_passes_114 xc_0 rfl inG10 (by decide) wm_296 rfl rfl ?_
                refine G_iload_n C 1 dX10_passes_117 rfl rfl ?_
                refine G_iload_n C 2 dX10_passes_118 rfl rfl ?_
                refine G_callV0 (w' := wX cI cZ ad (ms (ms (x_push M) 15 (n) (q)) 15 (6 + n) (M 15 (6 + n) + 1)) t) C [.int (nI n), .int (nI q)] 14 dX10_passes_119 (c_X6_take (by omega)) wm_557 wm_558 wm_559 wm_54 wm_560 xc_14 rfl ydc_X6_take rfl ⟨Nat.le_of_ble_eq_true rfl, Nat.le_of_ble_eq_true rfl⟩ ⟨rfl, rfl⟩ ⟨Nat.le_refl _, Nat.le_refl _⟩ (Nat.le_of_ble_eq_true rfl) rfl ?_
                refine G_aload_n C 0 dX10_passes_122 rfl rfl ?_
                refine G_get (v := .ref (ad 9)) C 0 2 dX10_passes_123 xc_0 rfl inG10 (by decide) wm_295 rfl rfl ?_
                refine G_iload_n C 1 dX10_passes_126 rfl rfl ?_
                refine G_callV1 (v := .int (nI (bN (decide (0 < M 12 n))))) C [.int (nI n)] 9 dX10_passes_127 (c_X1_isFalse (by omega) (hB_ms (hB_ms (hB_push hB) (by omega)) (by have := hB 15 (6 + n); omega))) wm_561 wm_531 wm_532 wm_53 wm_533 xc_9 rfl ydc_X1_isFalse rfl ⟨Nat.le_of_ble_eq_true rfl, Nat.le_of_ble_eq_true rfl⟩ ⟨rfl, rfl⟩ ⟨Nat.le_refl _, Nat.le_refl _⟩ (Nat.le_of_ble_eq_true rfl) rfl ?_
                refine G_if_eqB (tgt := 159) C dX10_passes_130 (by decide) (fun h130_8 => ?_) (fun h130_8 => ?_)
                · replace h130_8 := of_decide_eq_false h130_8
                  refine G_iconst C dX10_passes_159 kI_1 ?_
                  exact G_iret C hr dX10_passes_160 (by simp [x_pass, x_passN, h8_1, h19_2, h32_3, h44_4, Nat.not_le.mpr h61_5, Nat.not_le.mpr h74_6, h100_7, h130_8, cl_n, cl_q]) (congrArg (fun z => wX cI cZ ad z t) (by simp [x_pass, x_passN, h8_1, h19_2, h32_3, h44_4, Nat.not_le.mpr h61_5, Nat.not_le.mpr h74_6, h100_7, h130_8, cl_n, cl_q]))
                · replace h130_8 := of_decide_eq_true h130_8
                  refine G_aload_n C 0 dX10_passes_133 rfl rfl ?_
                  refine G_get (v := .ref (ad 14)) C 0 3 dX10_passes_134 xc_0 rfl inG10 (by decide) wm_296 rfl rfl ?_
                  refine G_iload_n C 1 dX10_passes_137 rfl rfl ?_
                  refine G_callV1 C [.int (nI n)] 14 dX10_passes_138 (c_X6_uses (by omega)) wm_455 wm_456 wm_457 wm_54 wm_458 xc_14 rfl ydc_X6_uses rfl ⟨Nat.le_of_ble_eq_true rfl, Nat.le_of_ble_eq_true rfl⟩ ⟨rfl, rfl⟩ ⟨Nat.le_refl _, Nat.le_refl _⟩ (Nat.le_of_ble_eq_true rfl) rfl ?_
                  refine G_top (y := nI (M 15 (6 + n) + 1)) (congrArg nI ms_at) ?_
                  refine G_aload_n C 0 dX10_passes_141 rfl rfl ?_
                  refine G_get (v := .ref (ad 9)) C 0 2 dX10_passes_142 xc_0 rfl inG10 (by decide) wm_295 rfl rfl ?_
                  refine G_getN (v := .int (nI (M 9 6))) C 9 6 dX10_passes_145 xc_9 rfl inG1 (by decide) wn_129 rfl rfl ?_
                  refine G_icmp_ltN (tgt := 159) C dX10_passes_148 (by decide) (by have := hB 15 (6 + n); omega) (by have := hB 9 6; omega) (fun h148_9 => ?_) (fun h148_9 => ?_)
                  · refine G_iconst C dX10_passes_159 kI_1 ?_
                    exact G_iret C hr dX10_passes_160 (by simp [x_pass, x_passN, h8_1, h19_2, h32_3, h44_4, Nat.not_le.mpr h61_5, Nat.not_le.mpr h74_6, h100_7, h130_8, Nat.not_le.mpr h148_9, cl_n, cl_q]) (congrArg (fun z => wX cI cZ ad z t) (by simp [x_pass, x_passN, h8_1, h19_2, h32_3, h44_4, Nat.not_le.mpr h61_5, Nat.not_le.mpr h74_6, h100_7, h130_8, Nat.not_le.mpr h148_9, cl_n, cl_q]))
                  · have e17 : ms (ms (x_push M) 15 n q) 15 (6 + n) (M 15 (6 + n) + 1) 15 17 = M 15 17 := by rw [ms_ne (by omega), ms_ne (by omega)]; rfl
                    refine G_aload_n C 0 dX10_passes_151 rfl rfl ?_
                    refine G_get (v := .ref (ad 14)) C 0 3 dX10_passes_152 xc_0 rfl inG10 (by decide) wm_296 rfl rfl ?_
                    refine G_iload_n C 1 dX10_passes_155 rfl rfl ?_
                    refine G_callV0 (w' := wX cI cZ ad (ms (ms (ms (x_push M) 15 (n) (q)) 15 (6 + n) (M 15 (6 + n) + 1)) 15 (17) (((ms (ms (x_push M) 15 (n) (q)) 15 (6 + n) (M 15 (6 + n) + 1)) 15 17) ||| (1 * 2 ^ n))) t) C [.int (nI n)] 14 dX10_passes_156 (c_X6_giveParity (by omega)) wm_562 wm_563 wm_564 wm_54 wm_565 xc_14 rfl ydc_X6_giveParity rfl ⟨Nat.le_of_ble_eq_true rfl, Nat.le_of_ble_eq_true rfl⟩ ⟨rfl, rfl⟩ ⟨Nat.le_refl _, Nat.le_refl _⟩ (Nat.le_of_ble_eq_true rfl) rfl ?_
                    refine G_iconst C dX10_passes_159 kI_1 ?_
                    exact G_iret C hr dX10_passes_160 (by simp [x_pass, x_passN, h8_1, h19_2, h32_3, h44_4, Nat.not_le.mpr h61_5, Nat.not_le.mpr h74_6, h100_7, h130_8, h148_9, cl_n, cl_q, e17]) (congrArg (fun z => wX cI cZ ad z t) (by simp [x_pass, x_passN, h8_1, h19_2, h32_3, h44_4, Nat.not_le.mpr h61_5, Nat.not_le.mpr h74_6, h100_7, h130_8, h148_9, cl_n, cl_q, e17]))
              · refine G_aload_n C 0 dX10_passes_103 rfl rfl ?_
                refine G_get (v := .ref (ad 14)) C 0 3 dX10_passes_104 xc_0 rfl inG10 (by decide) wm_296 rfl rfl ?_
                refine G_iload_n C 1 dX10_passes_107 rfl rfl ?_
                refine G_callV0 (w' := wX cI cZ ad (ms (ms (x_push M) 15 (6 + n) (0)) 15 (19) (M 15 19 + 1)) t) C [.int (nI n)] 14 dX10_passes_108 (c_X6_refuse (by omega)) wm_553 wm_554 wm_555 wm_54 wm_556 xc_14 rfl ydc_X6_refuse rfl ⟨Nat.le_of_ble_eq_true rfl, Nat.le_of_ble_eq_true rfl⟩ ⟨rfl, rfl⟩ ⟨Nat.le_refl _, Nat.le_refl _⟩ (Nat.le_of_ble_eq_true rfl) rfl ?_
                refine G_iconst C dX10_passes_111 kI_0 ?_
                exact G_iret C hr dX10_passes_112 (by simp [x_pass, x_passN, h8_1, h19_2, h32_3, h44_4, Nat.not_le.mpr h61_5, Nat.not_le.mpr h74_6, h100_7, cl_n, cl_q]) (congrArg (fun z => wX cI cZ ad z t) (by simp [x_pass, x_passN, h8_1, h19_2, h32_3, h44_4, Nat.not_le.mpr h61_5, Nat.not_le.mpr h74_6, h100_7, cl_n, cl_q]))
            · refine G_bipush C dX10_passes_77 kB_m2 ?_
              exact G_iret C hr dX10_passes_79 (by simp [x_pass, x_passN, h8_1, h19_2, h32_3, h44_4, Nat.not_le.mpr h61_5, h74_6, cl_n, cl_q]) (congrArg (fun z => wX cI cZ ad z t) (by simp [x_pass, x_passN, h8_1, h19_2, h32_3, h44_4, Nat.not_le.mpr h61_5, h74_6, cl_n, cl_q]))
        · refine G_bipush C dX10_passes_47 kB_m2 ?_
          exact G_iret C hr dX10_passes_49 (by simp [x_pass, x_passN, h8_1, h19_2, h32_3, h44_4, cl_n, cl_q]) (congrArg (fun z => wX cI cZ ad z t) (by simp [x_pass, x_passN, h8_1, h19_2, h32_3, h44_4, cl_n, cl_q]))
    · refine G_iconst C dX10_passes_22 kI_m1 ?_
      exact G_iret C hr dX10_passes_23 (by simp [x_pass, x_passN, h8_1, h19_2]) (congrArg (fun z => wX cI cZ ad z t) (by simp [x_pass, x_passN, h8_1, h19_2]))
set_option maxHeartbeats 4000000 in
set_option maxRecDepth 100000 in
theorem c_X10_teaches {x y : Int32} (hx : M 16 1 < 10) (hP : M 9 4 ≤ 5) (hB : ∀ k j, M k j < 1024) : CT l yX10_teaches cX10_teaches 4 (some .int) (rmOf 3 83) D (tyI cI cZ) [.ref (ad 0), .int (x), .int (y)] (wX cI cZ ad M t) (some (.int (x_teach M x y).1)) (wX cI cZ ad (x_teach M x y).2 t) := by
  refine CT_of (own := "FalseParity") (by decide) rfl (Nat.le_of_ble_eq_true rfl) (fun p e s m args below meth c C hr => ?_)
  refine G_aload_n C 0 dX10_teaches_0 rfl rfl ?_
  refine G_get (v := .ref (ad 9)) C 0 2 dX10_teaches_1 xc_0 rfl inG10 (by decide) wm_295 rfl rfl ?_
  refine G_iload_n C 1 dX10_teaches_4 rfl rfl ?_
  refine G_callV1 C [.int (x)] 9 dX10_teaches_5 (c_X1_hasPerson hB) wm_487 wm_488 wm_489 wm_53 wm_490 xc_9 rfl ydc_X1_hasPerson rfl ⟨Nat.le_of_ble_eq_true rfl, Nat.le_of_ble_eq_true rfl⟩ ⟨rfl, rfl⟩ ⟨Nat.le_refl _, Nat.le_refl _⟩ (Nat.le_of_ble_eq_true rfl) rfl ?_
  refine G_if_eqB (tgt := 21) C dX10_teaches_8 (by decide) (fun h8_1 => ?_) (fun h8_1 => ?_)
  · refine G_iconst C dX10_teaches_21 kI_m1 ?_
    exact G_iret C hr dX10_teaches_22 (by simp [x_teach, h8_1]) (congrArg (fun z => wX cI cZ ad z t) (by simp [x_teach, h8_1]))
  · obtain ⟨q, hx_q, rfl⟩ := inR_of (by have := hB 9 4; omega) h8_1
    have cl_q := nI_clamp (n := q) (by have := hB 9 4; omega)
    refine G_iload_n C 2 dX10_teaches_11 rfl rfl ?_
    refine G_if_lt (tgt := 21) C dX10_teaches_12 (by decide) (fun h12_2 => ?_) (fun h12_2 => ?_)
    · replace h12_2 := inR_neg (n := 32) h12_2
      refine G_iconst C dX10_teaches_21 kI_m1 ?_
      exact G_iret C hr dX10_teaches_22 (by simp [x_teach, h8_1, h12_2, cl_q]) (congrArg (fun z => wX cI cZ ad z t) (by simp [x_teach, h8_1, h12_2, cl_q]))
    · obtain ⟨a, hlt_a, rfl⟩ := nI_of h12_2
      refine G_iload_n C 2 dX10_teaches_15 rfl rfl ?_
      refine G_bipush C dX10_teaches_16 kB_31 ?_
      refine G_icmp_leN (tgt := 23) C dX10_teaches_18 (by decide) (by omega) (by decide) (fun h18_3 => ?_) (fun h18_3 => ?_)
      · replace h18_3 : inR (nI a) 32 = true := by rw [inR_nI hlt_a (by decide)]; exact decide_eq_true (by omega)
        have cl_a := nI_clamp hlt_a
        have ha32 : a < 32 := by rw [inR_nI hlt_a (by decide)] at h18_3; exact of_decide_eq_true h18_3
        refine G_aload_n C 0 dX10_teaches_23 rfl rfl ?_
        refine G_get (v := .ref (ad 14)) C 0 3 dX10_teaches_24 xc_0 rfl inG10 (by decide) wm_296 rfl rfl ?_
        refine G_iload_n C 1 dX10_teaches_27 rfl rfl ?_
        refine G_callV1 C [.int (nI q)] 14 dX10_teaches_28 (c_X6_looks (by omega)) wm_491 wm_480 wm_481 wm_54 wm_482 xc_14 rfl ydc_X6_looks rfl ⟨Nat.le_of_ble_eq_true rfl, Nat.le_of_ble_eq_true rfl⟩ ⟨rfl, rfl⟩ ⟨Nat.le_refl _, Nat.le_refl _⟩ (Nat.le_of_ble_eq_true rfl) rfl ?_
        refine G_istore_n (lv' := [(3, .int (nI (M 15 (12 + q)))), (0, .ref (ad 0)), (1, .int (nI q)), (2, .int (nI a))]) C dX10_teaches_31 rfl (by decide) rfl ?_
        refine G_aload_n C 1 dX10_teaches_32 rfl rfl ?_
        refine G_get (v := .ref (ad 16)) C 0 4 dX10_teaches_33 xc_0 rfl inG10 (by decide) wm_297 rfl rfl ?_
        refine G_aload_n C 1 dX10_teaches_36 rfl rfl ?_
        refine G_get (v := .ref (ad 14)) C 0 3 dX10_teaches_37 xc_0 rfl inG10 (by decide) wm_296 rfl rfl ?_
        refine G_callV0 (w' := wX cI cZ ad (x_push M) t) C [.ref (ad 14)] 16 dX10_teaches_40 (c_X2_push hx hB) wm_538 wm_539 wm_540 wm_55 wm_541 xc_16 rfl ydc_X2_push rfl ⟨Nat.le_of_ble_eq_true rfl, Nat.le_of_ble_eq_true rfl⟩ ⟨rfl, rfl⟩ ⟨Nat.le_refl _, Nat.le_refl _⟩ (Nat.le_of_ble_eq_true rfl) rfl ?_
        refine G_aload_n C 1 dX10_teaches_43 rfl rfl ?_
        refine G_get (v := .ref (ad 14)) C 0 3 dX10_teaches_44 xc_0 rfl inG10 (by decide) wm_296 rfl rfl ?_
        refine G_iload_n C 2 dX10_teaches_47 rfl rfl ?_
        refine G_iload_n C 3 dX10_teaches_48 rfl rfl ?_
        refine G_callV0 (w' := wX cI cZ ad (ms (x_push M) 15 (12 + q) (a)) t) C [.int (nI q), .int (nI a)] 14 dX10_teaches_49 (c_X6_teach (by omega)) wm_570 wm_571 wm_572 wm_54 wm_573 xc_14 rfl ydc_X6_teach rfl ⟨Nat.le_of_ble_eq_true rfl, Nat.le_of_ble_eq_true rfl⟩ ⟨rfl, rfl⟩ ⟨Nat.le_refl _, Nat.le_refl _⟩ (Nat.le_of_ble_eq_true rfl) rfl ?_
        refine G_iload_n C 0 dX10_teaches_52 rfl rfl ?_
        exact G_iret C hr dX10_teaches_53 (by simp [x_teach, h8_1, h18_3, cl_q, cl_a]) (congrArg (fun z => wX cI cZ ad z t) (by simp [x_teach, h8_1, h18_3, cl_q, cl_a]))
      · replace h18_3 : inR (nI a) 32 = false := by rw [inR_nI hlt_a (by decide)]; exact decide_eq_false (by omega)
        refine G_iconst C dX10_teaches_21 kI_m1 ?_
        exact G_iret C hr dX10_teaches_22 (by simp [x_teach, h8_1, h18_3, cl_q]) (congrArg (fun z => wX cI cZ ad z t) (by simp [x_teach, h8_1, h18_3, cl_q]))
set_option maxHeartbeats 4000000 in
set_option maxRecDepth 100000 in
theorem c_X10_sends {x y : Int32} (hx : M 16 1 < 10) (hA : M 15 18 < 64) (hN : M 9 5 ≤ 6) (hB : ∀ k j, M k j < 1024) : CT l yX10_sends cX10_sends 3 (some .int) (rmOf 3 83) D (tyI cI cZ) [.ref (ad 0), .int (x), .int (y)] (wX cI cZ ad M t) (some (.int (x_send M x y).1)) (wX cI cZ ad (x_send M x y).2 t) := by
  refine CT_of (own := "FalseParity") (by decide) rfl (Nat.le_of_ble_eq_true rfl) (fun p e s m args below meth c C hr => ?_)
  refine G_aload_n C 0 dX10_sends_0 rfl rfl ?_
  refine G_get (v := .ref (ad 9)) C 0 2 dX10_sends_1 xc_0 rfl inG10 (by decide) wm_295 rfl rfl ?_
  refine G_iload_n C 1 dX10_sends_4 rfl rfl ?_
  refine G_callV1 C [.int (x)] 9 dX10_sends_5 (c_X1_hasNote hB) wm_447 wm_448 wm_449 wm_53 wm_450 xc_9 rfl ydc_X1_hasNote rfl ⟨Nat.le_of_ble_eq_true rfl, Nat.le_of_ble_eq_true rfl⟩ ⟨rfl, rfl⟩ ⟨Nat.le_refl _, Nat.le_refl _⟩ (Nat.le_of_ble_eq_true rfl) rfl ?_
  refine G_if_eqB (tgt := 18) C dX10_sends_8 (by decide) (fun h8_1 => ?_) (fun h8_1 => ?_)
  · refine G_iconst C dX10_sends_18 kI_m1 ?_
    exact G_iret C hr dX10_sends_19 (by simp [x_send, isYN_1, h8_1]) (congrArg (fun z => wX cI cZ ad z t) (by simp [x_send, isYN_1, h8_1]))
  · obtain ⟨n, hx_n, rfl⟩ := inR_of (by have := hB 9 5; omega) h8_1
    have cl_n := nI_clamp (n := n) (by have := hB 9 5; omega)
    refine G_iload_n C 2 dX10_sends_11 rfl rfl ?_
    refine G_callS1 C [.int (y)] dX10_sends_12 (c_X10_isYesOrNo) wm_578 wm_579 wm_50 wm_580 ydc_X10_isYesOrNo rfl ⟨Nat.le_of_ble_eq_true rfl, Nat.le_of_ble_eq_true rfl⟩ ⟨rfl, rfl⟩ ⟨Nat.le_refl _, Nat.le_refl _⟩ (Nat.le_of_ble_eq_true rfl) rfl ?_
    refine G_if_neB (tgt := 20) C dX10_sends_15 (by decide) (fun h15_2 => ?_) (fun h15_2 => ?_)
    · refine G_aload_n C 0 dX10_sends_20 rfl rfl ?_
      refine G_get (v := .ref (ad 14)) C 0 3 dX10_sends_21 xc_0 rfl inG10 (by decide) wm_296 rfl rfl ?_
      refine G_iload_n C 1 dX10_sends_24 rfl rfl ?_
      refine G_callV1 C [.int (nI n)] 14 dX10_sends_25 c_X6_isAway wm_466 wm_467 wm_468 wm_54 wm_469 xc_14 rfl ydc_X6_isAway rfl ⟨Nat.le_of_ble_eq_true rfl, Nat.le_of_ble_eq_true rfl⟩ ⟨rfl, rfl⟩ ⟨Nat.le_refl _, Nat.le_refl _⟩ (Nat.le_of_ble_eq_true rfl) rfl ?_
      refine G_iload_n C 2 dX10_sends_28 rfl rfl ?_
      refine G_iconst C dX10_sends_29 kI_1 ?_
      refine G_icmp_ne (tgt := 37) C dX10_sends_30 (by decide) (fun h30_3 => ?_) (fun h30_3 => ?_)
      · refine G_iconst C dX10_sends_37 kI_0 ?_
        refine G_icmp_neN (tgt := 44) C dX10_sends_38 (by decide) (bN_lt _) (by decide) (fun h38_4 => ?_) (fun h38_4 => ?_)
        · replace h38_4 := bN_d1 h38_4
          refine G_aload_n C 0 dX10_sends_44 rfl rfl ?_
          refine G_get (v := .ref (ad 16)) C 0 4 dX10_sends_45 xc_0 rfl inG10 (by decide) wm_297 rfl rfl ?_
          refine G_aload_n C 0 dX10_sends_48 rfl rfl ?_
          refine G_get (v := .ref (ad 14)) C 0 3 dX10_sends_49 xc_0 rfl inG10 (by decide) wm_296 rfl rfl ?_
          refine G_callV0 (w' := wX cI cZ ad (x_push M) t) C [.ref (ad 14)] 16 dX10_sends_52 (c_X2_push hx hB) wm_538 wm_539 wm_540 wm_55 wm_541 xc_16 rfl ydc_X2_push rfl ⟨Nat.le_of_ble_eq_true rfl, Nat.le_of_ble_eq_true rfl⟩ ⟨rfl, rfl⟩ ⟨Nat.le_refl _, Nat.le_refl _⟩ (Nat.le_of_ble_eq_true rfl) rfl ?_
          refine G_aload_n C 0 dX10_sends_55 rfl rfl ?_
          refine G_get (v := .ref (ad 14)) C 0 3 dX10_sends_56 xc_0 rfl inG10 (by decide) wm_296 rfl rfl ?_
          refine G_iload_n C 1 dX10_sends_59 rfl rfl ?_
          refine G_callV0 (w' := wX cI cZ ad (ms (x_push M) 15 (18) ((M 15 18) ^^^ (1 * 2 ^ n))) t) C [.int (nI n)] 14 dX10_sends_60 (c_X6_turnAway (by omega)) wm_581 wm_582 wm_583 wm_54 wm_584 xc_14 rfl ydc_X6_turnAway rfl ⟨Nat.le_of_ble_eq_true rfl, Nat.le_of_ble_eq_true rfl⟩ ⟨rfl, rfl⟩ ⟨Nat.le_refl _, Nat.le_refl _⟩ (Nat.le_of_ble_eq_true rfl) rfl ?_
          refine G_aload_n C 0 dX10_sends_63 rfl rfl ?_
          refine G_get (v := .ref (ad 14)) C 0 3 dX10_sends_64 xc_0 rfl inG10 (by decide) wm_296 rfl rfl ?_
          refine G_callV1 (v := .int (nI ((M 15 18) ^^^ (1 * 2 ^ n)))) C [] 14 dX10_sends_67 c_X6_away wm_504 wm_505 wm_506 wm_54 wm_507 xc_14 rfl ydc_X6_away rfl ⟨Nat.le_of_ble_eq_true rfl, Nat.le_of_ble_eq_true rfl⟩ ⟨rfl, rfl⟩ ⟨Nat.le_refl _, Nat.le_refl _⟩ (Nat.le_of_ble_eq_true rfl) rfl ?_
          refine G_callS1 (v := .int (nI (pc6 ((M 15 18) ^^^ (1 * 2 ^ n))))) C [.int (nI ((M 15 18) ^^^ (1 * 2 ^ n)))] dX10_sends_70 (c_J6_bitCount_0f7a4 (xor_lt hA (by omega))) wm_585 wm_586 wm_64 wm_587 ydc_J6_bitCount_0f7a4 rfl ⟨Nat.le_of_ble_eq_true rfl, Nat.le_of_ble_eq_true rfl⟩ ⟨rfl, rfl⟩ ⟨Nat.le_refl _, Nat.le_refl _⟩ (Nat.le_of_ble_eq_true rfl) rfl ?_
          exact G_iret C hr dX10_sends_73 (by simp [x_send, isYN_1, h8_1, h15_2, h30_3, h38_4, cl_n]) (congrArg (fun z => wX cI cZ ad z t) (by simp [x_send, isYN_1, h8_1, h15_2, h30_3, h38_4, cl_n]))
        · replace h38_4 := bN_d0 h38_4
          refine G_bipush C dX10_sends_41 kB_m2 ?_
          exact G_iret C hr dX10_sends_43 (by simp [x_send, isYN_1, h8_1, h15_2, h30_3, h38_4, cl_n]) (congrArg (fun z => wX cI cZ ad z t) (by simp [x_send, isYN_1, h8_1, h15_2, h30_3, h38_4, cl_n]))
      · refine G_iconst C dX10_sends_33 kI_1 ?_
        refine G_goto (tgt := 38) C dX10_sends_34 (by decide) ?_
        refine G_icmp_neN (tgt := 44) C dX10_sends_38 (by decide) (bN_lt _) (by decide) (fun h38_5 => ?_) (fun h38_5 => ?_)
        · replace h38_5 := bN_c0 h38_5
          refine G_aload_n C 0 dX10_sends_44 rfl rfl ?_
          refine G_get (v := .ref (ad 16)) C 0 4 dX10_sends_45 xc_0 rfl inG10 (by decide) wm_297 rfl rfl ?_
          refine G_aload_n C 0 dX10_sends_48 rfl rfl ?_
          refine G_get (v := .ref (ad 14)) C 0 3 dX10_sends_49 xc_0 rfl inG10 (by decide) wm_296 rfl rfl ?_
          refine G_callV0 (w' := wX cI cZ ad (x_push M) t) C [.ref (ad 14)] 16 dX10_sends_52 (c_X2_push hx hB) wm_538 wm_539 wm_540 wm_55 wm_541 xc_16 rfl ydc_X2_push rfl ⟨Nat.le_of_ble_eq_true rfl, Nat.le_of_ble_eq_true rfl⟩ ⟨rfl, rfl⟩ ⟨Nat.le_refl _, Nat.le_refl _⟩ (Nat.le_of_ble_eq_true rfl) rfl ?_
          refine G_aload_n C 0 dX10_sends_55 rfl rfl ?_
          refine G_get (v := .ref (ad 14)) C 0 3 dX10_sends_56 xc_0 rfl inG10 (by decide) wm_296 rfl rfl ?_
          refine G_iload_n C 1 dX10_sends_59 rfl rfl ?_
          refine G_callV0 (w' := wX cI cZ ad (ms (x_push M) 15 (18) ((M 15 18) ^^^ (1 * 2 ^ n))) t) C [.int (nI n)] 14 dX10_sends_60 (c_X6_turnAway (by omega)) wm_581 wm_582 wm_583 wm_54 wm_584 xc_14 rfl ydc_X6_turnAway rfl ⟨Nat.le_of_ble_eq_true rfl, Nat.le_of_ble_eq_true rfl⟩ ⟨rfl, rfl⟩ ⟨Nat.le_refl _, Nat.le_refl _⟩ (Nat.le_of_ble_eq_true rfl) rfl ?_
          refine G_aload_n C 0 dX10_sends_63 rfl rfl ?_
          refine G_get (v := .ref (ad 14)) C 0 3 dX10_sends_64 xc_0 rfl inG10 (by decide) wm_296 rfl rfl ?_
          refine G_callV1 (v := .int (nI ((M 15 18) ^^^ (1 * 2 ^ n)))) C [] 14 dX10_sends_67 c_X6_away wm_504 wm_505 wm_506 wm_54 wm_507 xc_14 rfl ydc_X6_away rfl ⟨Nat.le_of_ble_eq_true rfl, Nat.le_of_ble_eq_true rfl⟩ ⟨rfl, rfl⟩ ⟨Nat.le_refl _, Nat.le_refl _⟩ (Nat.le_of_ble_eq_true rfl) rfl ?_
          refine G_callS1 (v := .int (nI (pc6 ((M 15 18) ^^^ (1 * 2 ^ n))))) C [.int (nI ((M 15 18) ^^^ (1 * 2 ^ n)))] dX10_sends_70 (c_J6_bitCount_0f7a4 (xor_lt hA (by omega))) wm_585 wm_586 wm_64 wm_587 ydc_J6_bitCount_0f7a4 rfl ⟨Nat.le_of_ble_eq_true rfl, Nat.le_of_ble_eq_true rfl⟩ ⟨rfl, rfl⟩ ⟨Nat.le_refl _, Nat.le_refl _⟩ (Nat.le_of_ble_eq_true rfl) rfl ?_
          exact G_iret C hr dX10_sends_73 (by simp [x_send, isYN_1, h8_1, h15_2, h30_3, h38_5, cl_n]) (congrArg (fun z => wX cI cZ ad z t) (by simp [x_send, isYN_1, h8_1, h15_2, h30_3, h38_5, cl_n]))
        · replace h38_5 := bN_c1 h38_5
          refine G_bipush C dX10_sends_41 kB_m2 ?_
          exact G_iret C hr dX10_sends_43 (by simp [x_send, isYN_1, h8_1, h15_2, h30_3, h38_5, cl_n]) (congrArg (fun z => wX cI cZ ad z t) (by simp [x_send, isYN_1, h8_1, h15_2, h30_3, h38_5, cl_n]))
    · refine G_iconst C dX10_sends_18 kI_m1 ?_
      exact G_iret C hr dX10_sends_19 (by simp [x_send, isYN_1, h8_1, h15_2, cl_n]) (congrArg (fun z => wX cI cZ ad z t) (by simp [x_send, isYN_1, h8_1, h15_2, cl_n]))
set_option maxHeartbeats 4000000 in
set_option maxRecDepth 100000 in
theorem c_X10_undo  (hx : M 16 1 < 10) (hB : ∀ k j, M k j < 1024) : CT l yX10_undo cX10_undo 1 (some .int) (rmOf 3 83) D (tyI cI cZ) [.ref (ad 0)] (wX cI cZ ad M t) (some (.int (x_undo M).1)) (wX cI cZ ad (x_undo M).2 t) := by
  refine CT_of (own := "FalseParity") (by decide) rfl (Nat.le_of_ble_eq_true rfl) (fun p e s m args below meth c C hr => ?_)
  refine G_aload_n C 0 dX10_undo_0 rfl rfl ?_
  refine G_get (v := .ref (ad 16)) C 0 4 dX10_undo_1 xc_0 rfl inG10 (by decide) wm_297 rfl rfl ?_
  refine G_getN (v := .int (nI (M 16 2))) C 16 2 dX10_undo_4 xc_16 rfl inG2 (by decide) wn_196 rfl rfl ?_
  refine G_if_neN (tgt := 13) C dX10_undo_7 (by decide) (by have := hB 16 2; omega) (fun h7_1 => ?_) (fun h7_1 => ?_)
  · refine G_aload_n C 0 dX10_undo_13 rfl rfl ?_
    refine G_get (v := .ref (ad 16)) C 0 4 dX10_undo_14 xc_0 rfl inG10 (by decide) wm_297 rfl rfl ?_
    refine G_aload_n C 0 dX10_undo_17 rfl rfl ?_
    refine G_get (v := .ref (ad 14)) C 0 3 dX10_undo_18 xc_0 rfl inG10 (by decide) wm_296 rfl rfl ?_
    refine G_callV0 (w' := wX cI cZ ad (x_pop M) t) C [.ref (ad 14)] 16 dX10_undo_21 (c_X2_pop hx (by omega) hB) wm_595 wm_596 wm_597 wm_55 wm_598 xc_16 rfl ydc_X2_pop rfl ⟨Nat.le_of_ble_eq_true rfl, Nat.le_of_ble_eq_true rfl⟩ ⟨rfl, rfl⟩ ⟨Nat.le_refl _, Nat.le_refl _⟩ (Nat.le_of_ble_eq_true rfl) rfl ?_
    refine G_aload_n C 0 dX10_undo_24 rfl rfl ?_
    refine G_get (v := .ref (ad 16)) C 0 4 dX10_undo_25 xc_0 rfl inG10 (by decide) wm_297 rfl rfl ?_
    refine G_getN (v := .int (nI ((x_pop M) 16 2))) C 16 2 dX10_undo_28 xc_16 rfl inG2 (by decide) wn_196 rfl rfl ?_
    exact G_iret C hr dX10_undo_31 (by rw [show x_undo M = _ from if_neg (Nat.pos_iff_ne_zero.mp h7_1)]; rfl) (by rw [show x_undo M = _ from if_neg (Nat.pos_iff_ne_zero.mp h7_1)])
  · refine G_bipush C dX10_undo_10 kB_m2 ?_
    exact G_iret C hr dX10_undo_12 (by simp [x_undo, h7_1]) (congrArg (fun z => wX cI cZ ad z t) (by simp [x_undo, h7_1]))
set_option maxHeartbeats 4000000 in
set_option maxRecDepth 100000 in
theorem c_X10_soonest {x k : Int32} (hU : ∀ n, n < M 9 5 → 0 < M 12 n → hb (nI (M 15 17)) n = false → M 15 (6 + n) ≤ M 9 6) (hN : M 9 5 ≤ 6) (hP : M 9 4 ≤ 5) (hB : ∀ k j, M k j < 1024) : CT l yX10_soonest cX10_soonest 4 (some .int) (rmOf 5 111) D (tyI cI cZ) [.ref (ad 0), .int (x), .int (k)] (wX cI cZ ad M t) (some (.int (x_soon M x k))) (wX cI cZ ad M t) := by
  refine CT_of (own := "FalseParity") (by decide) rfl (Nat.le_of_ble_eq_true rfl) (fun p e s m args below meth c C hr => ?_)
  refine G_aload_n C 0 dX10_soonest_0 rfl rfl ?_
  refine G_get (v := .ref (ad 9)) C 0 2 dX10_soonest_1 xc_0 rfl inG10 (by decide) wm_295 rfl rfl ?_
  refine G_iload_n C 1 dX10_soonest_4 rfl rfl ?_
  refine G_callV1 C [.int (x)] 9 dX10_soonest_5 (c_X1_hasNote hB) wm_447 wm_448 wm_449 wm_53 wm_450 xc_9 rfl ydc_X1_hasNote rfl ⟨Nat.le_of_ble_eq_true rfl, Nat.le_of_ble_eq_true rfl⟩ ⟨rfl, rfl⟩ ⟨Nat.le_refl _, Nat.le_refl _⟩ (Nat.le_of_ble_eq_true rfl) rfl ?_
  refine G_if_eqB (tgt := 16) C dX10_soonest_8 (by decide) (fun h8_1 => ?_) (fun h8_1 => ?_)
  · refine G_iconst C dX10_soonest_16 kI_m1 ?_
    exact G_iret C hr dX10_soonest_17 (by simp [x_soon, x_soonN, h8_1]) (rfl)
  · obtain ⟨n, hx_n, rfl⟩ := inR_of (by have := hB 9 5; omega) h8_1
    have cl_n := nI_clamp (n := n) (by have := hB 9 5; omega)
    refine G_iload_n C 2 dX10_soonest_11 rfl rfl ?_
    refine G_iconst C dX10_soonest_12 kI_m1 ?_
    refine G_icmp_ge (tgt := 18) C dX10_soonest_13 (by decide) (fun h13_2 => ?_) (fun h13_2 => ?_)
    · refine G_aload_n C 0 dX10_soonest_18 rfl rfl ?_
      refine G_get (v := .ref (ad 14)) C 0 3 dX10_soonest_19 xc_0 rfl inG10 (by decide) wm_296 rfl rfl ?_
      refine G_iload_n C 1 dX10_soonest_22 rfl rfl ?_
      refine G_callV1 C [.int (nI n)] 14 dX10_soonest_23 c_X6_isAway wm_466 wm_467 wm_468 wm_54 wm_469 xc_14 rfl ydc_X6_isAway rfl ⟨Nat.le_of_ble_eq_true rfl, Nat.le_of_ble_eq_true rfl⟩ ⟨rfl, rfl⟩ ⟨Nat.le_refl _, Nat.le_refl _⟩ (Nat.le_of_ble_eq_true rfl) rfl ?_
      refine G_if_neB (tgt := 51) C dX10_soonest_26 (by decide) (fun h26_3 => ?_) (fun h26_3 => ?_)
      · refine G_bipush C dX10_soonest_51 kB_m2 ?_
        exact G_iret C hr dX10_soonest_53 (by simp [x_soon, x_soonN, h8_1, h13_2, h26_3, cl_n]) (rfl)
      · refine G_aload_n C 0 dX10_soonest_29 rfl rfl ?_
        refine G_get (v := .ref (ad 9)) C 0 2 dX10_soonest_30 xc_0 rfl inG10 (by decide) wm_295 rfl rfl ?_
        refine G_iload_n C 1 dX10_soonest_33 rfl rfl ?_
        refine G_callV1 C [.int (nI n)] 9 dX10_soonest_34 (c_X1_isFalse (by omega) hB) wm_561 wm_531 wm_532 wm_53 wm_533 xc_9 rfl ydc_X1_isFalse rfl ⟨Nat.le_of_ble_eq_true rfl, Nat.le_of_ble_eq_true rfl⟩ ⟨rfl, rfl⟩ ⟨Nat.le_refl _, Nat.le_refl _⟩ (Nat.le_of_ble_eq_true rfl) rfl ?_
        refine G_if_eqB (tgt := 51) C dX10_soonest_37 (by decide) (fun h37_4 => ?_) (fun h37_4 => ?_)
        · replace h37_4 := of_decide_eq_false h37_4
          refine G_bipush C dX10_soonest_51 kB_m2 ?_
          exact G_iret C hr dX10_soonest_53 (by simp [x_soon, x_soonN, h8_1, h13_2, h26_3, h37_4, cl_n]) (rfl)
        · replace h37_4 := of_decide_eq_true h37_4
          refine G_aload_n C 0 dX10_soonest_40 rfl rfl ?_
          refine G_get (v := .ref (ad 14)) C 0 3 dX10_soonest_41 xc_0 rfl inG10 (by decide) wm_296 rfl rfl ?_
          refine G_iload_n C 1 dX10_soonest_44 rfl rfl ?_
          refine G_callV1 C [.int (nI n)] 14 dX10_soonest_45 c_X6_hasParity wm_459 wm_460 wm_461 wm_54 wm_462 xc_14 rfl ydc_X6_hasParity rfl ⟨Nat.le_of_ble_eq_true rfl, Nat.le_of_ble_eq_true rfl⟩ ⟨rfl, rfl⟩ ⟨Nat.le_refl _, Nat.le_refl _⟩ (Nat.le_of_ble_eq_true rfl) rfl ?_
          refine G_if_eqB (tgt := 54) C dX10_soonest_48 (by decide) (fun h48_5 => ?_) (fun h48_5 => ?_)
          · have hu := hU n hx_n h37_4 h48_5
            refine G_aload_n C 0 dX10_soonest_54 rfl rfl ?_
            refine G_get (v := .ref (ad 20)) C 0 6 dX10_soonest_55 xc_0 rfl inG10 (by decide) wm_299 rfl rfl ?_
            refine G_iload_n C 1 dX10_soonest_58 rfl rfl ?_
            refine G_callV1 C [.int (nI n)] 20 dX10_soonest_59 (c_X7_neededForParity (by omega) hu) wm_607 wm_608 wm_609 wm_57 wm_610 xc_20 rfl ydc_X7_neededForParity rfl ⟨Nat.le_of_ble_eq_true rfl, Nat.le_of_ble_eq_true rfl⟩ ⟨rfl, rfl⟩ ⟨Nat.le_refl _, Nat.le_refl _⟩ (Nat.le_of_ble_eq_true rfl) rfl ?_
            refine G_istore_n (lv' := [(3, .int (nI (M 9 6 - M 15 (6 + n)))), (0, .ref (ad 0)), (1, .int (nI n)), (2, .int (k))]) C dX10_soonest_62 rfl (by decide) rfl ?_
            refine G_aload_n C 1 dX10_soonest_63 rfl rfl ?_
            refine G_get (v := .ref (ad 20)) C 0 6 dX10_soonest_64 xc_0 rfl inG10 (by decide) wm_299 rfl rfl ?_
            refine G_iload_n C 2 dX10_soonest_67 rfl rfl ?_
            refine G_iload_n C 0 dX10_soonest_68 rfl rfl ?_
            refine G_callV1 C [.int (nI n), .int (nI (M 9 6 - M 15 (6 + n)))] 20 dX10_soonest_69 (c_X7_canGoOn (by omega) (by have := hB 9 6; omega) hP hB) wm_612 wm_613 wm_614 wm_57 wm_615 xc_20 rfl ydc_X7_canGoOn rfl ⟨Nat.le_of_ble_eq_true rfl, Nat.le_of_ble_eq_true rfl⟩ ⟨rfl, rfl⟩ ⟨Nat.le_refl _, Nat.le_refl _⟩ (Nat.le_of_ble_eq_true rfl) rfl ?_
            refine G_if_neB (tgt := 78) C dX10_soonest_72 (by decide) (fun h72_6 => ?_) (fun h72_6 => ?_)
            · refine G_iload_n C 3 dX10_soonest_78 rfl rfl ?_
              refine G_iconst C dX10_soonest_79 kI_m1 ?_
              refine G_icmp_ne (tgt := 85) C dX10_soonest_80 (by decide) (fun h80_7 => ?_) (fun h80_7 => ?_)
              · obtain ⟨j, hlt_j, rfl⟩ := nI_of (ge_m1 h13_2 h80_7)
                refine G_iload_n C 3 dX10_soonest_85 rfl rfl ?_
                refine G_iload_n C 0 dX10_soonest_86 rfl rfl ?_
                refine G_icmp_geN (tgt := 102) C dX10_soonest_87 (by decide) (by omega) (by have := hB 9 6; have := hB 15 (6 + n); omega) (fun h87_8 => ?_) (fun h87_8 => ?_)
                · have hi87 := nI_nlt h87_8 hlt_j
                  refine G_bipush C dX10_soonest_102 kB_m5 ?_
                  exact G_iret C hr dX10_soonest_104 (by simp [x_soon, x_soonN, h8_1, h13_2, h26_3, h37_4, h48_5, h72_6, h80_7, cl_n, nI_m1 hlt_j, nI_clamp hlt_j, hi87]) (rfl)
                · have hi87 := nI_lt h87_8 (by have := hB 9 6; omega)
                  refine G_aload_n C 1 dX10_soonest_90 rfl rfl ?_
                  refine G_get (v := .ref (ad 20)) C 0 6 dX10_soonest_91 xc_0 rfl inG10 (by decide) wm_299 rfl rfl ?_
                  refine G_iload_n C 2 dX10_soonest_94 rfl rfl ?_
                  refine G_iload_n C 3 dX10_soonest_95 rfl rfl ?_
                  refine G_callV1 C [.int (nI n), .int (nI j)] 20 dX10_soonest_96 (c_X7_personOfRow (by omega) (by have := hB 9 6; omega) hP hB) wm_627 wm_628 wm_629 wm_57 wm_630 xc_20 rfl ydc_X7_personOfRow rfl ⟨Nat.le_of_ble_eq_true rfl, Nat.le_of_ble_eq_true rfl⟩ ⟨rfl, rfl⟩ ⟨Nat.le_refl _, Nat.le_refl _⟩ (Nat.le_of_ble_eq_true rfl) rfl ?_
                  refine G_goto (tgt := 104) C dX10_soonest_99 (by decide) ?_
                  exact G_iret C hr dX10_soonest_104 (by simp [x_soon, x_soonN, h8_1, h13_2, h26_3, h37_4, h48_5, h72_6, h80_7, cl_n, nI_m1 hlt_j, nI_clamp hlt_j, hi87]) (rfl)
              · refine G_iload_n C 0 dX10_soonest_83 rfl rfl ?_
                exact G_iret C hr dX10_soonest_84 (by simp [x_soon, x_soonN, h8_1, h13_2, h26_3, h37_4, h48_5, h72_6, h80_7, cl_n]) (rfl)
            · refine G_bipush C dX10_soonest_75 kB_m9 ?_
              exact G_iret C hr dX10_soonest_77 (by simp [x_soon, x_soonN, h8_1, h13_2, h26_3, h37_4, h48_5, h72_6, cl_n]) (rfl)
          · refine G_bipush C dX10_soonest_51 kB_m2 ?_
            exact G_iret C hr dX10_soonest_53 (by simp [x_soon, x_soonN, h8_1, h13_2, h26_3, h37_4, h48_5, cl_n]) (rfl)
    · refine G_iconst C dX10_soonest_16 kI_m1 ?_
      exact G_iret C hr dX10_soonest_17 (by simp [x_soon, x_soonN, h8_1, h13_2]) (rfl)
set_option maxHeartbeats 4000000 in
set_option maxRecDepth 100000 in
theorem c_X10_till {x : Int32} (hN : M 9 5 ≤ 6) (hP : M 9 4 ≤ 5) (hB : ∀ k j, M k j < 1024) : CT l yX10_till cX10_till 2 (some .int) (rmOf 5 110) D (tyI cI cZ) [.ref (ad 0), .int (x)] (wX cI cZ ad M t) (some (.int (x_till M x))) (wX cI cZ ad M t) := by
  refine CT_of (own := "FalseParity") (by decide) rfl (Nat.le_of_ble_eq_true rfl) (fun p e s m args below meth c C hr => ?_)
  refine G_aload_n C 0 dX10_till_0 rfl rfl ?_
  refine G_get (v := .ref (ad 9)) C 0 2 dX10_till_1 xc_0 rfl inG10 (by decide) wm_295 rfl rfl ?_
  refine G_iload_n C 1 dX10_till_4 rfl rfl ?_
  refine G_callV1 C [.int (x)] 9 dX10_till_5 (c_X1_hasNote hB) wm_447 wm_448 wm_449 wm_53 wm_450 xc_9 rfl ydc_X1_hasNote rfl ⟨Nat.le_of_ble_eq_true rfl, Nat.le_of_ble_eq_true rfl⟩ ⟨rfl, rfl⟩ ⟨Nat.le_refl _, Nat.le_refl _⟩ (Nat.le_of_ble_eq_true rfl) rfl ?_
  refine G_if_neB (tgt := 13) C dX10_till_8 (by decide) (fun h8_1 => ?_) (fun h8_1 => ?_)
  · obtain ⟨n, hx_n, rfl⟩ := inR_of (by have := hB 9 5; omega) h8_1
    have cl_n := nI_clamp (n := n) (by have := hB 9 5; omega)
    refine G_aload_n C 0 dX10_till_13 rfl rfl ?_
    refine G_get (v := .ref (ad 14)) C 0 3 dX10_till_14 xc_0 rfl inG10 (by decide) wm_296 rfl rfl ?_
    refine G_iload_n C 1 dX10_till_17 rfl rfl ?_
    refine G_callV1 C [.int (nI n)] 14 dX10_till_18 c_X6_isAway wm_466 wm_467 wm_468 wm_54 wm_469 xc_14 rfl ydc_X6_isAway rfl ⟨Nat.le_of_ble_eq_true rfl, Nat.le_of_ble_eq_true rfl⟩ ⟨rfl, rfl⟩ ⟨Nat.le_refl _, Nat.le_refl _⟩ (Nat.le_of_ble_eq_true rfl) rfl ?_
    refine G_if_eqB (tgt := 29) C dX10_till_21 (by decide) (fun h21_2 => ?_) (fun h21_2 => ?_)
    · refine G_aload_n C 0 dX10_till_29 rfl rfl ?_
      refine G_get (v := .ref (ad 20)) C 0 6 dX10_till_30 xc_0 rfl inG10 (by decide) wm_299 rfl rfl ?_
      refine G_iload_n C 1 dX10_till_33 rfl rfl ?_
      refine G_callV1 C [.int (nI n)] 20 dX10_till_34 (c_X7_most (by omega) hP hB) wm_639 wm_640 wm_641 wm_57 wm_642 xc_20 rfl ydc_X7_most rfl ⟨Nat.le_of_ble_eq_true rfl, Nat.le_of_ble_eq_true rfl⟩ ⟨rfl, rfl⟩ ⟨Nat.le_refl _, Nat.le_refl _⟩ (Nat.le_of_ble_eq_true rfl) rfl ?_
      exact G_iret C hr dX10_till_37 (by simp [x_till, h8_1, h21_2, cl_n]) (rfl)
    · refine G_bipush C dX10_till_24 kB_m2 ?_
      refine G_goto (tgt := 37) C dX10_till_26 (by decide) ?_
      exact G_iret C hr dX10_till_37 (by simp [x_till, h8_1, h21_2, cl_n]) (rfl)
  · refine G_iconst C dX10_till_11 kI_m1 ?_
    exact G_iret C hr dX10_till_12 (by simp [x_till, h8_1]) (rfl)
set_option maxHeartbeats 4000000 in
set_option maxRecDepth 100000 in
theorem c_X10_inLeastTerms {u d : Nat} {x : Int32} (hu : u < 2 ^ 31) (hd : d < 2 ^ 31) : CT l yX10_inLeastTerms cX10_inLeastTerms 4 (some .int) (rmOf 0 0) D (tyI cI cZ) [.int (nI u), .int (nI d), .int (x)] (wX cI cZ ad M t) (some (.int (x_ilt u d x))) (wX cI cZ ad M t) := by
  refine CT_of (own := "FalseParity") (by decide) rfl (Nat.le_of_ble_eq_true rfl) (fun p e s m args below meth c C hr => ?_)
  refine G_iload_n C 1 dX10_inLeastTerms_0 rfl rfl ?_
  refine G_istore_n (lv' := [(3, .int (nI d)), (0, .int (nI u)), (1, .int (nI d)), (2, .int (x))]) C dX10_inLeastTerms_1 rfl (by decide) rfl ?_
  refine G_pick (lv' := [(0, .int (nI u)), (1, .int (nI d)), (2, .int (x)), (3, .int (nI d))]) [1, 2, 3, 0] rfl ?_
  refine loopN (P := fun i => (∀ z, z < i → ¬ (u % (d - z) = 0 ∧ d % (d - z) = 0)) → G p l e (rmOf 0 0) s m args below meth c D _ 4 0 0 _ 2 [(0, .int (nI u)), (1, .int (nI d)), (2, .int (x)), (3, .int (nI (d - i)))] [] (wX cI cZ ad M t)) (d) ?_ ?_ 0 (Nat.zero_le _)  (fun z h => absurd h (Nat.not_lt_zero z))
  · intro  hi1_0
    refine G_iload_n C 3 dX10_inLeastTerms_2 rfl rfl ?_
    refine G_if_leN (tgt := 36) C dX10_inLeastTerms_3 (by decide) (by omega) (fun h3_2 => ?_) (fun h3_2 => ?_)
    · refine G_iload_n C 2 dX10_inLeastTerms_36 rfl rfl ?_
      refine G_if_ne (tgt := 44) C dX10_inLeastTerms_37 (by decide) (fun h37_3 => ?_) (fun h37_3 => ?_)
      · refine G_iconst C dX10_inLeastTerms_44 kI_1 ?_
        exact G_iret C hr dX10_inLeastTerms_45 (by unfold x_ilt; rw [if_pos (ilt_0 hi1_0), if_neg h37_3]) (rfl)
      · refine G_iconst C dX10_inLeastTerms_40 kI_0 ?_
        refine G_goto (tgt := 45) C dX10_inLeastTerms_41 (by decide) ?_
        exact G_iret C hr dX10_inLeastTerms_45 (by unfold x_ilt; rw [if_pos (ilt_0 hi1_0), if_pos h37_3]) (rfl)
    · exfalso; omega
  · intro i hi ih1  hi1_0
    refine G_iload_n C 3 dX10_inLeastTerms_2 rfl rfl ?_
    refine G_if_leN (tgt := 36) C dX10_inLeastTerms_3 (by decide) (by omega) (fun h3_4 => ?_) (fun h3_4 => ?_)
    · exfalso; omega
    · refine G_iload_n C 0 dX10_inLeastTerms_6 rfl rfl ?_
      refine G_iload_n C 3 dX10_inLeastTerms_7 rfl rfl ?_
      refine G_iremN C dX10_inLeastTerms_8 (by omega) (by omega) (by omega) ?_
      refine G_if_neN (tgt := 30) C dX10_inLeastTerms_9 (by decide) (Nat.lt_of_le_of_lt (Nat.mod_le _ _) hu) (fun h9_5 => ?_) (fun h9_5 => ?_)
      · refine G_iinc (lv' := [(3, .int (nI (d - (i + 1)))), (0, .int (nI u)), (1, .int (nI d)), (2, .int (x))]) C 3 dX10_inLeastTerms_30 rfl ((sb_m1 (by omega)).trans (congrArg nI (by omega))) (by decide) rfl ?_
        refine G_goto (tgt := 2) C dX10_inLeastTerms_33 (by decide) ?_
        refine G_pick (lv' := [(0, .int (nI u)), (1, .int (nI d)), (2, .int (x)), (3, .int (nI (d - (i + 1))))]) [1, 2, 3, 0] rfl ?_
        exact ih1  (lt_succ_all (P := fun z => ¬ (u % (d - z) = 0 ∧ d % (d - z) = 0)) hi1_0 (by omega))
      · refine G_iload_n C 1 dX10_inLeastTerms_12 rfl rfl ?_
        refine G_iload_n C 3 dX10_inLeastTerms_13 rfl rfl ?_
        refine G_iremN C dX10_inLeastTerms_14 (by omega) (by omega) (by omega) ?_
        refine G_if_neN (tgt := 30) C dX10_inLeastTerms_15 (by decide) (Nat.lt_of_le_of_lt (Nat.mod_le _ _) hd) (fun h15_6 => ?_) (fun h15_6 => ?_)
        · refine G_iinc (lv' := [(3, .int (nI (d - (i + 1)))), (0, .int (nI u)), (1, .int (nI d)), (2, .int (x))]) C 3 dX10_inLeastTerms_30 rfl ((sb_m1 (by omega)).trans (congrArg nI (by omega))) (by decide) rfl ?_
          refine G_goto (tgt := 2) C dX10_inLeastTerms_33 (by decide) ?_
          refine G_pick (lv' := [(0, .int (nI u)), (1, .int (nI d)), (2, .int (x)), (3, .int (nI (d - (i + 1))))]) [1, 2, 3, 0] rfl ?_
          exact ih1  (lt_succ_all (P := fun z => ¬ (u % (d - z) = 0 ∧ d % (d - z) = 0)) hi1_0 (by omega))
        · refine G_iload_n C 2 dX10_inLeastTerms_18 rfl rfl ?_
          refine G_if_ne (tgt := 26) C dX10_inLeastTerms_19 (by decide) (fun h19_7 => ?_) (fun h19_7 => ?_)
          · refine G_iload_n C 1 dX10_inLeastTerms_26 rfl rfl ?_
            refine G_iload_n C 3 dX10_inLeastTerms_27 rfl rfl ?_
            refine G_idivN C dX10_inLeastTerms_28 (by omega) (by omega) (by omega) ?_
            exact G_iret C hr dX10_inLeastTerms_29 (by have e := gcd_first (by omega) hi hi1_0 h9_5 h15_6; unfold x_ilt; rw [if_neg (by omega), if_neg h19_7, e]) (rfl)
          · refine G_iload_n C 0 dX10_inLeastTerms_22 rfl rfl ?_
            refine G_goto (tgt := 27) C dX10_inLeastTerms_23 (by decide) ?_
            refine G_iload_n C 3 dX10_inLeastTerms_27 rfl rfl ?_
            refine G_idivN C dX10_inLeastTerms_28 (by omega) (by omega) (by omega) ?_
            exact G_iret C hr dX10_inLeastTerms_29 (by have e := gcd_first (by omega) hi hi1_0 h9_5 h15_6; unfold x_ilt; rw [if_neg (by omega), if_pos h19_7, e]) (rfl)
set_option maxHeartbeats 4000000 in
set_option maxRecDepth 100000 in
theorem c_X10_odds {x y z : Int32} (hH : ∀ n, n < M 9 5 → M 15 n < M 9 4) (hN : M 9 5 ≤ 6) (hP : M 9 4 ≤ 5) (hB : ∀ k j, M k j < 1024) : CT l yX10_odds cX10_odds 6 (some .int) (rmOf 5 112) D (tyI cI cZ) [.ref (ad 0), .int (x), .int (y), .int (z)] (wX cI cZ ad M t) (some (.int (x_odds M x y z))) (wX cI cZ ad M t) := by
  refine CT_of (own := "FalseParity") (by decide) rfl (Nat.le_of_ble_eq_true rfl) (fun p e s m args below meth c C hr => ?_)
  refine G_aload_n C 0 dX10_odds_0 rfl rfl ?_
  refine G_get (v := .ref (ad 9)) C 0 2 dX10_odds_1 xc_0 rfl inG10 (by decide) wm_295 rfl rfl ?_
  refine G_iload_n C 1 dX10_odds_4 rfl rfl ?_
  refine G_callV1 C [.int (x)] 9 dX10_odds_5 (c_X1_hasNote hB) wm_447 wm_448 wm_449 wm_53 wm_450 xc_9 rfl ydc_X1_hasNote rfl ⟨Nat.le_of_ble_eq_true rfl, Nat.le_of_ble_eq_true rfl⟩ ⟨rfl, rfl⟩ ⟨Nat.le_refl _, Nat.le_refl _⟩ (Nat.le_of_ble_eq_true rfl) rfl ?_
  refine G_if_eqB (tgt := 27) C dX10_odds_8 (by decide) (fun h8_1 => ?_) (fun h8_1 => ?_)
  · refine G_iconst C dX10_odds_27 kI_m1 ?_
    exact G_iret C hr dX10_odds_28 (by simp [x_odds, h8_1]) (rfl)
  · obtain ⟨n, hx_n, rfl⟩ := inR_of (by have := hB 9 5; omega) h8_1
    have cl_n := nI_clamp (n := n) (by have := hB 9 5; omega)
    have hh := hH n hx_n
    refine G_iload_n C 2 dX10_odds_11 rfl rfl ?_
    refine G_if_lt (tgt := 27) C dX10_odds_12 (by decide) (fun h12_2 => ?_) (fun h12_2 => ?_)
    · replace h12_2 := inR_neg (n := 5) h12_2
      refine G_iconst C dX10_odds_27 kI_m1 ?_
      exact G_iret C hr dX10_odds_28 (by simp [x_odds, h8_1, h12_2]) (rfl)
    · obtain ⟨k, hlt_k, rfl⟩ := nI_of h12_2
      refine G_iload_n C 2 dX10_odds_15 rfl rfl ?_
      refine G_iconst C dX10_odds_16 kI_4 ?_
      refine G_icmp_gtN (tgt := 27) C dX10_odds_17 (by decide) (by omega) (by decide) (fun h17_3 => ?_) (fun h17_3 => ?_)
      · replace h17_3 : inR (nI k) 5 = false := by rw [inR_nI hlt_k (by decide)]; exact decide_eq_false (by omega)
        refine G_iconst C dX10_odds_27 kI_m1 ?_
        exact G_iret C hr dX10_odds_28 (by simp [x_odds, h8_1, h17_3]) (rfl)
      · replace h17_3 : inR (nI k) 5 = true := by rw [inR_nI hlt_k (by decide)]; exact decide_eq_true (by omega)
        have cl_k := nI_clamp hlt_k
        have hk5 : k < 5 := by rw [inR_nI hlt_k (by decide)] at h17_3; exact of_decide_eq_true h17_3
        refine G_iload_n C 3 dX10_odds_20 rfl rfl ?_
        refine G_callS1 C [.int (z)] dX10_odds_21 (c_X10_isYesOrNo) wm_578 wm_579 wm_50 wm_580 ydc_X10_isYesOrNo rfl ⟨Nat.le_of_ble_eq_true rfl, Nat.le_of_ble_eq_true rfl⟩ ⟨rfl, rfl⟩ ⟨Nat.le_refl _, Nat.le_refl _⟩ (Nat.le_of_ble_eq_true rfl) rfl ?_
        refine G_if_neB (tgt := 29) C dX10_odds_24 (by decide) (fun h24_4 => ?_) (fun h24_4 => ?_)
        · refine G_aload_n C 0 dX10_odds_29 rfl rfl ?_
          refine G_get (v := .ref (ad 14)) C 0 3 dX10_odds_30 xc_0 rfl inG10 (by decide) wm_296 rfl rfl ?_
          refine G_iload_n C 1 dX10_odds_33 rfl rfl ?_
          refine G_callV1 C [.int (nI n)] 14 dX10_odds_34 c_X6_isAway wm_466 wm_467 wm_468 wm_54 wm_469 xc_14 rfl ydc_X6_isAway rfl ⟨Nat.le_of_ble_eq_true rfl, Nat.le_of_ble_eq_true rfl⟩ ⟨rfl, rfl⟩ ⟨Nat.le_refl _, Nat.le_refl _⟩ (Nat.le_of_ble_eq_true rfl) rfl ?_
          refine G_if_eqB (tgt := 43) C dX10_odds_37 (by decide) (fun h37_5 => ?_) (fun h37_5 => ?_)
          · refine G_aload_n C 0 dX10_odds_43 rfl rfl ?_
            refine G_get (v := .ref (ad 20)) C 0 6 dX10_odds_44 xc_0 rfl inG10 (by decide) wm_299 rfl rfl ?_
            refine G_iload_n C 1 dX10_odds_47 rfl rfl ?_
            refine G_iload_n C 2 dX10_odds_48 rfl rfl ?_
            refine G_callV1 C [.int (nI n), .int (nI k)] 20 dX10_odds_49 (c_X7_waysTaken (by omega) (by omega) hP hB) wm_647 wm_648 wm_649 wm_57 wm_650 xc_20 rfl ydc_X7_waysTaken rfl ⟨Nat.le_of_ble_eq_true rfl, Nat.le_of_ble_eq_true rfl⟩ ⟨rfl, rfl⟩ ⟨Nat.le_refl _, Nat.le_refl _⟩ (Nat.le_of_ble_eq_true rfl) rfl ?_
            refine G_top (y := nI (x_wN M n k)) (x_wtk_nat (by omega) hP (by omega) k) ?_
            refine G_istore (lv' := [(4, .int (nI (x_wN M n k))), (0, .ref (ad 0)), (1, .int (nI n)), (2, .int (nI k)), (3, .int (z))]) C dX10_odds_52 (by decide) rfl ?_
            refine G_aload_n C 1 dX10_odds_54 rfl rfl ?_
            refine G_get (v := .ref (ad 20)) C 0 6 dX10_odds_55 xc_0 rfl inG10 (by decide) wm_299 rfl rfl ?_
            refine G_iload_n C 3 dX10_odds_58 rfl rfl ?_
            refine G_callV1 C [.int (nI k)] 20 dX10_odds_59 (c_X7_waysAtAll (by omega) hB) wm_651 wm_652 wm_653 wm_57 wm_654 xc_20 rfl ydc_X7_waysAtAll rfl ⟨Nat.le_of_ble_eq_true rfl, Nat.le_of_ble_eq_true rfl⟩ ⟨rfl, rfl⟩ ⟨Nat.le_refl _, Nat.le_refl _⟩ (Nat.le_of_ble_eq_true rfl) rfl ?_
            refine G_top (y := nI (x_aN M k)) (x_all_nat (by omega) k) ?_
            refine G_istore (lv' := [(5, .int (nI (x_aN M k))), (4, .int (nI (x_wN M n k))), (0, .ref (ad 0)), (1, .int (nI n)), (2, .int (nI k)), (3, .int (z))]) C dX10_odds_62 (by decide) rfl ?_
            refine G_iload C 1 dX10_odds_64 rfl ?_
            refine G_iload C 0 dX10_odds_66 rfl ?_
            refine G_iload_n C 5 dX10_odds_68 rfl rfl ?_
            refine G_callS1 C [.int (nI (x_wN M n k)), .int (nI (x_aN M k)), .int (z)] dX10_odds_69 (c_X10_inLeastTerms (x_wN_lt hP hk5) (x_aN_lt hP hk5)) wm_655 wm_656 wm_50 wm_657 ydc_X10_inLeastTerms rfl ⟨Nat.le_of_ble_eq_true rfl, Nat.le_of_ble_eq_true rfl⟩ ⟨rfl, rfl⟩ ⟨Nat.le_refl _, Nat.le_refl _⟩ (Nat.le_of_ble_eq_true rfl) rfl ?_
            exact G_iret C hr dX10_odds_72 (by simp [x_odds, h8_1, h17_3, h24_4, h37_5, cl_n, cl_k]) (rfl)
          · refine G_bipush C dX10_odds_40 kB_m2 ?_
            exact G_iret C hr dX10_odds_42 (by simp [x_odds, h8_1, h17_3, h24_4, h37_5, cl_n, cl_k]) (rfl)
        · refine G_iconst C dX10_odds_27 kI_m1 ?_
          exact G_iret C hr dX10_odds_28 (by simp [x_odds, h8_1, h17_3, h24_4]) (rfl)
set_option maxHeartbeats 4000000 in
set_option maxRecDepth 100000 in
theorem c_X10_saw {x y : Int32} (hB : ∀ k j, M k j < 1024) : CT l yX10_saw cX10_saw 3 (some .int) (rmOf 1 22) D (tyI cI cZ) [.ref (ad 0), .int (x), .int (y)] (wX cI cZ ad M t) (some (.int (x_saw M x y).1)) (wX cI cZ ad (x_saw M x y).2 t) := by
  refine CT_of (own := "FalseParity") (by decide) rfl (Nat.le_of_ble_eq_true rfl) (fun p e s m args below meth c C hr => ?_)
  refine G_aload_n C 0 dX10_saw_0 rfl rfl ?_
  refine G_get (v := .ref (ad 9)) C 0 2 dX10_saw_1 xc_0 rfl inG10 (by decide) wm_295 rfl rfl ?_
  refine G_iload_n C 1 dX10_saw_4 rfl rfl ?_
  refine G_callV1 C [.int (x)] 9 dX10_saw_5 (c_X1_hasPerson hB) wm_487 wm_488 wm_489 wm_53 wm_490 xc_9 rfl ydc_X1_hasPerson rfl ⟨Nat.le_of_ble_eq_true rfl, Nat.le_of_ble_eq_true rfl⟩ ⟨rfl, rfl⟩ ⟨Nat.le_refl _, Nat.le_refl _⟩ (Nat.le_of_ble_eq_true rfl) rfl ?_
  refine G_if_eqB (tgt := 18) C dX10_saw_8 (by decide) (fun h8_1 => ?_) (fun h8_1 => ?_)
  · refine G_iconst C dX10_saw_18 kI_m1 ?_
    exact G_iret C hr dX10_saw_19 (by simp [x_saw, h8_1]) (congrArg (fun z => wX cI cZ ad z t) (by simp [x_saw, h8_1]))
  · obtain ⟨q, hx_q, rfl⟩ := inR_of (by have := hB 9 4; omega) h8_1
    have cl_q := nI_clamp (n := q) (by have := hB 9 4; omega)
    refine G_iload_n C 2 dX10_saw_11 rfl rfl ?_
    refine G_callS1 C [.int (y)] dX10_saw_12 (c_X10_isYesOrNo) wm_578 wm_579 wm_50 wm_580 ydc_X10_isYesOrNo rfl ⟨Nat.le_of_ble_eq_true rfl, Nat.le_of_ble_eq_true rfl⟩ ⟨rfl, rfl⟩ ⟨Nat.le_refl _, Nat.le_refl _⟩ (Nat.le_of_ble_eq_true rfl) rfl ?_
    refine G_if_neB (tgt := 20) C dX10_saw_15 (by decide) (fun h15_2 => ?_) (fun h15_2 => ?_)
    · obtain ⟨k, hx_k, rfl⟩ := isYN_of h15_2
      have cl_k := nI_clamp (n := k) (by omega)
      by_cases hs : M 21 4 < 6
      · refine G_aload_n C 0 dX10_saw_20 rfl rfl ?_
        refine G_get (v := .ref (ad 21)) C 0 7 dX10_saw_21 xc_0 rfl inG10 (by decide) wm_300 rfl rfl ?_
        refine G_iload_n C 1 dX10_saw_24 rfl rfl ?_
        refine G_iload_n C 2 dX10_saw_25 rfl rfl ?_
        refine G_callV1 (w' := wX cI cZ ad (ms (ms (ms M 22 (M 21 4) (q)) 23 (M 21 4) (k)) 21 (4) (M 21 4 + 1)) t) C [.int (nI q), .int (nI k)] 21 dX10_saw_26 (c_X5_add hs hB) wm_662 wm_663 wm_664 wm_58 wm_665 xc_21 rfl ydc_X5_add rfl ⟨Nat.le_of_ble_eq_true rfl, Nat.le_of_ble_eq_true rfl⟩ ⟨rfl, rfl⟩ ⟨Nat.le_refl _, Nat.le_refl _⟩ (Nat.le_of_ble_eq_true rfl) rfl ?_
        exact G_iret C hr dX10_saw_29 (by simp [x_saw, h8_1, h15_2, hs, cl_q, cl_k]) (congrArg (fun z => wX cI cZ ad z t) (by simp [x_saw, h8_1, h15_2, hs, cl_q, cl_k]))
      · refine G_aload_n C 0 dX10_saw_20 rfl rfl ?_
        refine G_get (v := .ref (ad 21)) C 0 7 dX10_saw_21 xc_0 rfl inG10 (by decide) wm_300 rfl rfl ?_
        refine G_iload_n C 1 dX10_saw_24 rfl rfl ?_
        refine G_iload_n C 2 dX10_saw_25 rfl rfl ?_
        refine G_callV1 C [.int (nI q), .int (nI k)] 21 dX10_saw_26 (c_X5_add_full (Nat.not_lt.mp hs) hB) wm_662 wm_663 wm_664 wm_58 wm_665 xc_21 rfl ydc_X5_add rfl ⟨Nat.le_of_ble_eq_true rfl, Nat.le_of_ble_eq_true rfl⟩ ⟨rfl, rfl⟩ ⟨Nat.le_refl _, Nat.le_refl _⟩ (Nat.le_of_ble_eq_true rfl) rfl ?_
        exact G_iret C hr dX10_saw_29 (by simp [x_saw, h8_1, h15_2, hs, cl_q, cl_k]) (congrArg (fun z => wX cI cZ ad z t) (by simp [x_saw, h8_1, h15_2, hs, cl_q, cl_k]))
    · refine G_iconst C dX10_saw_18 kI_m1 ?_
      exact G_iret C hr dX10_saw_19 (by simp [x_saw, h8_1, h15_2]) (congrArg (fun z => wX cI cZ ad z t) (by simp [x_saw, h8_1, h15_2]))
set_option maxHeartbeats 4000000 in
set_option maxRecDepth 100000 in
theorem c_X10_hears {x y : Int32} (hB : ∀ k j, M k j < 1024) : CT l yX10_hears cX10_hears 3 (some .int) (rmOf 1 22) D (tyI cI cZ) [.ref (ad 0), .int (x), .int (y)] (wX cI cZ ad M t) (some (.int (x_hears M x y).1)) (wX cI cZ ad (x_hears M x y).2 t) := by
  refine CT_of (own := "FalseParity") (by decide) rfl (Nat.le_of_ble_eq_true rfl) (fun p e s m args below meth c C hr => ?_)
  refine G_iload_n C 1 dX10_hears_0 rfl rfl ?_
  refine G_if_lt (tgt := 17) C dX10_hears_1 (by decide) (fun h1_1 => ?_) (fun h1_1 => ?_)
  · replace h1_1 := inR_neg (n := 21) h1_1
    refine G_iconst C dX10_hears_17 kI_m1 ?_
    exact G_iret C hr dX10_hears_18 (by simp [x_hears, h1_1]) (congrArg (fun z => wX cI cZ ad z t) (by simp [x_hears, h1_1]))
  · obtain ⟨q, hlt_q, rfl⟩ := nI_of h1_1
    refine G_iload_n C 1 dX10_hears_4 rfl rfl ?_
    refine G_bipush C dX10_hears_5 kB_20 ?_
    refine G_icmp_gtN (tgt := 17) C dX10_hears_7 (by decide) (by omega) (by decide) (fun h7_2 => ?_) (fun h7_2 => ?_)
    · replace h7_2 : inR (nI q) 21 = false := by rw [inR_nI hlt_q (by decide)]; exact decide_eq_false (by omega)
      refine G_iconst C dX10_hears_17 kI_m1 ?_
      exact G_iret C hr dX10_hears_18 (by simp [x_hears, h7_2]) (congrArg (fun z => wX cI cZ ad z t) (by simp [x_hears, h7_2]))
    · replace h7_2 : inR (nI q) 21 = true := by rw [inR_nI hlt_q (by decide)]; exact decide_eq_true (by omega)
      have cl_q := nI_clamp hlt_q
      have hq21 : q < 21 := by rw [inR_nI hlt_q (by decide)] at h7_2; exact of_decide_eq_true h7_2
      refine G_iload_n C 2 dX10_hears_10 rfl rfl ?_
      refine G_callS1 C [.int (y)] dX10_hears_11 (c_X10_isYesOrNo) wm_578 wm_579 wm_50 wm_580 ydc_X10_isYesOrNo rfl ⟨Nat.le_of_ble_eq_true rfl, Nat.le_of_ble_eq_true rfl⟩ ⟨rfl, rfl⟩ ⟨Nat.le_refl _, Nat.le_refl _⟩ (Nat.le_of_ble_eq_true rfl) rfl ?_
      refine G_if_neB (tgt := 19) C dX10_hears_14 (by decide) (fun h14_3 => ?_) (fun h14_3 => ?_)
      · obtain ⟨k, hx_k, rfl⟩ := isYN_of h14_3
        have cl_k := nI_clamp (n := k) (by omega)
        by_cases hs : M 24 4 < 6
        · refine G_aload_n C 0 dX10_hears_19 rfl rfl ?_
          refine G_get (v := .ref (ad 24)) C 0 8 dX10_hears_20 xc_0 rfl inG10 (by decide) wm_301 rfl rfl ?_
          refine G_iload_n C 1 dX10_hears_23 rfl rfl ?_
          refine G_iload_n C 2 dX10_hears_24 rfl rfl ?_
          refine G_callV1 (w' := wX cI cZ ad (ms (ms (ms M 25 (M 24 4) (q)) 26 (M 24 4) (k)) 24 (4) (M 24 4 + 1)) t) C [.int (nI q), .int (nI k)] 24 dX10_hears_25 (c_X0_add hs hB) wm_711 wm_712 wm_713 wm_59 wm_714 xc_24 rfl ydc_X0_add rfl ⟨Nat.le_of_ble_eq_true rfl, Nat.le_of_ble_eq_true rfl⟩ ⟨rfl, rfl⟩ ⟨Nat.le_refl _, Nat.le_refl _⟩ (Nat.le_of_ble_eq_true rfl) rfl ?_
          exact G_iret C hr dX10_hears_28 (by simp [x_hears, h7_2, h14_3, hs, cl_q, cl_k]) (congrArg (fun z => wX cI cZ ad z t) (by simp [x_hears, h7_2, h14_3, hs, cl_q, cl_k]))
        · refine G_aload_n C 0 dX10_hears_19 rfl rfl ?_
          refine G_get (v := .ref (ad 24)) C 0 8 dX10_hears_20 xc_0 rfl inG10 (by decide) wm_301 rfl rfl ?_
          refine G_iload_n C 1 dX10_hears_23 rfl rfl ?_
          refine G_iload_n C 2 dX10_hears_24 rfl rfl ?_
          refine G_callV1 C [.int (nI q), .int (nI k)] 24 dX10_hears_25 (c_X0_add_full (Nat.not_lt.mp hs) hB) wm_711 wm_712 wm_713 wm_59 wm_714 xc_24 rfl ydc_X0_add rfl ⟨Nat.le_of_ble_eq_true rfl, Nat.le_of_ble_eq_true rfl⟩ ⟨rfl, rfl⟩ ⟨Nat.le_refl _, Nat.le_refl _⟩ (Nat.le_of_ble_eq_true rfl) rfl ?_
          exact G_iret C hr dX10_hears_28 (by simp [x_hears, h7_2, h14_3, hs, cl_q, cl_k]) (congrArg (fun z => wX cI cZ ad z t) (by simp [x_hears, h7_2, h14_3, hs, cl_q, cl_k]))
      · refine G_iconst C dX10_hears_17 kI_m1 ?_
        exact G_iret C hr dX10_hears_18 (by simp [x_hears, h7_2, h14_3]) (congrArg (fun z => wX cI cZ ad z t) (by simp [x_hears, h7_2, h14_3]))
set_option maxHeartbeats 4000000 in
set_option maxRecDepth 100000 in
theorem c_X10_canBe {y : Int32} (hS : M 21 4 ≤ 6) (hq : ∀ i, i < M 21 4 → M 22 i < 5) (hB : ∀ k j, M k j < 1024) : CT l yX10_canBe cX10_canBe 2 (some .int) (rmOf 4 87) D (tyI cI cZ) [.ref (ad 0), .int (y)] (wX cI cZ ad M t) (some (.int (x_canBe M y))) (wX cI cZ ad M t) := by
  refine CT_of (own := "FalseParity") (by decide) rfl (Nat.le_of_ble_eq_true rfl) (fun p e s m args below meth c C hr => ?_)
  refine G_iload_n C 1 dX10_canBe_0 rfl rfl ?_
  by_cases h1_1_0 : y = 0
  · refine G_top h1_1_0 ?_
    refine G_tableIn (tgt := 28) C dX10_canBe_1 (by decide) (by decide) rfl (by decide) ?_
    refine G_aload_n C 0 dX10_canBe_28 rfl rfl ?_
    refine G_get (v := .ref (ad 21)) C 0 7 dX10_canBe_29 xc_0 rfl inG10 (by decide) wm_300 rfl rfl ?_
    refine G_callV1 C [] 21 dX10_canBe_32 (c_X5_howMany hS hq hB) wm_670 wm_671 wm_672 wm_58 wm_673 xc_21 rfl ydc_X5_howMany rfl ⟨Nat.le_of_ble_eq_true rfl, Nat.le_of_ble_eq_true rfl⟩ ⟨rfl, rfl⟩ ⟨Nat.le_refl _, Nat.le_refl _⟩ (Nat.le_of_ble_eq_true rfl) rfl ?_
    exact G_iret C hr dX10_canBe_35 (by simp [x_canBe, h1_1_0]) (rfl)
  by_cases h1_1_1 : y = 1
  · refine G_top h1_1_1 ?_
    refine G_tableIn (tgt := 36) C dX10_canBe_1 (by decide) (by decide) rfl (by decide) ?_
    refine G_aload_n C 0 dX10_canBe_36 rfl rfl ?_
    refine G_get (v := .ref (ad 21)) C 0 7 dX10_canBe_37 xc_0 rfl inG10 (by decide) wm_300 rfl rfl ?_
    refine G_callV1 C [] 21 dX10_canBe_40 (c_X5_least hS hq hB) wm_683 wm_684 wm_685 wm_58 wm_686 xc_21 rfl ydc_X5_least rfl ⟨Nat.le_of_ble_eq_true rfl, Nat.le_of_ble_eq_true rfl⟩ ⟨rfl, rfl⟩ ⟨Nat.le_refl _, Nat.le_refl _⟩ (Nat.le_of_ble_eq_true rfl) rfl ?_
    exact G_iret C hr dX10_canBe_43 (by simp [x_canBe, h1_1_1]) (rfl)
  by_cases h1_1_2 : y = 2
  · refine G_top h1_1_2 ?_
    refine G_tableIn (tgt := 44) C dX10_canBe_1 (by decide) (by decide) rfl (by decide) ?_
    refine G_aload_n C 0 dX10_canBe_44 rfl rfl ?_
    refine G_get (v := .ref (ad 21)) C 0 7 dX10_canBe_45 xc_0 rfl inG10 (by decide) wm_300 rfl rfl ?_
    refine G_callV1 C [] 21 dX10_canBe_48 (c_X5_inAll hS hq hB) wm_687 wm_688 wm_689 wm_58 wm_690 xc_21 rfl ydc_X5_inAll rfl ⟨Nat.le_of_ble_eq_true rfl, Nat.le_of_ble_eq_true rfl⟩ ⟨rfl, rfl⟩ ⟨Nat.le_refl _, Nat.le_refl _⟩ (Nat.le_of_ble_eq_true rfl) rfl ?_
    exact G_iret C hr dX10_canBe_51 (by simp [x_canBe, h1_1_2]) (rfl)
  have h1_1_n0 := lv_neT h1_1_0 (a := 0) rfl
  have h1_1_n1 := lv_neT h1_1_1 (a := 1) rfl
  have h1_1_n2 := lv_neT h1_1_2 (a := 2) rfl
  refine G_tableOut (tgt := 52) C dX10_canBe_1 (by omega) (by decide) ?_
  refine G_iconst C dX10_canBe_52 kI_m1 ?_
  exact G_iret C hr dX10_canBe_53 (by simp [x_canBe, h1_1_0, h1_1_1, h1_1_2]) (rfl)
set_option maxHeartbeats 4000000 in
set_option maxRecDepth 100000 in
theorem c_X10_show  (hP : M 9 4 ≤ 5) (hS : M 21 4 ≤ 6) (hq : ∀ i, i < M 21 4 → M 22 i < 5) (hB : ∀ k j, M k j < 1024) : CT l yX10_show cX10_show 1 (some .int) (rmOf 5 114) D (tyI cI cZ) [.ref (ad 0)] (wX cI cZ ad M t) (some (.int (x_best M))) (wX cI cZ ad M t) := by
  refine CT_of (own := "FalseParity") (by decide) rfl (Nat.le_of_ble_eq_true rfl) (fun p e s m args below meth c C hr => ?_)
  refine G_aload_n C 0 dX10_show_0 rfl rfl ?_
  refine G_get (v := .ref (ad 21)) C 0 7 dX10_show_1 xc_0 rfl inG10 (by decide) wm_300 rfl rfl ?_
  refine G_callV1 C [] 21 dX10_show_4 (c_X5_bestPerson hP hS hq hB) wm_695 wm_696 wm_697 wm_58 wm_698 xc_21 rfl ydc_X5_bestPerson rfl ⟨Nat.le_of_ble_eq_true rfl, Nat.le_of_ble_eq_true rfl⟩ ⟨rfl, rfl⟩ ⟨Nat.le_refl _, Nat.le_refl _⟩ (Nat.le_of_ble_eq_true rfl) rfl ?_
  exact G_iret C hr dX10_show_7 (rfl) (rfl)
set_option maxHeartbeats 4000000 in
set_option maxRecDepth 100000 in
theorem c_X10_forget   : CT l yX10_forget cX10_forget 2 (some .int) (rmOf 1 20) D (tyI cI cZ) [.ref (ad 0)] (wX cI cZ ad M t) (some (.int (nI (M 21 4 + M 24 4)))) (wX cI cZ ad (ms (ms M 21 (4) (0)) 24 (4) (0)) t) := by
  refine CT_of (own := "FalseParity") (by decide) rfl (Nat.le_of_ble_eq_true rfl) (fun p e s m args below meth c C hr => ?_)
  refine G_aload_n C 0 dX10_forget_0 rfl rfl ?_
  refine G_get (v := .ref (ad 21)) C 0 7 dX10_forget_1 xc_0 rfl inG10 (by decide) wm_300 rfl rfl ?_
  refine G_getN (v := .int (nI (M 21 4))) C 21 4 dX10_forget_4 xc_21 rfl inG5 (by decide) wn_241 rfl rfl ?_
  refine G_aload_n C 0 dX10_forget_7 rfl rfl ?_
  refine G_get (v := .ref (ad 24)) C 0 8 dX10_forget_8 xc_0 rfl inG10 (by decide) wm_301 rfl rfl ?_
  refine G_getN (v := .int (nI (M 24 4))) C 24 4 dX10_forget_11 xc_24 rfl inG0 (by decide) wn_264 rfl rfl ?_
  refine G_iaddN C dX10_forget_14 ?_
  refine G_istore_n (lv' := [(1, .int (nI ((M 21 4) + (M 24 4)))), (0, .ref (ad 0))]) C dX10_forget_15 rfl (by decide) rfl ?_
  refine G_aload_n C 1 dX10_forget_16 rfl rfl ?_
  refine G_get (v := .ref (ad 21)) C 0 7 dX10_forget_17 xc_0 rfl inG10 (by decide) wm_300 rfl rfl ?_
  refine G_callV0 (w' := wX cI cZ ad (ms M 21 (4) (0)) t) C [] 21 dX10_forget_20 c_X5_empty wm_435 wm_436 wm_437 wm_58 wm_438 xc_21 rfl ydc_X5_empty rfl ⟨Nat.le_of_ble_eq_true rfl, Nat.le_of_ble_eq_true rfl⟩ ⟨rfl, rfl⟩ ⟨Nat.le_refl _, Nat.le_refl _⟩ (Nat.le_of_ble_eq_true rfl) rfl ?_
  refine G_aload_n C 1 dX10_forget_23 rfl rfl ?_
  refine G_get (v := .ref (ad 24)) C 0 8 dX10_forget_24 xc_0 rfl inG10 (by decide) wm_301 rfl rfl ?_
  refine G_callV0 (w' := wX cI cZ ad (ms (ms M 21 (4) (0)) 24 (4) (0)) t) C [] 24 dX10_forget_27 c_X0_empty wm_439 wm_440 wm_441 wm_59 wm_442 xc_24 rfl ydc_X0_empty rfl ⟨Nat.le_of_ble_eq_true rfl, Nat.le_of_ble_eq_true rfl⟩ ⟨rfl, rfl⟩ ⟨Nat.le_refl _, Nat.le_refl _⟩ (Nat.le_of_ble_eq_true rfl) rfl ?_
  refine G_iload_n C 0 dX10_forget_30 rfl rfl ?_
  exact G_iret C hr dX10_forget_31 (rfl) (rfl)
set_option maxHeartbeats 4000000 in
set_option maxRecDepth 100000 in
theorem c_X10_years  (hH : M 24 4 ≤ 6) (hB : ∀ k j, M k j < 1024) : CT l yX10_years cX10_years 1 (some .int) (rmOf 2 44) D (tyI cI cZ) [.ref (ad 0)] (wX cI cZ ad M t) (some (.int (nI (x_py M)))) (wX cI cZ ad M t) := by
  refine CT_of (own := "FalseParity") (by decide) rfl (Nat.le_of_ble_eq_true rfl) (fun p e s m args below meth c C hr => ?_)
  refine G_aload_n C 0 dX10_years_0 rfl rfl ?_
  refine G_get (v := .ref (ad 24)) C 0 8 dX10_years_1 xc_0 rfl inG10 (by decide) wm_301 rfl rfl ?_
  refine G_callV1 C [] 24 dX10_years_4 (c_X0_possibleYears hH hB) wm_723 wm_724 wm_725 wm_59 wm_726 xc_24 rfl ydc_X0_possibleYears rfl ⟨Nat.le_of_ble_eq_true rfl, Nat.le_of_ble_eq_true rfl⟩ ⟨rfl, rfl⟩ ⟨Nat.le_refl _, Nat.le_refl _⟩ (Nat.le_of_ble_eq_true rfl) rfl ?_
  exact G_iret C hr dX10_years_7 (rfl) (rfl)
set_option maxHeartbeats 4000000 in
set_option maxRecDepth 100000 in
theorem c_X10_letIn {y : Int32} (hN : M 9 5 ≤ 6) (hB : ∀ k j, M k j < 1024) : CT l yX10_letIn cX10_letIn 3 (some .int) (rmOf 4 91) D (tyI cI cZ) [.ref (ad 0), .int (y)] (wX cI cZ ad M t) (some (.int (x_letIn M y))) (wX cI cZ ad M t) := by
  refine CT_of (own := "FalseParity") (by decide) rfl (Nat.le_of_ble_eq_true rfl) (fun p e s m args below meth c C hr => ?_)
  refine G_iload_n C 1 dX10_letIn_0 rfl rfl ?_
  refine G_callS1 C [.int (y)] dX10_letIn_1 (c_X10_isYesOrNo) wm_578 wm_579 wm_50 wm_580 ydc_X10_isYesOrNo rfl ⟨Nat.le_of_ble_eq_true rfl, Nat.le_of_ble_eq_true rfl⟩ ⟨rfl, rfl⟩ ⟨Nat.le_refl _, Nat.le_refl _⟩ (Nat.le_of_ble_eq_true rfl) rfl ?_
  refine G_if_neB (tgt := 9) C dX10_letIn_4 (by decide) (fun h4_1 => ?_) (fun h4_1 => ?_)
  · refine G_aload_n C 0 dX10_letIn_9 rfl rfl ?_
    refine G_get (v := .ref (ad 24)) C 0 8 dX10_letIn_10 xc_0 rfl inG10 (by decide) wm_301 rfl rfl ?_
    refine G_callV1 C [] 24 dX10_letIn_13 (c_X0_bestSet hN hB) wm_735 wm_736 wm_737 wm_59 wm_738 xc_24 rfl ydc_X0_bestSet rfl ⟨Nat.le_of_ble_eq_true rfl, Nat.le_of_ble_eq_true rfl⟩ ⟨rfl, rfl⟩ ⟨Nat.le_refl _, Nat.le_refl _⟩ (Nat.le_of_ble_eq_true rfl) rfl ?_
    refine G_istore_n (lv' := [(2, .int (x_bs M)), (0, .ref (ad 0)), (1, .int (y))]) C dX10_letIn_16 rfl (by decide) rfl ?_
    refine G_iload_n C 0 dX10_letIn_17 rfl rfl ?_
    refine G_bipush C dX10_letIn_18 kB_m9 ?_
    refine G_icmp_eq (tgt := 27) C dX10_letIn_20 (by decide) (fun h20_2 => ?_) (fun h20_2 => ?_)
    · refine G_iload_n C 0 dX10_letIn_27 rfl rfl ?_
      exact G_iret C hr dX10_letIn_28 (by simp [x_letIn, isYN_0, h4_1, h20_2]) (rfl)
    · refine G_iload_n C 2 dX10_letIn_23 rfl rfl ?_
      refine G_if_ne (tgt := 29) C dX10_letIn_24 (by decide) (fun h24_3 => ?_) (fun h24_3 => ?_)
      · refine G_aload_n C 1 dX10_letIn_29 rfl rfl ?_
        refine G_get (v := .ref (ad 24)) C 0 8 dX10_letIn_30 xc_0 rfl inG10 (by decide) wm_301 rfl rfl ?_
        refine G_iload_n C 0 dX10_letIn_33 rfl rfl ?_
        refine G_callV1 C [.int (x_bs M)] 24 dX10_letIn_34 (c_X0_worthOf hN hB) wm_746 wm_518 wm_519 wm_59 wm_520 xc_24 rfl ydc_X0_worthOf rfl ⟨Nat.le_of_ble_eq_true rfl, Nat.le_of_ble_eq_true rfl⟩ ⟨rfl, rfl⟩ ⟨Nat.le_refl _, Nat.le_refl _⟩ (Nat.le_of_ble_eq_true rfl) rfl ?_
        exact G_iret C hr dX10_letIn_37 (by simp [x_letIn, isYN_0, h4_1, h20_2, h24_3]) (rfl)
      · refine G_iload_n C 0 dX10_letIn_27 rfl rfl ?_
        exact G_iret C hr dX10_letIn_28 (by simp [x_letIn, isYN_0, h4_1, h20_2, h24_3]) (rfl)
  · refine G_iconst C dX10_letIn_7 kI_m1 ?_
    exact G_iret C hr dX10_letIn_8 (by simp [x_letIn, isYN_0, h4_1]) (rfl)
set_option maxHeartbeats 4000000 in
set_option maxRecDepth 100000 in
theorem c_X10_rate {k x : Int32} (hM : ∀ n, n < M 9 5 → M 12 n < 64) (hN : M 9 5 ≤ 6) (hB : ∀ k j, M k j < 1024) : CT l yX10_rate cX10_rate 3 (some .int) (rmOf 4 85) D (tyI cI cZ) [.ref (ad 0), .int (k), .int (x)] (wX cI cZ ad M t) (some (.int (x_rateT M k x t).1)) (wX cI cZ ad M ((x_rateT M k x t).2)) := by
  refine CT_of (own := "FalseParity") (by decide) rfl (Nat.le_of_ble_eq_true rfl) (fun p e s m args below meth c C hr => ?_)
  refine G_aload_n C 0 dX10_rate_0 rfl rfl ?_
  refine G_get (v := .ref (ad 9)) C 0 2 dX10_rate_1 xc_0 rfl inG10 (by decide) wm_295 rfl rfl ?_
  refine G_iload_n C 2 dX10_rate_4 rfl rfl ?_
  refine G_callV1 C [.int (x)] 9 dX10_rate_5 (c_X1_hasNote hB) wm_447 wm_448 wm_449 wm_53 wm_450 xc_9 rfl ydc_X1_hasNote rfl ⟨Nat.le_of_ble_eq_true rfl, Nat.le_of_ble_eq_true rfl⟩ ⟨rfl, rfl⟩ ⟨Nat.le_refl _, Nat.le_refl _⟩ (Nat.le_of_ble_eq_true rfl) rfl ?_
  refine G_if_eqB (tgt := 23) C dX10_rate_8 (by decide) (fun h8_1 => ?_) (fun h8_1 => ?_)
  · refine G_ldcw C dX10_rate_23 wm_788 ?_
    exact G_iret C hr dX10_rate_26 (by simp [x_rateT, h8_1]) (by simp [x_rateT, h8_1])
  · obtain ⟨n, hx_n, rfl⟩ := inR_of (by have := hB 9 5; omega) h8_1
    have cl_n := nI_clamp (n := n) (by have := hB 9 5; omega)
    refine G_aload_n C 0 dX10_rate_11 rfl rfl ?_
    refine G_get (v := .ref (ad 27)) C 0 9 dX10_rate_12 xc_0 rfl inG10 (by decide) wm_302 rfl rfl ?_
    refine G_iload_n C 1 dX10_rate_15 rfl rfl ?_
    refine G_iload_n C 2 dX10_rate_16 rfl rfl ?_
    refine G_callV1 (w' := wX cI cZ ad M (x_tr (k) t)) C [.int (k), .int (nI n)] 27 dX10_rate_17 (c_X4_rateAs (by omega) (hM _ hx_n)) wm_751 wm_752 wm_753 wm_60 wm_754 xc_27 rfl ydc_X4_rateAs rfl ⟨Nat.le_of_ble_eq_true rfl, Nat.le_of_ble_eq_true rfl⟩ ⟨rfl, rfl⟩ ⟨Nat.le_refl _, Nat.le_refl _⟩ (Nat.le_of_ble_eq_true rfl) rfl ?_
    refine G_goto (tgt := 26) C dX10_rate_20 (by decide) ?_
    exact G_iret C hr dX10_rate_26 (by simp [x_rateT, h8_1, cl_n]) (by simp [x_rateT, h8_1, cl_n])
set_option maxHeartbeats 4000000 in
set_option maxRecDepth 100000 in
theorem c_X10_keep {x : Int32}  : CT l yX10_keep cX10_keep 2 (some .int) (rmOf 3 84) D (tyI cI cZ) [.ref (ad 0), .int (x)] (wX cI cZ ad M t) (some (.int (x_keepT M x).1)) (wX cI cZ ad (x_keepT M x).2 t) := by
  refine CT_of (own := "FalseParity") (by decide) rfl (Nat.le_of_ble_eq_true rfl) (fun p e s m args below meth c C hr => ?_)
  refine G_iload_n C 1 dX10_keep_0 rfl rfl ?_
  refine G_callS1 C [.int (x)] dX10_keep_1 (c_X10_isImage) wm_793 wm_794 wm_50 wm_795 ydc_X10_isImage rfl ⟨Nat.le_of_ble_eq_true rfl, Nat.le_of_ble_eq_true rfl⟩ ⟨rfl, rfl⟩ ⟨Nat.le_refl _, Nat.le_refl _⟩ (Nat.le_of_ble_eq_true rfl) rfl ?_
  refine G_if_neB (tgt := 9) C dX10_keep_4 (by decide) (fun h4_1 => ?_) (fun h4_1 => ?_)
  · obtain ⟨i, hx_i, rfl⟩ := inR_of (by decide) h4_1
    have cl_i := nI_clamp (n := i) (by omega)
    refine G_aload_n C 0 dX10_keep_9 rfl rfl ?_
    refine G_get (v := .ref (ad 18)) C 0 5 dX10_keep_10 xc_0 rfl inG10 (by decide) wm_298 rfl rfl ?_
    refine G_iload_n C 1 dX10_keep_13 rfl rfl ?_
    refine G_aload_n C 0 dX10_keep_14 rfl rfl ?_
    refine G_get (v := .ref (ad 14)) C 0 3 dX10_keep_15 xc_0 rfl inG10 (by decide) wm_296 rfl rfl ?_
    refine G_callV0 (w' := wX cI cZ ad (x_keep M i) t) C [.int (nI i), .ref (ad 14)] 18 dX10_keep_18 (c_X3_store (by omega)) wm_796 wm_797 wm_798 wm_56 wm_799 xc_18 rfl ydc_X3_store rfl ⟨Nat.le_of_ble_eq_true rfl, Nat.le_of_ble_eq_true rfl⟩ ⟨rfl, rfl⟩ ⟨Nat.le_refl _, Nat.le_refl _⟩ (Nat.le_of_ble_eq_true rfl) rfl ?_
    refine G_aload_n C 0 dX10_keep_21 rfl rfl ?_
    refine G_get (v := .ref (ad 14)) C 0 3 dX10_keep_22 xc_0 rfl inG10 (by decide) wm_296 rfl rfl ?_
    refine G_callV1 (v := .int (nI (M 15 19))) C [] 14 dX10_keep_25 c_X6_refused wm_508 wm_509 wm_510 wm_54 wm_511 xc_14 rfl ydc_X6_refused rfl ⟨Nat.le_of_ble_eq_true rfl, Nat.le_of_ble_eq_true rfl⟩ ⟨rfl, rfl⟩ ⟨Nat.le_refl _, Nat.le_refl _⟩ (Nat.le_of_ble_eq_true rfl) rfl ?_
    exact G_iret C hr dX10_keep_28 (by simp [x_keepT, h4_1, cl_i]) (congrArg (fun z => wX cI cZ ad z t) (by simp [x_keepT, h4_1, cl_i]))
  · refine G_iconst C dX10_keep_7 kI_m1 ?_
    exact G_iret C hr dX10_keep_8 (by simp [x_keepT, h4_1]) (congrArg (fun z => wX cI cZ ad z t) (by simp [x_keepT, h4_1]))
set_option maxHeartbeats 4000000 in
set_option maxRecDepth 100000 in
theorem c_X10_back {x : Int32}  : CT l yX10_back cX10_back 2 (some .int) (rmOf 3 84) D (tyI cI cZ) [.ref (ad 0), .int (x)] (wX cI cZ ad M t) (some (.int (x_backT M x).1)) (wX cI cZ ad (x_backT M x).2 t) := by
  refine CT_of (own := "FalseParity") (by decide) rfl (Nat.le_of_ble_eq_true rfl) (fun p e s m args below meth c C hr => ?_)
  refine G_iload_n C 1 dX10_back_0 rfl rfl ?_
  refine G_callS1 C [.int (x)] dX10_back_1 (c_X10_isImage) wm_793 wm_794 wm_50 wm_795 ydc_X10_isImage rfl ⟨Nat.le_of_ble_eq_true rfl, Nat.le_of_ble_eq_true rfl⟩ ⟨rfl, rfl⟩ ⟨Nat.le_refl _, Nat.le_refl _⟩ (Nat.le_of_ble_eq_true rfl) rfl ?_
  refine G_if_neB (tgt := 9) C dX10_back_4 (by decide) (fun h4_1 => ?_) (fun h4_1 => ?_)
  · obtain ⟨i, hx_i, rfl⟩ := inR_of (by decide) h4_1
    have cl_i := nI_clamp (n := i) (by omega)
    refine G_aload_n C 0 dX10_back_9 rfl rfl ?_
    refine G_get (v := .ref (ad 18)) C 0 5 dX10_back_10 xc_0 rfl inG10 (by decide) wm_298 rfl rfl ?_
    refine G_iload_n C 1 dX10_back_13 rfl rfl ?_
    refine G_callV1 C [.int (nI i)] 18 dX10_back_14 c_X3_has wm_805 wm_806 wm_807 wm_56 wm_808 xc_18 rfl ydc_X3_has rfl ⟨Nat.le_of_ble_eq_true rfl, Nat.le_of_ble_eq_true rfl⟩ ⟨rfl, rfl⟩ ⟨Nat.le_refl _, Nat.le_refl _⟩ (Nat.le_of_ble_eq_true rfl) rfl ?_
    refine G_if_neB (tgt := 23) C dX10_back_17 (by decide) (fun h17_2 => ?_) (fun h17_2 => ?_)
    · refine G_aload_n C 0 dX10_back_23 rfl rfl ?_
      refine G_get (v := .ref (ad 18)) C 0 5 dX10_back_24 xc_0 rfl inG10 (by decide) wm_298 rfl rfl ?_
      refine G_iload_n C 1 dX10_back_27 rfl rfl ?_
      refine G_aload_n C 0 dX10_back_28 rfl rfl ?_
      refine G_get (v := .ref (ad 14)) C 0 3 dX10_back_29 xc_0 rfl inG10 (by decide) wm_296 rfl rfl ?_
      refine G_callV0 (w' := wX cI cZ ad (x_back M i) t) C [.int (nI i), .ref (ad 14)] 18 dX10_back_32 (c_X3_restore (by omega)) wm_810 wm_811 wm_812 wm_56 wm_813 xc_18 rfl ydc_X3_restore rfl ⟨Nat.le_of_ble_eq_true rfl, Nat.le_of_ble_eq_true rfl⟩ ⟨rfl, rfl⟩ ⟨Nat.le_refl _, Nat.le_refl _⟩ (Nat.le_of_ble_eq_true rfl) rfl ?_
      refine G_aload_n C 0 dX10_back_35 rfl rfl ?_
      refine G_get (v := .ref (ad 16)) C 0 4 dX10_back_36 xc_0 rfl inG10 (by decide) wm_297 rfl rfl ?_
      refine G_callV0 (w' := wX cI cZ ad (ms (ms (x_back M i) 16 (1) (0)) 16 (2) (0)) t) C [] 16 dX10_back_39 c_X2_empty wm_427 wm_428 wm_429 wm_55 wm_430 xc_16 rfl ydc_X2_empty rfl ⟨Nat.le_of_ble_eq_true rfl, Nat.le_of_ble_eq_true rfl⟩ ⟨rfl, rfl⟩ ⟨Nat.le_refl _, Nat.le_refl _⟩ (Nat.le_of_ble_eq_true rfl) rfl ?_
      refine G_aload_n C 0 dX10_back_42 rfl rfl ?_
      refine G_get (v := .ref (ad 14)) C 0 3 dX10_back_43 xc_0 rfl inG10 (by decide) wm_296 rfl rfl ?_
      refine G_callV1 (v := .int (nI ((x_back M i) 15 19))) C [] 14 dX10_back_46 c_X6_refused wm_508 wm_509 wm_510 wm_54 wm_511 xc_14 rfl ydc_X6_refused rfl ⟨Nat.le_of_ble_eq_true rfl, Nat.le_of_ble_eq_true rfl⟩ ⟨rfl, rfl⟩ ⟨Nat.le_refl _, Nat.le_refl _⟩ (Nat.le_of_ble_eq_true rfl) rfl ?_
      exact G_iret C hr dX10_back_49 (by simp [x_backT, h4_1, h17_2, cl_i]) (congrArg (fun z => wX cI cZ ad z t) (by simp [x_backT, h4_1, h17_2, cl_i]))
    · refine G_bipush C dX10_back_20 kB_m2 ?_
      exact G_iret C hr dX10_back_22 (by simp [x_backT, h4_1, h17_2, cl_i]) (congrArg (fun z => wX cI cZ ad z t) (by simp [x_backT, h4_1, h17_2, cl_i]))
  · refine G_iconst C dX10_back_7 kI_m1 ?_
    exact G_iret C hr dX10_back_8 (by simp [x_backT, h4_1]) (congrArg (fun z => wX cI cZ ad z t) (by simp [x_backT, h4_1]))
set_option maxHeartbeats 4000000 in
set_option maxRecDepth 100000 in
theorem c_X10_count {y : Int32}  : CT l yX10_count cX10_count 2 (some .int) (rmOf 0 0) D (tyI cI cZ) [.ref (ad 0), .int (y)] (wX cI cZ ad M t) (some (.int (x_count M y))) (wX cI cZ ad M t) := by
  refine CT_of (own := "FalseParity") (by decide) rfl (Nat.le_of_ble_eq_true rfl) (fun p e s m args below meth c C hr => ?_)
  refine G_iload_n C 1 dX10_count_0 rfl rfl ?_
  by_cases h1_1_0 : y = 0
  · refine G_top h1_1_0 ?_
    refine G_tableIn (tgt := 44) C dX10_count_1 (by decide) (by decide) rfl (by decide) ?_
    refine G_aload_n C 0 dX10_count_44 rfl rfl ?_
    refine G_get (v := .ref (ad 9)) C 0 2 dX10_count_45 xc_0 rfl inG10 (by decide) wm_295 rfl rfl ?_
    refine G_getN (v := .int (nI (M 9 4))) C 9 4 dX10_count_48 xc_9 rfl inG1 (by decide) wn_122 rfl rfl ?_
    exact G_iret C hr dX10_count_51 (by simp [x_count, h1_1_0]) (rfl)
  by_cases h1_1_1 : y = 1
  · refine G_top h1_1_1 ?_
    refine G_tableIn (tgt := 52) C dX10_count_1 (by decide) (by decide) rfl (by decide) ?_
    refine G_aload_n C 0 dX10_count_52 rfl rfl ?_
    refine G_get (v := .ref (ad 9)) C 0 2 dX10_count_53 xc_0 rfl inG10 (by decide) wm_295 rfl rfl ?_
    refine G_getN (v := .int (nI (M 9 5))) C 9 5 dX10_count_56 xc_9 rfl inG1 (by decide) wn_126 rfl rfl ?_
    exact G_iret C hr dX10_count_59 (by simp [x_count, h1_1_1]) (rfl)
  by_cases h1_1_2 : y = 2
  · refine G_top h1_1_2 ?_
    refine G_tableIn (tgt := 60) C dX10_count_1 (by decide) (by decide) rfl (by decide) ?_
    refine G_aload_n C 0 dX10_count_60 rfl rfl ?_
    refine G_get (v := .ref (ad 9)) C 0 2 dX10_count_61 xc_0 rfl inG10 (by decide) wm_295 rfl rfl ?_
    refine G_getN (v := .int (nI (M 9 6))) C 9 6 dX10_count_64 xc_9 rfl inG1 (by decide) wn_129 rfl rfl ?_
    exact G_iret C hr dX10_count_67 (by simp [x_count, h1_1_2]) (rfl)
  by_cases h1_1_3 : y = 3
  · refine G_top h1_1_3 ?_
    refine G_tableIn (tgt := 68) C dX10_count_1 (by decide) (by decide) rfl (by decide) ?_
    refine G_aload_n C 0 dX10_count_68 rfl rfl ?_
    refine G_get (v := .ref (ad 9)) C 0 2 dX10_count_69 xc_0 rfl inG10 (by decide) wm_295 rfl rfl ?_
    refine G_getN (v := .int (nI (M 9 7))) C 9 7 dX10_count_72 xc_9 rfl inG1 (by decide) wn_134 rfl rfl ?_
    exact G_iret C hr dX10_count_75 (by simp [x_count, h1_1_3]) (rfl)
  by_cases h1_1_4 : y = 4
  · refine G_top h1_1_4 ?_
    refine G_tableIn (tgt := 76) C dX10_count_1 (by decide) (by decide) rfl (by decide) ?_
    refine G_aload_n C 0 dX10_count_76 rfl rfl ?_
    refine G_get (v := .ref (ad 21)) C 0 7 dX10_count_77 xc_0 rfl inG10 (by decide) wm_300 rfl rfl ?_
    refine G_getN (v := .int (nI (M 21 4))) C 21 4 dX10_count_80 xc_21 rfl inG5 (by decide) wn_241 rfl rfl ?_
    exact G_iret C hr dX10_count_83 (by simp [x_count, h1_1_4]) (rfl)
  by_cases h1_1_5 : y = 5
  · refine G_top h1_1_5 ?_
    refine G_tableIn (tgt := 84) C dX10_count_1 (by decide) (by decide) rfl (by decide) ?_
    refine G_aload_n C 0 dX10_count_84 rfl rfl ?_
    refine G_get (v := .ref (ad 24)) C 0 8 dX10_count_85 xc_0 rfl inG10 (by decide) wm_301 rfl rfl ?_
    refine G_getN (v := .int (nI (M 24 4))) C 24 4 dX10_count_88 xc_24 rfl inG0 (by decide) wn_264 rfl rfl ?_
    exact G_iret C hr dX10_count_91 (by simp [x_count, h1_1_5]) (rfl)
  by_cases h1_1_6 : y = 6
  · refine G_top h1_1_6 ?_
    refine G_tableIn (tgt := 92) C dX10_count_1 (by decide) (by decide) rfl (by decide) ?_
    refine G_aload_n C 0 dX10_count_92 rfl rfl ?_
    refine G_get (v := .ref (ad 1)) C 0 0 dX10_count_93 xc_0 rfl inG10 (by decide) wm_293 rfl rfl ?_
    refine G_getN (v := .int (nI (M 1 1))) C 1 1 dX10_count_96 xc_1 rfl inG9 (by decide) wn_83 rfl rfl ?_
    exact G_iret C hr dX10_count_99 (by simp [x_count, h1_1_6]) (rfl)
  have h1_1_n0 := lv_neT h1_1_0 (a := 0) rfl
  have h1_1_n1 := lv_neT h1_1_1 (a := 1) rfl
  have h1_1_n2 := lv_neT h1_1_2 (a := 2) rfl
  have h1_1_n3 := lv_neT h1_1_3 (a := 3) rfl
  have h1_1_n4 := lv_neT h1_1_4 (a := 4) rfl
  have h1_1_n5 := lv_neT h1_1_5 (a := 5) rfl
  have h1_1_n6 := lv_neT h1_1_6 (a := 6) rfl
  refine G_tableOut (tgt := 100) C dX10_count_1 (by omega) (by decide) ?_
  refine G_iconst C dX10_count_100 kI_m1 ?_
  exact G_iret C hr dX10_count_101 (by simp [x_count, h1_1_0, h1_1_1, h1_1_2, h1_1_3, h1_1_4, h1_1_5, h1_1_6]) (rfl)
set_option maxHeartbeats 4000000 in
set_option maxRecDepth 100000 in
theorem c_X10_trace   : CT l yX10_trace cX10_trace 1 (some .long) (rmOf 0 0) D (tyI cI cZ) [.ref (ad 0)] (wX cI cZ ad M t) (some (.long t)) (wX cI cZ ad M t) := by
  refine CT_of (own := "FalseParity") (by decide) rfl (Nat.le_of_ble_eq_true rfl) (fun p e s m args below meth c C hr => ?_)
  refine G_aload_n C 0 dX10_trace_0 rfl rfl ?_
  refine G_get (v := .ref (ad 27)) C 0 9 dX10_trace_1 xc_0 rfl inG10 (by decide) wm_302 rfl rfl ?_
  refine G_getN (v := .long (t)) C 27 2 dX10_trace_4 xc_27 rfl inG4 (by decide) wn_285 rfl rfl ?_
  exact G_lret C hr dX10_trace_7 (rfl) (rfl)
end X6
