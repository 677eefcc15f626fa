section X1
variable {l : Launch} {D : va_G} {cI cZ : ClassId} {ad : Nat → Nat} {M : Nat → Nat → Nat} {t : Int64}
set_option maxHeartbeats 4000000 in
set_option maxRecDepth 100000 in
theorem c_X10_hasBit {x : Int32} {j : Nat}  : CT l yX10_hasBit cX10_hasBit 2 (some .boolean) (rmOf 0 0) D (tyI cI cZ) [.int (x), .int (nI j)] (wX cI cZ ad M t) (some (.int (nI (bN (hb x j))))) (wX cI cZ ad M t) := by
  refine CT_of (own := "FalseParity") (by decide) rfl (Nat.le_of_ble_eq_true rfl) (fun p e s m args below meth c C hr => ?_)
  refine G_iload_n C 0 dX10_hasBit_0 rfl rfl ?_
  refine G_iload_n C 1 dX10_hasBit_1 rfl rfl ?_
  refine G_ishr C dX10_hasBit_2 ?_
  refine G_iconst C dX10_hasBit_3 kI_1 ?_
  refine G_iand C dX10_hasBit_4 ?_
  refine G_iconst C dX10_hasBit_5 kI_1 ?_
  refine G_icmp_ne (tgt := 13) C dX10_hasBit_6 (by decide) (fun h6_1 => ?_) (fun h6_1 => ?_)
  · refine G_iconst C dX10_hasBit_13 kI_0 ?_
    exact G_zret C hr dX10_hasBit_14 (by rfl) (bI_f (decide_eq_false h6_1)) (rfl)
  · refine G_iconst C dX10_hasBit_9 kI_1 ?_
    refine G_goto (tgt := 14) C dX10_hasBit_10 (by decide) ?_
    exact G_zret C hr dX10_hasBit_14 (by rfl) (bI_t (decide_eq_true h6_1)) (rfl)
set_option maxHeartbeats 4000000 in
set_option maxRecDepth 100000 in
theorem c_X10_isYesOrNo {x : Int32}  : CT l yX10_isYesOrNo cX10_isYesOrNo 1 (some .boolean) (rmOf 0 0) D (tyI cI cZ) [.int (x)] (wX cI cZ ad M t) (some (.int (nI (bN (isYN x))))) (wX cI cZ ad M t) := by
  refine CT_of (own := "FalseParity") (by decide) rfl (Nat.le_of_ble_eq_true rfl) (fun p e s m args below meth c C hr => ?_)
  refine G_iload_n C 0 dX10_isYesOrNo_0 rfl rfl ?_
  refine G_if_eq (tgt := 9) C dX10_isYesOrNo_1 (by decide) (fun h1_1 => ?_) (fun h1_1 => ?_)
  · refine G_iconst C dX10_isYesOrNo_9 kI_1 ?_
    refine G_goto (tgt := 14) C dX10_isYesOrNo_10 (by decide) ?_
    exact G_zret C hr dX10_isYesOrNo_14 (by rfl) (bI_t (by simp only [isYN, decide_eq_true_eq]; first | exact Or.inl h1_1 | exact Or.inr h1_1)) (rfl)
  · refine G_iload_n C 0 dX10_isYesOrNo_4 rfl rfl ?_
    refine G_iconst C dX10_isYesOrNo_5 kI_1 ?_
    refine G_icmp_ne (tgt := 13) C dX10_isYesOrNo_6 (by decide) (fun h6_2 => ?_) (fun h6_2 => ?_)
    · refine G_iconst C dX10_isYesOrNo_13 kI_0 ?_
      exact G_zret C hr dX10_isYesOrNo_14 (by rfl) (bI_f (by simp only [isYN, decide_eq_false_iff_not]; rintro (q | q); exact h1_1 q; exact h6_2 q)) (rfl)
    · refine G_iconst C dX10_isYesOrNo_9 kI_1 ?_
      refine G_goto (tgt := 14) C dX10_isYesOrNo_10 (by decide) ?_
      exact G_zret C hr dX10_isYesOrNo_14 (by rfl) (bI_t (by simp only [isYN, decide_eq_true_eq]; first | exact Or.inl h6_2 | exact Or.inr h6_2)) (rfl)
set_option maxHeartbeats 4000000 in
set_option maxRecDepth 100000 in
theorem c_X10_isImage {x : Int32}  : CT l yX10_isImage cX10_isImage 1 (some .boolean) (rmOf 0 0) D (tyI cI cZ) [.int (x)] (wX cI cZ ad M t) (some (.int (nI (bN (inR x 2))))) (wX cI cZ ad M t) := by
  refine CT_of (own := "FalseParity") (by decide) rfl (Nat.le_of_ble_eq_true rfl) (fun p e s m args below meth c C hr => ?_)
  refine G_iload_n C 0 dX10_isImage_0 rfl rfl ?_
  refine G_if_lt (tgt := 13) C dX10_isImage_1 (by decide) (fun h1_1 => ?_) (fun h1_1 => ?_)
  · refine G_iconst C dX10_isImage_13 kI_0 ?_
    exact G_zret C hr dX10_isImage_14 (by rfl) (bI_f (inR_neg h1_1)) (rfl)
  · obtain ⟨j, hlt_j, rfl⟩ := nI_of h1_1
    refine G_iload_n C 0 dX10_isImage_4 rfl rfl ?_
    refine G_iconst C dX10_isImage_5 kI_2 ?_
    refine G_icmp_geN (tgt := 13) C dX10_isImage_6 (by decide) (by omega) (by omega) (fun h6_2 => ?_) (fun h6_2 => ?_)
    · refine G_iconst C dX10_isImage_13 kI_0 ?_
      exact G_zret C hr dX10_isImage_14 (by rfl) (bI_f (by rw [inR_nI hlt_j (by decide)]; exact decide_eq_false (by omega))) (rfl)
    · refine G_iconst C dX10_isImage_9 kI_1 ?_
      refine G_goto (tgt := 14) C dX10_isImage_10 (by decide) ?_
      exact G_zret C hr dX10_isImage_14 (by rfl) (bI_t (by rw [inR_nI hlt_j (by decide)]; exact decide_eq_true h6_2)) (rfl)
set_option maxHeartbeats 4000000 in
set_option maxRecDepth 100000 in
theorem c_X1_hasPerson {x : Int32} (hB : ∀ k j, M k j < 1024) : CT l yX1_hasPerson cX1_hasPerson 2 (some .boolean) (rmOf 0 0) D (tyI cI cZ) [.ref (ad 9), .int (x)] (wX cI cZ ad M t) (some (.int (nI (bN (inR x (M 9 4)))))) (wX cI cZ ad M t) := by
  refine CT_of (own := "FalseParity$Country") (by decide) rfl (Nat.le_of_ble_eq_true rfl) (fun p e s m args below meth c C hr => ?_)
  refine G_iload_n C 1 dX1_hasPerson_0 rfl rfl ?_
  refine G_if_lt (tgt := 16) C dX1_hasPerson_1 (by decide) (fun h1_1 => ?_) (fun h1_1 => ?_)
  · refine G_iconst C dX1_hasPerson_16 kI_0 ?_
    exact G_zret C hr dX1_hasPerson_17 (by rfl) (bI_f (inR_neg h1_1)) (rfl)
  · obtain ⟨j, hlt_j, rfl⟩ := nI_of h1_1
    refine G_iload_n C 1 dX1_hasPerson_4 rfl rfl ?_
    refine G_aload_n C 0 dX1_hasPerson_5 rfl rfl ?_
    refine G_get (v := .int (nI (M 9 4))) C 9 4 dX1_hasPerson_6 xc_9 rfl inG1 (by decide) wm_118 rfl rfl ?_
    refine G_icmp_geN (tgt := 16) C dX1_hasPerson_9 (by decide) (by omega) (by have := hB 9 4; omega) (fun h9_2 => ?_) (fun h9_2 => ?_)
    · refine G_iconst C dX1_hasPerson_16 kI_0 ?_
      exact G_zret C hr dX1_hasPerson_17 (by rfl) (bI_f (by rw [inR_nI hlt_j (by have := hB 9 4; omega)]; exact decide_eq_false (by omega))) (rfl)
    · refine G_iconst C dX1_hasPerson_12 kI_1 ?_
      refine G_goto (tgt := 17) C dX1_hasPerson_13 (by decide) ?_
      exact G_zret C hr dX1_hasPerson_17 (by rfl) (bI_t (by rw [inR_nI hlt_j (by have := hB 9 4; omega)]; exact decide_eq_true h9_2)) (rfl)
set_option maxHeartbeats 4000000 in
set_option maxRecDepth 100000 in
theorem c_X1_hasNote {x : Int32} (hB : ∀ k j, M k j < 1024) : CT l yX1_hasNote cX1_hasNote 2 (some .boolean) (rmOf 0 0) D (tyI cI cZ) [.ref (ad 9), .int (x)] (wX cI cZ ad M t) (some (.int (nI (bN (inR x (M 9 5)))))) (wX cI cZ ad M t) := by
  refine CT_of (own := "FalseParity$Country") (by decide) rfl (Nat.le_of_ble_eq_true rfl) (fun p e s m args below meth c C hr => ?_)
  refine G_iload_n C 1 dX1_hasNote_0 rfl rfl ?_
  refine G_if_lt (tgt := 16) C dX1_hasNote_1 (by decide) (fun h1_1 => ?_) (fun h1_1 => ?_)
  · refine G_iconst C dX1_hasNote_16 kI_0 ?_
    exact G_zret C hr dX1_hasNote_17 (by rfl) (bI_f (inR_neg h1_1)) (rfl)
  · obtain ⟨j, hlt_j, rfl⟩ := nI_of h1_1
    refine G_iload_n C 1 dX1_hasNote_4 rfl rfl ?_
    refine G_aload_n C 0 dX1_hasNote_5 rfl rfl ?_
    refine G_get (v := .int (nI (M 9 5))) C 9 5 dX1_hasNote_6 xc_9 rfl inG1 (by decide) wm_123 rfl rfl ?_
    refine G_icmp_geN (tgt := 16) C dX1_hasNote_9 (by decide) (by omega) (by have := hB 9 5; omega) (fun h9_2 => ?_) (fun h9_2 => ?_)
    · refine G_iconst C dX1_hasNote_16 kI_0 ?_
      exact G_zret C hr dX1_hasNote_17 (by rfl) (bI_f (by rw [inR_nI hlt_j (by have := hB 9 5; omega)]; exact decide_eq_false (by omega))) (rfl)
    · refine G_iconst C dX1_hasNote_12 kI_1 ?_
      refine G_goto (tgt := 17) C dX1_hasNote_13 (by decide) ?_
      exact G_zret C hr dX1_hasNote_17 (by rfl) (bI_t (by rw [inR_nI hlt_j (by have := hB 9 5; omega)]; exact decide_eq_true h9_2)) (rfl)
set_option maxHeartbeats 4000000 in
set_option maxRecDepth 100000 in
theorem c_X1_isFalse {n : Nat} (hn : n < 6) (hB : ∀ k j, M k j < 1024) : CT l yX1_isFalse cX1_isFalse 2 (some .boolean) (rmOf 0 0) D (tyI cI cZ) [.ref (ad 9), .int (nI n)] (wX cI cZ ad M t) (some (.int (nI (bN (decide (0 < M 12 n)))))) (wX cI cZ ad M t) := by
  refine CT_of (own := "FalseParity$Country") (by decide) rfl (Nat.le_of_ble_eq_true rfl) (fun p e s m args below meth c C hr => ?_)
  refine G_aload_n C 0 dX1_isFalse_0 rfl rfl ?_
  refine G_get (v := .ref (ad 12)) C 9 2 dX1_isFalse_1 xc_9 rfl inG1 (by decide) wm_110 rfl rfl ?_
  refine G_iload_n C 1 dX1_isFalse_4 rfl rfl ?_
  refine G_iald (v := nI (M 12 n)) C 12 0 dX1_isFalse_5 xc_12 rfl (by omega) (by decide) rfl ?_
  refine G_if_eqN (tgt := 13) C dX1_isFalse_6 (by decide) (by have := hB 12 n; omega) (fun h6_1 => ?_) (fun h6_1 => ?_)
  · refine G_iconst C dX1_isFalse_13 kI_0 ?_
    exact G_zret C hr dX1_isFalse_14 (by rfl) (bI_f (decide_eq_false (by omega))) (rfl)
  · refine G_iconst C dX1_isFalse_9 kI_1 ?_
    refine G_goto (tgt := 14) C dX1_isFalse_10 (by decide) ?_
    exact G_zret C hr dX1_isFalse_14 (by rfl) (bI_t (decide_eq_true h6_1)) (rfl)
set_option maxHeartbeats 4000000 in
set_option maxRecDepth 100000 in
theorem c_X6_holder {n : Nat} (hn : n < 6) : CT l yX6_holder cX6_holder 2 (some .int) (rmOf 0 0) D (tyI cI cZ) [.ref (ad 14), .int (nI n)] (wX cI cZ ad M t) (some (.int (nI (M 15 n)))) (wX cI cZ ad M t) := by
  refine CT_of (own := "FalseParity$Now") (by decide) rfl (Nat.le_of_ble_eq_true rfl) (fun p e s m args below meth c C hr => ?_)
  refine G_aload_n C 0 dX6_holder_0 rfl rfl ?_
  refine G_get (v := .ref (ad 15)) C 14 0 dX6_holder_1 xc_14 rfl inG6 (by decide) wm_183 rfl rfl ?_
  refine G_iconst C dX6_holder_4 kI_0 ?_
  refine G_iload_n C 1 dX6_holder_5 rfl rfl ?_
  refine G_iaddN C dX6_holder_6 ?_
  refine G_top (y := nI (n)) (congrArg nI (Nat.zero_add _)) ?_
  refine G_iald (v := nI (M 15 n)) C 15 0 dX6_holder_7 xc_15 rfl (by omega) (by decide) rfl ?_
  exact G_iret C hr dX6_holder_8 (rfl) (rfl)
set_option maxHeartbeats 4000000 in
set_option maxRecDepth 100000 in
theorem c_X6_uses {n : Nat} (hn : n < 6) : CT l yX6_uses cX6_uses 2 (some .int) (rmOf 0 0) D (tyI cI cZ) [.ref (ad 14), .int (nI n)] (wX cI cZ ad M t) (some (.int (nI (M 15 (6 + n))))) (wX cI cZ ad M t) := by
  refine CT_of (own := "FalseParity$Now") (by decide) rfl (Nat.le_of_ble_eq_true rfl) (fun p e s m args below meth c C hr => ?_)
  refine G_aload_n C 0 dX6_uses_0 rfl rfl ?_
  refine G_get (v := .ref (ad 15)) C 14 0 dX6_uses_1 xc_14 rfl inG6 (by decide) wm_183 rfl rfl ?_
  refine G_bipush C dX6_uses_4 kB_6 ?_
  refine G_iload_n C 1 dX6_uses_6 rfl rfl ?_
  refine G_iaddN C dX6_uses_7 ?_
  refine G_iald (v := nI (M 15 (6 + n))) C 15 0 dX6_uses_8 xc_15 rfl (by omega) (by decide) rfl ?_
  exact G_iret C hr dX6_uses_9 (rfl) (rfl)
set_option maxHeartbeats 4000000 in
set_option maxRecDepth 100000 in
theorem c_X6_looks {n : Nat} (hn : n < 5) : CT l yX6_looks cX6_looks 2 (some .int) (rmOf 0 0) D (tyI cI cZ) [.ref (ad 14), .int (nI n)] (wX cI cZ ad M t) (some (.int (nI (M 15 (12 + n))))) (wX cI cZ ad M t) := by
  refine CT_of (own := "FalseParity$Now") (by decide) rfl (Nat.le_of_ble_eq_true rfl) (fun p e s m args below meth c C hr => ?_)
  refine G_aload_n C 0 dX6_looks_0 rfl rfl ?_
  refine G_get (v := .ref (ad 15)) C 14 0 dX6_looks_1 xc_14 rfl inG6 (by decide) wm_183 rfl rfl ?_
  refine G_bipush C dX6_looks_4 kB_12 ?_
  refine G_iload_n C 1 dX6_looks_6 rfl rfl ?_
  refine G_iaddN C dX6_looks_7 ?_
  refine G_iald (v := nI (M 15 (12 + n))) C 15 0 dX6_looks_8 xc_15 rfl (by omega) (by decide) rfl ?_
  exact G_iret C hr dX6_looks_9 (rfl) (rfl)
set_option maxHeartbeats 4000000 in
set_option maxRecDepth 100000 in
theorem c_X6_parity   : CT l yX6_parity cX6_parity 1 (some .int) (rmOf 0 0) D (tyI cI cZ) [.ref (ad 14)] (wX cI cZ ad M t) (some (.int (nI (M 15 17)))) (wX cI cZ ad M t) := by
  refine CT_of (own := "FalseParity$Now") (by decide) rfl (Nat.le_of_ble_eq_true rfl) (fun p e s m args below meth c C hr => ?_)
  refine G_aload_n C 0 dX6_parity_0 rfl rfl ?_
  refine G_get (v := .ref (ad 15)) C 14 0 dX6_parity_1 xc_14 rfl inG6 (by decide) wm_183 rfl rfl ?_
  refine G_bipush C dX6_parity_4 kB_17 ?_
  refine G_iald (v := nI (M 15 17)) C 15 0 dX6_parity_6 xc_15 rfl (by decide) (by decide) rfl ?_
  exact G_iret C hr dX6_parity_7 (rfl) (rfl)
set_option maxHeartbeats 4000000 in
set_option maxRecDepth 100000 in
theorem c_X6_away   : CT l yX6_away cX6_away 1 (some .int) (rmOf 0 0) D (tyI cI cZ) [.ref (ad 14)] (wX cI cZ ad M t) (some (.int (nI (M 15 18)))) (wX cI cZ ad M t) := by
  refine CT_of (own := "FalseParity$Now") (by decide) rfl (Nat.le_of_ble_eq_true rfl) (fun p e s m args below meth c C hr => ?_)
  refine G_aload_n C 0 dX6_away_0 rfl rfl ?_
  refine G_get (v := .ref (ad 15)) C 14 0 dX6_away_1 xc_14 rfl inG6 (by decide) wm_183 rfl rfl ?_
  refine G_bipush C dX6_away_4 kB_18 ?_
  refine G_iald (v := nI (M 15 18)) C 15 0 dX6_away_6 xc_15 rfl (by decide) (by decide) rfl ?_
  exact G_iret C hr dX6_away_7 (rfl) (rfl)
set_option maxHeartbeats 4000000 in
set_option maxRecDepth 100000 in
theorem c_X6_refused   : CT l yX6_refused cX6_refused 1 (some .int) (rmOf 0 0) D (tyI cI cZ) [.ref (ad 14)] (wX cI cZ ad M t) (some (.int (nI (M 15 19)))) (wX cI cZ ad M t) := by
  refine CT_of (own := "FalseParity$Now") (by decide) rfl (Nat.le_of_ble_eq_true rfl) (fun p e s m args below meth c C hr => ?_)
  refine G_aload_n C 0 dX6_refused_0 rfl rfl ?_
  refine G_get (v := .ref (ad 15)) C 14 0 dX6_refused_1 xc_14 rfl inG6 (by decide) wm_183 rfl rfl ?_
  refine G_bipush C dX6_refused_4 kB_19 ?_
  refine G_iald (v := nI (M 15 19)) C 15 0 dX6_refused_6 xc_15 rfl (by decide) (by decide) rfl ?_
  exact G_iret C hr dX6_refused_7 (rfl) (rfl)
set_option maxHeartbeats 4000000 in
set_option maxRecDepth 100000 in
theorem c_X6_hasParity {n : Nat}  : CT l yX6_hasParity cX6_hasParity 2 (some .boolean) (rmOf 1 21) D (tyI cI cZ) [.ref (ad 14), .int (nI n)] (wX cI cZ ad M t) (some (.int (nI (bN (hb (nI (M 15 17)) n))))) (wX cI cZ ad M t) := by
  refine CT_of (own := "FalseParity$Now") (by decide) rfl (Nat.le_of_ble_eq_true rfl) (fun p e s m args below meth c C hr => ?_)
  refine G_aload_n C 0 dX6_hasParity_0 rfl rfl ?_
  refine G_get (v := .ref (ad 15)) C 14 0 dX6_hasParity_1 xc_14 rfl inG6 (by decide) wm_183 rfl rfl ?_
  refine G_bipush C dX6_hasParity_4 kB_17 ?_
  refine G_iald (v := nI (M 15 17)) C 15 0 dX6_hasParity_6 xc_15 rfl (by decide) (by decide) rfl ?_
  refine G_iload_n C 1 dX6_hasParity_7 rfl rfl ?_
  refine G_callSN1 C [.int (nI (M 15 17)), .int (nI n)] dX6_hasParity_8 (c_X10_hasBit) wn_463 wm_464 wm_50 wm_465 ydc_X10_hasBit rfl ⟨Nat.le_of_ble_eq_true rfl, Nat.le_of_ble_eq_true rfl⟩ ⟨rfl, rfl⟩ ⟨Nat.le_refl _, Nat.le_refl _⟩ (Nat.le_of_ble_eq_true rfl) rfl ?_
  exact G_zret C hr dX6_hasParity_11 (nB_nar _) (rfl) (rfl)
set_option maxHeartbeats 4000000 in
set_option maxRecDepth 100000 in
theorem c_X6_isAway {n : Nat}  : CT l yX6_isAway cX6_isAway 2 (some .boolean) (rmOf 1 21) D (tyI cI cZ) [.ref (ad 14), .int (nI n)] (wX cI cZ ad M t) (some (.int (nI (bN (hb (nI (M 15 18)) n))))) (wX cI cZ ad M t) := by
  refine CT_of (own := "FalseParity$Now") (by decide) rfl (Nat.le_of_ble_eq_true rfl) (fun p e s m args below meth c C hr => ?_)
  refine G_aload_n C 0 dX6_isAway_0 rfl rfl ?_
  refine G_get (v := .ref (ad 15)) C 14 0 dX6_isAway_1 xc_14 rfl inG6 (by decide) wm_183 rfl rfl ?_
  refine G_bipush C dX6_isAway_4 kB_18 ?_
  refine G_iald (v := nI (M 15 18)) C 15 0 dX6_isAway_6 xc_15 rfl (by decide) (by decide) rfl ?_
  refine G_iload_n C 1 dX6_isAway_7 rfl rfl ?_
  refine G_callSN1 C [.int (nI (M 15 18)), .int (nI n)] dX6_isAway_8 (c_X10_hasBit) wn_463 wm_464 wm_50 wm_465 ydc_X10_hasBit rfl ⟨Nat.le_of_ble_eq_true rfl, Nat.le_of_ble_eq_true rfl⟩ ⟨rfl, rfl⟩ ⟨Nat.le_refl _, Nat.le_refl _⟩ (Nat.le_of_ble_eq_true rfl) rfl ?_
  exact G_zret C hr dX6_isAway_11 (nB_nar _) (rfl) (rfl)
set_option maxHeartbeats 4000000 in
set_option maxRecDepth 100000 in
theorem c_X6_take {n q : Nat} (hn : n < 6) : CT l yX6_take cX6_take 3 none (rmOf 0 0) D (tyI cI cZ) [.ref (ad 14), .int (nI n), .int (nI q)] (wX cI cZ ad M t) (none) (wX cI cZ ad (ms (ms M 15 (n) (q)) 15 (6 + n) (M 15 (6 + n) + 1)) t) := by
  refine CT_of (own := "FalseParity$Now") (by decide) rfl (Nat.le_of_ble_eq_true rfl) (fun p e s m args below meth c C hr => ?_)
  refine G_aload_n C 0 dX6_take_0 rfl rfl ?_
  refine G_get (v := .ref (ad 15)) C 14 0 dX6_take_1 xc_14 rfl inG6 (by decide) wm_183 rfl rfl ?_
  refine G_iconst C dX6_take_4 kI_0 ?_
  refine G_iload_n C 1 dX6_take_5 rfl rfl ?_
  refine G_iaddN C dX6_take_6 ?_
  refine G_top (y := nI (n)) (congrArg nI (Nat.zero_add _)) ?_
  refine G_iload_n C 2 dX6_take_7 rfl rfl ?_
  refine G_iast (w' := wX cI cZ ad (ms M 15 (n) (q)) t) C 15 0 dX6_take_8 xc_15 rfl (by omega) (by decide) (xs_15 _ _) ?_
  refine G_aload_n C 0 dX6_take_9 rfl rfl ?_
  refine G_get (v := .ref (ad 15)) C 14 0 dX6_take_10 xc_14 rfl inG6 (by decide) wm_183 rfl rfl ?_
  refine G_bipush C dX6_take_13 kB_6 ?_
  refine G_iload_n C 1 dX6_take_15 rfl rfl ?_
  refine G_iaddN C dX6_take_16 ?_
  refine G_dup2 C dX6_take_17 rfl rfl ?_
  refine G_iald (v := nI (M 15 (6 + n))) C 15 0 dX6_take_18 xc_15 rfl (by omega) (by decide) (congrArg nI (ms_ne (by omega))) ?_
  refine G_iconst C dX6_take_19 kI_1 ?_
  refine G_iaddN C dX6_take_20 ?_
  refine G_iast (w' := wX cI cZ ad (ms (ms M 15 (n) (q)) 15 (6 + n) ((M 15 (6 + n)) + 1)) t) C 15 0 dX6_take_21 xc_15 rfl (by omega) (by decide) (xs_15 _ _) ?_
  exact G_vret C hr dX6_take_22 rfl (rfl)
set_option maxHeartbeats 4000000 in
set_option maxRecDepth 100000 in
theorem c_X9_add {ch : Nat} (hlen : M 1 1 < 150) (hB : ∀ k j, M k j < 1024) : CT l yX9_add cX9_add 2 (some .int) (rmOf 0 0) D (tyI cI cZ) [.ref (ad 1), .int (nI ch)] (wX cI cZ ad M t) (some (.int (nI (M 1 1 + 1)))) (wX cI cZ ad (ms (ms M 2 (M 1 1) (ch)) 1 (1) (M 1 1 + 1)) t) := by
  refine CT_of (own := "FalseParity$Text") (by decide) rfl (Nat.le_of_ble_eq_true rfl) (fun p e s m args below meth c C hr => ?_)
  refine G_aload_n C 0 dX9_add_0 rfl rfl ?_
  refine G_get (v := .int (nI (M 1 1))) C 1 1 dX9_add_1 xc_1 rfl inG9 (by decide) wm_81 rfl rfl ?_
  refine G_sipush C dX9_add_4 kS_150 ?_
  refine G_icmp_ltN (tgt := 13) C dX9_add_7 (by decide) (by have := hB 1 1; omega) (by decide) (fun h7_1 => ?_) (fun h7_1 => ?_)
  · refine G_aload_n C 0 dX9_add_13 rfl rfl ?_
    refine G_get (v := .ref (ad 2)) C 1 0 dX9_add_14 xc_1 rfl inG9 (by decide) wm_79 rfl rfl ?_
    refine G_aload_n C 0 dX9_add_17 rfl rfl ?_
    refine G_get (v := .int (nI (M 1 1))) C 1 1 dX9_add_18 xc_1 rfl inG9 (by decide) wm_81 rfl rfl ?_
    refine G_iload_n C 1 dX9_add_21 rfl rfl ?_
    refine G_iast (w' := wX cI cZ ad (ms M 2 (M 1 1) (ch)) t) C 2 0 dX9_add_22 xc_2 rfl (by have := hB 1 1; omega) (by decide) (xs_2 _ _) ?_
    refine G_aload_n C 0 dX9_add_23 rfl rfl ?_
    refine G_dup C dX9_add_24 rfl ?_
    refine G_get (v := .int (nI (M 1 1))) C 1 1 dX9_add_25 xc_1 rfl inG9 (by decide) wm_81 rfl rfl ?_
    refine G_iconst C dX9_add_28 kI_1 ?_
    refine G_iaddN C dX9_add_29 ?_
    refine G_put (w' := wX cI cZ ad (ms (ms M 2 (M 1 1) (ch)) 1 (1) ((M 1 1) + 1)) t) (ty := .int) C 1 1 tyX9 dX9_add_30 xc_1 rfl inG9 tyX9_ok nmX9 (by decide) wm_81 rfl rfl (by decide +kernel) rfl rfl (Nat.le_of_ble_eq_true rfl) (xp_1_1 _) ?_
    refine G_aload_n C 0 dX9_add_33 rfl rfl ?_
    refine G_get (v := .int (nI ((M 1 1) + 1))) C 1 1 dX9_add_34 xc_1 rfl inG9 (by decide) wm_81 rfl rfl ?_
    exact G_iret C hr dX9_add_37 (rfl) (rfl)
  · exfalso; omega
end X1
