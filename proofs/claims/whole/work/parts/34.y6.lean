section Y6
variable {l : Launch} {D : va_G} {cI cZ : ClassId} {ad : Nat → Nat} {M : Nat → Nat → Nat} {t : Int64}
set_option maxHeartbeats 4000000 in
set_option maxRecDepth 100000 in
theorem c_X11_isWell  (hB : ∀ k j, M k j < 1024) : CT l yX11_isWell cX11_isWell 1 (some .boolean) (rmOf 0 0) D (tyI cI cZ) [.ref (ad 0)] (wY cI cZ ad M t) (some (.int (nI (bN (decide (M 0 8 = 0)))))) (wY cI cZ ad M t) := by
  refine CT_of (own := "FalseParityModel") (by decide) rfl (Nat.le_of_ble_eq_true rfl) (fun p e s m args below meth c C hr => ?_)
  refine G_aload_n C 0 dX11_isWell_0 rfl rfl ?_
  refine G_get (v := .int (nI (M 0 8) - 1)) C 0 8 dX11_isWell_1 yc_0 rfl inG11 (by decide) wm_845 rfl rfl ?_
  refine G_if_ge (tgt := 11) C dX11_isWell_4 (by decide) (fun h4_1 => ?_) (fun h4_1 => ?_)
  · refine G_iconst C dX11_isWell_11 kI_0 ?_
    exact G_zret C hr dX11_isWell_12 (by rfl) (bI_f (decide_eq_false (by have q := (fw_lt (hB 0 8)).mp h4_1; omega))) (rfl)
  · refine G_iconst C dX11_isWell_7 kI_1 ?_
    refine G_goto (tgt := 12) C dX11_isWell_8 (by decide) ?_
    exact G_zret C hr dX11_isWell_12 (by rfl) (bI_t (decide_eq_true (by have q := (not_congr (fw_lt (hB 0 8))).mp h4_1; omega))) (rfl)
set_option maxHeartbeats 4000000 in
set_option maxRecDepth 100000 in
theorem c_X11_takes {b : Bool} (hR : y_RB M) : CT l yX11_takes cX11_takes 3 (some .int) (rmOf 2 43) D (tyI cI cZ) [.ref (ad 0), .int (nI (bN (b)))] (wY cI cZ ad M t) (some (.int (nI (y_take M b).1))) (wY cI cZ ad (y_take M b).2 t) := by
  obtain ⟨hB, hT, hX, hP, hQ⟩ := id hR
  refine CT_of (own := "FalseParityModel") (by decide) rfl (Nat.le_of_ble_eq_true rfl) (fun p e s m args below meth c C hr => ?_)
  refine G_aload_n C 0 dX11_takes_0 rfl rfl ?_
  refine G_callV1 C [] 0 dX11_takes_1 (c_X11_isWell hB) wm_946 wm_948 wm_35 wm_61 wm_949 yc_0 rfl ydc_X11_isWell rfl ⟨Nat.le_of_ble_eq_true rfl, Nat.le_of_ble_eq_true rfl⟩ ⟨rfl, rfl⟩ ⟨Nat.le_refl _, Nat.le_refl _⟩ (Nat.le_of_ble_eq_true rfl) rfl ?_
  refine G_if_neB (tgt := 9) C dX11_takes_4 (by decide) (fun h4_1 => ?_) (fun h4_1 => ?_)
  · refine G_iload_n C 1 dX11_takes_9 rfl rfl ?_
    refine G_if_neB (tgt := 23) C dX11_takes_10 (by decide) (fun h10_2 => ?_) (fun h10_2 => ?_)
    · refine G_aload_n C 0 dX11_takes_23 rfl rfl ?_
      refine G_get (v := .int (nI (M 0 7))) C 0 7 dX11_takes_24 yc_0 rfl inG11 (by decide) wm_844 rfl rfl ?_
      refine G_istore_n (lv' := [(2, .int (nI (M 0 7))), (0, .ref (ad 0)), (1, .int (nI (bN (b))))]) C dX11_takes_27 rfl (by decide) rfl ?_
      refine G_aload_n C 1 dX11_takes_28 rfl rfl ?_
      refine G_callV0 (w' := wY cI cZ ad (y_adv M) t) C [] 0 dX11_takes_29 (c_X11_advances hT hX hB) wm_938 wm_940 wm_33 wm_61 wm_941 yc_0 rfl ydc_X11_advances rfl ⟨Nat.le_of_ble_eq_true rfl, Nat.le_of_ble_eq_true rfl⟩ ⟨rfl, rfl⟩ ⟨Nat.le_refl _, Nat.le_refl _⟩ (Nat.le_of_ble_eq_true rfl) rfl ?_
      refine G_iload_n C 0 dX11_takes_32 rfl rfl ?_
      exact G_iret C hr dX11_takes_33 (by rw [h10_2, y_take_t (of_decide_eq_true h4_1)]) (congrArg (fun z => wY cI cZ ad z t) (by rw [h10_2, y_take_t (of_decide_eq_true h4_1)]))
    · refine G_aload_n C 0 dX11_takes_13 rfl rfl ?_
      refine G_aload_n C 0 dX11_takes_14 rfl rfl ?_
      refine G_get (v := .int (nI (M 0 6))) C 0 6 dX11_takes_15 yc_0 rfl inG11 (by decide) wm_843 rfl rfl ?_
      refine G_top (y := nI (M 0 6 + 1) - 1) (by rw [nI_pred]) ?_
      refine G_put (w' := wY cI cZ ad (ms M 0 (8) (M 0 6 + 1)) t) (ty := .int) C 0 8 tyX11 dX11_takes_18 yc_0 rfl inG11 tyX11_ok nmX11 (by decide) wm_845 rfl rfl (by decide +kernel) rfl rfl (Nat.le_of_ble_eq_true rfl) (yp_0_8 _) ?_
      refine G_iconst C dX11_takes_21 kI_0 ?_
      exact G_iret C hr dX11_takes_22 (by rw [h10_2, y_take_f (of_decide_eq_true h4_1)]) (congrArg (fun z => wY cI cZ ad z t) (by rw [h10_2, y_take_f (of_decide_eq_true h4_1)]))
  · refine G_iconst C dX11_takes_7 kI_0 ?_
    exact G_iret C hr dX11_takes_8 (by rw [y_take_n (of_decide_eq_false h4_1)]) (congrArg (fun z => wY cI cZ ad z t) (by rw [y_take_n (of_decide_eq_false h4_1)]))
theorem c_X11_in_u {v a b : Nat} (hv : v < 2 ^ 31) (ha : a < 2 ^ 31) (hb : b + 1 < 2 ^ 31) : CT l yX11_in cX11_in 3 (some .boolean) (rmOf 0 0) D (tyI cI cZ) [.int (nI v), .int (nI a), .int (nI b)] (wY cI cZ ad M t) (some (.int (nI (bN (decide (a ≤ v) && decide (v < b + 1)))))) (wY cI cZ ad M t) := by
  have e : decide (v < b + 1) = decide (v ≤ b) := decide_eq_decide.mpr Nat.lt_succ_iff
  rw [e]; exact c_X11_in_n hv ha (by omega)
theorem c_X11_in_v {v b : Nat} (hv : v < 1024) (hb : b < 1024) : CT l yX11_in cX11_in 3 (some .boolean) (rmOf 0 0) D (tyI cI cZ) [.int (nI v), .int (nI 0), .int (nI b - nI 1)] (wY cI cZ ad M t) (some (.int (nI (bN (decide (0 ≤ v) && decide (v < b)))))) (wY cI cZ ad M t) := by
  have e : (decide (0 ≤ v) && decide (v < b)) = inR (nI v) b := by rw [inR_nI (by omega) (by omega)]; simp
  rw [e]; exact c_X11_in_m hb
set_option maxHeartbeats 4000000 in
set_option maxRecDepth 100000 in
theorem c_X11_number {lo hi ub : Nat} (hu : ub = hi + 1) (hl : lo < 1024) (hh : hi < 1024) (hR : y_RB M) : CT l yX11_number cX11_number 3 (some .int) (rmOf 3 65) D (tyI cI cZ) [.ref (ad 0), .int (nI lo), .int (nI hi)] (wY cI cZ ad M t) (some (.int (nI (y_take M (y_nc M lo ub)).1))) (wY cI cZ ad (y_take M (y_nc M lo ub)).2 t) := by
  obtain ⟨hB, hT, hX, hP, hQ⟩ := id hR
  subst hu
  refine CT_of (own := "FalseParityModel") (by decide) rfl (Nat.le_of_ble_eq_true rfl) (fun p e s m args below meth c C hr => ?_)
  refine G_aload_n C 0 dX11_number_0 rfl rfl ?_
  refine G_aload_n C 0 dX11_number_1 rfl rfl ?_
  refine G_get (v := .int (nI (M 0 5))) C 0 5 dX11_number_2 yc_0 rfl inG11 (by decide) wm_842 rfl rfl ?_
  refine G_iconst C dX11_number_5 kI_2 ?_
  refine G_icmp_neN (tgt := 25) C dX11_number_6 (by decide) (by have := hB 0 5; omega) (by decide) (fun h6_1 => ?_) (fun h6_1 => ?_)
  · refine G_iconst C dX11_number_25 kI_0 ?_
    refine G_callV1 (w' := wY cI cZ ad ((y_take M (false)).2) t) C [.int (nI 0)] 0 dX11_number_26 (c_X11_takes (b := false) hR) wm_954 wm_956 wm_37 wm_61 wm_957 yc_0 rfl ydc_X11_takes rfl ⟨Nat.le_of_ble_eq_true rfl, Nat.le_of_ble_eq_true rfl⟩ ⟨rfl, rfl⟩ ⟨Nat.le_refl _, Nat.le_refl _⟩ (Nat.le_of_ble_eq_true rfl) rfl ?_
    exact G_iret C hr dX11_number_29 (by rw [show y_nc M lo (hi + 1) = false from (by unfold y_nc; rw [decide_eq_false h6_1, Bool.false_and])]) (congrArg (fun z => wY cI cZ ad z t) (by rw [show y_nc M lo (hi + 1) = false from (by unfold y_nc; rw [decide_eq_false h6_1, Bool.false_and])]))
  · refine G_aload_n C 0 dX11_number_9 rfl rfl ?_
    refine G_get (v := .int (nI (M 0 7))) C 0 7 dX11_number_10 yc_0 rfl inG11 (by decide) wm_844 rfl rfl ?_
    refine G_iload_n C 1 dX11_number_13 rfl rfl ?_
    refine G_iload_n C 2 dX11_number_14 rfl rfl ?_
    refine G_callS1 C [.int (nI (M 0 7)), .int (nI lo), .int (nI hi)] dX11_number_15 (c_X11_in_u (by have := hB 0 7; omega) (by omega) (by omega)) wm_927 wm_928 wm_61 wm_929 ydc_X11_in rfl ⟨Nat.le_of_ble_eq_true rfl, Nat.le_of_ble_eq_true rfl⟩ ⟨rfl, rfl⟩ ⟨Nat.le_refl _, Nat.le_refl _⟩ (Nat.le_of_ble_eq_true rfl) rfl ?_
    refine G_if_eqB (tgt := 25) C dX11_number_18 (by decide) (fun h18_2 => ?_) (fun h18_2 => ?_)
    · refine G_iconst C dX11_number_25 kI_0 ?_
      refine G_callV1 (w' := wY cI cZ ad ((y_take M (false)).2) t) C [.int (nI 0)] 0 dX11_number_26 (c_X11_takes (b := false) hR) wm_954 wm_956 wm_37 wm_61 wm_957 yc_0 rfl ydc_X11_takes rfl ⟨Nat.le_of_ble_eq_true rfl, Nat.le_of_ble_eq_true rfl⟩ ⟨rfl, rfl⟩ ⟨Nat.le_refl _, Nat.le_refl _⟩ (Nat.le_of_ble_eq_true rfl) rfl ?_
      exact G_iret C hr dX11_number_29 (by rw [show y_nc M lo (hi + 1) = false from (by unfold y_nc; rw [decide_eq_true h6_1, Bool.true_and, h18_2])]) (congrArg (fun z => wY cI cZ ad z t) (by rw [show y_nc M lo (hi + 1) = false from (by unfold y_nc; rw [decide_eq_true h6_1, Bool.true_and, h18_2])]))
    · refine G_iconst C dX11_number_21 kI_1 ?_
      refine G_goto (tgt := 26) C dX11_number_22 (by decide) ?_
      refine G_callV1 (w' := wY cI cZ ad ((y_take M (true)).2) t) C [.int (nI 1)] 0 dX11_number_26 (c_X11_takes (b := true) hR) wm_954 wm_956 wm_37 wm_61 wm_957 yc_0 rfl ydc_X11_takes rfl ⟨Nat.le_of_ble_eq_true rfl, Nat.le_of_ble_eq_true rfl⟩ ⟨rfl, rfl⟩ ⟨Nat.le_refl _, Nat.le_refl _⟩ (Nat.le_of_ble_eq_true rfl) rfl ?_
      exact G_iret C hr dX11_number_29 (by rw [show y_nc M lo (hi + 1) = true from (by unfold y_nc; rw [decide_eq_true h6_1, Bool.true_and, h18_2])]) (congrArg (fun z => wY cI cZ ad z t) (by rw [show y_nc M lo (hi + 1) = true from (by unfold y_nc; rw [decide_eq_true h6_1, Bool.true_and, h18_2])]))
set_option maxHeartbeats 4000000 in
set_option maxRecDepth 100000 in
theorem c_X11_number_m {ub : Nat} (hu : ub < 1024) (hR : y_RB M) : CT l yX11_number cX11_number 3 (some .int) (rmOf 3 65) D (tyI cI cZ) [.ref (ad 0), .int (nI 0), .int (nI ub - nI 1)] (wY cI cZ ad M t) (some (.int (nI (y_take M (y_nc M 0 ub)).1))) (wY cI cZ ad (y_take M (y_nc M 0 ub)).2 t) := by
  obtain ⟨hB, hT, hX, hP, hQ⟩ := id hR
  refine CT_of (own := "FalseParityModel") (by decide) rfl (Nat.le_of_ble_eq_true rfl) (fun p e s m args below meth c C hr => ?_)
  refine G_aload_n C 0 dX11_number_0 rfl rfl ?_
  refine G_aload_n C 0 dX11_number_1 rfl rfl ?_
  refine G_get (v := .int (nI (M 0 5))) C 0 5 dX11_number_2 yc_0 rfl inG11 (by decide) wm_842 rfl rfl ?_
  refine G_iconst C dX11_number_5 kI_2 ?_
  refine G_icmp_neN (tgt := 25) C dX11_number_6 (by decide) (by have := hB 0 5; omega) (by decide) (fun h6_1 => ?_) (fun h6_1 => ?_)
  · refine G_iconst C dX11_number_25 kI_0 ?_
    refine G_callV1 (w' := wY cI cZ ad ((y_take M (false)).2) t) C [.int (nI 0)] 0 dX11_number_26 (c_X11_takes (b := false) hR) wm_954 wm_956 wm_37 wm_61 wm_957 yc_0 rfl ydc_X11_takes rfl ⟨Nat.le_of_ble_eq_true rfl, Nat.le_of_ble_eq_true rfl⟩ ⟨rfl, rfl⟩ ⟨Nat.le_refl _, Nat.le_refl _⟩ (Nat.le_of_ble_eq_true rfl) rfl ?_
    exact G_iret C hr dX11_number_29 (by rw [show y_nc M 0 ub = false from (by unfold y_nc; rw [decide_eq_false h6_1, Bool.false_and])]) (congrArg (fun z => wY cI cZ ad z t) (by rw [show y_nc M 0 ub = false from (by unfold y_nc; rw [decide_eq_false h6_1, Bool.false_and])]))
  · refine G_aload_n C 0 dX11_number_9 rfl rfl ?_
    refine G_get (v := .int (nI (M 0 7))) C 0 7 dX11_number_10 yc_0 rfl inG11 (by decide) wm_844 rfl rfl ?_
    refine G_iload_n C 1 dX11_number_13 rfl rfl ?_
    refine G_iload_n C 2 dX11_number_14 rfl rfl ?_
    refine G_callS1 C [.int (nI (M 0 7)), .int (nI 0), .int (nI ub - nI 1)] dX11_number_15 (c_X11_in_v (hB _ _) hu) wm_927 wm_928 wm_61 wm_929 ydc_X11_in rfl ⟨Nat.le_of_ble_eq_true rfl, Nat.le_of_ble_eq_true rfl⟩ ⟨rfl, rfl⟩ ⟨Nat.le_refl _, Nat.le_refl _⟩ (Nat.le_of_ble_eq_true rfl) rfl ?_
    refine G_if_eqB (tgt := 25) C dX11_number_18 (by decide) (fun h18_2 => ?_) (fun h18_2 => ?_)
    · refine G_iconst C dX11_number_25 kI_0 ?_
      refine G_callV1 (w' := wY cI cZ ad ((y_take M (false)).2) t) C [.int (nI 0)] 0 dX11_number_26 (c_X11_takes (b := false) hR) wm_954 wm_956 wm_37 wm_61 wm_957 yc_0 rfl ydc_X11_takes rfl ⟨Nat.le_of_ble_eq_true rfl, Nat.le_of_ble_eq_true rfl⟩ ⟨rfl, rfl⟩ ⟨Nat.le_refl _, Nat.le_refl _⟩ (Nat.le_of_ble_eq_true rfl) rfl ?_
      exact G_iret C hr dX11_number_29 (by rw [show y_nc M 0 ub = false from (by unfold y_nc; rw [decide_eq_true h6_1, Bool.true_and, h18_2])]) (congrArg (fun z => wY cI cZ ad z t) (by rw [show y_nc M 0 ub = false from (by unfold y_nc; rw [decide_eq_true h6_1, Bool.true_and, h18_2])]))
    · refine G_iconst C dX11_number_21 kI_1 ?_
      refine G_goto (tgt := 26) C dX11_number_22 (by decide) ?_
      refine G_callV1 (w' := wY cI cZ ad ((y_take M (true)).2) t) C [.int (nI 1)] 0 dX11_number_26 (c_X11_takes (b := true) hR) wm_954 wm_956 wm_37 wm_61 wm_957 yc_0 rfl ydc_X11_takes rfl ⟨Nat.le_of_ble_eq_true rfl, Nat.le_of_ble_eq_true rfl⟩ ⟨rfl, rfl⟩ ⟨Nat.le_refl _, Nat.le_refl _⟩ (Nat.le_of_ble_eq_true rfl) rfl ?_
      exact G_iret C hr dX11_number_29 (by rw [show y_nc M 0 ub = true from (by unfold y_nc; rw [decide_eq_true h6_1, Bool.true_and, h18_2])]) (congrArg (fun z => wY cI cZ ad z t) (by rw [show y_nc M 0 ub = true from (by unfold y_nc; rw [decide_eq_true h6_1, Bool.true_and, h18_2])]))
set_option maxHeartbeats 4000000 in
set_option maxRecDepth 100000 in
theorem c_X11_begins   : CT l yX11_begins cX11_begins 1 none (rmOf 0 0) D (tyI cI cZ) [.ref (ad 0)] (wY cI cZ ad M t) (none) (wY cI cZ ad (y_bgs M) t) := by
  refine CT_of (own := "FalseParityModel") (by decide) rfl (Nat.le_of_ble_eq_true rfl) (fun p e s m args below meth c C hr => ?_)
  refine G_aload_n C 0 dX11_begins_0 rfl rfl ?_
  refine G_iconst C dX11_begins_1 kI_0 ?_
  refine G_put (w' := wY cI cZ ad (ms M 0 (10) (0)) t) (ty := .int) C 0 10 tyX11 dX11_begins_2 yc_0 rfl inG11 tyX11_ok nmX11 (by decide) wm_847 rfl rfl (by decide +kernel) rfl rfl (Nat.le_of_ble_eq_true rfl) (yp_0_10 _) ?_
  refine G_aload_n C 0 dX11_begins_5 rfl rfl ?_
  refine G_get (v := .ref (ad 2)) C 0 9 dX11_begins_6 yc_0 rfl inG11 (by decide) wm_846 rfl rfl ?_
  refine G_iconst C dX11_begins_9 kI_4 ?_
  refine G_iconst C dX11_begins_10 kI_0 ?_
  refine G_iast (w' := wY cI cZ ad (ms (ms M 0 (10) (0)) 2 (4) (0)) t) C 2 0 dX11_begins_11 yc_2 rfl (by decide) (by decide) (ys_2 _ _) ?_
  refine G_aload_n C 0 dX11_begins_12 rfl rfl ?_
  refine G_get (v := .ref (ad 2)) C 0 9 dX11_begins_13 yc_0 rfl inG11 (by decide) wm_846 rfl rfl ?_
  refine G_iconst C dX11_begins_16 kI_5 ?_
  refine G_iconst C dX11_begins_17 kI_0 ?_
  refine G_iast (w' := wY cI cZ ad (ms (ms (ms M 0 (10) (0)) 2 (4) (0)) 2 (5) (0)) t) C 2 0 dX11_begins_18 yc_2 rfl (by decide) (by decide) (ys_2 _ _) ?_
  refine G_aload_n C 0 dX11_begins_19 rfl rfl ?_
  refine G_get (v := .ref (ad 2)) C 0 9 dX11_begins_20 yc_0 rfl inG11 (by decide) wm_846 rfl rfl ?_
  refine G_bipush C dX11_begins_23 kB_6 ?_
  refine G_iconst C dX11_begins_25 kI_3 ?_
  refine G_iast (w' := wY cI cZ ad (ms (ms (ms (ms M 0 (10) (0)) 2 (4) (0)) 2 (5) (0)) 2 (6) (3)) t) C 2 0 dX11_begins_26 yc_2 rfl (by decide) (by decide) (ys_2 _ _) ?_
  refine G_aload_n C 0 dX11_begins_27 rfl rfl ?_
  refine G_get (v := .ref (ad 2)) C 0 9 dX11_begins_28 yc_0 rfl inG11 (by decide) wm_846 rfl rfl ?_
  refine G_bipush C dX11_begins_31 kB_7 ?_
  refine G_iconst C dX11_begins_33 kI_3 ?_
  refine G_iast (w' := wY cI cZ ad (ms (ms (ms (ms (ms M 0 (10) (0)) 2 (4) (0)) 2 (5) (0)) 2 (6) (3)) 2 (7) (3)) t) C 2 0 dX11_begins_34 yc_2 rfl (by decide) (by decide) (ys_2 _ _) ?_
  exact G_vret C hr dX11_begins_35 rfl (rfl)
set_option maxHeartbeats 4000000 in
set_option maxRecDepth 100000 in
theorem c_X11_mayBegin  (hB : ∀ k j, M k j < 1024) : CT l yX11_mayBegin cX11_mayBegin 1 (some .boolean) (rmOf 0 0) D (tyI cI cZ) [.ref (ad 0)] (wY cI cZ ad M t) (some (.int (nI (bN (y_mbg M))))) (wY cI cZ ad M t) := by
  refine CT_of (own := "FalseParityModel") (by decide) rfl (Nat.le_of_ble_eq_true rfl) (fun p e s m args below meth c C hr => ?_)
  refine G_aload_n C 0 dX11_mayBegin_0 rfl rfl ?_
  refine G_get (v := .int (nI (M 0 7))) C 0 7 dX11_mayBegin_1 yc_0 rfl inG11 (by decide) wm_844 rfl rfl ?_
  refine G_bipush C dX11_mayBegin_4 kB_112 ?_
  refine G_icmp_eqN (tgt := 18) C dX11_mayBegin_6 (by decide) (by have := hB 0 7; omega) (by decide) (fun h6_1 => ?_) (fun h6_1 => ?_)
  · refine G_aload_n C 0 dX11_mayBegin_18 rfl rfl ?_
    refine G_get (v := .int (nI (M 0 7))) C 0 7 dX11_mayBegin_19 yc_0 rfl inG11 (by decide) wm_844 rfl rfl ?_
    refine G_bipush C dX11_mayBegin_22 kB_112 ?_
    refine G_icmp_neN (tgt := 45) C dX11_mayBegin_24 (by decide) (by have := hB 0 7; omega) (by decide) (fun h24_2 => ?_) (fun h24_2 => ?_)
    · exfalso; omega
    · refine G_aload_n C 0 dX11_mayBegin_27 rfl rfl ?_
      refine G_get (v := .ref (ad 2)) C 0 9 dX11_mayBegin_28 yc_0 rfl inG11 (by decide) wm_846 rfl rfl ?_
      refine G_iconst C dX11_mayBegin_31 kI_4 ?_
      refine G_iald (v := nI (M 2 4)) C 2 0 dX11_mayBegin_32 yc_2 rfl (by decide) (by decide) rfl ?_
      refine G_iconst C dX11_mayBegin_33 kI_5 ?_
      refine G_icmp_geN (tgt := 41) C dX11_mayBegin_34 (by decide) (by have := hB 2 4; omega) (by decide) (fun h34_3 => ?_) (fun h34_3 => ?_)
      · refine G_iconst C dX11_mayBegin_41 kI_0 ?_
        refine G_goto (tgt := 61) C dX11_mayBegin_42 (by decide) ?_
        exact G_zret C hr dX11_mayBegin_61 (by rfl) (bI_f (by simp [y_mbg, h6_1, h24_2, h34_3])) (rfl)
      · refine G_iconst C dX11_mayBegin_37 kI_1 ?_
        refine G_goto (tgt := 61) C dX11_mayBegin_38 (by decide) ?_
        exact G_zret C hr dX11_mayBegin_61 (by rfl) (bI_t (by simp [y_mbg, h6_1, h24_2, h34_3])) (rfl)
  · refine G_aload_n C 0 dX11_mayBegin_9 rfl rfl ?_
    refine G_get (v := .int (nI (M 0 7))) C 0 7 dX11_mayBegin_10 yc_0 rfl inG11 (by decide) wm_844 rfl rfl ?_
    refine G_bipush C dX11_mayBegin_13 kB_110 ?_
    refine G_icmp_neN (tgt := 62) C dX11_mayBegin_15 (by decide) (by have := hB 0 7; omega) (by decide) (fun h15_4 => ?_) (fun h15_4 => ?_)
    · refine G_aload_n C 0 dX11_mayBegin_62 rfl rfl ?_
      refine G_get (v := .int (nI (M 0 10))) C 0 10 dX11_mayBegin_63 yc_0 rfl inG11 (by decide) wm_847 rfl rfl ?_
      refine G_aload_n C 0 dX11_mayBegin_66 rfl rfl ?_
      refine G_get (v := .int (nI (M 0 7))) C 0 7 dX11_mayBegin_67 yc_0 rfl inG11 (by decide) wm_844 rfl rfl ?_
      refine G_bipush C dX11_mayBegin_70 kB_98 ?_
      refine G_icmp_neN (tgt := 79) C dX11_mayBegin_72 (by decide) (by have := hB 0 7; omega) (by decide) (fun h72_5 => ?_) (fun h72_5 => ?_)
      · refine G_iconst C dX11_mayBegin_79 kI_2 ?_
        refine G_iandN C dX11_mayBegin_80 ?_
        refine G_if_neN (tgt := 88) C dX11_mayBegin_81 (by decide) (by first | omega | exact andlt (hB _ _)) (fun h81_6 => ?_) (fun h81_6 => ?_)
        · refine G_iconst C dX11_mayBegin_88 kI_0 ?_
          exact G_zret C hr dX11_mayBegin_89 (by rfl) (bI_f (by simp [y_mbg, h6_1, h15_4, h72_5, Nat.pos_iff_ne_zero.mp h81_6])) (rfl)
        · refine G_iconst C dX11_mayBegin_84 kI_1 ?_
          refine G_goto (tgt := 89) C dX11_mayBegin_85 (by decide) ?_
          exact G_zret C hr dX11_mayBegin_89 (by rfl) (bI_t (by simp [y_mbg, h6_1, h15_4, h72_5, h81_6])) (rfl)
      · refine G_iconst C dX11_mayBegin_75 kI_1 ?_
        refine G_goto (tgt := 80) C dX11_mayBegin_76 (by decide) ?_
        refine G_iandN C dX11_mayBegin_80 ?_
        refine G_top (y := nI ((M 0 10) % 2)) (congrArg nI (Nat.and_one_is_mod _)) ?_
        refine G_if_neN (tgt := 88) C dX11_mayBegin_81 (by decide) (by first | omega | exact andlt (hB _ _)) (fun h81_7 => ?_) (fun h81_7 => ?_)
        · refine G_iconst C dX11_mayBegin_88 kI_0 ?_
          exact G_zret C hr dX11_mayBegin_89 (by rfl) (bI_f (by simp [y_mbg, h6_1, h15_4, h72_5, Nat.pos_iff_ne_zero.mp h81_7])) (rfl)
        · refine G_iconst C dX11_mayBegin_84 kI_1 ?_
          refine G_goto (tgt := 89) C dX11_mayBegin_85 (by decide) ?_
          exact G_zret C hr dX11_mayBegin_89 (by rfl) (bI_t (by simp [y_mbg, h6_1, h15_4, h72_5, h81_7])) (rfl)
    · refine G_aload_n C 0 dX11_mayBegin_18 rfl rfl ?_
      refine G_get (v := .int (nI (M 0 7))) C 0 7 dX11_mayBegin_19 yc_0 rfl inG11 (by decide) wm_844 rfl rfl ?_
      refine G_bipush C dX11_mayBegin_22 kB_112 ?_
      refine G_icmp_neN (tgt := 45) C dX11_mayBegin_24 (by decide) (by have := hB 0 7; omega) (by decide) (fun h24_8 => ?_) (fun h24_8 => ?_)
      · refine G_aload_n C 0 dX11_mayBegin_45 rfl rfl ?_
        refine G_get (v := .ref (ad 2)) C 0 9 dX11_mayBegin_46 yc_0 rfl inG11 (by decide) wm_846 rfl rfl ?_
        refine G_iconst C dX11_mayBegin_49 kI_5 ?_
        refine G_iald (v := nI (M 2 5)) C 2 0 dX11_mayBegin_50 yc_2 rfl (by decide) (by decide) rfl ?_
        refine G_bipush C dX11_mayBegin_51 kB_6 ?_
        refine G_icmp_geN (tgt := 60) C dX11_mayBegin_53 (by decide) (by have := hB 2 5; omega) (by decide) (fun h53_9 => ?_) (fun h53_9 => ?_)
        · refine G_iconst C dX11_mayBegin_60 kI_0 ?_
          exact G_zret C hr dX11_mayBegin_61 (by rfl) (bI_f (by simp [y_mbg, h6_1, h15_4, h24_8, h53_9])) (rfl)
        · refine G_iconst C dX11_mayBegin_56 kI_1 ?_
          refine G_goto (tgt := 61) C dX11_mayBegin_57 (by decide) ?_
          exact G_zret C hr dX11_mayBegin_61 (by rfl) (bI_t (by simp [y_mbg, h6_1, h15_4, h24_8, h53_9])) (rfl)
      · exfalso; omega
set_option maxHeartbeats 4000000 in
set_option maxRecDepth 100000 in
theorem c_X11_readsItem {x : Nat} (hx : x < 1024) (hp : x = 112 → M 2 4 < 5) (hn : x = 110 → M 2 5 < 6) (hR : y_RB M) : CT l yX11_readsItem cX11_readsItem 3 none (rmOf 4 87) D (tyI cI cZ) [.ref (ad 0), .int (nI x)] (wY cI cZ ad M t) (none) (wY cI cZ ad (y_ri M x) t) := by
  obtain ⟨hB, hT, hX, hP, hQ⟩ := id hR
  have hR1 := y_take_RB (b := y_nc M 1 100) hR
  have hR1m := y_RB_ms (k := 4) (j := 6 + M 2 5) hR1.1 (by decide) hR1.2
  have hR2 := y_take_RB (b := y_nc (ms (y_take M (y_nc M 1 100)).2 4 (6 + M 2 5) (y_take M (y_nc M 1 100)).1) 0 32) hR1m
  have hR2m := y_RB_ms (k := 5) (j := 6 + M 2 5) hR2.1 (by decide) hR2.2
  refine CT_of (own := "FalseParityModel") (by decide) rfl (Nat.le_of_ble_eq_true rfl) (fun p e s m args below meth c C hr => ?_)
  refine G_iload_n C 1 dX11_readsItem_0 rfl rfl ?_
  refine G_bipush C dX11_readsItem_1 kB_112 ?_
  refine G_icmp_neN (tgt := 37) C dX11_readsItem_3 (by decide) (by omega) (by decide) (fun h3_1 => ?_) (fun h3_1 => ?_)
  · refine G_iload_n C 1 dX11_readsItem_37 rfl rfl ?_
    refine G_bipush C dX11_readsItem_38 kB_110 ?_
    refine G_icmp_neN (tgt := 114) C dX11_readsItem_40 (by decide) (by omega) (by decide) (fun h40_2 => ?_) (fun h40_2 => ?_)
    · refine G_iload_n C 1 dX11_readsItem_114 rfl rfl ?_
      refine G_bipush C dX11_readsItem_115 kB_98 ?_
      refine G_icmp_neN (tgt := 147) C dX11_readsItem_117 (by decide) (by omega) (by decide) (fun h117_3 => ?_) (fun h117_3 => ?_)
      · refine G_aload_n C 0 dX11_readsItem_147 rfl rfl ?_
        refine G_get (v := .ref (ad 2)) C 0 9 dX11_readsItem_148 yc_0 rfl inG11 (by decide) wm_846 rfl rfl ?_
        refine G_bipush C dX11_readsItem_151 kB_7 ?_
        refine G_aload_n C 0 dX11_readsItem_153 rfl rfl ?_
        refine G_iconst C dX11_readsItem_154 kI_0 ?_
        refine G_bipush C dX11_readsItem_155 kB_10 ?_
        refine G_callV1 (w' := wY cI cZ ad ((y_take M (y_nc M 0 11)).2) t) C [.int (nI 0), .int (nI 10)] 0 dX11_readsItem_157 (c_X11_number (ub := 11) rfl (by decide) (by decide) hR) wm_962 wm_964 wm_39 wm_61 wm_965 yc_0 rfl ydc_X11_number rfl ⟨Nat.le_of_ble_eq_true rfl, Nat.le_of_ble_eq_true rfl⟩ ⟨rfl, rfl⟩ ⟨Nat.le_refl _, Nat.le_refl _⟩ (Nat.le_of_ble_eq_true rfl) rfl ?_
        refine G_iast (w' := wY cI cZ ad (ms ((y_take M (y_nc M 0 11)).2) 2 (7) ((y_take M (y_nc M 0 11)).1)) t) C 2 0 dX11_readsItem_160 yc_2 rfl (by decide) (by decide) (ys_2 _ _) ?_
        refine G_aload_n C 0 dX11_readsItem_161 rfl rfl ?_
        refine G_dup C dX11_readsItem_162 rfl ?_
        refine G_get (v := .int (nI (((y_take M (y_nc M 0 11)).2) 0 10))) C 0 10 dX11_readsItem_163 yc_0 rfl inG11 (by decide) wm_847 rfl rfl ?_
        refine G_iconst C dX11_readsItem_166 kI_2 ?_
        refine G_iorN C dX11_readsItem_167 ?_
        refine G_put (w' := wY cI cZ ad (ms (ms ((y_take M (y_nc M 0 11)).2) 2 (7) ((y_take M (y_nc M 0 11)).1)) 0 (10) ((((y_take M (y_nc M 0 11)).2) 0 10) ||| 2)) t) (ty := .int) C 0 10 tyX11 dX11_readsItem_168 yc_0 rfl inG11 tyX11_ok nmX11 (by decide) wm_847 rfl rfl (by decide +kernel) rfl rfl (Nat.le_of_ble_eq_true rfl) (yp_0_10 _) ?_
        exact G_vret C hr dX11_readsItem_171 rfl (congrArg (fun z => wY cI cZ ad z t) (by unfold y_ri; rw [if_neg h3_1, if_neg h40_2, if_neg h117_3]; rfl))
      · refine G_aload_n C 0 dX11_readsItem_120 rfl rfl ?_
        refine G_get (v := .ref (ad 2)) C 0 9 dX11_readsItem_121 yc_0 rfl inG11 (by decide) wm_846 rfl rfl ?_
        refine G_bipush C dX11_readsItem_124 kB_6 ?_
        refine G_aload_n C 0 dX11_readsItem_126 rfl rfl ?_
        refine G_iconst C dX11_readsItem_127 kI_1 ?_
        refine G_bipush C dX11_readsItem_128 kB_9 ?_
        refine G_callV1 (w' := wY cI cZ ad ((y_take M (y_nc M 1 10)).2) t) C [.int (nI 1), .int (nI 9)] 0 dX11_readsItem_130 (c_X11_number (ub := 10) rfl (by decide) (by decide) hR) wm_962 wm_964 wm_39 wm_61 wm_965 yc_0 rfl ydc_X11_number rfl ⟨Nat.le_of_ble_eq_true rfl, Nat.le_of_ble_eq_true rfl⟩ ⟨rfl, rfl⟩ ⟨Nat.le_refl _, Nat.le_refl _⟩ (Nat.le_of_ble_eq_true rfl) rfl ?_
        refine G_iast (w' := wY cI cZ ad (ms ((y_take M (y_nc M 1 10)).2) 2 (6) ((y_take M (y_nc M 1 10)).1)) t) C 2 0 dX11_readsItem_133 yc_2 rfl (by decide) (by decide) (ys_2 _ _) ?_
        refine G_aload_n C 0 dX11_readsItem_134 rfl rfl ?_
        refine G_dup C dX11_readsItem_135 rfl ?_
        refine G_get (v := .int (nI (((y_take M (y_nc M 1 10)).2) 0 10))) C 0 10 dX11_readsItem_136 yc_0 rfl inG11 (by decide) wm_847 rfl rfl ?_
        refine G_iconst C dX11_readsItem_139 kI_1 ?_
        refine G_iorN C dX11_readsItem_140 ?_
        refine G_put (w' := wY cI cZ ad (ms (ms ((y_take M (y_nc M 1 10)).2) 2 (6) ((y_take M (y_nc M 1 10)).1)) 0 (10) ((((y_take M (y_nc M 1 10)).2) 0 10) ||| 1)) t) (ty := .int) C 0 10 tyX11 dX11_readsItem_141 yc_0 rfl inG11 tyX11_ok nmX11 (by decide) wm_847 rfl rfl (by decide +kernel) rfl rfl (Nat.le_of_ble_eq_true rfl) (yp_0_10 _) ?_
        refine G_goto (tgt := 171) C dX11_readsItem_144 (by decide) ?_
        exact G_vret C hr dX11_readsItem_171 rfl (congrArg (fun z => wY cI cZ ad z t) (by unfold y_ri; rw [if_neg h3_1, if_neg h40_2, if_pos h117_3]; rfl))
    · have hn6 := hn h40_2
      refine G_aload_n C 0 dX11_readsItem_43 rfl rfl ?_
      refine G_get (v := .ref (ad 2)) C 0 9 dX11_readsItem_44 yc_0 rfl inG11 (by decide) wm_846 rfl rfl ?_
      refine G_iconst C dX11_readsItem_47 kI_5 ?_
      refine G_iald (v := nI (M 2 5)) C 2 0 dX11_readsItem_48 yc_2 rfl (by decide) (by decide) rfl ?_
      refine G_istore_n (lv' := [(2, .int (nI (M 2 5))), (0, .ref (ad 0)), (1, .int (nI x))]) C dX11_readsItem_49 rfl (by decide) rfl ?_
      refine G_aload_n C 1 dX11_readsItem_50 rfl rfl ?_
      refine G_get (v := .ref (ad 4)) C 0 12 dX11_readsItem_51 yc_0 rfl inG11 (by decide) wm_849 rfl rfl ?_
      refine G_bipush C dX11_readsItem_54 kB_6 ?_
      refine G_iload_n C 0 dX11_readsItem_56 rfl rfl ?_
      refine G_iaddN C dX11_readsItem_57 ?_
      refine G_aload_n C 1 dX11_readsItem_58 rfl rfl ?_
      refine G_iconst C dX11_readsItem_59 kI_1 ?_
      refine G_bipush C dX11_readsItem_60 kB_99 ?_
      refine G_callV1 (w' := wY cI cZ ad ((y_take M (y_nc M 1 100)).2) t) C [.int (nI 1), .int (nI 99)] 0 dX11_readsItem_62 (c_X11_number (ub := 100) rfl (by decide) (by decide) hR) wm_962 wm_964 wm_39 wm_61 wm_965 yc_0 rfl ydc_X11_number rfl ⟨Nat.le_of_ble_eq_true rfl, Nat.le_of_ble_eq_true rfl⟩ ⟨rfl, rfl⟩ ⟨Nat.le_refl _, Nat.le_refl _⟩ (Nat.le_of_ble_eq_true rfl) rfl ?_
      refine G_iast (w' := wY cI cZ ad (ms ((y_take M (y_nc M 1 100)).2) 4 (6 + (M 2 5)) ((y_take M (y_nc M 1 100)).1)) t) C 4 0 dX11_readsItem_65 yc_4 rfl (by have := hB 2 5; omega) (by decide) (ys_4 _ _) ?_
      refine G_aload_n C 1 dX11_readsItem_66 rfl rfl ?_
      refine G_get (v := .ref (ad 5)) C 0 13 dX11_readsItem_67 yc_0 rfl inG11 (by decide) wm_850 rfl rfl ?_
      refine G_bipush C dX11_readsItem_70 kB_6 ?_
      refine G_iload_n C 0 dX11_readsItem_72 rfl rfl ?_
      refine G_iaddN C dX11_readsItem_73 ?_
      refine G_aload_n C 1 dX11_readsItem_74 rfl rfl ?_
      refine G_iconst C dX11_readsItem_75 kI_0 ?_
      refine G_bipush C dX11_readsItem_76 kB_31 ?_
      refine G_callV1 (v := .int (nI ((y_take (ms ((y_take M (y_nc M 1 100)).2) 4 (6 + (M 2 5)) ((y_take M (y_nc M 1 100)).1)) (y_nc (ms ((y_take M (y_nc M 1 100)).2) 4 (6 + (M 2 5)) ((y_take M (y_nc M 1 100)).1)) 0 32)).1))) (w' := wY cI cZ ad ((y_take (ms ((y_take M (y_nc M 1 100)).2) 4 (6 + (M 2 5)) ((y_take M (y_nc M 1 100)).1)) (y_nc (ms ((y_take M (y_nc M 1 100)).2) 4 (6 + (M 2 5)) ((y_take M (y_nc M 1 100)).1)) 0 32)).2) t) C [.int (nI 0), .int (nI 31)] 0 dX11_readsItem_78 (c_X11_number (ub := 32) rfl (by decide) (by decide) hR1m) wm_962 wm_964 wm_39 wm_61 wm_965 yc_0 rfl ydc_X11_number rfl ⟨Nat.le_of_ble_eq_true rfl, Nat.le_of_ble_eq_true rfl⟩ ⟨rfl, rfl⟩ ⟨Nat.le_refl _, Nat.le_refl _⟩ (Nat.le_of_ble_eq_true rfl) rfl ?_
      refine G_iast (w' := wY cI cZ ad (ms ((y_take (ms ((y_take M (y_nc M 1 100)).2) 4 (6 + (M 2 5)) ((y_take M (y_nc M 1 100)).1)) (y_nc (ms ((y_take M (y_nc M 1 100)).2) 4 (6 + (M 2 5)) ((y_take M (y_nc M 1 100)).1)) 0 32)).2) 5 (6 + (M 2 5)) ((y_take (ms ((y_take M (y_nc M 1 100)).2) 4 (6 + (M 2 5)) ((y_take M (y_nc M 1 100)).1)) (y_nc (ms ((y_take M (y_nc M 1 100)).2) 4 (6 + (M 2 5)) ((y_take M (y_nc M 1 100)).1)) 0 32)).1)) t) C 5 0 dX11_readsItem_81 yc_5 rfl (by have := hB 2 5; omega) (by decide) (ys_5 _ _) ?_
      refine G_aload_n C 1 dX11_readsItem_82 rfl rfl ?_
      refine G_get (v := .ref (ad 6)) C 0 14 dX11_readsItem_83 yc_0 rfl inG11 (by decide) wm_851 rfl rfl ?_
      refine G_iload_n C 0 dX11_readsItem_86 rfl rfl ?_
      refine G_aload_n C 1 dX11_readsItem_87 rfl rfl ?_
      refine G_iconst C dX11_readsItem_88 kI_0 ?_
      refine G_aload_n C 1 dX11_readsItem_89 rfl rfl ?_
      refine G_get (v := .ref (ad 2)) C 0 9 dX11_readsItem_90 yc_0 rfl inG11 (by decide) wm_846 rfl rfl ?_
      refine G_iconst C dX11_readsItem_93 kI_4 ?_
      refine G_iald (v := nI (M 2 4)) C 2 0 dX11_readsItem_94 yc_2 rfl (by decide) (by decide) rfl ?_
      refine G_iconst C dX11_readsItem_95 kI_1 ?_
      refine G_isub C dX11_readsItem_96 ?_
      refine G_callV1 (v := .int (nI ((y_take (ms ((y_take (ms ((y_take M (y_nc M 1 100)).2) 4 (6 + (M 2 5)) ((y_take M (y_nc M 1 100)).1)) (y_nc (ms ((y_take M (y_nc M 1 100)).2) 4 (6 + (M 2 5)) ((y_take M (y_nc M 1 100)).1)) 0 32)).2) 5 (6 + (M 2 5)) ((y_take (ms ((y_take M (y_nc M 1 100)).2) 4 (6 + (M 2 5)) ((y_take M (y_nc M 1 100)).1)) (y_nc (ms ((y_take M (y_nc M 1 100)).2) 4 (6 + (M 2 5)) ((y_take M (y_nc M 1 100)).1)) 0 32)).1)) (y_nc (ms ((y_take (ms ((y_take M (y_nc M 1 100)).2) 4 (6 + (M 2 5)) ((y_take M (y_nc M 1 100)).1)) (y_nc (ms ((y_take M (y_nc M 1 100)).2) 4 (6 + (M 2 5)) ((y_take M (y_nc M 1 100)).1)) 0 32)).2) 5 (6 + (M 2 5)) ((y_take (ms ((y_take M (y_nc M 1 100)).2) 4 (6 + (M 2 5)) ((y_take M (y_nc M 1 100)).1)) (y_nc (ms ((y_take M (y_nc M 1 100)).2) 4 (6 + (M 2 5)) ((y_take M (y_nc M 1 100)).1)) 0 32)).1)) 0 (M 2 4))).1))) (w' := wY cI cZ ad ((y_take (ms ((y_take (ms ((y_take M (y_nc M 1 100)).2) 4 (6 + (M 2 5)) ((y_take M (y_nc M 1 100)).1)) (y_nc (ms ((y_take M (y_nc M 1 100)).2) 4 (6 + (M 2 5)) ((y_take M (y_nc M 1 100)).1)) 0 32)).2) 5 (6 + (M 2 5)) ((y_take (ms ((y_take M (y_nc M 1 100)).2) 4 (6 + (M 2 5)) ((y_take M (y_nc M 1 100)).1)) (y_nc (ms ((y_take M (y_nc M 1 100)).2) 4 (6 + (M 2 5)) ((y_take M (y_nc M 1 100)).1)) 0 32)).1)) (y_nc (ms ((y_take (ms ((y_take M (y_nc M 1 100)).2) 4 (6 + (M 2 5)) ((y_take M (y_nc M 1 100)).1)) (y_nc (ms ((y_take M (y_nc M 1 100)).2) 4 (6 + (M 2 5)) ((y_take M (y_nc M 1 100)).1)) 0 32)).2) 5 (6 + (M 2 5)) ((y_take (ms ((y_take M (y_nc M 1 100)).2) 4 (6 + (M 2 5)) ((y_take M (y_nc M 1 100)).1)) (y_nc (ms ((y_take M (y_nc M 1 100)).2) 4 (6 + (M 2 5)) ((y_take M (y_nc M 1 100)).1)) 0 32)).1)) 0 (M 2 4))).2) t) C [.int (nI 0), .int ((nI (M 2 4)) - (nI (1)))] 0 dX11_readsItem_97 (c_X11_number_m (ub := M 2 4) (hB _ _) hR2m) wm_962 wm_964 wm_39 wm_61 wm_965 yc_0 rfl ydc_X11_number rfl ⟨Nat.le_of_ble_eq_true rfl, Nat.le_of_ble_eq_true rfl⟩ ⟨rfl, rfl⟩ ⟨Nat.le_refl _, Nat.le_refl _⟩ (Nat.le_of_ble_eq_true rfl) rfl ?_
      refine G_iast (w' := wY cI cZ ad (ms ((y_take (ms ((y_take (ms ((y_take M (y_nc M 1 100)).2) 4 (6 + (M 2 5)) ((y_take M (y_nc M 1 100)).1)) (y_nc (ms ((y_take M (y_nc M 1 100)).2) 4 (6 + (M 2 5)) ((y_take M (y_nc M 1 100)).1)) 0 32)).2) 5 (6 + (M 2 5)) ((y_take (ms ((y_take M (y_nc M 1 100)).2) 4 (6 + (M 2 5)) ((y_take M (y_nc M 1 100)).1)) (y_nc (ms ((y_take M (y_nc M 1 100)).2) 4 (6 + (M 2 5)) ((y_take M (y_nc M 1 100)).1)) 0 32)).1)) (y_nc (ms ((y_take (ms ((y_take M (y_nc M 1 100)).2) 4 (6 + (M 2 5)) ((y_take M (y_nc M 1 100)).1)) (y_nc (ms ((y_take M (y_nc M 1 100)).2) 4 (6 + (M 2 5)) ((y_take M (y_nc M 1 100)).1)) 0 32)).2) 5 (6 + (M 2 5)) ((y_take (ms ((y_take M (y_nc M 1 100)).2) 4 (6 + (M 2 5)) ((y_take M (y_nc M 1 100)).1)) (y_nc (ms ((y_take M (y_nc M 1 100)).2) 4 (6 + (M 2 5)) ((y_take M (y_nc M 1 100)).1)) 0 32)).1)) 0 (M 2 4))).2) 6 (M 2 5) ((y_take (ms ((y_take (ms ((y_take M (y_nc M 1 100)).2) 4 (6 + (M 2 5)) ((y_take M (y_nc M 1 100)).1)) (y_nc (ms ((y_take M (y_nc M 1 100)).2) 4 (6 + (M 2 5)) ((y_take M (y_nc M 1 100)).1)) 0 32)).2) 5 (6 + (M 2 5)) ((y_take (ms ((y_take M (y_nc M 1 100)).2) 4 (6 + (M 2 5)) ((y_take M (y_nc M 1 100)).1)) (y_nc (ms ((y_take M (y_nc M 1 100)).2) 4 (6 + (M 2 5)) ((y_take M (y_nc M 1 100)).1)) 0 32)).1)) (y_nc (ms ((y_take (ms ((y_take M (y_nc M 1 100)).2) 4 (6 + (M 2 5)) ((y_take M (y_nc M 1 100)).1)) (y_nc (ms ((y_take M (y_nc M 1 100)).2) 4 (6 + (M 2 5)) ((y_take M (y_nc M 1 100)).1)) 0 32)).2) 5 (6 + (M 2 5)) ((y_take (ms ((y_take M (y_nc M 1 100)).2) 4 (6 + (M 2 5)) ((y_take M (y_nc M 1 100)).1)) (y_nc (ms ((y_take M (y_nc M 1 100)).2) 4 (6 + (M 2 5)) ((y_take M (y_nc M 1 100)).1)) 0 32)).1)) 0 (M 2 4))).1)) t) C 6 0 dX11_readsItem_100 yc_6 rfl (by have := hB 2 5; omega) (by decide) (ys_6 _ _) ?_
      refine G_aload_n C 1 dX11_readsItem_101 rfl rfl ?_
      refine G_get (v := .ref (ad 2)) C 0 9 dX11_readsItem_102 yc_0 rfl inG11 (by decide) wm_846 rfl rfl ?_
      refine G_iconst C dX11_readsItem_105 kI_5 ?_
      refine G_dup2 C dX11_readsItem_106 rfl rfl ?_
      refine G_iald (v := nI (M 2 5)) C 2 0 dX11_readsItem_107 yc_2 rfl (by decide) (by decide) rfl ?_
      refine G_iconst C dX11_readsItem_108 kI_1 ?_
      refine G_iaddN C dX11_readsItem_109 ?_
      refine G_iast (w' := wY cI cZ ad (ms (ms ((y_take (ms ((y_take (ms ((y_take M (y_nc M 1 100)).2) 4 (6 + (M 2 5)) ((y_take M (y_nc M 1 100)).1)) (y_nc (ms ((y_take M (y_nc M 1 100)).2) 4 (6 + (M 2 5)) ((y_take M (y_nc M 1 100)).1)) 0 32)).2) 5 (6 + (M 2 5)) ((y_take (ms ((y_take M (y_nc M 1 100)).2) 4 (6 + (M 2 5)) ((y_take M (y_nc M 1 100)).1)) (y_nc (ms ((y_take M (y_nc M 1 100)).2) 4 (6 + (M 2 5)) ((y_take M (y_nc M 1 100)).1)) 0 32)).1)) (y_nc (ms ((y_take (ms ((y_take M (y_nc M 1 100)).2) 4 (6 + (M 2 5)) ((y_take M (y_nc M 1 100)).1)) (y_nc (ms ((y_take M (y_nc M 1 100)).2) 4 (6 + (M 2 5)) ((y_take M (y_nc M 1 100)).1)) 0 32)).2) 5 (6 + (M 2 5)) ((y_take (ms ((y_take M (y_nc M 1 100)).2) 4 (6 + (M 2 5)) ((y_take M (y_nc M 1 100)).1)) (y_nc (ms ((y_take M (y_nc M 1 100)).2) 4 (6 + (M 2 5)) ((y_take M (y_nc M 1 100)).1)) 0 32)).1)) 0 (M 2 4))).2) 6 (M 2 5) ((y_take (ms ((y_take (ms ((y_take M (y_nc M 1 100)).2) 4 (6 + (M 2 5)) ((y_take M (y_nc M 1 100)).1)) (y_nc (ms ((y_take M (y_nc M 1 100)).2) 4 (6 + (M 2 5)) ((y_take M (y_nc M 1 100)).1)) 0 32)).2) 5 (6 + (M 2 5)) ((y_take (ms ((y_take M (y_nc M 1 100)).2) 4 (6 + (M 2 5)) ((y_take M (y_nc M 1 100)).1)) (y_nc (ms ((y_take M (y_nc M 1 100)).2) 4 (6 + (M 2 5)) ((y_take M (y_nc M 1 100)).1)) 0 32)).1)) (y_nc (ms ((y_take (ms ((y_take M (y_nc M 1 100)).2) 4 (6 + (M 2 5)) ((y_take M (y_nc M 1 100)).1)) (y_nc (ms ((y_take M (y_nc M 1 100)).2) 4 (6 + (M 2 5)) ((y_take M (y_nc M 1 100)).1)) 0 32)).2) 5 (6 + (M 2 5)) ((y_take (ms ((y_take M (y_nc M 1 100)).2) 4 (6 + (M 2 5)) ((y_take M (y_nc M 1 100)).1)) (y_nc (ms ((y_take M (y_nc M 1 100)).2) 4 (6 + (M 2 5)) ((y_take M (y_nc M 1 100)).1)) 0 32)).1)) 0 (M 2 4))).1)) 2 (5) ((M 2 5) + 1)) t) C 2 0 dX11_readsItem_110 yc_2 rfl (by decide) (by decide) (ys_2 _ _) ?_
      refine G_goto (tgt := 171) C dX11_readsItem_111 (by decide) ?_
      exact G_vret C hr dX11_readsItem_171 rfl (congrArg (fun z => wY cI cZ ad z t) (by unfold y_ri; rw [if_neg h3_1, if_pos h40_2]))
  · have hp5 := hp h3_1
    refine G_aload_n C 0 dX11_readsItem_6 rfl rfl ?_
    refine G_get (v := .ref (ad 3)) C 0 11 dX11_readsItem_7 yc_0 rfl inG11 (by decide) wm_848 rfl rfl ?_
    refine G_aload_n C 0 dX11_readsItem_10 rfl rfl ?_
    refine G_get (v := .ref (ad 2)) C 0 9 dX11_readsItem_11 yc_0 rfl inG11 (by decide) wm_846 rfl rfl ?_
    refine G_iconst C dX11_readsItem_14 kI_4 ?_
    refine G_iald (v := nI (M 2 4)) C 2 0 dX11_readsItem_15 yc_2 rfl (by decide) (by decide) rfl ?_
    refine G_aload_n C 0 dX11_readsItem_16 rfl rfl ?_
    refine G_iconst C dX11_readsItem_17 kI_0 ?_
    refine G_bipush C dX11_readsItem_18 kB_31 ?_
    refine G_callV1 (w' := wY cI cZ ad ((y_take M (y_nc M 0 32)).2) t) C [.int (nI 0), .int (nI 31)] 0 dX11_readsItem_20 (c_X11_number (ub := 32) rfl (by decide) (by decide) hR) wm_962 wm_964 wm_39 wm_61 wm_965 yc_0 rfl ydc_X11_number rfl ⟨Nat.le_of_ble_eq_true rfl, Nat.le_of_ble_eq_true rfl⟩ ⟨rfl, rfl⟩ ⟨Nat.le_refl _, Nat.le_refl _⟩ (Nat.le_of_ble_eq_true rfl) rfl ?_
    refine G_iast (w' := wY cI cZ ad (ms ((y_take M (y_nc M 0 32)).2) 3 (M 2 4) ((y_take M (y_nc M 0 32)).1)) t) C 3 0 dX11_readsItem_23 yc_3 rfl (by have := hB 2 4; omega) (by decide) (ys_3 _ _) ?_
    refine G_aload_n C 0 dX11_readsItem_24 rfl rfl ?_
    refine G_get (v := .ref (ad 2)) C 0 9 dX11_readsItem_25 yc_0 rfl inG11 (by decide) wm_846 rfl rfl ?_
    refine G_iconst C dX11_readsItem_28 kI_4 ?_
    refine G_dup2 C dX11_readsItem_29 rfl rfl ?_
    refine G_iald (v := nI (M 2 4)) C 2 0 dX11_readsItem_30 yc_2 rfl (by decide) (by decide) rfl ?_
    refine G_iconst C dX11_readsItem_31 kI_1 ?_
    refine G_iaddN C dX11_readsItem_32 ?_
    refine G_iast (w' := wY cI cZ ad (ms (ms ((y_take M (y_nc M 0 32)).2) 3 (M 2 4) ((y_take M (y_nc M 0 32)).1)) 2 (4) ((M 2 4) + 1)) t) C 2 0 dX11_readsItem_33 yc_2 rfl (by decide) (by decide) (ys_2 _ _) ?_
    refine G_goto (tgt := 171) C dX11_readsItem_34 (by decide) ?_
    exact G_vret C hr dX11_readsItem_171 rfl (congrArg (fun z => wY cI cZ ad z t) (by unfold y_ri; rw [if_pos h3_1]))
end Y6
