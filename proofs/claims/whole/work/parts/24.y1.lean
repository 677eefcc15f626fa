section Y1
variable {l : Launch} {D : va_G} {cI cZ : ClassId} {ad : Nat → Nat} {M : Nat → Nat → Nat} {t : Int64}
set_option maxHeartbeats 4000000 in
set_option maxRecDepth 100000 in
theorem c_X11_in {x a b : Int32}  : CT l yX11_in cX11_in 3 (some .boolean) (rmOf 0 0) D (tyI cI cZ) [.int (x), .int (a), .int (b)] (wY cI cZ ad M t) (some (.int (nI (bN (inI x a b))))) (wY cI cZ ad M t) := by
  refine CT_of (own := "FalseParityModel") (by decide) rfl (Nat.le_of_ble_eq_true rfl) (fun p e s m args below meth c C hr => ?_)
  refine G_iload_n C 0 dX11_in_0 rfl rfl ?_
  refine G_iload_n C 1 dX11_in_1 rfl rfl ?_
  refine G_icmp_lt (tgt := 14) C dX11_in_2 (by decide) (fun h2_1 => ?_) (fun h2_1 => ?_)
  · refine G_iconst C dX11_in_14 kI_0 ?_
    exact G_zret C hr dX11_in_15 (by rfl) (bI_f (by simp [inI, Int32.not_le.mpr h2_1])) (rfl)
  · refine G_iload_n C 0 dX11_in_5 rfl rfl ?_
    refine G_iload_n C 2 dX11_in_6 rfl rfl ?_
    refine G_icmp_gt (tgt := 14) C dX11_in_7 (by decide) (fun h7_2 => ?_) (fun h7_2 => ?_)
    · refine G_iconst C dX11_in_14 kI_0 ?_
      exact G_zret C hr dX11_in_15 (by rfl) (bI_f (by simp [inI, Int32.not_le.mpr h7_2])) (rfl)
    · refine G_iconst C dX11_in_10 kI_1 ?_
      refine G_goto (tgt := 15) C dX11_in_11 (by decide) ?_
      exact G_zret C hr dX11_in_15 (by rfl) (bI_t (by simp [inI, Int32.not_lt.mp h2_1, Int32.not_lt.mp h7_2])) (rfl)
theorem c_X11_in_c {x : Int32} {k : Nat} (hk : k < 1024) : CT l yX11_in cX11_in 3 (some .boolean) (rmOf 0 0) D (tyI cI cZ) [.int x, .int (nI 0), .int (nI k)] (wY cI cZ ad M t) (some (.int (nI (bN (inR x (k + 1)))))) (wY cI cZ ad M t) := by
  rw [← inI_c hk]; exact c_X11_in
theorem c_X11_in_m {x : Int32} {n : Nat} (hn : n < 1024) : CT l yX11_in cX11_in 3 (some .boolean) (rmOf 0 0) D (tyI cI cZ) [.int x, .int (nI 0), .int (nI n - nI 1)] (wY cI cZ ad M t) (some (.int (nI (bN (inR x n))))) (wY cI cZ ad M t) := by
  rw [← inI_m hn]; exact c_X11_in
theorem c_X11_in_d {k : Nat} (hB : ∀ k j, M k j < 1024) : CT l yX11_in cX11_in 3 (some .boolean) (rmOf 0 0) D (tyI cI cZ) [.int (y_la M k), .int (nI 48), .int (nI 57)] (wY cI cZ ad M t) (some (.int (nI (bN (y_dg M k))))) (wY cI cZ ad M t) := by
  rw [← y_la_dg hB]; exact c_X11_in
theorem c_X11_in_n {v a b : Nat} (hv : v < 2 ^ 31) (ha : a < 2 ^ 31) (hb : b < 2 ^ 31) : CT l yX11_in cX11_in 3 (some .boolean) (rmOf 0 0) D (tyI cI cZ) [.int (nI v), .int (nI a), .int (nI b)] (wY cI cZ ad M t) (some (.int (nI (bN (decide (a ≤ v) && decide (v ≤ b)))))) (wY cI cZ ad M t) := by
  rw [← inI_n hv ha hb]; exact c_X11_in
set_option maxHeartbeats 4000000 in
set_option maxRecDepth 100000 in
theorem c_X11_ones {a : Nat} (ha : a < 64) : CT l yX11_ones cX11_ones 3 (some .int) (rmOf 0 0) D (tyI cI cZ) [.int (nI a)] (wY cI cZ ad M t) (some (.int (nI (pc6 a)))) (wY cI cZ ad M t) := by
  refine CT_of (own := "FalseParityModel") (by decide) rfl (Nat.le_of_ble_eq_true rfl) (fun p e s m args below meth c C hr => ?_)
  refine G_iconst C dX11_ones_0 kI_0 ?_
  refine G_istore_n (lv' := [(1, .int (nI 0)), (0, .int (nI a))]) C dX11_ones_1 rfl (by decide) rfl ?_
  refine G_iconst C dX11_ones_2 kI_0 ?_
  refine G_istore_n (lv' := [(2, .int (nI 0)), (1, .int (nI 0)), (0, .int (nI a))]) C dX11_ones_3 rfl (by decide) rfl ?_
  refine G_pick (lv' := [(0, .int (nI a)), (1, .int (nI 0)), (2, .int (nI 0))]) [2, 1, 0] rfl ?_
  refine loopN (P := fun i => ∀ k : Nat, (k = sumTo (fun k => a / 2 ^ k % 2) i) → G p l e (rmOf 0 0) s m args below meth c D _ 3 0 0 _ 4 [(0, .int (nI a)), (1, .int (nI k)), (2, .int (nI i))] [] (wY cI cZ ad M t)) (6) ?_ ?_ 0 (Nat.zero_le _) (0) rfl
  · intro k hi1_0
    refine G_iload_n C 2 dX11_ones_4 rfl rfl ?_
    refine G_bipush C dX11_ones_5 kB_6 ?_
    refine G_icmp_geN (tgt := 24) C dX11_ones_7 (by decide) (by decide) (by decide) (fun h7_2 => ?_) (fun h7_2 => ?_)
    · refine G_iload_n C 1 dX11_ones_24 rfl rfl ?_
      exact G_iret C hr dX11_ones_25 (by rw [hi1_0]; rfl) (rfl)
    · exact absurd h7_2 (by decide)
  · intro i hi6 ih1 k hi1_0
    refine G_iload_n C 2 dX11_ones_4 rfl rfl ?_
    refine G_bipush C dX11_ones_5 kB_6 ?_
    refine G_icmp_geN (tgt := 24) C dX11_ones_7 (by decide) (by omega) (by decide) (fun h7_3 => ?_) (fun h7_3 => ?_)
    · exfalso; omega
    · refine G_iload_n C 1 dX11_ones_10 rfl rfl ?_
      refine G_iload_n C 0 dX11_ones_11 rfl rfl ?_
      refine G_iload_n C 2 dX11_ones_12 rfl rfl ?_
      refine G_ishrN C dX11_ones_13 (by omega) (by omega) ?_
      refine G_iconst C dX11_ones_14 kI_1 ?_
      refine G_iandN C dX11_ones_15 ?_
      refine G_top (y := nI ((a / 2 ^ i) % 2)) (congrArg nI (Nat.and_one_is_mod _)) ?_
      refine G_iaddN C dX11_ones_16 ?_
      refine G_istore_n (lv' := [(1, .int (nI (k + ((a / 2 ^ i) % 2)))), (0, .int (nI a)), (2, .int (nI i))]) C dX11_ones_17 rfl (by decide) rfl ?_
      refine G_iincN (lv' := [(2, .int (nI (i + 1))), (1, .int (nI (k + ((a / 2 ^ i) % 2)))), (0, .int (nI a))]) C 2 dX11_ones_18 rfl (by decide) rfl ?_
      refine G_goto (tgt := 4) C dX11_ones_21 (by decide) ?_
      refine G_pick (lv' := [(0, .int (nI a)), (1, .int (nI (k + ((a / 2 ^ i) % 2)))), (2, .int (nI (i + 1)))]) [2, 1, 0] rfl ?_
      exact ih1 _ (by rw [hi1_0]; rfl)
set_option maxHeartbeats 4000000 in
set_option maxRecDepth 100000 in
theorem c_X11_isPerson {x : Int32} (hB : ∀ k j, M k j < 1024) : CT l yX11_isPerson cX11_isPerson 2 (some .boolean) (rmOf 1 22) D (tyI cI cZ) [.ref (ad 0), .int (x)] (wY cI cZ ad M t) (some (.int (nI (bN (inR x (M 2 0)))))) (wY cI cZ ad M t) := by
  refine CT_of (own := "FalseParityModel") (by decide) rfl (Nat.le_of_ble_eq_true rfl) (fun p e s m args below meth c C hr => ?_)
  refine G_iload_n C 1 dX11_isPerson_0 rfl rfl ?_
  refine G_iconst C dX11_isPerson_1 kI_0 ?_
  refine G_aload_n C 0 dX11_isPerson_2 rfl rfl ?_
  refine G_get (v := .ref (ad 2)) C 0 9 dX11_isPerson_3 yc_0 rfl inG11 (by decide) wm_846 rfl rfl ?_
  refine G_iconst C dX11_isPerson_6 kI_0 ?_
  refine G_iald (v := nI (M 2 0)) C 2 0 dX11_isPerson_7 yc_2 rfl (by decide) (by decide) rfl ?_
  refine G_iconst C dX11_isPerson_8 kI_1 ?_
  refine G_isub C dX11_isPerson_9 ?_
  refine G_callS1 C [.int (x), .int (nI 0), .int ((nI (M 2 0)) - (nI (1)))] dX11_isPerson_10 (c_X11_in_m (hB _ _)) wm_927 wm_928 wm_61 wm_929 ydc_X11_in rfl ⟨Nat.le_of_ble_eq_true rfl, Nat.le_of_ble_eq_true rfl⟩ ⟨rfl, rfl⟩ ⟨Nat.le_refl _, Nat.le_refl _⟩ (Nat.le_of_ble_eq_true rfl) rfl ?_
  exact G_zret C hr dX11_isPerson_13 (nB_nar _) (rfl) (rfl)
set_option maxHeartbeats 4000000 in
set_option maxRecDepth 100000 in
theorem c_X11_isNote {x : Int32} (hB : ∀ k j, M k j < 1024) : CT l yX11_isNote cX11_isNote 2 (some .boolean) (rmOf 1 22) D (tyI cI cZ) [.ref (ad 0), .int (x)] (wY cI cZ ad M t) (some (.int (nI (bN (inR x (M 2 1)))))) (wY cI cZ ad M t) := by
  refine CT_of (own := "FalseParityModel") (by decide) rfl (Nat.le_of_ble_eq_true rfl) (fun p e s m args below meth c C hr => ?_)
  refine G_iload_n C 1 dX11_isNote_0 rfl rfl ?_
  refine G_iconst C dX11_isNote_1 kI_0 ?_
  refine G_aload_n C 0 dX11_isNote_2 rfl rfl ?_
  refine G_get (v := .ref (ad 2)) C 0 9 dX11_isNote_3 yc_0 rfl inG11 (by decide) wm_846 rfl rfl ?_
  refine G_iconst C dX11_isNote_6 kI_1 ?_
  refine G_iald (v := nI (M 2 1)) C 2 0 dX11_isNote_7 yc_2 rfl (by decide) (by decide) rfl ?_
  refine G_iconst C dX11_isNote_8 kI_1 ?_
  refine G_isub C dX11_isNote_9 ?_
  refine G_callS1 C [.int (x), .int (nI 0), .int ((nI (M 2 1)) - (nI (1)))] dX11_isNote_10 (c_X11_in_m (hB _ _)) wm_927 wm_928 wm_61 wm_929 ydc_X11_in rfl ⟨Nat.le_of_ble_eq_true rfl, Nat.le_of_ble_eq_true rfl⟩ ⟨rfl, rfl⟩ ⟨Nat.le_refl _, Nat.le_refl _⟩ (Nat.le_of_ble_eq_true rfl) rfl ?_
  exact G_zret C hr dX11_isNote_13 (nB_nar _) (rfl) (rfl)
set_option maxHeartbeats 4000000 in
set_option maxRecDepth 100000 in
theorem c_X11_isAway {n : Nat} (hn : n < 32) (hB : ∀ k j, M k j < 1024) : CT l yX11_isAway cX11_isAway 2 (some .boolean) (rmOf 0 0) D (tyI cI cZ) [.ref (ad 0), .int (nI n)] (wY cI cZ ad M t) (some (.int (nI (bN (y_aw M n))))) (wY cI cZ ad M t) := by
  refine CT_of (own := "FalseParityModel") (by decide) rfl (Nat.le_of_ble_eq_true rfl) (fun p e s m args below meth c C hr => ?_)
  refine G_aload_n C 0 dX11_isAway_0 rfl rfl ?_
  refine G_get (v := .ref (ad 7)) C 0 15 dX11_isAway_1 yc_0 rfl inG11 (by decide) wm_852 rfl rfl ?_
  refine G_bipush C dX11_isAway_4 kB_13 ?_
  refine G_iald (v := nI (M 7 13)) C 7 0 dX11_isAway_6 yc_7 rfl (by decide) (by decide) rfl ?_
  refine G_iload_n C 1 dX11_isAway_7 rfl rfl ?_
  refine G_ishrN C dX11_isAway_8 hn (by have := hB 7 13; omega) ?_
  refine G_iconst C dX11_isAway_9 kI_1 ?_
  refine G_iandN C dX11_isAway_10 ?_
  refine G_top (y := nI (((M 7 13) / 2 ^ n) % 2)) (congrArg nI (Nat.and_one_is_mod _)) ?_
  refine G_iconst C dX11_isAway_11 kI_1 ?_
  refine G_icmp_neN (tgt := 19) C dX11_isAway_12 (by decide) (by omega) (by omega) (fun h12_1 => ?_) (fun h12_1 => ?_)
  · refine G_iconst C dX11_isAway_19 kI_0 ?_
    exact G_zret C hr dX11_isAway_20 (by rfl) (bI_f (decide_eq_false h12_1)) (rfl)
  · refine G_iconst C dX11_isAway_15 kI_1 ?_
    refine G_goto (tgt := 20) C dX11_isAway_16 (by decide) ?_
    exact G_zret C hr dX11_isAway_20 (by rfl) (bI_t (decide_eq_true h12_1)) (rfl)
set_option maxHeartbeats 4000000 in
set_option maxRecDepth 100000 in
theorem c_X11_hasParity {n : Nat} (hn : n < 32) (hB : ∀ k j, M k j < 1024) : CT l yX11_hasParity cX11_hasParity 2 (some .boolean) (rmOf 0 0) D (tyI cI cZ) [.ref (ad 0), .int (nI n)] (wY cI cZ ad M t) (some (.int (nI (bN (y_pa M n))))) (wY cI cZ ad M t) := by
  refine CT_of (own := "FalseParityModel") (by decide) rfl (Nat.le_of_ble_eq_true rfl) (fun p e s m args below meth c C hr => ?_)
  refine G_aload_n C 0 dX11_hasParity_0 rfl rfl ?_
  refine G_get (v := .ref (ad 7)) C 0 15 dX11_hasParity_1 yc_0 rfl inG11 (by decide) wm_852 rfl rfl ?_
  refine G_bipush C dX11_hasParity_4 kB_12 ?_
  refine G_iald (v := nI (M 7 12)) C 7 0 dX11_hasParity_6 yc_7 rfl (by decide) (by decide) rfl ?_
  refine G_iload_n C 1 dX11_hasParity_7 rfl rfl ?_
  refine G_ishrN C dX11_hasParity_8 hn (by have := hB 7 12; omega) ?_
  refine G_iconst C dX11_hasParity_9 kI_1 ?_
  refine G_iandN C dX11_hasParity_10 ?_
  refine G_top (y := nI (((M 7 12) / 2 ^ n) % 2)) (congrArg nI (Nat.and_one_is_mod _)) ?_
  refine G_iconst C dX11_hasParity_11 kI_1 ?_
  refine G_icmp_neN (tgt := 19) C dX11_hasParity_12 (by decide) (by omega) (by omega) (fun h12_1 => ?_) (fun h12_1 => ?_)
  · refine G_iconst C dX11_hasParity_19 kI_0 ?_
    exact G_zret C hr dX11_hasParity_20 (by rfl) (bI_f (decide_eq_false h12_1)) (rfl)
  · refine G_iconst C dX11_hasParity_15 kI_1 ?_
    refine G_goto (tgt := 20) C dX11_hasParity_16 (by decide) ?_
    exact G_zret C hr dX11_hasParity_20 (by rfl) (bI_t (decide_eq_true h12_1)) (rfl)
set_option maxHeartbeats 4000000 in
set_option maxRecDepth 100000 in
theorem c_X11_takers {n : Nat} {b : Bool} (hn : n < 12) (hP : M 2 0 ≤ 5) (hB : ∀ k j, M k j < 1024) : CT l yX11_takers cX11_takers 5 (some .int) (rmOf 0 0) D (tyI cI cZ) [.ref (ad 0), .int (nI n), .int (nI (bN (b)))] (wY cI cZ ad M t) (some (.int (nI (y_tk M n b)))) (wY cI cZ ad M t) := by
  refine CT_of (own := "FalseParityModel") (by decide) rfl (Nat.le_of_ble_eq_true rfl) (fun p e s m args below meth c C hr => ?_)
  refine G_iconst C dX11_takers_0 kI_0 ?_
  refine G_istore_n (lv' := [(3, .int (nI 0)), (0, .ref (ad 0)), (1, .int (nI n)), (2, .int (nI (bN (b))))]) C dX11_takers_1 rfl (by decide) rfl ?_
  refine G_iconst C dX11_takers_2 kI_0 ?_
  refine G_istore (lv' := [(4, .int (nI 0)), (3, .int (nI 0)), (0, .ref (ad 0)), (1, .int (nI n)), (2, .int (nI (bN (b))))]) C dX11_takers_3 (by decide) rfl ?_
  refine G_pick (lv' := [(0, .ref (ad 0)), (1, .int (nI n)), (2, .int (nI (bN (b)))), (3, .int (nI 0)), (4, .int (nI 0))]) [2, 3, 4, 1, 0] rfl ?_
  refine loopN (P := fun q => ∀ a : Nat, (a = foldTo (fun q a => if b = true ∨ M 5 n &&& M 7 (14 + q) = 0 then a ||| (1 * 2 ^ q) else a ||| 0) 0 q) → G p l e (rmOf 0 0) s m args below meth c D _ 5 0 0 _ 5 [(0, .ref (ad 0)), (1, .int (nI n)), (2, .int (nI (bN (b)))), (3, .int (nI a)), (4, .int (nI q))] [] (wY cI cZ ad M t)) (M 2 0) ?_ ?_ 0 (Nat.zero_le _) (0) rfl
  · intro a hi1_0
    refine G_iload C 4 dX11_takers_5 rfl ?_
    refine G_aload_n C 0 dX11_takers_7 rfl rfl ?_
    refine G_get (v := .ref (ad 2)) C 0 9 dX11_takers_8 yc_0 rfl inG11 (by decide) wm_846 rfl rfl ?_
    refine G_iconst C dX11_takers_11 kI_0 ?_
    refine G_iald (v := nI (M 2 0)) C 2 0 dX11_takers_12 yc_2 rfl (by decide) (by decide) rfl ?_
    refine G_icmp_geN (tgt := 57) C dX11_takers_13 (by decide) (by have := hB 2 0; omega) (by have := hB 2 0; omega) (fun h13_2 => ?_) (fun h13_2 => ?_)
    · refine G_iload_n C 3 dX11_takers_57 rfl rfl ?_
      exact G_iret C hr dX11_takers_58 (by rw [hi1_0]; rfl) (rfl)
    · exfalso; omega
  · intro q hq ih1 a hi1_0
    refine G_iload C 4 dX11_takers_5 rfl ?_
    refine G_aload_n C 0 dX11_takers_7 rfl rfl ?_
    refine G_get (v := .ref (ad 2)) C 0 9 dX11_takers_8 yc_0 rfl inG11 (by decide) wm_846 rfl rfl ?_
    refine G_iconst C dX11_takers_11 kI_0 ?_
    refine G_iald (v := nI (M 2 0)) C 2 0 dX11_takers_12 yc_2 rfl (by decide) (by decide) rfl ?_
    refine G_icmp_geN (tgt := 57) C dX11_takers_13 (by decide) (by omega) (by have := hB 2 0; omega) (fun h13_3 => ?_) (fun h13_3 => ?_)
    · exfalso; omega
    · refine G_iload_n C 3 dX11_takers_16 rfl rfl ?_
      refine G_iload_n C 2 dX11_takers_17 rfl rfl ?_
      refine G_if_neB (tgt := 41) C dX11_takers_18 (by decide) (fun h18_4 => ?_) (fun h18_4 => ?_)
      · refine G_iconst C dX11_takers_41 kI_1 ?_
        refine G_iload C 4 dX11_takers_42 rfl ?_
        refine G_ishlN C dX11_takers_44 (by omega) (sh1 (by omega)) ?_
        refine G_goto (tgt := 49) C dX11_takers_45 (by decide) ?_
        refine G_iorN C dX11_takers_49 ?_
        refine G_istore_n (lv' := [(3, .int (nI (a ||| (1 * 2 ^ q)))), (0, .ref (ad 0)), (1, .int (nI n)), (2, .int (nI (bN (b)))), (4, .int (nI q))]) C dX11_takers_50 rfl (by decide) rfl ?_
        refine G_iincN (lv' := [(4, .int (nI (q + 1))), (3, .int (nI (a ||| (1 * 2 ^ q)))), (0, .ref (ad 0)), (1, .int (nI n)), (2, .int (nI (bN (b))))]) C 4 dX11_takers_51 rfl (by decide) rfl ?_
        refine G_goto (tgt := 5) C dX11_takers_54 (by decide) ?_
        refine G_pick (lv' := [(0, .ref (ad 0)), (1, .int (nI n)), (2, .int (nI (bN (b)))), (3, .int (nI (a ||| (1 * 2 ^ q)))), (4, .int (nI (q + 1)))]) [2, 3, 4, 1, 0] rfl ?_
        exact ih1 _ (by simp only [foldTo]; rw [← hi1_0, if_pos (Or.inl h18_4)])
      · refine G_aload_n C 0 dX11_takers_21 rfl rfl ?_
        refine G_get (v := .ref (ad 5)) C 0 13 dX11_takers_22 yc_0 rfl inG11 (by decide) wm_850 rfl rfl ?_
        refine G_iload_n C 1 dX11_takers_25 rfl rfl ?_
        refine G_iald (v := nI (M 5 n)) C 5 0 dX11_takers_26 yc_5 rfl (by omega) (by decide) rfl ?_
        refine G_aload_n C 0 dX11_takers_27 rfl rfl ?_
        refine G_get (v := .ref (ad 7)) C 0 15 dX11_takers_28 yc_0 rfl inG11 (by decide) wm_852 rfl rfl ?_
        refine G_bipush C dX11_takers_31 kB_14 ?_
        refine G_iload C 4 dX11_takers_33 rfl ?_
        refine G_iaddN C dX11_takers_35 ?_
        refine G_iald (v := nI (M 7 (14 + q))) C 7 0 dX11_takers_36 yc_7 rfl (by omega) (by decide) rfl ?_
        refine G_iandN C dX11_takers_37 ?_
        refine G_if_neN (tgt := 48) C dX11_takers_38 (by decide) (andlt (hB _ _)) (fun h38_5 => ?_) (fun h38_5 => ?_)
        · refine G_iconst C dX11_takers_48 kI_0 ?_
          refine G_iorN C dX11_takers_49 ?_
          refine G_istore_n (lv' := [(3, .int (nI (a ||| 0))), (0, .ref (ad 0)), (1, .int (nI n)), (2, .int (nI (bN (b)))), (4, .int (nI q))]) C dX11_takers_50 rfl (by decide) rfl ?_
          refine G_iincN (lv' := [(4, .int (nI (q + 1))), (3, .int (nI (a ||| 0))), (0, .ref (ad 0)), (1, .int (nI n)), (2, .int (nI (bN (b))))]) C 4 dX11_takers_51 rfl (by decide) rfl ?_
          refine G_goto (tgt := 5) C dX11_takers_54 (by decide) ?_
          refine G_pick (lv' := [(0, .ref (ad 0)), (1, .int (nI n)), (2, .int (nI (bN (b)))), (3, .int (nI (a ||| 0))), (4, .int (nI (q + 1)))]) [2, 3, 4, 1, 0] rfl ?_
          exact ih1 _ (by simp only [foldTo]; rw [← hi1_0, if_neg (fun z => z.elim (fun y => by rw [h18_4] at y; cases y) (by omega))])
        · refine G_iconst C dX11_takers_41 kI_1 ?_
          refine G_iload C 4 dX11_takers_42 rfl ?_
          refine G_ishlN C dX11_takers_44 (by omega) (sh1 (by omega)) ?_
          refine G_goto (tgt := 49) C dX11_takers_45 (by decide) ?_
          refine G_iorN C dX11_takers_49 ?_
          refine G_istore_n (lv' := [(3, .int (nI (a ||| (1 * 2 ^ q)))), (0, .ref (ad 0)), (1, .int (nI n)), (2, .int (nI (bN (b)))), (4, .int (nI q))]) C dX11_takers_50 rfl (by decide) rfl ?_
          refine G_iincN (lv' := [(4, .int (nI (q + 1))), (3, .int (nI (a ||| (1 * 2 ^ q)))), (0, .ref (ad 0)), (1, .int (nI n)), (2, .int (nI (bN (b))))]) C 4 dX11_takers_51 rfl (by decide) rfl ?_
          refine G_goto (tgt := 5) C dX11_takers_54 (by decide) ?_
          refine G_pick (lv' := [(0, .ref (ad 0)), (1, .int (nI n)), (2, .int (nI (bN (b)))), (3, .int (nI (a ||| (1 * 2 ^ q)))), (4, .int (nI (q + 1)))]) [2, 3, 4, 1, 0] rfl ?_
          exact ih1 _ (by simp only [foldTo]; rw [← hi1_0, if_pos (Or.inr h38_5)])
set_option maxHeartbeats 4000000 in
set_option maxRecDepth 100000 in
theorem c_X11_type {x : Int32} (h0 : M 0 0 = 0) (hT : M 0 3 ≤ 150) (hB : ∀ k j, M k j < 1024) : CT l yX11_type cX11_type 2 (some .int) (rmOf 1 22) D (tyI cI cZ) [.ref (ad 0), .int (x)] (wY cI cZ ad M t) (some (.int (y_type M x).1)) (wY cI cZ ad (y_type M x).2 t) := by
  refine CT_of (own := "FalseParityModel") (by decide) rfl (Nat.le_of_ble_eq_true rfl) (fun p e s m args below meth c C hr => ?_)
  refine G_aload_n C 0 dX11_type_0 rfl rfl ?_
  refine G_iconst C dX11_type_1 kI_0 ?_
  refine G_put (w' := wY cI cZ ad (ms M 0 (0) (0)) t) (ty := .int) C 0 0 tyX11 dX11_type_2 yc_0 rfl inG11 tyX11_ok nmX11 (by decide) wm_837 rfl rfl (by decide +kernel) rfl rfl (Nat.le_of_ble_eq_true rfl) (yp_0_0 _) ?_
  refine G_w (w2 := wY cI cZ ad M t) (congrArg (fun z => wY cI cZ ad z t) (ms_id h0)) ?_
  refine G_iload_n C 1 dX11_type_5 rfl rfl ?_
  refine G_iconst C dX11_type_6 kI_0 ?_
  refine G_sipush C dX11_type_7 kS_255 ?_
  refine G_callS1 C [.int (x), .int (nI 0), .int (nI 255)] dX11_type_10 (c_X11_in_c (by decide)) wm_927 wm_928 wm_61 wm_929 ydc_X11_in rfl ⟨Nat.le_of_ble_eq_true rfl, Nat.le_of_ble_eq_true rfl⟩ ⟨rfl, rfl⟩ ⟨Nat.le_refl _, Nat.le_refl _⟩ (Nat.le_of_ble_eq_true rfl) rfl ?_
  refine G_if_neB (tgt := 18) C dX11_type_13 (by decide) (fun h13_1 => ?_) (fun h13_1 => ?_)
  · obtain ⟨j, hx_j, rfl⟩ := inR_of (by decide) h13_1
    have cl_j := nI_clamp (n := j) (by omega)
    refine G_aload_n C 0 dX11_type_18 rfl rfl ?_
    refine G_get (v := .int (nI (M 0 3))) C 0 3 dX11_type_19 yc_0 rfl inG11 (by decide) wm_840 rfl rfl ?_
    refine G_sipush C dX11_type_22 kS_150 ?_
    refine G_icmp_neN (tgt := 31) C dX11_type_25 (by decide) (by have := hB 0 3; omega) (by decide) (fun h25_2 => ?_) (fun h25_2 => ?_)
    · refine G_aload_n C 0 dX11_type_31 rfl rfl ?_
      refine G_get (v := .ref (ad 1)) C 0 2 dX11_type_32 yc_0 rfl inG11 (by decide) wm_839 rfl rfl ?_
      refine G_aload_n C 0 dX11_type_35 rfl rfl ?_
      refine G_get (v := .int (nI (M 0 3))) C 0 3 dX11_type_36 yc_0 rfl inG11 (by decide) wm_840 rfl rfl ?_
      refine G_iload_n C 1 dX11_type_39 rfl rfl ?_
      refine G_iast (w' := wY cI cZ ad (ms M 1 (M 0 3) (j)) t) C 1 0 dX11_type_40 yc_1 rfl (by have := hB 0 3; omega) (by decide) (ys_1 _ _) ?_
      refine G_aload_n C 0 dX11_type_41 rfl rfl ?_
      refine G_dup C dX11_type_42 rfl ?_
      refine G_get (v := .int (nI (M 0 3))) C 0 3 dX11_type_43 yc_0 rfl inG11 (by decide) wm_840 rfl rfl ?_
      refine G_iconst C dX11_type_46 kI_1 ?_
      refine G_iaddN C dX11_type_47 ?_
      refine G_put (w' := wY cI cZ ad (ms (ms M 1 (M 0 3) (j)) 0 (3) ((M 0 3) + 1)) t) (ty := .int) C 0 3 tyX11 dX11_type_48 yc_0 rfl inG11 tyX11_ok nmX11 (by decide) wm_840 rfl rfl (by decide +kernel) rfl rfl (Nat.le_of_ble_eq_true rfl) (yp_0_3 _) ?_
      refine G_aload_n C 0 dX11_type_51 rfl rfl ?_
      refine G_get (v := .int (nI ((M 0 3) + 1))) C 0 3 dX11_type_52 yc_0 rfl inG11 (by decide) wm_840 rfl rfl ?_
      exact G_iret C hr dX11_type_55 (by simp [y_type, h13_1, h25_2, cl_j]) (congrArg (fun z => wY cI cZ ad z t) (by simp [y_type, h13_1, h25_2, cl_j]))
    · refine G_bipush C dX11_type_28 kB_m3 ?_
      exact G_iret C hr dX11_type_30 (by simp [y_type, h13_1, h25_2]) (congrArg (fun z => wY cI cZ ad z t) (by simp [y_type, h13_1, h25_2]))
  · refine G_iconst C dX11_type_16 kI_m1 ?_
    exact G_iret C hr dX11_type_17 (by simp [y_type, h13_1]) (congrArg (fun z => wY cI cZ ad z t) (by simp [y_type, h13_1]))
set_option maxHeartbeats 4000000 in
set_option maxRecDepth 100000 in
theorem c_X11_clear  (h0 : M 0 0 = 0)  : CT l yX11_clear cX11_clear 2 (some .int) (rmOf 0 0) D (tyI cI cZ) [.ref (ad 0)] (wY cI cZ ad M t) (some (.int (nI (M 0 3)))) (wY cI cZ ad (ms M 0 (3) (0)) t) := by
  refine CT_of (own := "FalseParityModel") (by decide) rfl (Nat.le_of_ble_eq_true rfl) (fun p e s m args below meth c C hr => ?_)
  refine G_aload_n C 0 dX11_clear_0 rfl rfl ?_
  refine G_iconst C dX11_clear_1 kI_0 ?_
  refine G_put (w' := wY cI cZ ad (ms M 0 (0) (0)) t) (ty := .int) C 0 0 tyX11 dX11_clear_2 yc_0 rfl inG11 tyX11_ok nmX11 (by decide) wm_837 rfl rfl (by decide +kernel) rfl rfl (Nat.le_of_ble_eq_true rfl) (yp_0_0 _) ?_
  refine G_w (w2 := wY cI cZ ad M t) (congrArg (fun z => wY cI cZ ad z t) (ms_id h0)) ?_
  refine G_aload_n C 0 dX11_clear_5 rfl rfl ?_
  refine G_get (v := .int (nI (M 0 3))) C 0 3 dX11_clear_6 yc_0 rfl inG11 (by decide) wm_840 rfl rfl ?_
  refine G_istore_n (lv' := [(1, .int (nI (M 0 3))), (0, .ref (ad 0))]) C dX11_clear_9 rfl (by decide) rfl ?_
  refine G_aload_n C 1 dX11_clear_10 rfl rfl ?_
  refine G_iconst C dX11_clear_11 kI_0 ?_
  refine G_put (w' := wY cI cZ ad (ms M 0 (3) (0)) t) (ty := .int) C 0 3 tyX11 dX11_clear_12 yc_0 rfl inG11 tyX11_ok nmX11 (by decide) wm_840 rfl rfl (by decide +kernel) rfl rfl (Nat.le_of_ble_eq_true rfl) (yp_0_3 _) ?_
  refine G_iload_n C 0 dX11_clear_15 rfl rfl ?_
  exact G_iret C hr dX11_clear_16 (rfl) (rfl)
set_option maxHeartbeats 4000000 in
set_option maxRecDepth 100000 in
theorem c_X11_note {x y : Int32} (h0 : M 0 0 = 0) (hN : M 2 1 ≤ 6) (hP : M 2 0 ≤ 5) (hB : ∀ k j, M k j < 1024) : CT l yX11_note cX11_note 3 (some .int) (rmOf 2 43) D (tyI cI cZ) [.ref (ad 0), .int (x), .int (y)] (wY cI cZ ad M t) (some (.int (y_note M x y))) (wY cI cZ ad M t) := by
  refine CT_of (own := "FalseParityModel") (by decide) rfl (Nat.le_of_ble_eq_true rfl) (fun p e s m args below meth c C hr => ?_)
  refine G_aload_n C 0 dX11_note_0 rfl rfl ?_
  refine G_iconst C dX11_note_1 kI_0 ?_
  refine G_put (w' := wY cI cZ ad (ms M 0 (0) (0)) t) (ty := .int) C 0 0 tyX11 dX11_note_2 yc_0 rfl inG11 tyX11_ok nmX11 (by decide) wm_837 rfl rfl (by decide +kernel) rfl rfl (Nat.le_of_ble_eq_true rfl) (yp_0_0 _) ?_
  refine G_w (w2 := wY cI cZ ad M t) (congrArg (fun z => wY cI cZ ad z t) (ms_id h0)) ?_
  refine G_aload_n C 0 dX11_note_5 rfl rfl ?_
  refine G_iload_n C 1 dX11_note_6 rfl rfl ?_
  refine G_callV1 C [.int (x)] 0 dX11_note_7 (c_X11_isNote hB) wm_970 wm_972 wm_40 wm_61 wm_973 yc_0 rfl ydc_X11_isNote rfl ⟨Nat.le_of_ble_eq_true rfl, Nat.le_of_ble_eq_true rfl⟩ ⟨rfl, rfl⟩ ⟨Nat.le_refl _, Nat.le_refl _⟩ (Nat.le_of_ble_eq_true rfl) rfl ?_
  refine G_if_eqB (tgt := 23) C dX11_note_10 (by decide) (fun h10_1 => ?_) (fun h10_1 => ?_)
  · refine G_iconst C dX11_note_23 kI_m1 ?_
    exact G_iret C hr dX11_note_24 (by simp [y_note, y_noteN, h10_1]) (rfl)
  · obtain ⟨n, hx_n, rfl⟩ := inR_of (by have := hB 2 1; omega) h10_1
    have cl_n := nI_clamp (n := n) (by have := hB 2 1; omega)
    refine G_iload_n C 2 dX11_note_13 rfl rfl ?_
    refine G_iconst C dX11_note_14 kI_0 ?_
    refine G_bipush C dX11_note_15 kB_6 ?_
    refine G_callS1 C [.int (y), .int (nI 0), .int (nI 6)] dX11_note_17 (c_X11_in_c (by decide)) wm_927 wm_928 wm_61 wm_929 ydc_X11_in rfl ⟨Nat.le_of_ble_eq_true rfl, Nat.le_of_ble_eq_true rfl⟩ ⟨rfl, rfl⟩ ⟨Nat.le_refl _, Nat.le_refl _⟩ (Nat.le_of_ble_eq_true rfl) rfl ?_
    refine G_if_neB (tgt := 25) C dX11_note_20 (by decide) (fun h20_2 => ?_) (fun h20_2 => ?_)
    · obtain ⟨k, hx_k, rfl⟩ := inR_of (by decide) h20_2
      have cl_k := nI_clamp (n := k) (by omega)
      refine G_iload_n C 2 dX11_note_25 rfl rfl ?_
      refine G_iconst C dX11_note_26 kI_4 ?_
      refine G_icmp_geN (tgt := 83) C dX11_note_27 (by decide) (by omega) (by decide) (fun h27_3 => ?_) (fun h27_3 => ?_)
      · refine G_iload_n C 2 dX11_note_83 rfl rfl ?_
        refine G_iconst C dX11_note_84 kI_4 ?_
        refine G_icmp_neN (tgt := 102) C dX11_note_85 (by decide) (by omega) (by decide) (fun h85_4 => ?_) (fun h85_4 => ?_)
        · refine G_iload_n C 2 dX11_note_102 rfl rfl ?_
          refine G_iconst C dX11_note_103 kI_5 ?_
          refine G_icmp_neN (tgt := 121) C dX11_note_104 (by decide) (by omega) (by decide) (fun h104_5 => ?_) (fun h104_5 => ?_)
          · refine G_aload_n C 0 dX11_note_121 rfl rfl ?_
            refine G_iload_n C 1 dX11_note_122 rfl rfl ?_
            refine G_aload_n C 0 dX11_note_123 rfl rfl ?_
            refine G_iload_n C 1 dX11_note_124 rfl rfl ?_
            refine G_callV1 C [.int (nI n)] 0 dX11_note_125 (c_X11_hasParity (by omega) hB) wm_974 wm_976 wm_41 wm_61 wm_977 yc_0 rfl ydc_X11_hasParity rfl ⟨Nat.le_of_ble_eq_true rfl, Nat.le_of_ble_eq_true rfl⟩ ⟨rfl, rfl⟩ ⟨Nat.le_refl _, Nat.le_refl _⟩ (Nat.le_of_ble_eq_true rfl) rfl ?_
            refine G_callV1 C [.int (nI n), .int (nI (bN (y_pa M (n))))] 0 dX11_note_128 (c_X11_takers (b := y_pa M (n)) (by omega) hP hB) wm_978 wm_980 wm_42 wm_61 wm_981 yc_0 rfl ydc_X11_takers rfl ⟨Nat.le_of_ble_eq_true rfl, Nat.le_of_ble_eq_true rfl⟩ ⟨rfl, rfl⟩ ⟨Nat.le_refl _, Nat.le_refl _⟩ (Nat.le_of_ble_eq_true rfl) rfl ?_
            exact G_iret C hr dX11_note_131 (by have e : k = 6 := (by omega); subst e; simp [y_note, y_noteN, h10_1, h20_2, cl_n, cl_k]) (rfl)
          · refine G_aload_n C 0 dX11_note_107 rfl rfl ?_
            refine G_get (v := .ref (ad 7)) C 0 15 dX11_note_108 yc_0 rfl inG11 (by decide) wm_852 rfl rfl ?_
            refine G_bipush C dX11_note_111 kB_13 ?_
            refine G_iald (v := nI (M 7 13)) C 7 0 dX11_note_113 yc_7 rfl (by decide) (by decide) rfl ?_
            refine G_iload_n C 1 dX11_note_114 rfl rfl ?_
            refine G_ishrN C dX11_note_115 (by omega) (by have := hB 7 13; omega) ?_
            refine G_iconst C dX11_note_116 kI_1 ?_
            refine G_iandN C dX11_note_117 ?_
            refine G_top (y := nI (((M 7 13) / 2 ^ n) % 2)) (congrArg nI (Nat.and_one_is_mod _)) ?_
            refine G_goto (tgt := 131) C dX11_note_118 (by decide) ?_
            exact G_iret C hr dX11_note_131 (by have e : k = 5 := (by omega); subst e; simp [y_note, y_noteN, h10_1, h20_2, cl_n, cl_k]) (rfl)
        · refine G_aload_n C 0 dX11_note_88 rfl rfl ?_
          refine G_get (v := .ref (ad 7)) C 0 15 dX11_note_89 yc_0 rfl inG11 (by decide) wm_852 rfl rfl ?_
          refine G_bipush C dX11_note_92 kB_12 ?_
          refine G_iald (v := nI (M 7 12)) C 7 0 dX11_note_94 yc_7 rfl (by decide) (by decide) rfl ?_
          refine G_iload_n C 1 dX11_note_95 rfl rfl ?_
          refine G_ishrN C dX11_note_96 (by omega) (by have := hB 7 12; omega) ?_
          refine G_iconst C dX11_note_97 kI_1 ?_
          refine G_iandN C dX11_note_98 ?_
          refine G_top (y := nI (((M 7 12) / 2 ^ n) % 2)) (congrArg nI (Nat.and_one_is_mod _)) ?_
          refine G_goto (tgt := 131) C dX11_note_99 (by decide) ?_
          exact G_iret C hr dX11_note_131 (by have e : k = 4 := (by omega); subst e; simp [y_note, y_noteN, h10_1, h20_2, cl_n, cl_k]) (rfl)
      · refine G_iload_n C 2 dX11_note_30 rfl rfl ?_
        refine G_if_neN (tgt := 43) C dX11_note_31 (by decide) (by omega) (fun h31_6 => ?_) (fun h31_6 => ?_)
        · refine G_iload_n C 2 dX11_note_43 rfl rfl ?_
          refine G_iconst C dX11_note_44 kI_1 ?_
          refine G_icmp_neN (tgt := 57) C dX11_note_45 (by decide) (by omega) (by decide) (fun h45_7 => ?_) (fun h45_7 => ?_)
          · refine G_iload_n C 2 dX11_note_57 rfl rfl ?_
            refine G_iconst C dX11_note_58 kI_2 ?_
            refine G_icmp_neN (tgt := 73) C dX11_note_59 (by decide) (by omega) (by decide) (fun h59_8 => ?_) (fun h59_8 => ?_)
            · refine G_aload_n C 0 dX11_note_73 rfl rfl ?_
              refine G_get (v := .ref (ad 7)) C 0 15 dX11_note_74 yc_0 rfl inG11 (by decide) wm_852 rfl rfl ?_
              refine G_bipush C dX11_note_77 kB_6 ?_
              refine G_iload_n C 1 dX11_note_79 rfl rfl ?_
              refine G_iaddN C dX11_note_80 ?_
              refine G_iald (v := nI (M 7 (6 + n))) C 7 0 dX11_note_81 yc_7 rfl (by omega) (by decide) rfl ?_
              exact G_iret C hr dX11_note_82 (by have e : k = 3 := (by omega); subst e; simp [y_note, y_noteN, h10_1, h20_2, cl_n, cl_k]) (rfl)
            · refine G_aload_n C 0 dX11_note_62 rfl rfl ?_
              refine G_get (v := .ref (ad 7)) C 0 15 dX11_note_63 yc_0 rfl inG11 (by decide) wm_852 rfl rfl ?_
              refine G_iconst C dX11_note_66 kI_0 ?_
              refine G_iload_n C 1 dX11_note_67 rfl rfl ?_
              refine G_iaddN C dX11_note_68 ?_
              refine G_top (y := nI (n)) (congrArg nI (Nat.zero_add _)) ?_
              refine G_iald (v := nI (M 7 n)) C 7 0 dX11_note_69 yc_7 rfl (by omega) (by decide) rfl ?_
              refine G_goto (tgt := 82) C dX11_note_70 (by decide) ?_
              exact G_iret C hr dX11_note_82 (by have e : k = 2 := (by omega); subst e; simp [y_note, y_noteN, h10_1, h20_2, cl_n, cl_k]) (rfl)
          · refine G_aload_n C 0 dX11_note_48 rfl rfl ?_
            refine G_get (v := .ref (ad 5)) C 0 13 dX11_note_49 yc_0 rfl inG11 (by decide) wm_850 rfl rfl ?_
            refine G_iload_n C 1 dX11_note_52 rfl rfl ?_
            refine G_iald (v := nI (M 5 n)) C 5 0 dX11_note_53 yc_5 rfl (by omega) (by decide) rfl ?_
            refine G_goto (tgt := 82) C dX11_note_54 (by decide) ?_
            exact G_iret C hr dX11_note_82 (by have e : k = 1 := (by omega); subst e; simp [y_note, y_noteN, h10_1, h20_2, cl_n, cl_k]) (rfl)
        · refine G_aload_n C 0 dX11_note_34 rfl rfl ?_
          refine G_get (v := .ref (ad 4)) C 0 12 dX11_note_35 yc_0 rfl inG11 (by decide) wm_849 rfl rfl ?_
          refine G_iload_n C 1 dX11_note_38 rfl rfl ?_
          refine G_iald (v := nI (M 4 n)) C 4 0 dX11_note_39 yc_4 rfl (by omega) (by decide) rfl ?_
          refine G_goto (tgt := 82) C dX11_note_40 (by decide) ?_
          exact G_iret C hr dX11_note_82 (by have e : k = 0 := (by omega); subst e; simp [y_note, y_noteN, h10_1, h20_2, cl_n, cl_k]) (rfl)
    · refine G_iconst C dX11_note_23 kI_m1 ?_
      exact G_iret C hr dX11_note_24 (by simp [y_note, y_noteN, h10_1, h20_2]) (rfl)
set_option maxHeartbeats 4000000 in
set_option maxRecDepth 100000 in
theorem c_X11_person {x y : Int32} (h0 : M 0 0 = 0) (hN : M 2 1 ≤ 6) (hP : M 2 0 ≤ 5) (hB : ∀ k j, M k j < 1024) : CT l yX11_person cX11_person 5 (some .int) (rmOf 2 43) D (tyI cI cZ) [.ref (ad 0), .int (x), .int (y)] (wY cI cZ ad M t) (some (.int (y_person M x y))) (wY cI cZ ad M t) := by
  refine CT_of (own := "FalseParityModel") (by decide) rfl (Nat.le_of_ble_eq_true rfl) (fun p e s m args below meth c C hr => ?_)
  refine G_aload_n C 0 dX11_person_0 rfl rfl ?_
  refine G_iconst C dX11_person_1 kI_0 ?_
  refine G_put (w' := wY cI cZ ad (ms M 0 (0) (0)) t) (ty := .int) C 0 0 tyX11 dX11_person_2 yc_0 rfl inG11 tyX11_ok nmX11 (by decide) wm_837 rfl rfl (by decide +kernel) rfl rfl (Nat.le_of_ble_eq_true rfl) (yp_0_0 _) ?_
  refine G_w (w2 := wY cI cZ ad M t) (congrArg (fun z => wY cI cZ ad z t) (ms_id h0)) ?_
  refine G_aload_n C 0 dX11_person_5 rfl rfl ?_
  refine G_iload_n C 1 dX11_person_6 rfl rfl ?_
  refine G_callV1 C [.int (x)] 0 dX11_person_7 (c_X11_isPerson hB) wm_986 wm_988 wm_43 wm_61 wm_989 yc_0 rfl ydc_X11_isPerson rfl ⟨Nat.le_of_ble_eq_true rfl, Nat.le_of_ble_eq_true rfl⟩ ⟨rfl, rfl⟩ ⟨Nat.le_refl _, Nat.le_refl _⟩ (Nat.le_of_ble_eq_true rfl) rfl ?_
  refine G_if_eqB (tgt := 22) C dX11_person_10 (by decide) (fun h10_1 => ?_) (fun h10_1 => ?_)
  · refine G_iconst C dX11_person_22 kI_m1 ?_
    exact G_iret C hr dX11_person_23 (by simp [y_person, h10_1]) (rfl)
  · obtain ⟨q, hx_q, rfl⟩ := inR_of (by have := hB 2 0; omega) h10_1
    have cl_q := nI_clamp (n := q) (by have := hB 2 0; omega)
    refine G_iload_n C 2 dX11_person_13 rfl rfl ?_
    refine G_iconst C dX11_person_14 kI_0 ?_
    refine G_iconst C dX11_person_15 kI_1 ?_
    refine G_callS1 C [.int (y), .int (nI 0), .int (nI 1)] dX11_person_16 (c_X11_in_c (by decide)) wm_927 wm_928 wm_61 wm_929 ydc_X11_in rfl ⟨Nat.le_of_ble_eq_true rfl, Nat.le_of_ble_eq_true rfl⟩ ⟨rfl, rfl⟩ ⟨Nat.le_refl _, Nat.le_refl _⟩ (Nat.le_of_ble_eq_true rfl) rfl ?_
    refine G_if_neB (tgt := 24) C dX11_person_19 (by decide) (fun h19_2 => ?_) (fun h19_2 => ?_)
    · obtain ⟨k, hx_k, rfl⟩ := inR_of (by decide) h19_2
      have cl_k := nI_clamp (n := k) (by omega)
      refine G_iconst C dX11_person_24 kI_0 ?_
      refine G_istore_n (lv' := [(3, .int (nI 0)), (0, .ref (ad 0)), (1, .int (nI q)), (2, .int (nI k))]) C dX11_person_25 rfl (by decide) rfl ?_
      refine G_iconst C dX11_person_26 kI_0 ?_
      refine G_istore (lv' := [(4, .int (nI 0)), (3, .int (nI 0)), (0, .ref (ad 0)), (1, .int (nI q)), (2, .int (nI k))]) C dX11_person_27 (by decide) rfl ?_
      refine G_pick (lv' := [(0, .ref (ad 0)), (1, .int (nI q)), (2, .int (nI k)), (3, .int (nI 0)), (4, .int (nI 0))]) [2, 3, 4, 1, 0] rfl ?_
      refine loopN (P := fun n => ∀ sm : Nat, (sm = sumTo (fun n => if M 7 n = q ∧ y_aw M n = false then M 4 n else 0) n) → G p l e (rmOf 2 43) s m args below meth c D _ 5 0 0 _ 29 [(0, .ref (ad 0)), (1, .int (nI q)), (2, .int (nI k)), (3, .int (nI sm)), (4, .int (nI n))] [] (wY cI cZ ad M t)) (M 2 1) ?_ ?_ 0 (Nat.zero_le _) (0) rfl
      · intro sm hi3_0
        refine G_iload C 4 dX11_person_29 rfl ?_
        refine G_aload_n C 0 dX11_person_31 rfl rfl ?_
        refine G_get (v := .ref (ad 2)) C 0 9 dX11_person_32 yc_0 rfl inG11 (by decide) wm_846 rfl rfl ?_
        refine G_iconst C dX11_person_35 kI_1 ?_
        refine G_iald (v := nI (M 2 1)) C 2 0 dX11_person_36 yc_2 rfl (by decide) (by decide) rfl ?_
        refine G_icmp_geN (tgt := 82) C dX11_person_37 (by decide) (by have := hB 2 1; omega) (by have := hB 2 1; omega) (fun h37_4 => ?_) (fun h37_4 => ?_)
        · refine G_iload_n C 2 dX11_person_82 rfl rfl ?_
          refine G_if_neN (tgt := 98) C dX11_person_83 (by decide) (by omega) (fun h83_5 => ?_) (fun h83_5 => ?_)
          · refine G_iload_n C 3 dX11_person_98 rfl rfl ?_
            exact G_iret C hr dX11_person_99 (by have e : k = 1 := (by omega); subst e; simp [y_person, h10_1, h19_2, cl_q, cl_k, hi3_0, y_purse]) (rfl)
          · refine G_aload_n C 0 dX11_person_86 rfl rfl ?_
            refine G_get (v := .ref (ad 7)) C 0 15 dX11_person_87 yc_0 rfl inG11 (by decide) wm_852 rfl rfl ?_
            refine G_bipush C dX11_person_90 kB_14 ?_
            refine G_iload_n C 1 dX11_person_92 rfl rfl ?_
            refine G_iaddN C dX11_person_93 ?_
            refine G_iald (v := nI (M 7 (14 + q))) C 7 0 dX11_person_94 yc_7 rfl (by omega) (by decide) rfl ?_
            refine G_goto (tgt := 99) C dX11_person_95 (by decide) ?_
            exact G_iret C hr dX11_person_99 (by have e : k = 0 := (by omega); subst e; simp [y_person, h10_1, h19_2, cl_q, cl_k]) (rfl)
        · exfalso; omega
      · intro n hn ih3 sm hi3_0
        refine G_iload C 4 dX11_person_29 rfl ?_
        refine G_aload_n C 0 dX11_person_31 rfl rfl ?_
        refine G_get (v := .ref (ad 2)) C 0 9 dX11_person_32 yc_0 rfl inG11 (by decide) wm_846 rfl rfl ?_
        refine G_iconst C dX11_person_35 kI_1 ?_
        refine G_iald (v := nI (M 2 1)) C 2 0 dX11_person_36 yc_2 rfl (by decide) (by decide) rfl ?_
        refine G_icmp_geN (tgt := 82) C dX11_person_37 (by decide) (by omega) (by have := hB 2 1; omega) (fun h37_6 => ?_) (fun h37_6 => ?_)
        · exfalso; omega
        · refine G_iload_n C 3 dX11_person_40 rfl rfl ?_
          refine G_aload_n C 0 dX11_person_41 rfl rfl ?_
          refine G_get (v := .ref (ad 7)) C 0 15 dX11_person_42 yc_0 rfl inG11 (by decide) wm_852 rfl rfl ?_
          refine G_iconst C dX11_person_45 kI_0 ?_
          refine G_iload C 4 dX11_person_46 rfl ?_
          refine G_iaddN C dX11_person_48 ?_
          refine G_top (y := nI (n)) (congrArg nI (Nat.zero_add _)) ?_
          refine G_iald (v := nI (M 7 n)) C 7 0 dX11_person_49 yc_7 rfl (by omega) (by decide) rfl ?_
          refine G_iload_n C 1 dX11_person_50 rfl rfl ?_
          refine G_icmp_neN (tgt := 73) C dX11_person_51 (by decide) (by have := hB 7 n; omega) (by omega) (fun h51_7 => ?_) (fun h51_7 => ?_)
          · refine G_iconst C dX11_person_73 kI_0 ?_
            refine G_iaddN C dX11_person_74 ?_
            refine G_istore_n (lv' := [(3, .int (nI (sm + 0))), (0, .ref (ad 0)), (1, .int (nI q)), (2, .int (nI k)), (4, .int (nI n))]) C dX11_person_75 rfl (by decide) rfl ?_
            refine G_iincN (lv' := [(4, .int (nI (n + 1))), (3, .int (nI (sm + 0))), (0, .ref (ad 0)), (1, .int (nI q)), (2, .int (nI k))]) C 4 dX11_person_76 rfl (by decide) rfl ?_
            refine G_goto (tgt := 29) C dX11_person_79 (by decide) ?_
            refine G_pick (lv' := [(0, .ref (ad 0)), (1, .int (nI q)), (2, .int (nI k)), (3, .int (nI (sm + 0))), (4, .int (nI (n + 1)))]) [2, 3, 4, 1, 0] rfl ?_
            exact ih3 _ (by simp [sumTo, hi3_0, h51_7])
          · refine G_aload_n C 0 dX11_person_54 rfl rfl ?_
            refine G_iload C 4 dX11_person_55 rfl ?_
            refine G_callV1 C [.int (nI n)] 0 dX11_person_57 (c_X11_isAway (by omega) hB) wm_990 wm_992 wm_44 wm_61 wm_993 yc_0 rfl ydc_X11_isAway rfl ⟨Nat.le_of_ble_eq_true rfl, Nat.le_of_ble_eq_true rfl⟩ ⟨rfl, rfl⟩ ⟨Nat.le_refl _, Nat.le_refl _⟩ (Nat.le_of_ble_eq_true rfl) rfl ?_
            refine G_if_neB (tgt := 73) C dX11_person_60 (by decide) (fun h60_8 => ?_) (fun h60_8 => ?_)
            · refine G_iconst C dX11_person_73 kI_0 ?_
              refine G_iaddN C dX11_person_74 ?_
              refine G_istore_n (lv' := [(3, .int (nI (sm + 0))), (0, .ref (ad 0)), (1, .int (nI q)), (2, .int (nI k)), (4, .int (nI n))]) C dX11_person_75 rfl (by decide) rfl ?_
              refine G_iincN (lv' := [(4, .int (nI (n + 1))), (3, .int (nI (sm + 0))), (0, .ref (ad 0)), (1, .int (nI q)), (2, .int (nI k))]) C 4 dX11_person_76 rfl (by decide) rfl ?_
              refine G_goto (tgt := 29) C dX11_person_79 (by decide) ?_
              refine G_pick (lv' := [(0, .ref (ad 0)), (1, .int (nI q)), (2, .int (nI k)), (3, .int (nI (sm + 0))), (4, .int (nI (n + 1)))]) [2, 3, 4, 1, 0] rfl ?_
              exact ih3 _ (by simp [sumTo, hi3_0, h51_7, h60_8])
            · refine G_aload_n C 0 dX11_person_63 rfl rfl ?_
              refine G_get (v := .ref (ad 4)) C 0 12 dX11_person_64 yc_0 rfl inG11 (by decide) wm_849 rfl rfl ?_
              refine G_iload C 4 dX11_person_67 rfl ?_
              refine G_iald (v := nI (M 4 n)) C 4 0 dX11_person_69 yc_4 rfl (by omega) (by decide) rfl ?_
              refine G_goto (tgt := 74) C dX11_person_70 (by decide) ?_
              refine G_iaddN C dX11_person_74 ?_
              refine G_istore_n (lv' := [(3, .int (nI (sm + (M 4 n)))), (0, .ref (ad 0)), (1, .int (nI q)), (2, .int (nI k)), (4, .int (nI n))]) C dX11_person_75 rfl (by decide) rfl ?_
              refine G_iincN (lv' := [(4, .int (nI (n + 1))), (3, .int (nI (sm + (M 4 n)))), (0, .ref (ad 0)), (1, .int (nI q)), (2, .int (nI k))]) C 4 dX11_person_76 rfl (by decide) rfl ?_
              refine G_goto (tgt := 29) C dX11_person_79 (by decide) ?_
              refine G_pick (lv' := [(0, .ref (ad 0)), (1, .int (nI q)), (2, .int (nI k)), (3, .int (nI (sm + (M 4 n)))), (4, .int (nI (n + 1)))]) [2, 3, 4, 1, 0] rfl ?_
              exact ih3 _ (by simp [sumTo, hi3_0, h51_7, h60_8])
    · refine G_iconst C dX11_person_22 kI_m1 ?_
      exact G_iret C hr dX11_person_23 (by simp [y_person, h10_1, h19_2]) (rfl)
set_option maxHeartbeats 4000000 in
set_option maxRecDepth 100000 in
theorem c_X11_worthOfAll {b : Bool} (hN : M 2 1 ≤ 6) (hB : ∀ k j, M k j < 1024) : CT l yX11_worthOfAll cX11_worthOfAll 4 (some .int) (rmOf 1 21) D (tyI cI cZ) [.ref (ad 0), .int (nI (bN (b)))] (wY cI cZ ad M t) (some (.int (nI (y_wal M b (M 2 1))))) (wY cI cZ ad M t) := by
  refine CT_of (own := "FalseParityModel") (by decide) rfl (Nat.le_of_ble_eq_true rfl) (fun p e s m args below meth c C hr => ?_)
  refine G_iconst C dX11_worthOfAll_0 kI_0 ?_
  refine G_istore_n (lv' := [(2, .int (nI 0)), (0, .ref (ad 0)), (1, .int (nI (bN (b))))]) C dX11_worthOfAll_1 rfl (by decide) rfl ?_
  refine G_iconst C dX11_worthOfAll_2 kI_0 ?_
  refine G_istore_n (lv' := [(3, .int (nI 0)), (2, .int (nI 0)), (0, .ref (ad 0)), (1, .int (nI (bN (b))))]) C dX11_worthOfAll_3 rfl (by decide) rfl ?_
  refine G_pick (lv' := [(0, .ref (ad 0)), (1, .int (nI (bN (b)))), (2, .int (nI 0)), (3, .int (nI 0))]) [2, 3, 1, 0] rfl ?_
  refine loopN (P := fun n => ∀ sm : Nat, (sm = sumTo (fun n => if y_aw M n = true then 0 else if b = true then (if 0 < M 5 n then M 4 n else 0) else M 4 n) n) → G p l e (rmOf 1 21) s m args below meth c D _ 4 0 0 _ 4 [(0, .ref (ad 0)), (1, .int (nI (bN (b)))), (2, .int (nI sm)), (3, .int (nI n))] [] (wY cI cZ ad M t)) (M 2 1) ?_ ?_ 0 (Nat.zero_le _) (0) rfl
  · intro sm hi1_0
    refine G_iload_n C 3 dX11_worthOfAll_4 rfl rfl ?_
    refine G_aload_n C 0 dX11_worthOfAll_5 rfl rfl ?_
    refine G_get (v := .ref (ad 2)) C 0 9 dX11_worthOfAll_6 yc_0 rfl inG11 (by decide) wm_846 rfl rfl ?_
    refine G_iconst C dX11_worthOfAll_9 kI_1 ?_
    refine G_iald (v := nI (M 2 1)) C 2 0 dX11_worthOfAll_10 yc_2 rfl (by decide) (by decide) rfl ?_
    refine G_icmp_geN (tgt := 54) C dX11_worthOfAll_11 (by decide) (by have := hB 2 1; omega) (by have := hB 2 1; omega) (fun h11_2 => ?_) (fun h11_2 => ?_)
    · refine G_iload_n C 2 dX11_worthOfAll_54 rfl rfl ?_
      exact G_iret C hr dX11_worthOfAll_55 (by rw [hi1_0]; rfl) (rfl)
    · exfalso; omega
  · intro n hn ih1 sm hi1_0
    refine G_iload_n C 3 dX11_worthOfAll_4 rfl rfl ?_
    refine G_aload_n C 0 dX11_worthOfAll_5 rfl rfl ?_
    refine G_get (v := .ref (ad 2)) C 0 9 dX11_worthOfAll_6 yc_0 rfl inG11 (by decide) wm_846 rfl rfl ?_
    refine G_iconst C dX11_worthOfAll_9 kI_1 ?_
    refine G_iald (v := nI (M 2 1)) C 2 0 dX11_worthOfAll_10 yc_2 rfl (by decide) (by decide) rfl ?_
    refine G_icmp_geN (tgt := 54) C dX11_worthOfAll_11 (by decide) (by omega) (by have := hB 2 1; omega) (fun h11_3 => ?_) (fun h11_3 => ?_)
    · exfalso; omega
    · refine G_iload_n C 2 dX11_worthOfAll_14 rfl rfl ?_
      refine G_aload_n C 0 dX11_worthOfAll_15 rfl rfl ?_
      refine G_iload_n C 3 dX11_worthOfAll_16 rfl rfl ?_
      refine G_callV1 C [.int (nI n)] 0 dX11_worthOfAll_17 (c_X11_isAway (by omega) hB) wm_990 wm_992 wm_44 wm_61 wm_993 yc_0 rfl ydc_X11_isAway rfl ⟨Nat.le_of_ble_eq_true rfl, Nat.le_of_ble_eq_true rfl⟩ ⟨rfl, rfl⟩ ⟨Nat.le_refl _, Nat.le_refl _⟩ (Nat.le_of_ble_eq_true rfl) rfl ?_
      refine G_if_neB (tgt := 36) C dX11_worthOfAll_20 (by decide) (fun h20_4 => ?_) (fun h20_4 => ?_)
      · refine G_iconst C dX11_worthOfAll_36 kI_0 ?_
        refine G_goto (tgt := 46) C dX11_worthOfAll_37 (by decide) ?_
        refine G_iaddN C dX11_worthOfAll_46 ?_
        refine G_istore_n (lv' := [(2, .int (nI (sm + 0))), (0, .ref (ad 0)), (1, .int (nI (bN (b)))), (3, .int (nI n))]) C dX11_worthOfAll_47 rfl (by decide) rfl ?_
        refine G_iincN (lv' := [(3, .int (nI (n + 1))), (2, .int (nI (sm + 0))), (0, .ref (ad 0)), (1, .int (nI (bN (b))))]) C 3 dX11_worthOfAll_48 rfl (by decide) rfl ?_
        refine G_goto (tgt := 4) C dX11_worthOfAll_51 (by decide) ?_
        refine G_pick (lv' := [(0, .ref (ad 0)), (1, .int (nI (bN (b)))), (2, .int (nI (sm + 0))), (3, .int (nI (n + 1)))]) [2, 3, 1, 0] rfl ?_
        exact ih1 _ (by simp [sumTo, hi1_0, h20_4])
      · refine G_iload_n C 1 dX11_worthOfAll_23 rfl rfl ?_
        refine G_if_eqB (tgt := 40) C dX11_worthOfAll_24 (by decide) (fun h24_5 => ?_) (fun h24_5 => ?_)
        · refine G_aload_n C 0 dX11_worthOfAll_40 rfl rfl ?_
          refine G_get (v := .ref (ad 4)) C 0 12 dX11_worthOfAll_41 yc_0 rfl inG11 (by decide) wm_849 rfl rfl ?_
          refine G_iload_n C 3 dX11_worthOfAll_44 rfl rfl ?_
          refine G_iald (v := nI (M 4 n)) C 4 0 dX11_worthOfAll_45 yc_4 rfl (by omega) (by decide) rfl ?_
          refine G_iaddN C dX11_worthOfAll_46 ?_
          refine G_istore_n (lv' := [(2, .int (nI (sm + (M 4 n)))), (0, .ref (ad 0)), (1, .int (nI (bN (b)))), (3, .int (nI n))]) C dX11_worthOfAll_47 rfl (by decide) rfl ?_
          refine G_iincN (lv' := [(3, .int (nI (n + 1))), (2, .int (nI (sm + (M 4 n)))), (0, .ref (ad 0)), (1, .int (nI (bN (b))))]) C 3 dX11_worthOfAll_48 rfl (by decide) rfl ?_
          refine G_goto (tgt := 4) C dX11_worthOfAll_51 (by decide) ?_
          refine G_pick (lv' := [(0, .ref (ad 0)), (1, .int (nI (bN (b)))), (2, .int (nI (sm + (M 4 n)))), (3, .int (nI (n + 1)))]) [2, 3, 1, 0] rfl ?_
          exact ih1 _ (by simp [sumTo, hi1_0, h20_4, h24_5])
        · refine G_aload_n C 0 dX11_worthOfAll_27 rfl rfl ?_
          refine G_get (v := .ref (ad 5)) C 0 13 dX11_worthOfAll_28 yc_0 rfl inG11 (by decide) wm_850 rfl rfl ?_
          refine G_iload_n C 3 dX11_worthOfAll_31 rfl rfl ?_
          refine G_iald (v := nI (M 5 n)) C 5 0 dX11_worthOfAll_32 yc_5 rfl (by omega) (by decide) rfl ?_
          refine G_if_neN (tgt := 40) C dX11_worthOfAll_33 (by decide) (by have := hB 5 n; omega) (fun h33_6 => ?_) (fun h33_6 => ?_)
          · refine G_aload_n C 0 dX11_worthOfAll_40 rfl rfl ?_
            refine G_get (v := .ref (ad 4)) C 0 12 dX11_worthOfAll_41 yc_0 rfl inG11 (by decide) wm_849 rfl rfl ?_
            refine G_iload_n C 3 dX11_worthOfAll_44 rfl rfl ?_
            refine G_iald (v := nI (M 4 n)) C 4 0 dX11_worthOfAll_45 yc_4 rfl (by omega) (by decide) rfl ?_
            refine G_iaddN C dX11_worthOfAll_46 ?_
            refine G_istore_n (lv' := [(2, .int (nI (sm + (M 4 n)))), (0, .ref (ad 0)), (1, .int (nI (bN (b)))), (3, .int (nI n))]) C dX11_worthOfAll_47 rfl (by decide) rfl ?_
            refine G_iincN (lv' := [(3, .int (nI (n + 1))), (2, .int (nI (sm + (M 4 n)))), (0, .ref (ad 0)), (1, .int (nI (bN (b))))]) C 3 dX11_worthOfAll_48 rfl (by decide) rfl ?_
            refine G_goto (tgt := 4) C dX11_worthOfAll_51 (by decide) ?_
            refine G_pick (lv' := [(0, .ref (ad 0)), (1, .int (nI (bN (b)))), (2, .int (nI (sm + (M 4 n)))), (3, .int (nI (n + 1)))]) [2, 3, 1, 0] rfl ?_
            exact ih1 _ (by simp [sumTo, hi1_0, h20_4, h24_5, h33_6])
          · refine G_iconst C dX11_worthOfAll_36 kI_0 ?_
            refine G_goto (tgt := 46) C dX11_worthOfAll_37 (by decide) ?_
            refine G_iaddN C dX11_worthOfAll_46 ?_
            refine G_istore_n (lv' := [(2, .int (nI (sm + 0))), (0, .ref (ad 0)), (1, .int (nI (bN (b)))), (3, .int (nI n))]) C dX11_worthOfAll_47 rfl (by decide) rfl ?_
            refine G_iincN (lv' := [(3, .int (nI (n + 1))), (2, .int (nI (sm + 0))), (0, .ref (ad 0)), (1, .int (nI (bN (b))))]) C 3 dX11_worthOfAll_48 rfl (by decide) rfl ?_
            refine G_goto (tgt := 4) C dX11_worthOfAll_51 (by decide) ?_
            refine G_pick (lv' := [(0, .ref (ad 0)), (1, .int (nI (bN (b)))), (2, .int (nI (sm + 0))), (3, .int (nI (n + 1)))]) [2, 3, 1, 0] rfl ?_
            exact ih1 _ (by simp [sumTo, hi1_0, h20_4, h24_5, h33_6])
set_option maxHeartbeats 4000000 in
set_option maxRecDepth 100000 in
theorem c_X11_now {y : Int32} (h0 : M 0 0 = 0) (hN : M 2 1 ≤ 6) (hB : ∀ k j, M k j < 1024) : CT l yX11_now cX11_now 2 (some .int) (rmOf 2 44) D (tyI cI cZ) [.ref (ad 0), .int (y)] (wY cI cZ ad M t) (some (.int (y_now M y))) (wY cI cZ ad M t) := by
  refine CT_of (own := "FalseParityModel") (by decide) rfl (Nat.le_of_ble_eq_true rfl) (fun p e s m args below meth c C hr => ?_)
  refine G_aload_n C 0 dX11_now_0 rfl rfl ?_
  refine G_iconst C dX11_now_1 kI_0 ?_
  refine G_put (w' := wY cI cZ ad (ms M 0 (0) (0)) t) (ty := .int) C 0 0 tyX11 dX11_now_2 yc_0 rfl inG11 tyX11_ok nmX11 (by decide) wm_837 rfl rfl (by decide +kernel) rfl rfl (Nat.le_of_ble_eq_true rfl) (yp_0_0 _) ?_
  refine G_w (w2 := wY cI cZ ad M t) (congrArg (fun z => wY cI cZ ad z t) (ms_id h0)) ?_
  refine G_iload_n C 1 dX11_now_5 rfl rfl ?_
  refine G_iconst C dX11_now_6 kI_0 ?_
  refine G_iconst C dX11_now_7 kI_5 ?_
  refine G_callS1 C [.int (y), .int (nI 0), .int (nI 5)] dX11_now_8 (c_X11_in_c (by decide)) wm_927 wm_928 wm_61 wm_929 ydc_X11_in rfl ⟨Nat.le_of_ble_eq_true rfl, Nat.le_of_ble_eq_true rfl⟩ ⟨rfl, rfl⟩ ⟨Nat.le_refl _, Nat.le_refl _⟩ (Nat.le_of_ble_eq_true rfl) rfl ?_
  refine G_if_neB (tgt := 16) C dX11_now_11 (by decide) (fun h11_1 => ?_) (fun h11_1 => ?_)
  · obtain ⟨k, hx_k, rfl⟩ := inR_of (by decide) h11_1
    have cl_k := nI_clamp (n := k) (by omega)
    refine G_iload_n C 1 dX11_now_16 rfl rfl ?_
    refine G_if_neN (tgt := 30) C dX11_now_17 (by decide) (by omega) (fun h17_2 => ?_) (fun h17_2 => ?_)
    · refine G_iload_n C 1 dX11_now_30 rfl rfl ?_
      refine G_iconst C dX11_now_31 kI_1 ?_
      refine G_icmp_neN (tgt := 45) C dX11_now_32 (by decide) (by omega) (by decide) (fun h32_3 => ?_) (fun h32_3 => ?_)
      · refine G_iload_n C 1 dX11_now_45 rfl rfl ?_
        refine G_iconst C dX11_now_46 kI_2 ?_
        refine G_icmp_neN (tgt := 60) C dX11_now_47 (by decide) (by omega) (by decide) (fun h47_4 => ?_) (fun h47_4 => ?_)
        · refine G_iload_n C 1 dX11_now_60 rfl rfl ?_
          refine G_iconst C dX11_now_61 kI_5 ?_
          refine G_icmp_neN (tgt := 72) C dX11_now_62 (by decide) (by omega) (by decide) (fun h62_5 => ?_) (fun h62_5 => ?_)
          · refine G_aload_n C 0 dX11_now_72 rfl rfl ?_
            refine G_iload_n C 1 dX11_now_73 rfl rfl ?_
            refine G_iconst C dX11_now_74 kI_4 ?_
            refine G_icmp_neN (tgt := 82) C dX11_now_75 (by decide) (by omega) (by decide) (fun h75_6 => ?_) (fun h75_6 => ?_)
            · refine G_iconst C dX11_now_82 kI_0 ?_
              refine G_callV1 C [.int (nI 0)] 0 dX11_now_83 (c_X11_worthOfAll (b := false) hN hB) wm_998 wm_1000 wm_45 wm_61 wm_1001 yc_0 rfl ydc_X11_worthOfAll rfl ⟨Nat.le_of_ble_eq_true rfl, Nat.le_of_ble_eq_true rfl⟩ ⟨rfl, rfl⟩ ⟨Nat.le_refl _, Nat.le_refl _⟩ (Nat.le_of_ble_eq_true rfl) rfl ?_
              exact G_iret C hr dX11_now_86 (by have e : k = 3 := (by omega); subst e; simp [y_now, h11_1, cl_k]) (rfl)
            · refine G_iconst C dX11_now_78 kI_1 ?_
              refine G_goto (tgt := 83) C dX11_now_79 (by decide) ?_
              refine G_callV1 C [.int (nI 1)] 0 dX11_now_83 (c_X11_worthOfAll (b := true) hN hB) wm_998 wm_1000 wm_45 wm_61 wm_1001 yc_0 rfl ydc_X11_worthOfAll rfl ⟨Nat.le_of_ble_eq_true rfl, Nat.le_of_ble_eq_true rfl⟩ ⟨rfl, rfl⟩ ⟨Nat.le_refl _, Nat.le_refl _⟩ (Nat.le_of_ble_eq_true rfl) rfl ?_
              exact G_iret C hr dX11_now_86 (by have e : k = 4 := (by omega); subst e; simp [y_now, h11_1, cl_k]) (rfl)
          · refine G_aload_n C 0 dX11_now_65 rfl rfl ?_
            refine G_get (v := .int (nI (M 0 19))) C 0 19 dX11_now_66 yc_0 rfl inG11 (by decide) wm_856 rfl rfl ?_
            refine G_goto (tgt := 86) C dX11_now_69 (by decide) ?_
            exact G_iret C hr dX11_now_86 (by have e : k = 5 := (by omega); subst e; simp [y_now, h11_1, cl_k]) (rfl)
        · refine G_aload_n C 0 dX11_now_50 rfl rfl ?_
          refine G_get (v := .ref (ad 7)) C 0 15 dX11_now_51 yc_0 rfl inG11 (by decide) wm_852 rfl rfl ?_
          refine G_bipush C dX11_now_54 kB_19 ?_
          refine G_iald (v := nI (M 7 19)) C 7 0 dX11_now_56 yc_7 rfl (by decide) (by decide) rfl ?_
          refine G_goto (tgt := 86) C dX11_now_57 (by decide) ?_
          exact G_iret C hr dX11_now_86 (by have e : k = 2 := (by omega); subst e; simp [y_now, h11_1, cl_k]) (rfl)
      · refine G_aload_n C 0 dX11_now_35 rfl rfl ?_
        refine G_get (v := .ref (ad 7)) C 0 15 dX11_now_36 yc_0 rfl inG11 (by decide) wm_852 rfl rfl ?_
        refine G_bipush C dX11_now_39 kB_13 ?_
        refine G_iald (v := nI (M 7 13)) C 7 0 dX11_now_41 yc_7 rfl (by decide) (by decide) rfl ?_
        refine G_goto (tgt := 86) C dX11_now_42 (by decide) ?_
        exact G_iret C hr dX11_now_86 (by have e : k = 1 := (by omega); subst e; simp [y_now, h11_1, cl_k]) (rfl)
    · refine G_aload_n C 0 dX11_now_20 rfl rfl ?_
      refine G_get (v := .ref (ad 7)) C 0 15 dX11_now_21 yc_0 rfl inG11 (by decide) wm_852 rfl rfl ?_
      refine G_bipush C dX11_now_24 kB_12 ?_
      refine G_iald (v := nI (M 7 12)) C 7 0 dX11_now_26 yc_7 rfl (by decide) (by decide) rfl ?_
      refine G_goto (tgt := 86) C dX11_now_27 (by decide) ?_
      exact G_iret C hr dX11_now_86 (by have e : k = 0 := (by omega); subst e; simp [y_now, h11_1, cl_k]) (rfl)
  · refine G_iconst C dX11_now_14 kI_m1 ?_
    exact G_iret C hr dX11_now_15 (by simp [y_now, h11_1]) (rfl)
end Y1
