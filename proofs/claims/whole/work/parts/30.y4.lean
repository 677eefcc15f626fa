section Y4
variable {l : Launch} {D : va_G} {cI cZ : ClassId} {ad : Nat → Nat} {M : Nat → Nat → Nat} {t : Int64}
set_option maxHeartbeats 4000000 in
set_option maxRecDepth 100000 in
theorem c_X11_odds {x y w : Int32} (h0 : M 0 0 = 0) (hN : M 2 1 ≤ 6) (hP : M 2 0 ≤ 5) (hB : ∀ k j, M k j < 1024) : CT l yX11_odds cX11_odds 10 (some .int) (rmOf 2 43) D (tyI cI cZ) [.ref (ad 0), .int (x), .int (y), .int (w)] (wY cI cZ ad M t) (some (.int (y_odds M x y w).1)) (wY cI cZ ad (y_odds M x y w).2 t) := by
  refine CT_of (own := "FalseParityModel") (by decide) rfl (Nat.le_of_ble_eq_true rfl) (fun p e s m args below meth c C hr => ?_)
  refine G_aload_n C 0 dX11_odds_0 rfl rfl ?_
  refine G_iconst C dX11_odds_1 kI_0 ?_
  refine G_put (w' := wY cI cZ ad (ms M 0 (0) (0)) t) (ty := .int) C 0 0 tyX11 dX11_odds_2 yc_0 rfl inG11 tyX11_ok nmX11 (by decide) wm_837 rfl rfl (by decide +kernel) rfl rfl (Nat.le_of_ble_eq_true rfl) (yp_0_0 _) ?_
  refine G_w (w2 := wY cI cZ ad M t) (congrArg (fun z => wY cI cZ ad z t) (ms_id h0)) ?_
  refine G_aload_n C 0 dX11_odds_5 rfl rfl ?_
  refine G_iload_n C 1 dX11_odds_6 rfl rfl ?_
  refine G_callV1 C [.int (x)] 0 dX11_odds_7 (c_X11_isNote hB) wm_970 wm_972 wm_40 wm_61 wm_973 yc_0 rfl ydc_X11_isNote rfl ⟨Nat.le_of_ble_eq_true rfl, Nat.le_of_ble_eq_true rfl⟩ ⟨rfl, rfl⟩ ⟨Nat.le_refl _, Nat.le_refl _⟩ (Nat.le_of_ble_eq_true rfl) rfl ?_
  refine G_if_eqB (tgt := 31) C dX11_odds_10 (by decide) (fun h10_1 => ?_) (fun h10_1 => ?_)
  · refine G_iconst C dX11_odds_31 kI_m1 ?_
    exact G_iret C hr dX11_odds_32 (by simp [y_odds, h10_1]) (congrArg (fun z => wY cI cZ ad z t) (by simp [y_odds, h10_1]))
  · obtain ⟨n, hx_n, rfl⟩ := inR_of (by have := hB 2 1; omega) h10_1
    have cl_n := nI_clamp (n := n) (by have := hB 2 1; omega)
    refine G_iload_n C 2 dX11_odds_13 rfl rfl ?_
    refine G_iconst C dX11_odds_14 kI_0 ?_
    refine G_iconst C dX11_odds_15 kI_4 ?_
    refine G_callS1 C [.int (y), .int (nI 0), .int (nI 4)] dX11_odds_16 (c_X11_in_c (by decide)) wm_927 wm_928 wm_61 wm_929 ydc_X11_in rfl ⟨Nat.le_of_ble_eq_true rfl, Nat.le_of_ble_eq_true rfl⟩ ⟨rfl, rfl⟩ ⟨Nat.le_refl _, Nat.le_refl _⟩ (Nat.le_of_ble_eq_true rfl) rfl ?_
    refine G_if_eqB (tgt := 31) C dX11_odds_19 (by decide) (fun h19_2 => ?_) (fun h19_2 => ?_)
    · refine G_iconst C dX11_odds_31 kI_m1 ?_
      exact G_iret C hr dX11_odds_32 (by simp [y_odds, h10_1, h19_2]) (congrArg (fun z => wY cI cZ ad z t) (by simp [y_odds, h10_1, h19_2]))
    · obtain ⟨k, hx_k, rfl⟩ := inR_of (by decide) h19_2
      have cl_k := nI_clamp (n := k) (by omega)
      refine G_iload_n C 3 dX11_odds_22 rfl rfl ?_
      refine G_iconst C dX11_odds_23 kI_0 ?_
      refine G_iconst C dX11_odds_24 kI_1 ?_
      refine G_callS1 C [.int (w), .int (nI 0), .int (nI 1)] dX11_odds_25 (c_X11_in_c (by decide)) wm_927 wm_928 wm_61 wm_929 ydc_X11_in rfl ⟨Nat.le_of_ble_eq_true rfl, Nat.le_of_ble_eq_true rfl⟩ ⟨rfl, rfl⟩ ⟨Nat.le_refl _, Nat.le_refl _⟩ (Nat.le_of_ble_eq_true rfl) rfl ?_
      refine G_if_neB (tgt := 33) C dX11_odds_28 (by decide) (fun h28_3 => ?_) (fun h28_3 => ?_)
      · obtain ⟨z, hx_z, rfl⟩ := inR_of (by decide) h28_3
        have cl_z := nI_clamp (n := z) (by omega)
        refine G_aload_n C 0 dX11_odds_33 rfl rfl ?_
        refine G_iload_n C 1 dX11_odds_34 rfl rfl ?_
        refine G_callV1 C [.int (nI n)] 0 dX11_odds_35 (c_X11_isAway (by omega) hB) wm_990 wm_992 wm_44 wm_61 wm_993 yc_0 rfl ydc_X11_isAway rfl ⟨Nat.le_of_ble_eq_true rfl, Nat.le_of_ble_eq_true rfl⟩ ⟨rfl, rfl⟩ ⟨Nat.le_refl _, Nat.le_refl _⟩ (Nat.le_of_ble_eq_true rfl) rfl ?_
        refine G_if_eqB (tgt := 44) C dX11_odds_38 (by decide) (fun h38_4 => ?_) (fun h38_4 => ?_)
        · refine G_iconst C dX11_odds_44 kI_1 ?_
          refine G_istore (lv' := [(4, .int (nI 1)), (0, .ref (ad 0)), (1, .int (nI n)), (2, .int (nI k)), (3, .int (nI z))]) C dX11_odds_45 (by decide) rfl ?_
          refine G_iconst C dX11_odds_47 kI_0 ?_
          refine G_istore (lv' := [(5, .int (nI 0)), (4, .int (nI 1)), (0, .ref (ad 0)), (1, .int (nI n)), (2, .int (nI k)), (3, .int (nI z))]) C dX11_odds_48 (by decide) rfl ?_
          refine G_w (w2 := wY cI cZ ad (fillR M 15 (fun j => if j = M 7 n then 1 else 0) (0)) t) (congrArg (fun z => wY cI cZ ad z t) (fill_0 M 15 _).symm) ?_
          refine G_pick (lv' := [(0, .ref (ad 0)), (1, .int (nI n)), (2, .int (nI k)), (3, .int (nI z)), (4, .int (nI 1)), (5, .int (nI 0))]) [2, 3, 4, 5, 1, 0] rfl ?_
          refine loopN (P := fun i => G p l e (rmOf 2 43) s m args below meth c D _ 10 0 0 _ 50 [(0, .ref (ad 0)), (1, .int (nI n)), (2, .int (nI k)), (3, .int (nI z)), (4, .int (nI 1)), (5, .int (nI i))] [] (wY cI cZ ad (fillR M 15 (fun j => if j = M 7 n then 1 else 0) (i)) t)) (5) ?_ ?_ 0 (Nat.zero_le _)  
          · skip
            refine G_iload C 5 dX11_odds_50 rfl ?_
            refine G_iconst C dX11_odds_52 kI_5 ?_
            refine G_icmp_geN (tgt := 87) C dX11_odds_53 (by decide) (by decide) (by decide) (fun h53_6 => ?_) (fun h53_6 => ?_)
            · refine G_iconst C dX11_odds_87 kI_0 ?_
              refine G_istore (lv' := [(5, .int (nI 0)), (0, .ref (ad 0)), (1, .int (nI n)), (2, .int (nI k)), (3, .int (nI z)), (4, .int (nI 1))]) C dX11_odds_88 (by decide) rfl ?_
              refine G_w (w2 := wY cI cZ ad (y_oM M n 0) t) (congrArg (fun z => wY cI cZ ad z t) (oM_0 M n)) ?_
              refine G_pick (lv' := [(0, .ref (ad 0)), (1, .int (nI n)), (2, .int (nI k)), (3, .int (nI z)), (4, .int (nI 1)), (5, .int (nI 0))]) [1, 2, 3, 4, 5, 0] rfl ?_
              refine loopN (P := fun st => ∀ al : Nat, (al = y_aN M st) → G p l e (rmOf 2 43) s m args below meth c D _ 10 0 0 _ 90 [(0, .ref (ad 0)), (1, .int (nI n)), (2, .int (nI k)), (3, .int (nI z)), (4, .int (nI al)), (5, .int (nI st))] [] (wY cI cZ ad (y_oM M n st) t)) (k) ?_ ?_ 0 (Nat.zero_le _) (1) rfl
              · intro al hi7_0
                refine G_iload C 5 dX11_odds_90 rfl ?_
                refine G_iload_n C 2 dX11_odds_92 rfl rfl ?_
                refine G_icmp_geN (tgt := 294) C dX11_odds_93 (by decide) (by omega) (by omega) (fun h93_8 => ?_) (fun h93_8 => ?_)
                · refine G_iconst C dX11_odds_294 kI_0 ?_
                  refine G_istore (lv' := [(5, .int (nI 0)), (0, .ref (ad 0)), (1, .int (nI n)), (2, .int (nI k)), (3, .int (nI z)), (4, .int (nI al))]) C dX11_odds_295 (by decide) rfl ?_
                  refine G_iconst C dX11_odds_297 kI_0 ?_
                  refine G_istore (lv' := [(6, .int (nI 0)), (5, .int (nI 0)), (0, .ref (ad 0)), (1, .int (nI n)), (2, .int (nI k)), (3, .int (nI z)), (4, .int (nI al))]) C dX11_odds_298 (by decide) rfl ?_
                  refine G_pick (lv' := [(0, .ref (ad 0)), (1, .int (nI n)), (2, .int (nI k)), (3, .int (nI z)), (4, .int (nI al)), (5, .int (nI 0)), (6, .int (nI 0))]) [2, 3, 4, 5, 6, 1, 0] rfl ?_
                  refine loopN (P := fun i => ∀ sm : Nat, (sm = sumTo (y_W M n k) i) → G p l e (rmOf 2 43) s m args below meth c D _ 10 0 0 _ 300 [(0, .ref (ad 0)), (1, .int (nI n)), (2, .int (nI k)), (3, .int (nI z)), (4, .int (nI al)), (5, .int (nI sm)), (6, .int (nI i))] [] (wY cI cZ ad (y_oM M n k) t)) (5) ?_ ?_ 0 (Nat.zero_le _) (0) rfl
                  · intro sm hi9_0
                    refine G_iload C 6 dX11_odds_300 rfl ?_
                    refine G_iconst C dX11_odds_302 kI_5 ?_
                    refine G_icmp_geN (tgt := 324) C dX11_odds_303 (by decide) (by decide) (by decide) (fun h303_10 => ?_) (fun h303_10 => ?_)
                    · refine G_iload C 5 dX11_odds_324 rfl ?_
                      refine G_iload C 4 dX11_odds_326 rfl ?_
                      refine G_callS1 (v := .int (nI (Nat.gcd (sm) (al)))) C [.int (nI sm), .int (nI al)] dX11_odds_328 (c_X11_gcd (by have h1 := y_S_lt (M := M) (n := n) (k := k) (by omega) 5 (by omega); omega) (by have h1 := y_aN_lt (M := M) hP (k := k) (by omega); omega)) wm_1041 wm_1042 wm_61 wm_1043 ydc_X11_gcd rfl ⟨Nat.le_of_ble_eq_true rfl, Nat.le_of_ble_eq_true rfl⟩ ⟨rfl, rfl⟩ ⟨Nat.le_refl _, Nat.le_refl _⟩ (Nat.le_of_ble_eq_true rfl) rfl ?_
                      refine G_istore (lv' := [(6, .int (nI (Nat.gcd (sm) (al)))), (0, .ref (ad 0)), (1, .int (nI n)), (2, .int (nI k)), (3, .int (nI z)), (4, .int (nI al)), (5, .int (nI sm))]) C dX11_odds_331 (by decide) rfl ?_
                      refine G_iload_n C 4 dX11_odds_333 rfl rfl ?_
                      refine G_if_neN (tgt := 345) C dX11_odds_334 (by decide) (by omega) (fun h334_11 => ?_) (fun h334_11 => ?_)
                      · refine G_iload C 5 dX11_odds_345 rfl ?_
                        refine G_iload C 0 dX11_odds_347 rfl ?_
                        refine G_idivN C dX11_odds_349 (by have h1 := y_aN_lt (M := M) hP (k := k) (by omega); omega) (Nat.gcd_pos_of_pos_right _ (by have h1 := y_aN_pos M k; omega)) (Nat.lt_of_le_of_lt (Nat.gcd_le_right _ (by have h1 := y_aN_pos M k; omega)) (by have h1 := y_aN_lt (M := M) hP (k := k) (by omega); omega)) ?_
                        exact G_iret C hr dX11_odds_350 (by simp only [y_odds, h10_1, h19_2, h28_3, h38_4, and_self, if_true, Bool.false_eq_true, if_false, cl_n, cl_k, cl_z, y_oddsN]; rw [← hi9_0, ← hi7_0, if_neg (by omega)]) (congrArg (fun z => wY cI cZ ad z t) (by simp [y_odds, h10_1, h19_2, h28_3, h38_4, cl_n, cl_k, cl_z]))
                      · refine G_iload C 6 dX11_odds_337 rfl ?_
                        refine G_iload C 0 dX11_odds_339 rfl ?_
                        refine G_idivN C dX11_odds_341 (by have h1 := y_S_lt (M := M) (n := n) (k := k) (by omega) 5 (by omega); omega) (Nat.gcd_pos_of_pos_right _ (by have h1 := y_aN_pos M k; omega)) (Nat.lt_of_le_of_lt (Nat.gcd_le_right _ (by have h1 := y_aN_pos M k; omega)) (by have h1 := y_aN_lt (M := M) hP (k := k) (by omega); omega)) ?_
                        refine G_goto (tgt := 350) C dX11_odds_342 (by decide) ?_
                        exact G_iret C hr dX11_odds_350 (by simp only [y_odds, h10_1, h19_2, h28_3, h38_4, and_self, if_true, Bool.false_eq_true, if_false, cl_n, cl_k, cl_z, y_oddsN]; rw [← hi9_0, ← hi7_0, if_pos (by omega)]) (congrArg (fun z => wY cI cZ ad z t) (by simp [y_odds, h10_1, h19_2, h28_3, h38_4, cl_n, cl_k, cl_z]))
                    · exact absurd h303_10 (by decide)
                  · intro i hi5 ih9 sm hi9_0
                    refine G_iload C 6 dX11_odds_300 rfl ?_
                    refine G_iconst C dX11_odds_302 kI_5 ?_
                    refine G_icmp_geN (tgt := 324) C dX11_odds_303 (by decide) (by omega) (by decide) (fun h303_12 => ?_) (fun h303_12 => ?_)
                    · exfalso; omega
                    · refine G_iload C 5 dX11_odds_306 rfl ?_
                      refine G_aload_n C 0 dX11_odds_308 rfl rfl ?_
                      refine G_get (v := .ref (ad 15)) C 0 26 dX11_odds_309 yc_0 rfl inG11 (by decide) wm_863 rfl rfl ?_
                      refine G_iload C 6 dX11_odds_312 rfl ?_
                      refine G_iald (v := nI (y_W M n k i)) C 15 0 dX11_odds_314 yc_15 rfl (by omega) (by decide) (congrArg nI (oM_15 (by omega))) ?_
                      refine G_iaddN C dX11_odds_315 ?_
                      refine G_istore (lv' := [(5, .int (nI (sm + (y_W M n k i)))), (0, .ref (ad 0)), (1, .int (nI n)), (2, .int (nI k)), (3, .int (nI z)), (4, .int (nI al)), (6, .int (nI i))]) C dX11_odds_316 (by decide) rfl ?_
                      refine G_iincN (lv' := [(6, .int (nI (i + 1))), (5, .int (nI (sm + (y_W M n k i)))), (0, .ref (ad 0)), (1, .int (nI n)), (2, .int (nI k)), (3, .int (nI z)), (4, .int (nI al))]) C 6 dX11_odds_318 rfl (by decide) rfl ?_
                      refine G_goto (tgt := 300) C dX11_odds_321 (by decide) ?_
                      refine G_pick (lv' := [(0, .ref (ad 0)), (1, .int (nI n)), (2, .int (nI k)), (3, .int (nI z)), (4, .int (nI al)), (5, .int (nI (sm + (y_W M n k i)))), (6, .int (nI (i + 1)))]) [2, 3, 4, 5, 6, 1, 0] rfl ?_
                      exact ih9 _ (by rw [hi9_0]; rfl)
                · exfalso; omega
              · intro st hst ih7 al hi7_0
                refine G_iload C 5 dX11_odds_90 rfl ?_
                refine G_iload_n C 2 dX11_odds_92 rfl rfl ?_
                refine G_icmp_geN (tgt := 294) C dX11_odds_93 (by decide) (by omega) (by omega) (fun h93_13 => ?_) (fun h93_13 => ?_)
                · exfalso; omega
                · refine cutG (α := Unit) (fun _u => True) 144 (fun _u => [(0, .ref (ad 0)), (1, .int (nI n)), (2, .int (nI k)), (3, .int (nI z)), (4, .int (nI al)), (5, .int (nI st))]) (fun _u => [.int (nI (bN (y_par M n st)))]) (fun _u => wY cI cZ ad (y_oM M n st) t) (fun _u hcut_h => ?_) (fun hcut => ?_)
                  · refine G_istore (lv' := [(6, .int (nI (bN (y_par M n st)))), (0, .ref (ad 0)), (1, .int (nI n)), (2, .int (nI k)), (3, .int (nI z)), (4, .int (nI al)), (5, .int (nI st))]) C dX11_odds_144 (by decide) rfl ?_
                    refine G_aload_n C 1 dX11_odds_146 rfl rfl ?_
                    refine G_iload_n C 2 dX11_odds_147 rfl rfl ?_
                    refine G_iload C 0 dX11_odds_148 rfl ?_
                    refine G_callV1 (v := .int (nI (y_tk M (n) (y_par M n st)))) C [.int (nI n), .int (nI (bN (y_par M n st)))] 0 dX11_odds_150 (c_X11_takers (b := y_par M n st) (by omega) hP (hB_oM hB (by omega))) wm_978 wm_980 wm_42 wm_61 wm_981 yc_0 rfl ydc_X11_takers rfl ⟨Nat.le_of_ble_eq_true rfl, Nat.le_of_ble_eq_true rfl⟩ ⟨rfl, rfl⟩ ⟨Nat.le_refl _, Nat.le_refl _⟩ (Nat.le_of_ble_eq_true rfl) rfl ?_
                    refine G_istore (lv' := [(7, .int (nI (y_tk M (n) (y_par M n st)))), (6, .int (nI (bN (y_par M n st)))), (0, .ref (ad 0)), (1, .int (nI n)), (2, .int (nI k)), (3, .int (nI z)), (4, .int (nI al)), (5, .int (nI st))]) C dX11_odds_153 (by decide) rfl ?_
                    refine G_iconst C dX11_odds_155 kI_0 ?_
                    refine G_istore (lv' := [(8, .int (nI 0)), (7, .int (nI (y_tk M (n) (y_par M n st)))), (6, .int (nI (bN (y_par M n st)))), (0, .ref (ad 0)), (1, .int (nI n)), (2, .int (nI k)), (3, .int (nI z)), (4, .int (nI al)), (5, .int (nI st))]) C dX11_odds_156 (by decide) rfl ?_
                    refine G_iconst C dX11_odds_158 kI_0 ?_
                    refine G_istore (lv' := [(9, .int (nI 0)), (8, .int (nI 0)), (7, .int (nI (y_tk M (n) (y_par M n st)))), (6, .int (nI (bN (y_par M n st)))), (0, .ref (ad 0)), (1, .int (nI n)), (2, .int (nI k)), (3, .int (nI z)), (4, .int (nI al)), (5, .int (nI st))]) C dX11_odds_159 (by decide) rfl ?_
                    refine G_pick (lv' := [(0, .ref (ad 0)), (1, .int (nI n)), (2, .int (nI k)), (3, .int (nI z)), (4, .int (nI al)), (5, .int (nI st)), (6, .int (nI (bN (y_par M n st)))), (7, .int (nI (y_tk M (n) (y_par M n st)))), (8, .int (nI 0)), (9, .int (nI 0))]) [4, 5, 6, 7, 8, 9, 3, 2, 1, 0] rfl ?_
                    refine loopN (P := fun i => ∀ sm : Nat, (sm = sumTo (y_W M n st) i) → G p l e (rmOf 2 43) s m args below meth c D _ 10 0 0 _ 161 [(0, .ref (ad 0)), (1, .int (nI n)), (2, .int (nI k)), (3, .int (nI z)), (4, .int (nI al)), (5, .int (nI st)), (6, .int (nI (bN (y_par M n st)))), (7, .int (nI (y_tk M n (y_par M n st)))), (8, .int (nI sm)), (9, .int (nI i))] [] (wY cI cZ ad (y_oM M n st) t)) (5) ?_ ?_ 0 (Nat.zero_le _) (0) rfl
                    · intro sm hi14_0
                      refine G_iload C 9 dX11_odds_161 rfl ?_
                      refine G_iconst C dX11_odds_163 kI_5 ?_
                      refine G_icmp_geN (tgt := 185) C dX11_odds_164 (by decide) (by decide) (by decide) (fun h164_15 => ?_) (fun h164_15 => ?_)
                      · refine G_iconst C dX11_odds_185 kI_0 ?_
                        refine G_istore (lv' := [(9, .int (nI 0)), (0, .ref (ad 0)), (1, .int (nI n)), (2, .int (nI k)), (3, .int (nI z)), (4, .int (nI al)), (5, .int (nI st)), (6, .int (nI (bN (y_par M n st)))), (7, .int (nI (y_tk M n (y_par M n st)))), (8, .int (nI sm))]) C dX11_odds_186 (by decide) rfl ?_
                        refine G_w (w2 := wY cI cZ ad (fillR (y_oM M n st) 16 (fun j => y_W M n (st + 1) j) (0)) t) (congrArg (fun z => wY cI cZ ad z t) (fill_0 (y_oM M n st) 16 _).symm) ?_
                        refine G_pick (lv' := [(0, .ref (ad 0)), (1, .int (nI n)), (2, .int (nI k)), (3, .int (nI z)), (4, .int (nI al)), (5, .int (nI st)), (6, .int (nI (bN (y_par M n st)))), (7, .int (nI (y_tk M n (y_par M n st)))), (8, .int (nI sm)), (9, .int (nI 0))]) [1, 2, 3, 4, 5, 6, 7, 8, 9, 0] rfl ?_
                        refine loopN (P := fun i => G p l e (rmOf 2 43) s m args below meth c D _ 10 0 0 _ 188 [(0, .ref (ad 0)), (1, .int (nI n)), (2, .int (nI k)), (3, .int (nI z)), (4, .int (nI al)), (5, .int (nI st)), (6, .int (nI (bN (y_par M n st)))), (7, .int (nI (y_tk M n (y_par M n st)))), (8, .int (nI sm)), (9, .int (nI i))] [] (wY cI cZ ad (fillR (y_oM M n st) 16 (fun j => y_W M n (st + 1) j) (i)) t)) (5) ?_ ?_ 0 (Nat.zero_le _)  
                        · skip
                          refine G_iload C 9 dX11_odds_188 rfl ?_
                          refine G_iconst C dX11_odds_190 kI_5 ?_
                          refine G_icmp_geN (tgt := 232) C dX11_odds_191 (by decide) (by decide) (by decide) (fun h191_17 => ?_) (fun h191_17 => ?_)
                          · refine G_iconst C dX11_odds_232 kI_0 ?_
                            refine G_istore (lv' := [(9, .int (nI 0)), (0, .ref (ad 0)), (1, .int (nI n)), (2, .int (nI k)), (3, .int (nI z)), (4, .int (nI al)), (5, .int (nI st)), (6, .int (nI (bN (y_par M n st)))), (7, .int (nI (y_tk M n (y_par M n st)))), (8, .int (nI sm))]) C dX11_odds_233 (by decide) rfl ?_
                            refine G_w (w2 := wY cI cZ ad (fillR (fillR (y_oM M n st) 16 (fun j => y_W M n (st + 1) j) (5)) 15 (fun j => y_W M n (st + 1) j) (0)) t) (congrArg (fun z => wY cI cZ ad z t) (fill_0 (fillR (y_oM M n st) 16 (fun j => y_W M n (st + 1) j) (5)) 15 _).symm) ?_
                            refine G_pick (lv' := [(0, .ref (ad 0)), (1, .int (nI n)), (2, .int (nI k)), (3, .int (nI z)), (4, .int (nI al)), (5, .int (nI st)), (6, .int (nI (bN (y_par M n st)))), (7, .int (nI (y_tk M n (y_par M n st)))), (8, .int (nI sm)), (9, .int (nI 0))]) [1, 2, 3, 4, 5, 6, 7, 8, 9, 0] rfl ?_
                            refine loopN (P := fun i => G p l e (rmOf 2 43) s m args below meth c D _ 10 0 0 _ 235 [(0, .ref (ad 0)), (1, .int (nI n)), (2, .int (nI k)), (3, .int (nI z)), (4, .int (nI al)), (5, .int (nI st)), (6, .int (nI (bN (y_par M n st)))), (7, .int (nI (y_tk M n (y_par M n st)))), (8, .int (nI sm)), (9, .int (nI i))] [] (wY cI cZ ad (fillR (fillR (y_oM M n st) 16 (fun j => y_W M n (st + 1) j) (5)) 15 (fun j => y_W M n (st + 1) j) (i)) t)) (5) ?_ ?_ 0 (Nat.zero_le _)  
                            · skip
                              refine G_iload C 9 dX11_odds_235 rfl ?_
                              refine G_iconst C dX11_odds_237 kI_5 ?_
                              refine G_icmp_geN (tgt := 261) C dX11_odds_238 (by decide) (by decide) (by decide) (fun h238_19 => ?_) (fun h238_19 => ?_)
                              · refine G_iload C 4 dX11_odds_261 rfl ?_
                                refine G_aload_n C 0 dX11_odds_263 rfl rfl ?_
                                refine G_get (v := .ref (ad 2)) C 0 9 dX11_odds_264 yc_0 rfl inG11 (by decide) wm_846 rfl rfl ?_
                                refine G_iconst C dX11_odds_267 kI_0 ?_
                                refine G_iald (v := nI (M 2 0)) C 2 0 dX11_odds_268 yc_2 rfl (by decide) (by decide) rfl ?_
                                refine G_iconst C dX11_odds_269 kI_1 ?_
                                refine G_icmp_leN (tgt := 284) C dX11_odds_270 (by decide) (by have := hB 2 0; omega) (by decide) (fun h270_20 => ?_) (fun h270_20 => ?_)
                                · refine G_iconst C dX11_odds_284 kI_1 ?_
                                  refine G_imulN C dX11_odds_285 ?_
                                  refine G_istore (lv' := [(4, .int (nI (al * 1))), (0, .ref (ad 0)), (1, .int (nI n)), (2, .int (nI k)), (3, .int (nI z)), (5, .int (nI st)), (6, .int (nI (bN (y_par M n st)))), (7, .int (nI (y_tk M n (y_par M n st)))), (8, .int (nI sm)), (9, .int (nI 5))]) C dX11_odds_286 (by decide) rfl ?_
                                  refine G_iincN (lv' := [(5, .int (nI (st + 1))), (4, .int (nI (al * 1))), (0, .ref (ad 0)), (1, .int (nI n)), (2, .int (nI k)), (3, .int (nI z)), (6, .int (nI (bN (y_par M n st)))), (7, .int (nI (y_tk M n (y_par M n st)))), (8, .int (nI sm)), (9, .int (nI 5))]) C 5 dX11_odds_288 rfl (by decide) rfl ?_
                                  refine G_goto (tgt := 90) C dX11_odds_291 (by decide) ?_
                                  refine G_w (w2 := wY cI cZ ad (y_oM M n (st + 1)) t) (congrArg (fun z => wY cI cZ ad z t) (oM_s M n st)) ?_
                                  refine G_pick (lv' := [(0, .ref (ad 0)), (1, .int (nI n)), (2, .int (nI k)), (3, .int (nI z)), (4, .int (nI (al * 1))), (5, .int (nI (st + 1)))]) [2, 3, 4, 5, 1, 0] rfl ?_
                                  exact ih7 _ (by rw [y_aN_s, ← hi7_0, if_neg (by omega), Nat.mul_one])
                                · refine G_aload_n C 0 dX11_odds_273 rfl rfl ?_
                                  refine G_get (v := .ref (ad 2)) C 0 9 dX11_odds_274 yc_0 rfl inG11 (by decide) wm_846 rfl rfl ?_
                                  refine G_iconst C dX11_odds_277 kI_0 ?_
                                  refine G_iald (v := nI (M 2 0)) C 2 0 dX11_odds_278 yc_2 rfl (by decide) (by decide) rfl ?_
                                  refine G_iconst C dX11_odds_279 kI_1 ?_
                                  refine G_isubN C dX11_odds_280 (by omega) ?_
                                  refine G_goto (tgt := 285) C dX11_odds_281 (by decide) ?_
                                  refine G_imulN C dX11_odds_285 ?_
                                  refine G_istore (lv' := [(4, .int (nI (al * ((M 2 0) - 1)))), (0, .ref (ad 0)), (1, .int (nI n)), (2, .int (nI k)), (3, .int (nI z)), (5, .int (nI st)), (6, .int (nI (bN (y_par M n st)))), (7, .int (nI (y_tk M n (y_par M n st)))), (8, .int (nI sm)), (9, .int (nI 5))]) C dX11_odds_286 (by decide) rfl ?_
                                  refine G_iincN (lv' := [(5, .int (nI (st + 1))), (4, .int (nI (al * ((M 2 0) - 1)))), (0, .ref (ad 0)), (1, .int (nI n)), (2, .int (nI k)), (3, .int (nI z)), (6, .int (nI (bN (y_par M n st)))), (7, .int (nI (y_tk M n (y_par M n st)))), (8, .int (nI sm)), (9, .int (nI 5))]) C 5 dX11_odds_288 rfl (by decide) rfl ?_
                                  refine G_goto (tgt := 90) C dX11_odds_291 (by decide) ?_
                                  refine G_w (w2 := wY cI cZ ad (y_oM M n (st + 1)) t) (congrArg (fun z => wY cI cZ ad z t) (oM_s M n st)) ?_
                                  refine G_pick (lv' := [(0, .ref (ad 0)), (1, .int (nI n)), (2, .int (nI k)), (3, .int (nI z)), (4, .int (nI (al * ((M 2 0) - 1)))), (5, .int (nI (st + 1)))]) [2, 3, 4, 5, 1, 0] rfl ?_
                                  exact ih7 _ (by rw [y_aN_s, ← hi7_0, if_pos h270_20])
                              · exact absurd h238_19 (by decide)
                            · intro i hi5 ih18  
                              refine G_iload C 9 dX11_odds_235 rfl ?_
                              refine G_iconst C dX11_odds_237 kI_5 ?_
                              refine G_icmp_geN (tgt := 261) C dX11_odds_238 (by decide) (by omega) (by decide) (fun h238_21 => ?_) (fun h238_21 => ?_)
                              · exfalso; omega
                              · refine G_aload_n C 0 dX11_odds_241 rfl rfl ?_
                                refine G_get (v := .ref (ad 15)) C 0 26 dX11_odds_242 yc_0 rfl inG11 (by decide) wm_863 rfl rfl ?_
                                refine G_iload C 9 dX11_odds_245 rfl ?_
                                refine G_aload_n C 0 dX11_odds_247 rfl rfl ?_
                                refine G_get (v := .ref (ad 16)) C 0 27 dX11_odds_248 yc_0 rfl inG11 (by decide) wm_864 rfl rfl ?_
                                refine G_iload C 9 dX11_odds_251 rfl ?_
                                refine G_iald (v := nI (y_W M n (st + 1) i)) C 16 0 dX11_odds_253 yc_16 rfl (by omega) (by decide) (congrArg nI ((congrFun (fill_o (by decide)) _).trans (fill_lo (by omega)))) ?_
                                refine G_iast (w' := wY cI cZ ad (ms (fillR (fillR (y_oM M n st) 16 (fun j => y_W M n (st + 1) j) (5)) 15 (fun j => y_W M n (st + 1) j) (i)) 15 (i) (y_W M n (st + 1) i)) t) C 15 0 dX11_odds_254 yc_15 rfl (by omega) (by decide) (ys_15 _ _) ?_
                                refine G_iincN (lv' := [(9, .int (nI (i + 1))), (0, .ref (ad 0)), (1, .int (nI n)), (2, .int (nI k)), (3, .int (nI z)), (4, .int (nI al)), (5, .int (nI st)), (6, .int (nI (bN (y_par M n st)))), (7, .int (nI (y_tk M n (y_par M n st)))), (8, .int (nI sm))]) C 9 dX11_odds_255 rfl (by decide) rfl ?_
                                refine G_goto (tgt := 235) C dX11_odds_258 (by decide) ?_
                                refine G_w (w2 := wY cI cZ ad (fillR (fillR (y_oM M n st) 16 (fun j => y_W M n (st + 1) j) (5)) 15 (fun j => y_W M n (st + 1) j) (i + 1)) t) (congrArg (fun z => wY cI cZ ad z t) (fill_s (rfl))) ?_
                                refine G_pick (lv' := [(0, .ref (ad 0)), (1, .int (nI n)), (2, .int (nI k)), (3, .int (nI z)), (4, .int (nI al)), (5, .int (nI st)), (6, .int (nI (bN (y_par M n st)))), (7, .int (nI (y_tk M n (y_par M n st)))), (8, .int (nI sm)), (9, .int (nI (i + 1)))]) [1, 2, 3, 4, 5, 6, 7, 8, 9, 0] rfl ?_
                                exact ih18  
                          · exact absurd h191_17 (by decide)
                        · intro i hi5 ih16  
                          refine G_iload C 9 dX11_odds_188 rfl ?_
                          refine G_iconst C dX11_odds_190 kI_5 ?_
                          refine G_icmp_geN (tgt := 232) C dX11_odds_191 (by decide) (by omega) (by decide) (fun h191_22 => ?_) (fun h191_22 => ?_)
                          · exfalso; omega
                          · refine G_aload_n C 0 dX11_odds_194 rfl rfl ?_
                            refine G_get (v := .ref (ad 16)) C 0 27 dX11_odds_195 yc_0 rfl inG11 (by decide) wm_864 rfl rfl ?_
                            refine G_iload C 9 dX11_odds_198 rfl ?_
                            refine G_iload C 7 dX11_odds_200 rfl ?_
                            refine G_iload C 9 dX11_odds_202 rfl ?_
                            refine G_ishrN C dX11_odds_204 (by omega) (Nat.lt_trans (y_tk_lt hP) (by decide)) ?_
                            refine G_iconst C dX11_odds_205 kI_1 ?_
                            refine G_iandN C dX11_odds_206 ?_
                            refine G_top (y := nI (((y_tk M n (y_par M n st)) / 2 ^ i) % 2)) (congrArg nI (Nat.and_one_is_mod _)) ?_
                            refine G_iconst C dX11_odds_207 kI_1 ?_
                            refine G_icmp_neN (tgt := 224) C dX11_odds_208 (by decide) (by omega) (by omega) (fun h208_23 => ?_) (fun h208_23 => ?_)
                            · refine G_iconst C dX11_odds_224 kI_0 ?_
                              refine G_iast (w' := wY cI cZ ad (ms (fillR (y_oM M n st) 16 (fun j => y_W M n (st + 1) j) (i)) 16 (i) (0)) t) C 16 0 dX11_odds_225 yc_16 rfl (by omega) (by decide) (ys_16 _ _) ?_
                              refine G_iincN (lv' := [(9, .int (nI (i + 1))), (0, .ref (ad 0)), (1, .int (nI n)), (2, .int (nI k)), (3, .int (nI z)), (4, .int (nI al)), (5, .int (nI st)), (6, .int (nI (bN (y_par M n st)))), (7, .int (nI (y_tk M n (y_par M n st)))), (8, .int (nI sm))]) C 9 dX11_odds_226 rfl (by decide) rfl ?_
                              refine G_goto (tgt := 188) C dX11_odds_229 (by decide) ?_
                              refine G_w (w2 := wY cI cZ ad (fillR (y_oM M n st) 16 (fun j => y_W M n (st + 1) j) (i + 1)) t) (congrArg (fun z => wY cI cZ ad z t) (fill_s ((by show _ = (if y_bit (y_tk M n (y_par M n st)) i = true then sumTo (y_W M n st) 5 - y_W M n st i else 0); rw [if_neg (by unfold y_bit; rw [decide_eq_false h208_23]; decide)])))) ?_
                              refine G_pick (lv' := [(0, .ref (ad 0)), (1, .int (nI n)), (2, .int (nI k)), (3, .int (nI z)), (4, .int (nI al)), (5, .int (nI st)), (6, .int (nI (bN (y_par M n st)))), (7, .int (nI (y_tk M n (y_par M n st)))), (8, .int (nI sm)), (9, .int (nI (i + 1)))]) [1, 2, 3, 4, 5, 6, 7, 8, 9, 0] rfl ?_
                              exact ih16  
                            · refine G_iload C 8 dX11_odds_211 rfl ?_
                              refine G_aload_n C 0 dX11_odds_213 rfl rfl ?_
                              refine G_get (v := .ref (ad 15)) C 0 26 dX11_odds_214 yc_0 rfl inG11 (by decide) wm_863 rfl rfl ?_
                              refine G_iload C 9 dX11_odds_217 rfl ?_
                              refine G_iald (v := nI (y_W M n st i)) C 15 0 dX11_odds_219 yc_15 rfl (by omega) (by decide) (congrArg nI (oM_15 (by omega))) ?_
                              refine G_isubN C dX11_odds_220 (by have h1 := le_sumTo (y_W M n st) (q := i) (n := 5) (by omega); omega) ?_
                              refine G_goto (tgt := 225) C dX11_odds_221 (by decide) ?_
                              refine G_iast (w' := wY cI cZ ad (ms (fillR (y_oM M n st) 16 (fun j => y_W M n (st + 1) j) (i)) 16 (i) (sm - (y_W M n st i))) t) C 16 0 dX11_odds_225 yc_16 rfl (by omega) (by decide) (ys_16 _ _) ?_
                              refine G_iincN (lv' := [(9, .int (nI (i + 1))), (0, .ref (ad 0)), (1, .int (nI n)), (2, .int (nI k)), (3, .int (nI z)), (4, .int (nI al)), (5, .int (nI st)), (6, .int (nI (bN (y_par M n st)))), (7, .int (nI (y_tk M n (y_par M n st)))), (8, .int (nI sm))]) C 9 dX11_odds_226 rfl (by decide) rfl ?_
                              refine G_goto (tgt := 188) C dX11_odds_229 (by decide) ?_
                              refine G_w (w2 := wY cI cZ ad (fillR (y_oM M n st) 16 (fun j => y_W M n (st + 1) j) (i + 1)) t) (congrArg (fun z => wY cI cZ ad z t) (fill_s ((by show _ = (if y_bit (y_tk M n (y_par M n st)) i = true then sumTo (y_W M n st) 5 - y_W M n st i else 0); rw [if_pos (show y_bit _ _ = true from decide_eq_true h208_23), ← hi14_0])))) ?_
                              refine G_pick (lv' := [(0, .ref (ad 0)), (1, .int (nI n)), (2, .int (nI k)), (3, .int (nI z)), (4, .int (nI al)), (5, .int (nI st)), (6, .int (nI (bN (y_par M n st)))), (7, .int (nI (y_tk M n (y_par M n st)))), (8, .int (nI sm)), (9, .int (nI (i + 1)))]) [1, 2, 3, 4, 5, 6, 7, 8, 9, 0] rfl ?_
                              exact ih16  
                      · exact absurd h164_15 (by decide)
                    · intro i hi5 ih14 sm hi14_0
                      refine G_iload C 9 dX11_odds_161 rfl ?_
                      refine G_iconst C dX11_odds_163 kI_5 ?_
                      refine G_icmp_geN (tgt := 185) C dX11_odds_164 (by decide) (by omega) (by decide) (fun h164_24 => ?_) (fun h164_24 => ?_)
                      · exfalso; omega
                      · refine G_iload C 8 dX11_odds_167 rfl ?_
                        refine G_aload_n C 0 dX11_odds_169 rfl rfl ?_
                        refine G_get (v := .ref (ad 15)) C 0 26 dX11_odds_170 yc_0 rfl inG11 (by decide) wm_863 rfl rfl ?_
                        refine G_iload C 9 dX11_odds_173 rfl ?_
                        refine G_iald (v := nI (y_W M n st i)) C 15 0 dX11_odds_175 yc_15 rfl (by omega) (by decide) (congrArg nI (oM_15 (by omega))) ?_
                        refine G_iaddN C dX11_odds_176 ?_
                        refine G_istore (lv' := [(8, .int (nI (sm + (y_W M n st i)))), (0, .ref (ad 0)), (1, .int (nI n)), (2, .int (nI k)), (3, .int (nI z)), (4, .int (nI al)), (5, .int (nI st)), (6, .int (nI (bN (y_par M n st)))), (7, .int (nI (y_tk M n (y_par M n st)))), (9, .int (nI i))]) C dX11_odds_177 (by decide) rfl ?_
                        refine G_iincN (lv' := [(9, .int (nI (i + 1))), (8, .int (nI (sm + (y_W M n st i)))), (0, .ref (ad 0)), (1, .int (nI n)), (2, .int (nI k)), (3, .int (nI z)), (4, .int (nI al)), (5, .int (nI st)), (6, .int (nI (bN (y_par M n st)))), (7, .int (nI (y_tk M n (y_par M n st))))]) C 9 dX11_odds_179 rfl (by decide) rfl ?_
                        refine G_goto (tgt := 161) C dX11_odds_182 (by decide) ?_
                        refine G_pick (lv' := [(0, .ref (ad 0)), (1, .int (nI n)), (2, .int (nI k)), (3, .int (nI z)), (4, .int (nI al)), (5, .int (nI st)), (6, .int (nI (bN (y_par M n st)))), (7, .int (nI (y_tk M n (y_par M n st)))), (8, .int (nI (sm + (y_W M n st i)))), (9, .int (nI (i + 1)))]) [2, 3, 4, 5, 6, 7, 8, 9, 1, 0] rfl ?_
                        exact ih14 _ (by rw [hi14_0]; rfl)
                  · refine G_aload_n C 0 dX11_odds_96 rfl rfl ?_
                    refine G_iload_n C 1 dX11_odds_97 rfl rfl ?_
                    refine G_callV1 (v := .int (nI (bN (y_pa M (n))))) C [.int (nI n)] 0 dX11_odds_98 (c_X11_hasParity (by omega) (hB_oM hB (by omega))) wm_974 wm_976 wm_41 wm_61 wm_977 yc_0 rfl ydc_X11_hasParity rfl ⟨Nat.le_of_ble_eq_true rfl, Nat.le_of_ble_eq_true rfl⟩ ⟨rfl, rfl⟩ ⟨Nat.le_refl _, Nat.le_refl _⟩ (Nat.le_of_ble_eq_true rfl) rfl ?_
                    refine G_if_neB (tgt := 139) C dX11_odds_101 (by decide) (fun h101_25 => ?_) (fun h101_25 => ?_)
                    · refine G_iconst C dX11_odds_139 kI_1 ?_
                      refine G_goto (tgt := 144) C dX11_odds_140 (by decide) ?_
                      refine G_top (y := nI (bN (y_par M n st))) (congrArg nI (by simp [y_par, h101_25])) ?_
                      exact hcut () trivial
                    · refine G_aload_n C 0 dX11_odds_104 rfl rfl ?_
                      refine G_get (v := .ref (ad 5)) C 0 13 dX11_odds_105 yc_0 rfl inG11 (by decide) wm_850 rfl rfl ?_
                      refine G_iload_n C 1 dX11_odds_108 rfl rfl ?_
                      refine G_iald (v := nI (M 5 n)) C 5 0 dX11_odds_109 yc_5 rfl (by omega) (by decide) rfl ?_
                      refine G_if_eqN (tgt := 143) C dX11_odds_110 (by decide) (by have := hB 5 n; omega) (fun h110_26 => ?_) (fun h110_26 => ?_)
                      · refine G_iconst C dX11_odds_143 kI_0 ?_
                        refine G_top (y := nI (bN (y_par M n st))) (congrArg nI (by simp [y_par, h101_25, h110_26])) ?_
                        exact hcut () trivial
                      · refine G_iload C 5 dX11_odds_113 rfl ?_
                        refine G_if_leN (tgt := 143) C dX11_odds_115 (by decide) (by omega) (fun h115_27 => ?_) (fun h115_27 => ?_)
                        · refine G_iconst C dX11_odds_143 kI_0 ?_
                          refine G_top (y := nI (bN (y_par M n st))) (congrArg nI (by simp [y_par, h101_25, h110_26, h115_27])) ?_
                          exact hcut () trivial
                        · refine G_aload_n C 0 dX11_odds_118 rfl rfl ?_
                          refine G_get (v := .ref (ad 7)) C 0 15 dX11_odds_119 yc_0 rfl inG11 (by decide) wm_852 rfl rfl ?_
                          refine G_bipush C dX11_odds_122 kB_6 ?_
                          refine G_iload_n C 1 dX11_odds_124 rfl rfl ?_
                          refine G_iaddN C dX11_odds_125 ?_
                          refine G_iald (v := nI (M 7 (6 + n))) C 7 0 dX11_odds_126 yc_7 rfl (by omega) (by decide) rfl ?_
                          refine G_iload C 5 dX11_odds_127 rfl ?_
                          refine G_iaddN C dX11_odds_129 ?_
                          refine G_aload_n C 0 dX11_odds_130 rfl rfl ?_
                          refine G_get (v := .ref (ad 2)) C 0 9 dX11_odds_131 yc_0 rfl inG11 (by decide) wm_846 rfl rfl ?_
                          refine G_iconst C dX11_odds_134 kI_2 ?_
                          refine G_iald (v := nI (M 2 2)) C 2 0 dX11_odds_135 yc_2 rfl (by decide) (by decide) rfl ?_
                          refine G_icmp_ltN (tgt := 143) C dX11_odds_136 (by decide) (by have := hB 7 (6 + n); omega) (by have := hB 2 2; omega) (fun h136_28 => ?_) (fun h136_28 => ?_)
                          · refine G_iconst C dX11_odds_143 kI_0 ?_
                            refine G_top (y := nI (bN (y_par M n st))) (congrArg nI (by simp [y_par, h101_25, h110_26, h115_27, Nat.not_le.mpr h136_28])) ?_
                            exact hcut () trivial
                          · refine G_iconst C dX11_odds_139 kI_1 ?_
                            refine G_goto (tgt := 144) C dX11_odds_140 (by decide) ?_
                            refine G_top (y := nI (bN (y_par M n st))) (congrArg nI (by simp [y_par, h101_25, h110_26, h115_27, h136_28])) ?_
                            exact hcut () trivial
            · exact absurd h53_6 (by decide)
          · intro i hi5 ih5  
            refine G_iload C 5 dX11_odds_50 rfl ?_
            refine G_iconst C dX11_odds_52 kI_5 ?_
            refine G_icmp_geN (tgt := 87) C dX11_odds_53 (by decide) (by omega) (by decide) (fun h53_29 => ?_) (fun h53_29 => ?_)
            · exfalso; omega
            · refine G_aload_n C 0 dX11_odds_56 rfl rfl ?_
              refine G_get (v := .ref (ad 15)) C 0 26 dX11_odds_57 yc_0 rfl inG11 (by decide) wm_863 rfl rfl ?_
              refine G_iload C 5 dX11_odds_60 rfl ?_
              refine G_iload C 5 dX11_odds_62 rfl ?_
              refine G_aload_n C 0 dX11_odds_64 rfl rfl ?_
              refine G_get (v := .ref (ad 7)) C 0 15 dX11_odds_65 yc_0 rfl inG11 (by decide) wm_852 rfl rfl ?_
              refine G_iconst C dX11_odds_68 kI_0 ?_
              refine G_iload_n C 1 dX11_odds_69 rfl rfl ?_
              refine G_iaddN C dX11_odds_70 ?_
              refine G_top (y := nI (n)) (congrArg nI (Nat.zero_add _)) ?_
              refine G_iald (v := nI (M 7 n)) C 7 0 dX11_odds_71 yc_7 rfl (by omega) (by decide) rfl ?_
              refine G_icmp_neN (tgt := 79) C dX11_odds_72 (by decide) (by omega) (by have := hB 7 n; omega) (fun h72_30 => ?_) (fun h72_30 => ?_)
              · refine G_iconst C dX11_odds_79 kI_0 ?_
                refine G_iast (w' := wY cI cZ ad (ms (fillR M 15 (fun j => if j = M 7 n then 1 else 0) (i)) 15 (i) (0)) t) C 15 0 dX11_odds_80 yc_15 rfl (by omega) (by decide) (ys_15 _ _) ?_
                refine G_iincN (lv' := [(5, .int (nI (i + 1))), (0, .ref (ad 0)), (1, .int (nI n)), (2, .int (nI k)), (3, .int (nI z)), (4, .int (nI 1))]) C 5 dX11_odds_81 rfl (by decide) rfl ?_
                refine G_goto (tgt := 50) C dX11_odds_84 (by decide) ?_
                refine G_w (w2 := wY cI cZ ad (fillR M 15 (fun j => if j = M 7 n then 1 else 0) (i + 1)) t) (congrArg (fun z => wY cI cZ ad z t) (fill_s ((by show _ = (if i = M 7 n then 1 else 0); rw [if_neg h72_30])))) ?_
                refine G_pick (lv' := [(0, .ref (ad 0)), (1, .int (nI n)), (2, .int (nI k)), (3, .int (nI z)), (4, .int (nI 1)), (5, .int (nI (i + 1)))]) [1, 2, 3, 4, 5, 0] rfl ?_
                exact ih5  
              · refine G_iconst C dX11_odds_75 kI_1 ?_
                refine G_goto (tgt := 80) C dX11_odds_76 (by decide) ?_
                refine G_iast (w' := wY cI cZ ad (ms (fillR M 15 (fun j => if j = M 7 n then 1 else 0) (i)) 15 (i) (1)) t) C 15 0 dX11_odds_80 yc_15 rfl (by omega) (by decide) (ys_15 _ _) ?_
                refine G_iincN (lv' := [(5, .int (nI (i + 1))), (0, .ref (ad 0)), (1, .int (nI n)), (2, .int (nI k)), (3, .int (nI z)), (4, .int (nI 1))]) C 5 dX11_odds_81 rfl (by decide) rfl ?_
                refine G_goto (tgt := 50) C dX11_odds_84 (by decide) ?_
                refine G_w (w2 := wY cI cZ ad (fillR M 15 (fun j => if j = M 7 n then 1 else 0) (i + 1)) t) (congrArg (fun z => wY cI cZ ad z t) (fill_s ((by show _ = (if i = M 7 n then 1 else 0); rw [if_pos h72_30])))) ?_
                refine G_pick (lv' := [(0, .ref (ad 0)), (1, .int (nI n)), (2, .int (nI k)), (3, .int (nI z)), (4, .int (nI 1)), (5, .int (nI (i + 1)))]) [1, 2, 3, 4, 5, 0] rfl ?_
                exact ih5  
        · refine G_bipush C dX11_odds_41 kB_m2 ?_
          exact G_iret C hr dX11_odds_43 (by simp [y_odds, h10_1, h19_2, h28_3, h38_4, cl_n, cl_k, cl_z]) (congrArg (fun z => wY cI cZ ad z t) (by simp [y_odds, h10_1, h19_2, h28_3, h38_4, cl_n, cl_k, cl_z]))
      · refine G_iconst C dX11_odds_31 kI_m1 ?_
        exact G_iret C hr dX11_odds_32 (by simp [y_odds, h10_1, h19_2, h28_3]) (congrArg (fun z => wY cI cZ ad z t) (by simp [y_odds, h10_1, h19_2, h28_3]))
set_option maxHeartbeats 4000000 in
set_option maxRecDepth 100000 in
theorem c_X11_soonest {x k : Int32} (h0 : M 0 0 = 0) (hU : ∀ n, n < M 2 1 → 0 < M 5 n → y_pa M n = false → M 7 (6 + n) ≤ M 2 2) (hH : ∀ n, n < M 2 1 → M 7 n < 5) (hN : M 2 1 ≤ 6) (hP : M 2 0 ≤ 5) (hB : ∀ k j, M k j < 1024) : CT l yX11_soonest cX11_soonest 10 (some .int) (rmOf 2 44) D (tyI cI cZ) [.ref (ad 0), .int (x), .int (k)] (wY cI cZ ad M t) (some (.int (y_soon M x k))) (wY cI cZ ad M t) := by
  refine CT_of (own := "FalseParityModel") (by decide) rfl (Nat.le_of_ble_eq_true rfl) (fun p e s m args below meth c C hr => ?_)
  refine G_aload_n C 0 dX11_soonest_0 rfl rfl ?_
  refine G_iconst C dX11_soonest_1 kI_0 ?_
  refine G_put (w' := wY cI cZ ad (ms M 0 (0) (0)) t) (ty := .int) C 0 0 tyX11 dX11_soonest_2 yc_0 rfl inG11 tyX11_ok nmX11 (by decide) wm_837 rfl rfl (by decide +kernel) rfl rfl (Nat.le_of_ble_eq_true rfl) (yp_0_0 _) ?_
  refine G_w (w2 := wY cI cZ ad M t) (congrArg (fun z => wY cI cZ ad z t) (ms_id h0)) ?_
  refine G_aload_n C 0 dX11_soonest_5 rfl rfl ?_
  refine G_iload_n C 1 dX11_soonest_6 rfl rfl ?_
  refine G_callV1 C [.int (x)] 0 dX11_soonest_7 (c_X11_isNote hB) wm_970 wm_972 wm_40 wm_61 wm_973 yc_0 rfl ydc_X11_isNote rfl ⟨Nat.le_of_ble_eq_true rfl, Nat.le_of_ble_eq_true rfl⟩ ⟨rfl, rfl⟩ ⟨Nat.le_refl _, Nat.le_refl _⟩ (Nat.le_of_ble_eq_true rfl) rfl ?_
  refine G_if_eqB (tgt := 18) C dX11_soonest_10 (by decide) (fun h10_1 => ?_) (fun h10_1 => ?_)
  · refine G_iconst C dX11_soonest_18 kI_m1 ?_
    exact G_iret C hr dX11_soonest_19 (by simp [y_soon, h10_1]) (rfl)
  · obtain ⟨n, hx_n, rfl⟩ := inR_of (by have := hB 2 1; omega) h10_1
    have cl_n := nI_clamp (n := n) (by have := hB 2 1; omega)
    refine G_iload_n C 2 dX11_soonest_13 rfl rfl ?_
    refine G_iconst C dX11_soonest_14 kI_m1 ?_
    refine G_icmp_ge (tgt := 20) C dX11_soonest_15 (by decide) (fun h15_2 => ?_) (fun h15_2 => ?_)
    · refine G_aload_n C 0 dX11_soonest_20 rfl rfl ?_
      refine G_iload_n C 1 dX11_soonest_21 rfl rfl ?_
      refine G_callV1 C [.int (nI n)] 0 dX11_soonest_22 (c_X11_isAway (by omega) hB) wm_990 wm_992 wm_44 wm_61 wm_993 yc_0 rfl ydc_X11_isAway rfl ⟨Nat.le_of_ble_eq_true rfl, Nat.le_of_ble_eq_true rfl⟩ ⟨rfl, rfl⟩ ⟨Nat.le_refl _, Nat.le_refl _⟩ (Nat.le_of_ble_eq_true rfl) rfl ?_
      refine G_if_neB (tgt := 45) C dX11_soonest_25 (by decide) (fun h25_3 => ?_) (fun h25_3 => ?_)
      · refine G_bipush C dX11_soonest_45 kB_m2 ?_
        exact G_iret C hr dX11_soonest_47 (by simp [y_soon, y_soonN, h10_1, h15_2, h25_3, cl_n]) (rfl)
      · refine G_aload_n C 0 dX11_soonest_28 rfl rfl ?_
        refine G_get (v := .ref (ad 5)) C 0 13 dX11_soonest_29 yc_0 rfl inG11 (by decide) wm_850 rfl rfl ?_
        refine G_iload_n C 1 dX11_soonest_32 rfl rfl ?_
        refine G_iald (v := nI (M 5 n)) C 5 0 dX11_soonest_33 yc_5 rfl (by omega) (by decide) rfl ?_
        refine G_if_eqN (tgt := 45) C dX11_soonest_34 (by decide) (by have := hB 5 n; omega) (fun h34_4 => ?_) (fun h34_4 => ?_)
        · refine G_bipush C dX11_soonest_45 kB_m2 ?_
          exact G_iret C hr dX11_soonest_47 (by simp [y_soon, y_soonN, h10_1, h15_2, h25_3, h34_4, cl_n]) (rfl)
        · refine G_aload_n C 0 dX11_soonest_37 rfl rfl ?_
          refine G_iload_n C 1 dX11_soonest_38 rfl rfl ?_
          refine G_callV1 C [.int (nI n)] 0 dX11_soonest_39 (c_X11_hasParity (by omega) hB) wm_974 wm_976 wm_41 wm_61 wm_977 yc_0 rfl ydc_X11_hasParity rfl ⟨Nat.le_of_ble_eq_true rfl, Nat.le_of_ble_eq_true rfl⟩ ⟨rfl, rfl⟩ ⟨Nat.le_refl _, Nat.le_refl _⟩ (Nat.le_of_ble_eq_true rfl) rfl ?_
          refine G_if_eqB (tgt := 48) C dX11_soonest_42 (by decide) (fun h42_5 => ?_) (fun h42_5 => ?_)
          · have hu := hU n hx_n h34_4 h42_5
            have hb2 := hB 2 2
            have hps := y_ps_le (y_tk M n (false)) (M 7 n)
            refine G_aload_n C 0 dX11_soonest_48 rfl rfl ?_
            refine G_iload_n C 1 dX11_soonest_49 rfl rfl ?_
            refine G_iconst C dX11_soonest_50 kI_0 ?_
            refine G_callV1 C [.int (nI n), .int (nI 0)] 0 dX11_soonest_51 (c_X11_takers (b := false) (by omega) hP hB) wm_978 wm_980 wm_42 wm_61 wm_981 yc_0 rfl ydc_X11_takers rfl ⟨Nat.le_of_ble_eq_true rfl, Nat.le_of_ble_eq_true rfl⟩ ⟨rfl, rfl⟩ ⟨Nat.le_refl _, Nat.le_refl _⟩ (Nat.le_of_ble_eq_true rfl) rfl ?_
            refine G_istore_n (lv' := [(3, .int (nI (y_tk M (n) (false)))), (0, .ref (ad 0)), (1, .int (nI n)), (2, .int (k))]) C dX11_soonest_54 rfl (by decide) rfl ?_
            refine G_aload_n C 1 dX11_soonest_55 rfl rfl ?_
            refine G_get (v := .ref (ad 2)) C 0 9 dX11_soonest_56 yc_0 rfl inG11 (by decide) wm_846 rfl rfl ?_
            refine G_iconst C dX11_soonest_59 kI_2 ?_
            refine G_iald (v := nI (M 2 2)) C 2 0 dX11_soonest_60 yc_2 rfl (by decide) (by decide) rfl ?_
            refine G_aload_n C 1 dX11_soonest_61 rfl rfl ?_
            refine G_get (v := .ref (ad 7)) C 0 15 dX11_soonest_62 yc_0 rfl inG11 (by decide) wm_852 rfl rfl ?_
            refine G_bipush C dX11_soonest_65 kB_6 ?_
            refine G_iload_n C 2 dX11_soonest_67 rfl rfl ?_
            refine G_iaddN C dX11_soonest_68 ?_
            refine G_iald (v := nI (M 7 (6 + n))) C 7 0 dX11_soonest_69 yc_7 rfl (by omega) (by decide) rfl ?_
            refine G_isubN C dX11_soonest_70 hu ?_
            refine G_istore (lv' := [(4, .int (nI ((M 2 2) - (M 7 (6 + n))))), (3, .int (nI (y_tk M (n) (false)))), (0, .ref (ad 0)), (1, .int (nI n)), (2, .int (k))]) C dX11_soonest_71 (by decide) rfl ?_
            refine G_aload_n C 2 dX11_soonest_73 rfl rfl ?_
            refine G_get (v := .ref (ad 7)) C 0 15 dX11_soonest_74 yc_0 rfl inG11 (by decide) wm_852 rfl rfl ?_
            refine G_iconst C dX11_soonest_77 kI_0 ?_
            refine G_iload_n C 3 dX11_soonest_78 rfl rfl ?_
            refine G_iaddN C dX11_soonest_79 ?_
            refine G_top (y := nI (n)) (congrArg nI (Nat.zero_add _)) ?_
            refine G_iald (v := nI (M 7 n)) C 7 0 dX11_soonest_80 yc_7 rfl (by omega) (by decide) rfl ?_
            refine G_istore (lv' := [(5, .int (nI (M 7 n))), (4, .int (nI ((M 2 2) - (M 7 (6 + n))))), (3, .int (nI (y_tk M (n) (false)))), (0, .ref (ad 0)), (1, .int (nI n)), (2, .int (k))]) C dX11_soonest_81 (by decide) rfl ?_
            refine G_iload_n C 2 dX11_soonest_83 rfl rfl ?_
            refine G_iload C 0 dX11_soonest_84 rfl ?_
            refine G_callS1 C [.int (nI (y_tk M (n) (false))), .int (nI (M 7 n))] dX11_soonest_86 (c_X11_passings (Nat.lt_trans (y_tk_lt hP) (by decide)) (by have := hH n hx_n; omega)) wm_1029 wm_1030 wm_61 wm_1031 ydc_X11_passings rfl ⟨Nat.le_of_ble_eq_true rfl, Nat.le_of_ble_eq_true rfl⟩ ⟨rfl, rfl⟩ ⟨Nat.le_refl _, Nat.le_refl _⟩ (Nat.le_of_ble_eq_true rfl) rfl ?_
            refine G_iload C 1 dX11_soonest_89 rfl ?_
            refine G_icmp_ltN (tgt := 99) C dX11_soonest_91 (by decide) (by first | omega | (have h1 := y_ps_le (y_tk M n (false)) (M 7 n); omega) | (have h1 := y_ps_le (y_tk M n (false)) (M 2 0 - i - 1); omega)) (by first | omega | (have h1 := y_ps_le (y_tk M n (false)) (M 7 n); omega) | (have h1 := y_ps_le (y_tk M n (false)) (M 2 0 - i - 1); omega)) (fun h91_6 => ?_) (fun h91_6 => ?_)
            · refine G_iload_n C 2 dX11_soonest_99 rfl rfl ?_
              refine G_iload C 0 dX11_soonest_100 rfl ?_
              refine G_callS1 C [.int (nI (y_tk M (n) (false))), .int (nI (M 7 n))] dX11_soonest_102 (c_X11_passings (Nat.lt_trans (y_tk_lt hP) (by decide)) (by have := hH n hx_n; omega)) wm_1029 wm_1030 wm_61 wm_1031 ydc_X11_passings rfl ⟨Nat.le_of_ble_eq_true rfl, Nat.le_of_ble_eq_true rfl⟩ ⟨rfl, rfl⟩ ⟨Nat.le_refl _, Nat.le_refl _⟩ (Nat.le_of_ble_eq_true rfl) rfl ?_
              refine G_iload C 1 dX11_soonest_105 rfl ?_
              refine G_icmp_geN (tgt := 115) C dX11_soonest_107 (by decide) (by first | omega | (have h1 := y_ps_le (y_tk M n (false)) (M 7 n); omega) | (have h1 := y_ps_le (y_tk M n (false)) (M 2 0 - i - 1); omega)) (by first | omega | (have h1 := y_ps_le (y_tk M n (false)) (M 7 n); omega) | (have h1 := y_ps_le (y_tk M n (false)) (M 2 0 - i - 1); omega)) (fun h107_7 => ?_) (fun h107_7 => ?_)
              · exfalso; omega
              · refine G_bipush C dX11_soonest_110 kB_m9 ?_
                refine G_goto (tgt := 117) C dX11_soonest_112 (by decide) ?_
                exact G_iret C hr dX11_soonest_117 (by rw [show y_soon M (nI n) k = _ from if_pos ⟨h10_1, h15_2⟩, cl_n]; unfold y_soonN; rw [if_neg (by rw [h25_3]; decide), if_neg (by omega), if_neg (by rw [h42_5]; decide), if_pos (by omega)]) (rfl)
            · refine G_iload_n C 5 dX11_soonest_94 rfl rfl ?_
              refine G_iconst C dX11_soonest_95 kI_m1 ?_
              refine G_icmp_ne (tgt := 118) C dX11_soonest_96 (by decide) (fun h96_8 => ?_) (fun h96_8 => ?_)
              · obtain ⟨j, hlt_j, rfl⟩ := nI_of (ge_m1 h15_2 h96_8)
                refine G_iconst C dX11_soonest_118 kI_0 ?_
                refine G_istore (lv' := [(6, .int (nI 0)), (5, .int (nI (M 7 n))), (4, .int (nI ((M 2 2) - (M 7 (6 + n))))), (3, .int (nI (y_tk M (n) (false)))), (0, .ref (ad 0)), (1, .int (nI n)), (2, .int (nI j))]) C dX11_soonest_119 (by decide) rfl ?_
                refine G_pick (lv' := [(0, .ref (ad 0)), (1, .int (nI n)), (2, .int (nI j)), (3, .int (nI (y_tk M (n) (false)))), (4, .int (nI ((M 2 2) - (M 7 (6 + n))))), (5, .int (nI (M 7 n))), (6, .int (nI 0))]) [4, 5, 6, 3, 2, 1, 0] rfl ?_
                refine loopN (P := fun e0 => ∀ h : Int32, (h = y_at M n e0) → (e0 ≤ j) → G p l e (rmOf 2 44) s m args below meth c D _ 10 0 0 _ 121 [(0, .ref (ad 0)), (1, .int (nI n)), (2, .int (nI j)), (3, .int (nI (y_tk M n (false)))), (4, .int (nI (M 2 2 - M 7 (6 + n) - e0))), (5, .int (h)), (6, .int (nI e0))] [] (wY cI cZ ad M t)) (M 2 2 - M 7 (6 + n)) ?_ ?_ 0 (Nat.zero_le _) (nI (M 7 n)) rfl (Nat.zero_le _)
                · intro h hi9_0 hi9_1
                  refine G_iload C 4 dX11_soonest_121 rfl ?_
                  refine G_if_leN (tgt := 224) C dX11_soonest_123 (by decide) (by omega) (fun h123_10 => ?_) (fun h123_10 => ?_)
                  · refine G_bipush C dX11_soonest_224 kB_m5 ?_
                    exact G_iret C hr dX11_soonest_226 (by rw [show y_soon M (nI n) (nI j) = _ from if_pos ⟨h10_1, h15_2⟩, cl_n]; unfold y_soonN; rw [if_neg (by rw [h25_3]; decide), if_neg (by omega), if_neg (by rw [h42_5]; decide), if_neg (by omega), if_neg (nI_m1 hlt_j), nI_clamp hlt_j, if_neg (by omega)]) (rfl)
                  · exfalso; omega
                · intro e0 heL ih9 h hi9_0 hi9_1
                  refine G_iload C 4 dX11_soonest_121 rfl ?_
                  refine G_if_leN (tgt := 224) C dX11_soonest_123 (by decide) (by omega) (fun h123_11 => ?_) (fun h123_11 => ?_)
                  · exfalso; omega
                  · refine G_bipush C dX11_soonest_126 kB_m9 ?_
                    refine G_istore (lv' := [(7, .int (-9)), (0, .ref (ad 0)), (1, .int (nI n)), (2, .int (nI j)), (3, .int (nI (y_tk M n (false)))), (4, .int (nI (M 2 2 - M 7 (6 + n) - e0))), (5, .int (h)), (6, .int (nI e0))]) C dX11_soonest_128 (by decide) rfl ?_
                    refine G_aload_n C 1 dX11_soonest_130 rfl rfl ?_
                    refine G_get (v := .ref (ad 2)) C 0 9 dX11_soonest_131 yc_0 rfl inG11 (by decide) wm_846 rfl rfl ?_
                    refine G_iconst C dX11_soonest_134 kI_0 ?_
                    refine G_iald (v := nI (M 2 0)) C 2 0 dX11_soonest_135 yc_2 rfl (by decide) (by decide) rfl ?_
                    refine G_iconst C dX11_soonest_136 kI_1 ?_
                    refine G_isub C dX11_soonest_137 ?_
                    refine G_istore (lv' := [(8, .int ((nI (M 2 0)) - (nI (1)))), (7, .int (-9)), (0, .ref (ad 0)), (1, .int (nI n)), (2, .int (nI j)), (3, .int (nI (y_tk M n (false)))), (4, .int (nI (M 2 2 - M 7 (6 + n) - e0))), (5, .int (h)), (6, .int (nI e0))]) C dX11_soonest_138 (by decide) rfl ?_
                    refine G_pick (lv' := [(0, .ref (ad 0)), (1, .int (nI n)), (2, .int (nI j)), (3, .int (nI (y_tk M n (false)))), (4, .int (nI (M 2 2 - M 7 (6 + n) - e0))), (5, .int (h)), (6, .int (nI e0)), (7, .int (-9)), (8, .int ((nI (M 2 0)) - (nI (1))))]) [2, 3, 4, 5, 6, 7, 8, 1, 0] rfl ?_
                    refine loopN (P := fun i => ∀ b : Int32, (b = y_itf (M 2 0) (y_tk M n false) (M 2 2 - M 7 (6 + n) - e0) h i) → G p l e (rmOf 2 44) s m args below meth c D _ 10 0 0 _ 140 [(0, .ref (ad 0)), (1, .int (nI n)), (2, .int (nI j)), (3, .int (nI (y_tk M n (false)))), (4, .int (nI (M 2 2 - M 7 (6 + n) - e0))), (5, .int (h)), (6, .int (nI e0)), (7, .int (b)), (8, .int (nI (M 2 0 - i) - nI 1))] [] (wY cI cZ ad M t)) (M 2 0) ?_ ?_ 0 (Nat.zero_le _) (-9) rfl
                    · intro b hi12_0
                      refine G_iload C 8 dX11_soonest_140 rfl ?_
                      refine G_if_lt (tgt := 202) C dX11_soonest_142 (by decide) (fun h142_13 => ?_) (fun h142_13 => ?_)
                      · refine G_iload C 6 dX11_soonest_202 rfl ?_
                        refine G_iload_n C 2 dX11_soonest_204 rfl rfl ?_
                        refine G_icmp_neN (tgt := 211) C dX11_soonest_205 (by decide) (by omega) (by omega) (fun h205_14 => ?_) (fun h205_14 => ?_)
                        · refine G_iload C 7 dX11_soonest_211 rfl ?_
                          refine G_istore (lv' := [(5, .int (b)), (0, .ref (ad 0)), (1, .int (nI n)), (2, .int (nI j)), (3, .int (nI (y_tk M n (false)))), (4, .int (nI (M 2 2 - M 7 (6 + n) - e0))), (6, .int (nI e0)), (7, .int (b)), (8, .int (nI (M 2 0 - M 2 0) - nI 1))]) C dX11_soonest_213 (by decide) rfl ?_
                          refine G_iinc (lv' := [(4, .int (nI (M 2 2 - M 7 (6 + n) - (e0 + 1)))), (5, .int (b)), (0, .ref (ad 0)), (1, .int (nI n)), (2, .int (nI j)), (3, .int (nI (y_tk M n (false)))), (6, .int (nI e0)), (7, .int (b)), (8, .int (nI (M 2 0 - M 2 0) - nI 1))]) C 5 dX11_soonest_215 rfl ((sb_m1 (by omega)).trans (congrArg nI (by omega))) (by decide) rfl ?_
                          refine G_iincN (lv' := [(6, .int (nI (e0 + 1))), (4, .int (nI (M 2 2 - M 7 (6 + n) - (e0 + 1)))), (5, .int (b)), (0, .ref (ad 0)), (1, .int (nI n)), (2, .int (nI j)), (3, .int (nI (y_tk M n (false)))), (7, .int (b)), (8, .int (nI (M 2 0 - M 2 0) - nI 1))]) C 6 dX11_soonest_218 rfl (by decide) rfl ?_
                          refine G_goto (tgt := 121) C dX11_soonest_221 (by decide) ?_
                          refine G_pick (lv' := [(0, .ref (ad 0)), (1, .int (nI n)), (2, .int (nI j)), (3, .int (nI (y_tk M n (false)))), (4, .int (nI (M 2 2 - M 7 (6 + n) - (e0 + 1)))), (5, .int (b)), (6, .int (nI (e0 + 1)))]) [3, 4, 5, 6, 1, 2, 0] rfl ?_
                          exact ih9 _ (by show _ = y_itf (M 2 0) (y_tk M n false) (M 2 2 - M 7 (6 + n) - e0) (y_at M n e0) (M 2 0); rw [← hi9_0]; exact hi12_0) (by omega)
                        · refine G_iload C 7 dX11_soonest_208 rfl ?_
                          exact G_iret C hr dX11_soonest_210 (by rw [show y_soon M (nI n) (nI j) = _ from if_pos ⟨h10_1, h15_2⟩, cl_n]; unfold y_soonN; rw [if_neg (by rw [h25_3]; decide), if_neg (by omega), if_neg (by rw [h42_5]; decide), if_neg (by omega), if_neg (nI_m1 hlt_j), nI_clamp hlt_j, if_pos (by omega), ← h205_14]; show _ = some (Value.int (y_itf (M 2 0) (y_tk M n false) (M 2 2 - M 7 (6 + n) - e0) (y_at M n e0) (M 2 0))); rw [← hi9_0, ← hi12_0]) (rfl)
                      · exact absurd (sub1_neg (by omega)) h142_13
                    · intro i hiP ih12 b hi12_0
                      refine G_iload C 8 dX11_soonest_140 rfl ?_
                      refine G_if_lt (tgt := 202) C dX11_soonest_142 (by decide) (fun h142_15 => ?_) (fun h142_15 => ?_)
                      · exact absurd h142_15 (sub1_nn (by omega) (by omega))
                      · refine G_lv (lv' := [(0, .ref (ad 0)), (1, .int (nI n)), (2, .int (nI j)), (3, .int (nI (y_tk M n (false)))), (4, .int (nI (M 2 2 - M 7 (6 + n) - e0))), (5, .int (h)), (6, .int (nI e0)), (7, .int (b)), (8, .int (nI (M 2 0 - i - 1)))]) (by rw [show nI (M 2 0 - i) - nI 1 = nI (M 2 0 - i - 1) from pk_sub (by omega)]) ?_
                        refine G_iload C 8 dX11_soonest_145 rfl ?_
                        refine G_iload C 5 dX11_soonest_147 rfl ?_
                        refine G_icmp_eq (tgt := 179) C dX11_soonest_149 (by decide) (fun h149_16 => ?_) (fun h149_16 => ?_)
                        · refine G_iconst C dX11_soonest_179 kI_0 ?_
                          refine G_istore (lv' := [(9, .int (nI 0)), (0, .ref (ad 0)), (1, .int (nI n)), (2, .int (nI j)), (3, .int (nI (y_tk M n (false)))), (4, .int (nI (M 2 2 - M 7 (6 + n) - e0))), (5, .int (h)), (6, .int (nI e0)), (7, .int (b)), (8, .int (nI (M 2 0 - i - 1)))]) C dX11_soonest_180 (by decide) rfl ?_
                          refine G_iload C 0 dX11_soonest_182 rfl ?_
                          refine G_if_eqN (tgt := 192) C dX11_soonest_184 (by decide) (by decide) (fun h184_17 => ?_) (fun h184_17 => ?_)
                          · refine G_iload C 8 dX11_soonest_192 rfl ?_
                            refine G_istore (lv' := [(7, .int (b)), (9, .int (nI 0)), (0, .ref (ad 0)), (1, .int (nI n)), (2, .int (nI j)), (3, .int (nI (y_tk M n (false)))), (4, .int (nI (M 2 2 - M 7 (6 + n) - e0))), (5, .int (h)), (6, .int (nI e0)), (8, .int (nI (M 2 0 - i - 1)))]) C dX11_soonest_194 (by decide) rfl ?_
                            refine G_iinc (lv' := [(8, .int (nI (M 2 0 - (i + 1)) - nI 1)), (7, .int (b)), (9, .int (nI 0)), (0, .ref (ad 0)), (1, .int (nI n)), (2, .int (nI j)), (3, .int (nI (y_tk M n (false)))), (4, .int (nI (M 2 2 - M 7 (6 + n) - e0))), (5, .int (h)), (6, .int (nI e0))]) C 9 dX11_soonest_196 rfl ((addm1 _).trans (by rw [show M 2 0 - i - 1 = M 2 0 - (i + 1) by omega])) (by decide) rfl ?_
                            refine G_goto (tgt := 140) C dX11_soonest_199 (by decide) ?_
                            refine G_pick (lv' := [(0, .ref (ad 0)), (1, .int (nI n)), (2, .int (nI j)), (3, .int (nI (y_tk M n (false)))), (4, .int (nI (M 2 2 - M 7 (6 + n) - e0))), (5, .int (h)), (6, .int (nI e0)), (7, .int (b)), (8, .int (nI (M 2 0 - (i + 1)) - nI 1))]) [3, 4, 5, 6, 7, 8, 9, 1, 0] rfl ?_
                            exact ih12 _ (by have em : y_mp (y_tk M n false) (M 2 2 - M 7 (6 + n) - e0) h (M 2 0 - i - 1) = false := (by unfold y_mp; simp [y_bit, h149_16]); rw [y_itf_s, em, ← hi12_0]; rfl)
                          · exact absurd h184_17 (by decide)
                        · refine G_iload_n C 3 dX11_soonest_152 rfl rfl ?_
                          refine G_iload C 8 dX11_soonest_153 rfl ?_
                          refine G_ishrN C dX11_soonest_155 (by omega) (Nat.lt_trans (y_tk_lt hP) (by decide)) ?_
                          refine G_iconst C dX11_soonest_156 kI_1 ?_
                          refine G_iandN C dX11_soonest_157 ?_
                          refine G_top (y := nI (((y_tk M n (false)) / 2 ^ (M 2 0 - i - 1)) % 2)) (congrArg nI (Nat.and_one_is_mod _)) ?_
                          refine G_iconst C dX11_soonest_158 kI_1 ?_
                          refine G_icmp_neN (tgt := 179) C dX11_soonest_159 (by decide) (by omega) (by omega) (fun h159_18 => ?_) (fun h159_18 => ?_)
                          · refine G_iconst C dX11_soonest_179 kI_0 ?_
                            refine G_istore (lv' := [(9, .int (nI 0)), (0, .ref (ad 0)), (1, .int (nI n)), (2, .int (nI j)), (3, .int (nI (y_tk M n (false)))), (4, .int (nI (M 2 2 - M 7 (6 + n) - e0))), (5, .int (h)), (6, .int (nI e0)), (7, .int (b)), (8, .int (nI (M 2 0 - i - 1)))]) C dX11_soonest_180 (by decide) rfl ?_
                            refine G_iload C 0 dX11_soonest_182 rfl ?_
                            refine G_if_eqN (tgt := 192) C dX11_soonest_184 (by decide) (by decide) (fun h184_19 => ?_) (fun h184_19 => ?_)
                            · refine G_iload C 8 dX11_soonest_192 rfl ?_
                              refine G_istore (lv' := [(7, .int (b)), (9, .int (nI 0)), (0, .ref (ad 0)), (1, .int (nI n)), (2, .int (nI j)), (3, .int (nI (y_tk M n (false)))), (4, .int (nI (M 2 2 - M 7 (6 + n) - e0))), (5, .int (h)), (6, .int (nI e0)), (8, .int (nI (M 2 0 - i - 1)))]) C dX11_soonest_194 (by decide) rfl ?_
                              refine G_iinc (lv' := [(8, .int (nI (M 2 0 - (i + 1)) - nI 1)), (7, .int (b)), (9, .int (nI 0)), (0, .ref (ad 0)), (1, .int (nI n)), (2, .int (nI j)), (3, .int (nI (y_tk M n (false)))), (4, .int (nI (M 2 2 - M 7 (6 + n) - e0))), (5, .int (h)), (6, .int (nI e0))]) C 9 dX11_soonest_196 rfl ((addm1 _).trans (by rw [show M 2 0 - i - 1 = M 2 0 - (i + 1) by omega])) (by decide) rfl ?_
                              refine G_goto (tgt := 140) C dX11_soonest_199 (by decide) ?_
                              refine G_pick (lv' := [(0, .ref (ad 0)), (1, .int (nI n)), (2, .int (nI j)), (3, .int (nI (y_tk M n (false)))), (4, .int (nI (M 2 2 - M 7 (6 + n) - e0))), (5, .int (h)), (6, .int (nI e0)), (7, .int (b)), (8, .int (nI (M 2 0 - (i + 1)) - nI 1))]) [3, 4, 5, 6, 7, 8, 9, 1, 0] rfl ?_
                              exact ih12 _ (by have em : y_mp (y_tk M n false) (M 2 2 - M 7 (6 + n) - e0) h (M 2 0 - i - 1) = false := (by unfold y_mp; simp [y_bit, h149_16, h159_18]); rw [y_itf_s, em, ← hi12_0]; rfl)
                            · exact absurd h184_19 (by decide)
                          · refine G_iload_n C 3 dX11_soonest_162 rfl rfl ?_
                            refine G_iload C 8 dX11_soonest_163 rfl ?_
                            refine G_callS1 C [.int (nI (y_tk M n (false))), .int (nI (M 2 0 - i - 1))] dX11_soonest_165 (c_X11_passings (Nat.lt_trans (y_tk_lt hP) (by decide)) (by omega)) wm_1029 wm_1030 wm_61 wm_1031 ydc_X11_passings rfl ⟨Nat.le_of_ble_eq_true rfl, Nat.le_of_ble_eq_true rfl⟩ ⟨rfl, rfl⟩ ⟨Nat.le_refl _, Nat.le_refl _⟩ (Nat.le_of_ble_eq_true rfl) rfl ?_
                            refine G_iload C 4 dX11_soonest_168 rfl ?_
                            refine G_iconst C dX11_soonest_170 kI_1 ?_
                            refine G_isubN C dX11_soonest_171 (by omega) ?_
                            refine G_icmp_ltN (tgt := 179) C dX11_soonest_172 (by decide) (by first | omega | (have h1 := y_ps_le (y_tk M n (false)) (M 7 n); omega) | (have h1 := y_ps_le (y_tk M n (false)) (M 2 0 - i - 1); omega)) (by first | omega | (have h1 := y_ps_le (y_tk M n (false)) (M 7 n); omega) | (have h1 := y_ps_le (y_tk M n (false)) (M 2 0 - i - 1); omega)) (fun h172_20 => ?_) (fun h172_20 => ?_)
                            · refine G_iconst C dX11_soonest_179 kI_0 ?_
                              refine G_istore (lv' := [(9, .int (nI 0)), (0, .ref (ad 0)), (1, .int (nI n)), (2, .int (nI j)), (3, .int (nI (y_tk M n (false)))), (4, .int (nI (M 2 2 - M 7 (6 + n) - e0))), (5, .int (h)), (6, .int (nI e0)), (7, .int (b)), (8, .int (nI (M 2 0 - i - 1)))]) C dX11_soonest_180 (by decide) rfl ?_
                              refine G_iload C 0 dX11_soonest_182 rfl ?_
                              refine G_if_eqN (tgt := 192) C dX11_soonest_184 (by decide) (by decide) (fun h184_21 => ?_) (fun h184_21 => ?_)
                              · refine G_iload C 8 dX11_soonest_192 rfl ?_
                                refine G_istore (lv' := [(7, .int (b)), (9, .int (nI 0)), (0, .ref (ad 0)), (1, .int (nI n)), (2, .int (nI j)), (3, .int (nI (y_tk M n (false)))), (4, .int (nI (M 2 2 - M 7 (6 + n) - e0))), (5, .int (h)), (6, .int (nI e0)), (8, .int (nI (M 2 0 - i - 1)))]) C dX11_soonest_194 (by decide) rfl ?_
                                refine G_iinc (lv' := [(8, .int (nI (M 2 0 - (i + 1)) - nI 1)), (7, .int (b)), (9, .int (nI 0)), (0, .ref (ad 0)), (1, .int (nI n)), (2, .int (nI j)), (3, .int (nI (y_tk M n (false)))), (4, .int (nI (M 2 2 - M 7 (6 + n) - e0))), (5, .int (h)), (6, .int (nI e0))]) C 9 dX11_soonest_196 rfl ((addm1 _).trans (by rw [show M 2 0 - i - 1 = M 2 0 - (i + 1) by omega])) (by decide) rfl ?_
                                refine G_goto (tgt := 140) C dX11_soonest_199 (by decide) ?_
                                refine G_pick (lv' := [(0, .ref (ad 0)), (1, .int (nI n)), (2, .int (nI j)), (3, .int (nI (y_tk M n (false)))), (4, .int (nI (M 2 2 - M 7 (6 + n) - e0))), (5, .int (h)), (6, .int (nI e0)), (7, .int (b)), (8, .int (nI (M 2 0 - (i + 1)) - nI 1))]) [3, 4, 5, 6, 7, 8, 9, 1, 0] rfl ?_
                                exact ih12 _ (by have em : y_mp (y_tk M n false) (M 2 2 - M 7 (6 + n) - e0) h (M 2 0 - i - 1) = false := (by unfold y_mp; simp [y_bit, h149_16, h159_18, Nat.not_le.mpr h172_20]); rw [y_itf_s, em, ← hi12_0]; rfl)
                              · exact absurd h184_21 (by decide)
                            · refine G_iconst C dX11_soonest_175 kI_1 ?_
                              refine G_goto (tgt := 180) C dX11_soonest_176 (by decide) ?_
                              refine G_istore (lv' := [(9, .int (nI 1)), (0, .ref (ad 0)), (1, .int (nI n)), (2, .int (nI j)), (3, .int (nI (y_tk M n (false)))), (4, .int (nI (M 2 2 - M 7 (6 + n) - e0))), (5, .int (h)), (6, .int (nI e0)), (7, .int (b)), (8, .int (nI (M 2 0 - i - 1)))]) C dX11_soonest_180 (by decide) rfl ?_
                              refine G_iload C 0 dX11_soonest_182 rfl ?_
                              refine G_if_eqN (tgt := 192) C dX11_soonest_184 (by decide) (by decide) (fun h184_22 => ?_) (fun h184_22 => ?_)
                              · exact absurd h184_22 (by decide)
                              · refine G_iload C 9 dX11_soonest_187 rfl ?_
                                refine G_goto (tgt := 194) C dX11_soonest_189 (by decide) ?_
                                refine G_istore (lv' := [(7, .int (nI (M 2 0 - i - 1))), (9, .int (nI 1)), (0, .ref (ad 0)), (1, .int (nI n)), (2, .int (nI j)), (3, .int (nI (y_tk M n (false)))), (4, .int (nI (M 2 2 - M 7 (6 + n) - e0))), (5, .int (h)), (6, .int (nI e0)), (8, .int (nI (M 2 0 - i - 1)))]) C dX11_soonest_194 (by decide) rfl ?_
                                refine G_iinc (lv' := [(8, .int (nI (M 2 0 - (i + 1)) - nI 1)), (7, .int (nI (M 2 0 - i - 1))), (9, .int (nI 1)), (0, .ref (ad 0)), (1, .int (nI n)), (2, .int (nI j)), (3, .int (nI (y_tk M n (false)))), (4, .int (nI (M 2 2 - M 7 (6 + n) - e0))), (5, .int (h)), (6, .int (nI e0))]) C 9 dX11_soonest_196 rfl ((addm1 _).trans (by rw [show M 2 0 - i - 1 = M 2 0 - (i + 1) by omega])) (by decide) rfl ?_
                                refine G_goto (tgt := 140) C dX11_soonest_199 (by decide) ?_
                                refine G_pick (lv' := [(0, .ref (ad 0)), (1, .int (nI n)), (2, .int (nI j)), (3, .int (nI (y_tk M n (false)))), (4, .int (nI (M 2 2 - M 7 (6 + n) - e0))), (5, .int (h)), (6, .int (nI e0)), (7, .int (nI (M 2 0 - i - 1))), (8, .int (nI (M 2 0 - (i + 1)) - nI 1))]) [3, 4, 5, 6, 7, 8, 9, 1, 0] rfl ?_
                                exact ih12 _ (by have em : y_mp (y_tk M n false) (M 2 2 - M 7 (6 + n) - e0) h (M 2 0 - i - 1) = true := (by unfold y_mp; simp [y_bit, h149_16, h159_18, h172_20]); rw [y_itf_s, em, ← hi12_0]; rfl)
              · refine G_iload_n C 2 dX11_soonest_99 rfl rfl ?_
                refine G_iload C 0 dX11_soonest_100 rfl ?_
                refine G_callS1 C [.int (nI (y_tk M (n) (false))), .int (nI (M 7 n))] dX11_soonest_102 (c_X11_passings (Nat.lt_trans (y_tk_lt hP) (by decide)) (by have := hH n hx_n; omega)) wm_1029 wm_1030 wm_61 wm_1031 ydc_X11_passings rfl ⟨Nat.le_of_ble_eq_true rfl, Nat.le_of_ble_eq_true rfl⟩ ⟨rfl, rfl⟩ ⟨Nat.le_refl _, Nat.le_refl _⟩ (Nat.le_of_ble_eq_true rfl) rfl ?_
                refine G_iload C 1 dX11_soonest_105 rfl ?_
                refine G_icmp_geN (tgt := 115) C dX11_soonest_107 (by decide) (by first | omega | (have h1 := y_ps_le (y_tk M n (false)) (M 7 n); omega) | (have h1 := y_ps_le (y_tk M n (false)) (M 2 0 - i - 1); omega)) (by first | omega | (have h1 := y_ps_le (y_tk M n (false)) (M 7 n); omega) | (have h1 := y_ps_le (y_tk M n (false)) (M 2 0 - i - 1); omega)) (fun h107_23 => ?_) (fun h107_23 => ?_)
                · refine G_iload C 1 dX11_soonest_115 rfl ?_
                  exact G_iret C hr dX11_soonest_117 (by rw [show y_soon M (nI n) k = _ from if_pos ⟨h10_1, h15_2⟩, cl_n]; unfold y_soonN; rw [if_neg (by rw [h25_3]; decide), if_neg (by omega), if_neg (by rw [h42_5]; decide), if_neg (by omega), if_pos h96_8]) (rfl)
                · exfalso; omega
          · refine G_bipush C dX11_soonest_45 kB_m2 ?_
            exact G_iret C hr dX11_soonest_47 (by simp [y_soon, y_soonN, h10_1, h15_2, h25_3, Nat.pos_iff_ne_zero.mp h34_4, h42_5, cl_n]) (rfl)
    · refine G_iconst C dX11_soonest_18 kI_m1 ?_
      exact G_iret C hr dX11_soonest_19 (by simp [y_soon, h10_1, h15_2]) (rfl)
end Y4
