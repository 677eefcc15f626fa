section Y3
variable {l : Launch} {D : va_G} {cI cZ : ClassId} {ad : Nat → Nat} {M : Nat → Nat → Nat} {t : Int64}
set_option maxHeartbeats 4000000 in
set_option maxRecDepth 100000 in
theorem c_X11_rate {x y : Int32} (h0 : M 0 0 = 0) (hm : ∀ n, n < M 2 1 → M 5 n < 64) (hN : M 2 1 ≤ 6) (hB : ∀ k j, M k j < 1024) : CT l yX11_rate cX11_rate 5 (some .int) (rmOf 2 43) D (tyI cI cZ) [.ref (ad 0), .int (x), .int (y)] (wY cI cZ ad M t) (some (.int (y_rate M x y t).1)) (wY cI cZ ad M ((y_rate M x y t).2)) := by
  refine CT_of (own := "FalseParityModel") (by decide) rfl (Nat.le_of_ble_eq_true rfl) (fun p e s m args below meth c C hr => ?_)
  refine G_aload_n C 0 dX11_rate_0 rfl rfl ?_
  refine G_iconst C dX11_rate_1 kI_0 ?_
  refine G_put (w' := wY cI cZ ad (ms M 0 (0) (0)) t) (ty := .int) C 0 0 tyX11 dX11_rate_2 yc_0 rfl inG11 tyX11_ok nmX11 (by decide) wm_837 rfl rfl (by decide +kernel) rfl rfl (Nat.le_of_ble_eq_true rfl) (yp_0_0 _) ?_
  refine G_w (w2 := wY cI cZ ad M t) (congrArg (fun z => wY cI cZ ad z t) (ms_id h0)) ?_
  refine G_iload_n C 1 dX11_rate_5 rfl rfl ?_
  refine G_iconst C dX11_rate_6 kI_0 ?_
  refine G_iconst C dX11_rate_7 kI_5 ?_
  refine G_callS1 C [.int (x), .int (nI 0), .int (nI 5)] dX11_rate_8 (c_X11_in_c (by decide)) wm_927 wm_928 wm_61 wm_929 ydc_X11_in rfl ⟨Nat.le_of_ble_eq_true rfl, Nat.le_of_ble_eq_true rfl⟩ ⟨rfl, rfl⟩ ⟨Nat.le_refl _, Nat.le_refl _⟩ (Nat.le_of_ble_eq_true rfl) rfl ?_
  refine G_if_eqB (tgt := 22) C dX11_rate_11 (by decide) (fun h11_1 => ?_) (fun h11_1 => ?_)
  · refine G_ldc C dX11_rate_22 wm_1084 ?_
    exact G_iret C hr dX11_rate_24 (by simp [y_rate, h11_1]) (by simp [y_rate, h11_1])
  · obtain ⟨k, hx_k, rfl⟩ := inR_of (by decide) h11_1
    have cl_k := nI_clamp (n := k) (by omega)
    refine G_aload_n C 0 dX11_rate_14 rfl rfl ?_
    refine G_iload_n C 2 dX11_rate_15 rfl rfl ?_
    refine G_callV1 C [.int (y)] 0 dX11_rate_16 (c_X11_isNote hB) wm_970 wm_972 wm_40 wm_61 wm_973 yc_0 rfl ydc_X11_isNote rfl ⟨Nat.le_of_ble_eq_true rfl, Nat.le_of_ble_eq_true rfl⟩ ⟨rfl, rfl⟩ ⟨Nat.le_refl _, Nat.le_refl _⟩ (Nat.le_of_ble_eq_true rfl) rfl ?_
    refine G_if_neB (tgt := 25) C dX11_rate_19 (by decide) (fun h19_2 => ?_) (fun h19_2 => ?_)
    · obtain ⟨n, hx_n, rfl⟩ := inR_of (by have := hB 2 1; omega) h19_2
      have cl_n := nI_clamp (n := n) (by have := hB 2 1; omega)
      refine G_aload_n C 0 dX11_rate_25 rfl rfl ?_
      refine G_get (v := .ref (ad 4)) C 0 12 dX11_rate_26 yc_0 rfl inG11 (by decide) wm_849 rfl rfl ?_
      refine G_iload_n C 2 dX11_rate_29 rfl rfl ?_
      refine G_iald (v := nI (M 4 n)) C 4 0 dX11_rate_30 yc_4 rfl (by omega) (by decide) rfl ?_
      refine G_aload_n C 0 dX11_rate_31 rfl rfl ?_
      refine G_get (v := .ref (ad 7)) C 0 15 dX11_rate_32 yc_0 rfl inG11 (by decide) wm_852 rfl rfl ?_
      refine G_bipush C dX11_rate_35 kB_6 ?_
      refine G_iload_n C 2 dX11_rate_37 rfl rfl ?_
      refine G_iaddN C dX11_rate_38 ?_
      refine G_iald (v := nI (M 7 (6 + n))) C 7 0 dX11_rate_39 yc_7 rfl (by omega) (by decide) rfl ?_
      refine G_iaddN C dX11_rate_40 ?_
      refine G_istore_n (lv' := [(3, .int (nI ((M 4 n) + (M 7 (6 + n))))), (0, .ref (ad 0)), (1, .int (nI k)), (2, .int (nI n))]) C dX11_rate_41 rfl (by decide) rfl ?_
      refine G_aload_n C 1 dX11_rate_42 rfl rfl ?_
      refine G_get (v := .ref (ad 4)) C 0 12 dX11_rate_43 yc_0 rfl inG11 (by decide) wm_849 rfl rfl ?_
      refine G_iload_n C 3 dX11_rate_46 rfl rfl ?_
      refine G_iald (v := nI (M 4 n)) C 4 0 dX11_rate_47 yc_4 rfl (by omega) (by decide) rfl ?_
      refine G_aload_n C 1 dX11_rate_48 rfl rfl ?_
      refine G_get (v := .ref (ad 5)) C 0 13 dX11_rate_49 yc_0 rfl inG11 (by decide) wm_850 rfl rfl ?_
      refine G_iload_n C 3 dX11_rate_52 rfl rfl ?_
      refine G_iald (v := nI (M 5 n)) C 5 0 dX11_rate_53 yc_5 rfl (by omega) (by decide) rfl ?_
      refine G_callS1 C [.int (nI (M 5 n))] dX11_rate_54 (c_X11_ones (hm n hx_n)) wm_1018 wm_1019 wm_61 wm_1020 ydc_X11_ones rfl ⟨Nat.le_of_ble_eq_true rfl, Nat.le_of_ble_eq_true rfl⟩ ⟨rfl, rfl⟩ ⟨Nat.le_refl _, Nat.le_refl _⟩ (Nat.le_of_ble_eq_true rfl) rfl ?_
      refine G_isub C dX11_rate_57 ?_
      refine G_istore (lv' := [(4, .int ((nI (M 4 n)) - (nI (pc6 (M 5 n))))), (3, .int (nI ((M 4 n) + (M 7 (6 + n))))), (0, .ref (ad 0)), (1, .int (nI k)), (2, .int (nI n))]) C dX11_rate_58 (by decide) rfl ?_
      refine G_aload_n C 2 dX11_rate_60 rfl rfl ?_
      refine G_dup C dX11_rate_61 rfl ?_
      refine G_get (v := .long (t)) C 0 1 dX11_rate_62 yc_0 rfl inG11 (by decide) wm_838 rfl rfl ?_
      refine G_iload_n C 3 dX11_rate_65 rfl rfl ?_
      refine G_if_neN (tgt := 73) C dX11_rate_66 (by decide) (by omega) (fun h66_3 => ?_) (fun h66_3 => ?_)
      · refine G_iload_n C 3 dX11_rate_73 rfl rfl ?_
        refine G_iconst C dX11_rate_74 kI_1 ?_
        refine G_icmp_neN (tgt := 84) C dX11_rate_75 (by decide) (by omega) (by decide) (fun h75_4 => ?_) (fun h75_4 => ?_)
        · refine G_iload_n C 3 dX11_rate_84 rfl rfl ?_
          refine G_iconst C dX11_rate_85 kI_2 ?_
          refine G_icmp_neN (tgt := 95) C dX11_rate_86 (by decide) (by omega) (by decide) (fun h86_5 => ?_) (fun h86_5 => ?_)
          · refine G_iload_n C 3 dX11_rate_95 rfl rfl ?_
            refine G_iconst C dX11_rate_96 kI_3 ?_
            refine G_icmp_neN (tgt := 106) C dX11_rate_97 (by decide) (by omega) (by decide) (fun h97_6 => ?_) (fun h97_6 => ?_)
            · refine G_iload_n C 3 dX11_rate_106 rfl rfl ?_
              refine G_iconst C dX11_rate_107 kI_4 ?_
              refine G_icmp_neN (tgt := 117) C dX11_rate_108 (by decide) (by omega) (by decide) (fun h108_7 => ?_) (fun h108_7 => ?_)
              · refine G_ldc2 C dX11_rate_117 wm_1089 ?_
                refine G_ladd C dX11_rate_120 ?_
                refine G_put (w' := wY cI cZ ad M (t + 100001)) (ty := .long) C 0 1 tyX11 dX11_rate_121 yc_0 rfl inG11 tyX11_ok nmX11 (by decide) wm_838 rfl rfl (by decide +kernel) rfl rfl (Nat.le_of_ble_eq_true rfl) (yp_0_1 _ _) ?_
                refine G_iload_n C 3 dX11_rate_124 rfl rfl ?_
                refine G_if_neN (tgt := 137) C dX11_rate_125 (by decide) (by omega) (fun h125_8 => ?_) (fun h125_8 => ?_)
                · refine G_iload_n C 3 dX11_rate_137 rfl rfl ?_
                  refine G_iconst C dX11_rate_138 kI_1 ?_
                  refine G_icmp_neN (tgt := 146) C dX11_rate_139 (by decide) (by omega) (by decide) (fun h139_9 => ?_) (fun h139_9 => ?_)
                  · refine G_iload_n C 3 dX11_rate_146 rfl rfl ?_
                    refine G_iconst C dX11_rate_147 kI_2 ?_
                    refine G_icmp_neN (tgt := 156) C dX11_rate_148 (by decide) (by omega) (by decide) (fun h148_10 => ?_) (fun h148_10 => ?_)
                    · refine G_iload_n C 3 dX11_rate_156 rfl rfl ?_
                      refine G_iconst C dX11_rate_157 kI_3 ?_
                      refine G_icmp_neN (tgt := 167) C dX11_rate_158 (by decide) (by omega) (by decide) (fun h158_11 => ?_) (fun h158_11 => ?_)
                      · refine G_iload_n C 3 dX11_rate_167 rfl rfl ?_
                        refine G_iconst C dX11_rate_168 kI_4 ?_
                        refine G_icmp_neN (tgt := 179) C dX11_rate_169 (by decide) (by omega) (by decide) (fun h169_12 => ?_) (fun h169_12 => ?_)
                        · refine G_aload_n C 2 dX11_rate_179 rfl rfl ?_
                          refine G_get (v := .ref (ad 4)) C 0 12 dX11_rate_180 yc_0 rfl inG11 (by decide) wm_849 rfl rfl ?_
                          refine G_iload_n C 4 dX11_rate_183 rfl rfl ?_
                          refine G_iald (v := nI (M 4 n)) C 4 0 dX11_rate_184 yc_4 rfl (by omega) (by decide) rfl ?_
                          refine G_aload_n C 2 dX11_rate_185 rfl rfl ?_
                          refine G_get (v := .ref (ad 7)) C 0 15 dX11_rate_186 yc_0 rfl inG11 (by decide) wm_852 rfl rfl ?_
                          refine G_bipush C dX11_rate_189 kB_19 ?_
                          refine G_iald (v := nI (M 7 19)) C 7 0 dX11_rate_191 yc_7 rfl (by decide) (by decide) rfl ?_
                          refine G_iaddN C dX11_rate_192 ?_
                          exact G_iret C hr dX11_rate_193 (by have e : k = 5 := (by omega); subst e; simp [y_rate, y_rateN, h11_1, h19_2, cl_k, cl_n]) (by have e : k = 5 := (by omega); subst e; simp [y_rate, y_trN, h11_1, h19_2, cl_k, cl_n])
                        · exfalso; omega
                      · exfalso; omega
                    · exfalso; omega
                  · exfalso; omega
                · exfalso; omega
              · refine G_ldc2 C dX11_rate_111 wm_1088 ?_
                refine G_goto (tgt := 120) C dX11_rate_114 (by decide) ?_
                refine G_ladd C dX11_rate_120 ?_
                refine G_put (w' := wY cI cZ ad M (t + 10101)) (ty := .long) C 0 1 tyX11 dX11_rate_121 yc_0 rfl inG11 tyX11_ok nmX11 (by decide) wm_838 rfl rfl (by decide +kernel) rfl rfl (Nat.le_of_ble_eq_true rfl) (yp_0_1 _ _) ?_
                refine G_iload_n C 3 dX11_rate_124 rfl rfl ?_
                refine G_if_neN (tgt := 137) C dX11_rate_125 (by decide) (by omega) (fun h125_13 => ?_) (fun h125_13 => ?_)
                · refine G_iload_n C 3 dX11_rate_137 rfl rfl ?_
                  refine G_iconst C dX11_rate_138 kI_1 ?_
                  refine G_icmp_neN (tgt := 146) C dX11_rate_139 (by decide) (by omega) (by decide) (fun h139_14 => ?_) (fun h139_14 => ?_)
                  · refine G_iload_n C 3 dX11_rate_146 rfl rfl ?_
                    refine G_iconst C dX11_rate_147 kI_2 ?_
                    refine G_icmp_neN (tgt := 156) C dX11_rate_148 (by decide) (by omega) (by decide) (fun h148_15 => ?_) (fun h148_15 => ?_)
                    · refine G_iload_n C 3 dX11_rate_156 rfl rfl ?_
                      refine G_iconst C dX11_rate_157 kI_3 ?_
                      refine G_icmp_neN (tgt := 167) C dX11_rate_158 (by decide) (by omega) (by decide) (fun h158_16 => ?_) (fun h158_16 => ?_)
                      · refine G_iload_n C 3 dX11_rate_167 rfl rfl ?_
                        refine G_iconst C dX11_rate_168 kI_4 ?_
                        refine G_icmp_neN (tgt := 179) C dX11_rate_169 (by decide) (by omega) (by decide) (fun h169_17 => ?_) (fun h169_17 => ?_)
                        · exfalso; omega
                        · refine G_iload C 0 dX11_rate_172 rfl ?_
                          refine G_iload_n C 4 dX11_rate_174 rfl rfl ?_
                          refine G_iadd C dX11_rate_175 ?_
                          refine G_goto (tgt := 193) C dX11_rate_176 (by decide) ?_
                          exact G_iret C hr dX11_rate_193 (by have e : k = 4 := (by omega); subst e; simp [y_rate, y_rateN, h11_1, h19_2, cl_k, cl_n]) (by have e : k = 4 := (by omega); subst e; simp [y_rate, y_trN, h11_1, h19_2, cl_k, cl_n])
                      · exfalso; omega
                    · exfalso; omega
                  · exfalso; omega
                · exfalso; omega
            · refine G_ldc2 C dX11_rate_100 wm_1087 ?_
              refine G_goto (tgt := 120) C dX11_rate_103 (by decide) ?_
              refine G_ladd C dX11_rate_120 ?_
              refine G_put (w' := wY cI cZ ad M (t + 1011)) (ty := .long) C 0 1 tyX11 dX11_rate_121 yc_0 rfl inG11 tyX11_ok nmX11 (by decide) wm_838 rfl rfl (by decide +kernel) rfl rfl (Nat.le_of_ble_eq_true rfl) (yp_0_1 _ _) ?_
              refine G_iload_n C 3 dX11_rate_124 rfl rfl ?_
              refine G_if_neN (tgt := 137) C dX11_rate_125 (by decide) (by omega) (fun h125_18 => ?_) (fun h125_18 => ?_)
              · refine G_iload_n C 3 dX11_rate_137 rfl rfl ?_
                refine G_iconst C dX11_rate_138 kI_1 ?_
                refine G_icmp_neN (tgt := 146) C dX11_rate_139 (by decide) (by omega) (by decide) (fun h139_19 => ?_) (fun h139_19 => ?_)
                · refine G_iload_n C 3 dX11_rate_146 rfl rfl ?_
                  refine G_iconst C dX11_rate_147 kI_2 ?_
                  refine G_icmp_neN (tgt := 156) C dX11_rate_148 (by decide) (by omega) (by decide) (fun h148_20 => ?_) (fun h148_20 => ?_)
                  · refine G_iload_n C 3 dX11_rate_156 rfl rfl ?_
                    refine G_iconst C dX11_rate_157 kI_3 ?_
                    refine G_icmp_neN (tgt := 167) C dX11_rate_158 (by decide) (by omega) (by decide) (fun h158_21 => ?_) (fun h158_21 => ?_)
                    · exfalso; omega
                    · refine G_iconst C dX11_rate_161 kI_2 ?_
                      refine G_iload_n C 1 dX11_rate_162 rfl rfl ?_
                      refine G_imulN C dX11_rate_163 ?_
                      refine G_goto (tgt := 193) C dX11_rate_164 (by decide) ?_
                      exact G_iret C hr dX11_rate_193 (by have e : k = 3 := (by omega); subst e; simp [y_rate, y_rateN, h11_1, h19_2, cl_k, cl_n]) (by have e : k = 3 := (by omega); subst e; simp [y_rate, y_trN, h11_1, h19_2, cl_k, cl_n])
                  · exfalso; omega
                · exfalso; omega
              · exfalso; omega
          · refine G_ldc2 C dX11_rate_89 wm_1086 ?_
            refine G_goto (tgt := 120) C dX11_rate_92 (by decide) ?_
            refine G_ladd C dX11_rate_120 ?_
            refine G_put (w' := wY cI cZ ad M (t + 101)) (ty := .long) C 0 1 tyX11 dX11_rate_121 yc_0 rfl inG11 tyX11_ok nmX11 (by decide) wm_838 rfl rfl (by decide +kernel) rfl rfl (Nat.le_of_ble_eq_true rfl) (yp_0_1 _ _) ?_
            refine G_iload_n C 3 dX11_rate_124 rfl rfl ?_
            refine G_if_neN (tgt := 137) C dX11_rate_125 (by decide) (by omega) (fun h125_22 => ?_) (fun h125_22 => ?_)
            · refine G_iload_n C 3 dX11_rate_137 rfl rfl ?_
              refine G_iconst C dX11_rate_138 kI_1 ?_
              refine G_icmp_neN (tgt := 146) C dX11_rate_139 (by decide) (by omega) (by decide) (fun h139_23 => ?_) (fun h139_23 => ?_)
              · refine G_iload_n C 3 dX11_rate_146 rfl rfl ?_
                refine G_iconst C dX11_rate_147 kI_2 ?_
                refine G_icmp_neN (tgt := 156) C dX11_rate_148 (by decide) (by omega) (by decide) (fun h148_24 => ?_) (fun h148_24 => ?_)
                · exfalso; omega
                · refine G_iload C 0 dX11_rate_151 rfl ?_
                  refine G_goto (tgt := 193) C dX11_rate_153 (by decide) ?_
                  exact G_iret C hr dX11_rate_193 (by have e : k = 2 := (by omega); subst e; simp [y_rate, y_rateN, h11_1, h19_2, cl_k, cl_n]) (by have e : k = 2 := (by omega); subst e; simp [y_rate, y_trN, h11_1, h19_2, cl_k, cl_n])
              · exfalso; omega
            · exfalso; omega
        · refine G_ldc2 C dX11_rate_78 wm_1085 ?_
          refine G_goto (tgt := 120) C dX11_rate_81 (by decide) ?_
          refine G_ladd C dX11_rate_120 ?_
          refine G_put (w' := wY cI cZ ad M (t + 11)) (ty := .long) C 0 1 tyX11 dX11_rate_121 yc_0 rfl inG11 tyX11_ok nmX11 (by decide) wm_838 rfl rfl (by decide +kernel) rfl rfl (Nat.le_of_ble_eq_true rfl) (yp_0_1 _ _) ?_
          refine G_iload_n C 3 dX11_rate_124 rfl rfl ?_
          refine G_if_neN (tgt := 137) C dX11_rate_125 (by decide) (by omega) (fun h125_25 => ?_) (fun h125_25 => ?_)
          · refine G_iload_n C 3 dX11_rate_137 rfl rfl ?_
            refine G_iconst C dX11_rate_138 kI_1 ?_
            refine G_icmp_neN (tgt := 146) C dX11_rate_139 (by decide) (by omega) (by decide) (fun h139_26 => ?_) (fun h139_26 => ?_)
            · exfalso; omega
            · refine G_iload_n C 1 dX11_rate_142 rfl rfl ?_
              refine G_goto (tgt := 193) C dX11_rate_143 (by decide) ?_
              exact G_iret C hr dX11_rate_193 (by have e : k = 1 := (by omega); subst e; simp [y_rate, y_rateN, h11_1, h19_2, cl_k, cl_n]) (by have e : k = 1 := (by omega); subst e; simp [y_rate, y_trN, h11_1, h19_2, cl_k, cl_n])
          · exfalso; omega
      · refine G_lconst (v := 1) C dX11_rate_69 (by decide) ?_
        refine G_goto (tgt := 120) C dX11_rate_70 (by decide) ?_
        refine G_ladd C dX11_rate_120 ?_
        refine G_put (w' := wY cI cZ ad M (t + 1)) (ty := .long) C 0 1 tyX11 dX11_rate_121 yc_0 rfl inG11 tyX11_ok nmX11 (by decide) wm_838 rfl rfl (by decide +kernel) rfl rfl (Nat.le_of_ble_eq_true rfl) (yp_0_1 _ _) ?_
        refine G_iload_n C 3 dX11_rate_124 rfl rfl ?_
        refine G_if_neN (tgt := 137) C dX11_rate_125 (by decide) (by omega) (fun h125_27 => ?_) (fun h125_27 => ?_)
        · exfalso; omega
        · refine G_aload_n C 2 dX11_rate_128 rfl rfl ?_
          refine G_get (v := .ref (ad 4)) C 0 12 dX11_rate_129 yc_0 rfl inG11 (by decide) wm_849 rfl rfl ?_
          refine G_iload_n C 4 dX11_rate_132 rfl rfl ?_
          refine G_iald (v := nI (M 4 n)) C 4 0 dX11_rate_133 yc_4 rfl (by omega) (by decide) rfl ?_
          refine G_goto (tgt := 193) C dX11_rate_134 (by decide) ?_
          exact G_iret C hr dX11_rate_193 (by have e : k = 0 := (by omega); subst e; simp [y_rate, y_rateN, h11_1, h19_2, cl_k, cl_n]) (by have e : k = 0 := (by omega); subst e; simp [y_rate, y_trN, h11_1, h19_2, cl_k, cl_n])
    · refine G_ldc C dX11_rate_22 wm_1084 ?_
      exact G_iret C hr dX11_rate_24 (by simp [y_rate, h11_1, h19_2]) (by simp [y_rate, h11_1, h19_2])
set_option maxHeartbeats 4000000 in
set_option maxRecDepth 100000 in
theorem c_X11_mayBe {a z : Nat} (ha : a < 1024) (hz : z < 1024) (hS : M 0 22 ≤ 6) (hq : ∀ i, i < M 0 22 → M 11 i < 5) (hB : ∀ k j, M k j < 1024) : CT l yX11_mayBe cX11_mayBe 5 (some .boolean) (rmOf 0 0) D (tyI cI cZ) [.ref (ad 0), .int (nI a), .int (nI z)] (wY cI cZ ad M t) (some (.int (nI (bN (y_mb M a z))))) (wY cI cZ ad M t) := by
  refine CT_of (own := "FalseParityModel") (by decide) rfl (Nat.le_of_ble_eq_true rfl) (fun p e s m args below meth c C hr => ?_)
  refine G_iload_n C 2 dX11_mayBe_0 rfl rfl ?_
  refine G_if_neN (tgt := 8) C dX11_mayBe_1 (by decide) (by omega) (fun h1_1 => ?_) (fun h1_1 => ?_)
  · refine G_iconst C dX11_mayBe_8 kI_0 ?_
    refine G_istore_n (lv' := [(3, .int (nI 0)), (0, .ref (ad 0)), (1, .int (nI a)), (2, .int (nI z))]) C dX11_mayBe_9 rfl (by decide) rfl ?_
    refine G_iconst C dX11_mayBe_10 kI_0 ?_
    refine G_istore (lv' := [(4, .int (nI 0)), (3, .int (nI 0)), (0, .ref (ad 0)), (1, .int (nI a)), (2, .int (nI z))]) C dX11_mayBe_11 (by decide) rfl ?_
    refine G_pick (lv' := [(0, .ref (ad 0)), (1, .int (nI a)), (2, .int (nI z)), (3, .int (nI 0)), (4, .int (nI 0))]) [2, 3, 4, 1, 0] rfl ?_
    refine loopN (P := fun i => ∀ b : Bool, (b = true ↔ (z = 0 ∧ ∀ w, w < i → (a &&& M 7 (14 + M 11 w) = 0 ↔ M 12 w = 1))) → G p l e (rmOf 0 0) s m args below meth c D _ 5 0 0 _ 13 [(0, .ref (ad 0)), (1, .int (nI a)), (2, .int (nI z)), (3, .int (nI (bN (b)))), (4, .int (nI i))] [] (wY cI cZ ad M t)) (M 0 22) ?_ ?_ 0 (Nat.zero_le _) (false) (mb_0f (P := fun i => (a &&& M 7 (14 + M 11 i) = 0 ↔ M 12 i = 1)) (by omega))
    · intro b hi2_0
      refine G_iload C 4 dX11_mayBe_13 rfl ?_
      refine G_aload_n C 0 dX11_mayBe_15 rfl rfl ?_
      refine G_get (v := .int (nI (M 0 22))) C 0 22 dX11_mayBe_16 yc_0 rfl inG11 (by decide) wm_859 rfl rfl ?_
      refine G_icmp_geN (tgt := 82) C dX11_mayBe_19 (by decide) (by have := hB 0 22; omega) (by have := hB 0 22; omega) (fun h19_3 => ?_) (fun h19_3 => ?_)
      · refine G_iload_n C 3 dX11_mayBe_82 rfl rfl ?_
        exact G_zret C hr dX11_mayBe_83 (nB_nar _) (mb_e hi2_0) (rfl)
      · exfalso; omega
    · intro i hi ih2 b hi2_0
      refine G_iload C 4 dX11_mayBe_13 rfl ?_
      refine G_aload_n C 0 dX11_mayBe_15 rfl rfl ?_
      refine G_get (v := .int (nI (M 0 22))) C 0 22 dX11_mayBe_16 yc_0 rfl inG11 (by decide) wm_859 rfl rfl ?_
      refine G_icmp_geN (tgt := 82) C dX11_mayBe_19 (by decide) (by omega) (by have := hB 0 22; omega) (fun h19_4 => ?_) (fun h19_4 => ?_)
      · exfalso; omega
      · refine G_iload_n C 3 dX11_mayBe_22 rfl rfl ?_
        refine G_if_eqB (tgt := 74) C dX11_mayBe_23 (by decide) (fun h23_5 => ?_) (fun h23_5 => ?_)
        · refine G_iconst C dX11_mayBe_74 kI_0 ?_
          refine G_istore_n (lv' := [(3, .int (nI 0)), (0, .ref (ad 0)), (1, .int (nI a)), (2, .int (nI z)), (4, .int (nI i))]) C dX11_mayBe_75 rfl (by decide) rfl ?_
          refine G_iincN (lv' := [(4, .int (nI (i + 1))), (3, .int (nI 0)), (0, .ref (ad 0)), (1, .int (nI a)), (2, .int (nI z))]) C 4 dX11_mayBe_76 rfl (by decide) rfl ?_
          refine G_goto (tgt := 13) C dX11_mayBe_79 (by decide) ?_
          refine G_pick (lv' := [(0, .ref (ad 0)), (1, .int (nI a)), (2, .int (nI z)), (3, .int (nI 0)), (4, .int (nI (i + 1)))]) [2, 3, 4, 1, 0] rfl ?_
          exact ih2 false (mb_f1 (P := fun i => (a &&& M 7 (14 + M 11 i) = 0 ↔ M 12 i = 1)) hi2_0 h23_5)
        · refine G_iload_n C 1 dX11_mayBe_26 rfl rfl ?_
          refine G_aload_n C 0 dX11_mayBe_27 rfl rfl ?_
          refine G_get (v := .ref (ad 7)) C 0 15 dX11_mayBe_28 yc_0 rfl inG11 (by decide) wm_852 rfl rfl ?_
          refine G_bipush C dX11_mayBe_31 kB_14 ?_
          refine G_aload_n C 0 dX11_mayBe_33 rfl rfl ?_
          refine G_get (v := .ref (ad 11)) C 0 20 dX11_mayBe_34 yc_0 rfl inG11 (by decide) wm_857 rfl rfl ?_
          refine G_iload C 4 dX11_mayBe_37 rfl ?_
          refine G_iald (v := nI (M 11 i)) C 11 0 dX11_mayBe_39 yc_11 rfl (by omega) (by decide) rfl ?_
          refine G_iaddN C dX11_mayBe_40 ?_
          refine G_iald (v := nI (M 7 (14 + (M 11 i)))) C 7 0 dX11_mayBe_41 yc_7 rfl (by have := hq i hi; omega) (by decide) rfl ?_
          refine G_iandN C dX11_mayBe_42 ?_
          refine G_if_neN (tgt := 50) C dX11_mayBe_43 (by decide) (andlt ha) (fun h43_6 => ?_) (fun h43_6 => ?_)
          · refine G_iconst C dX11_mayBe_50 kI_0 ?_
            refine G_aload_n C 0 dX11_mayBe_51 rfl rfl ?_
            refine G_get (v := .ref (ad 12)) C 0 21 dX11_mayBe_52 yc_0 rfl inG11 (by decide) wm_858 rfl rfl ?_
            refine G_iload C 4 dX11_mayBe_55 rfl ?_
            refine G_iald (v := nI (M 12 i)) C 12 0 dX11_mayBe_57 yc_12 rfl (by omega) (by decide) rfl ?_
            refine G_iconst C dX11_mayBe_58 kI_1 ?_
            refine G_icmp_neN (tgt := 66) C dX11_mayBe_59 (by decide) (by have := hB 12 i; omega) (by decide) (fun h59_7 => ?_) (fun h59_7 => ?_)
            · refine G_iconst C dX11_mayBe_66 kI_0 ?_
              refine G_icmp_neN (tgt := 74) C dX11_mayBe_67 (by decide) (by decide) (by decide) (fun h67_8 => ?_) (fun h67_8 => ?_)
              · exact absurd h67_8 (by decide)
              · refine G_iconst C dX11_mayBe_70 kI_1 ?_
                refine G_goto (tgt := 75) C dX11_mayBe_71 (by decide) ?_
                refine G_istore_n (lv' := [(3, .int (nI 1)), (0, .ref (ad 0)), (1, .int (nI a)), (2, .int (nI z)), (4, .int (nI i))]) C dX11_mayBe_75 rfl (by decide) rfl ?_
                refine G_iincN (lv' := [(4, .int (nI (i + 1))), (3, .int (nI 1)), (0, .ref (ad 0)), (1, .int (nI a)), (2, .int (nI z))]) C 4 dX11_mayBe_76 rfl (by decide) rfl ?_
                refine G_goto (tgt := 13) C dX11_mayBe_79 (by decide) ?_
                refine G_pick (lv' := [(0, .ref (ad 0)), (1, .int (nI a)), (2, .int (nI z)), (3, .int (nI 1)), (4, .int (nI (i + 1)))]) [2, 3, 4, 1, 0] rfl ?_
                exact ih2 true (mb_t (P := fun i => (a &&& M 7 (14 + M 11 i) = 0 ↔ M 12 i = 1)) hi2_0 h23_5 (by omega))
            · refine G_iconst C dX11_mayBe_62 kI_1 ?_
              refine G_goto (tgt := 67) C dX11_mayBe_63 (by decide) ?_
              refine G_icmp_neN (tgt := 74) C dX11_mayBe_67 (by decide) (by decide) (by decide) (fun h67_9 => ?_) (fun h67_9 => ?_)
              · refine G_iconst C dX11_mayBe_74 kI_0 ?_
                refine G_istore_n (lv' := [(3, .int (nI 0)), (0, .ref (ad 0)), (1, .int (nI a)), (2, .int (nI z)), (4, .int (nI i))]) C dX11_mayBe_75 rfl (by decide) rfl ?_
                refine G_iincN (lv' := [(4, .int (nI (i + 1))), (3, .int (nI 0)), (0, .ref (ad 0)), (1, .int (nI a)), (2, .int (nI z))]) C 4 dX11_mayBe_76 rfl (by decide) rfl ?_
                refine G_goto (tgt := 13) C dX11_mayBe_79 (by decide) ?_
                refine G_pick (lv' := [(0, .ref (ad 0)), (1, .int (nI a)), (2, .int (nI z)), (3, .int (nI 0)), (4, .int (nI (i + 1)))]) [2, 3, 4, 1, 0] rfl ?_
                exact ih2 false (mb_f2 (P := fun i => (a &&& M 7 (14 + M 11 i) = 0 ↔ M 12 i = 1)) (by omega))
              · exact absurd h67_9 (by decide)
          · refine G_iconst C dX11_mayBe_46 kI_1 ?_
            refine G_goto (tgt := 51) C dX11_mayBe_47 (by decide) ?_
            refine G_aload_n C 0 dX11_mayBe_51 rfl rfl ?_
            refine G_get (v := .ref (ad 12)) C 0 21 dX11_mayBe_52 yc_0 rfl inG11 (by decide) wm_858 rfl rfl ?_
            refine G_iload C 4 dX11_mayBe_55 rfl ?_
            refine G_iald (v := nI (M 12 i)) C 12 0 dX11_mayBe_57 yc_12 rfl (by omega) (by decide) rfl ?_
            refine G_iconst C dX11_mayBe_58 kI_1 ?_
            refine G_icmp_neN (tgt := 66) C dX11_mayBe_59 (by decide) (by have := hB 12 i; omega) (by decide) (fun h59_10 => ?_) (fun h59_10 => ?_)
            · refine G_iconst C dX11_mayBe_66 kI_0 ?_
              refine G_icmp_neN (tgt := 74) C dX11_mayBe_67 (by decide) (by decide) (by decide) (fun h67_11 => ?_) (fun h67_11 => ?_)
              · refine G_iconst C dX11_mayBe_74 kI_0 ?_
                refine G_istore_n (lv' := [(3, .int (nI 0)), (0, .ref (ad 0)), (1, .int (nI a)), (2, .int (nI z)), (4, .int (nI i))]) C dX11_mayBe_75 rfl (by decide) rfl ?_
                refine G_iincN (lv' := [(4, .int (nI (i + 1))), (3, .int (nI 0)), (0, .ref (ad 0)), (1, .int (nI a)), (2, .int (nI z))]) C 4 dX11_mayBe_76 rfl (by decide) rfl ?_
                refine G_goto (tgt := 13) C dX11_mayBe_79 (by decide) ?_
                refine G_pick (lv' := [(0, .ref (ad 0)), (1, .int (nI a)), (2, .int (nI z)), (3, .int (nI 0)), (4, .int (nI (i + 1)))]) [2, 3, 4, 1, 0] rfl ?_
                exact ih2 false (mb_f2 (P := fun i => (a &&& M 7 (14 + M 11 i) = 0 ↔ M 12 i = 1)) (by omega))
              · exact absurd h67_11 (by decide)
            · refine G_iconst C dX11_mayBe_62 kI_1 ?_
              refine G_goto (tgt := 67) C dX11_mayBe_63 (by decide) ?_
              refine G_icmp_neN (tgt := 74) C dX11_mayBe_67 (by decide) (by decide) (by decide) (fun h67_12 => ?_) (fun h67_12 => ?_)
              · exact absurd h67_12 (by decide)
              · refine G_iconst C dX11_mayBe_70 kI_1 ?_
                refine G_goto (tgt := 75) C dX11_mayBe_71 (by decide) ?_
                refine G_istore_n (lv' := [(3, .int (nI 1)), (0, .ref (ad 0)), (1, .int (nI a)), (2, .int (nI z)), (4, .int (nI i))]) C dX11_mayBe_75 rfl (by decide) rfl ?_
                refine G_iincN (lv' := [(4, .int (nI (i + 1))), (3, .int (nI 1)), (0, .ref (ad 0)), (1, .int (nI a)), (2, .int (nI z))]) C 4 dX11_mayBe_76 rfl (by decide) rfl ?_
                refine G_goto (tgt := 13) C dX11_mayBe_79 (by decide) ?_
                refine G_pick (lv' := [(0, .ref (ad 0)), (1, .int (nI a)), (2, .int (nI z)), (3, .int (nI 1)), (4, .int (nI (i + 1)))]) [2, 3, 4, 1, 0] rfl ?_
                exact ih2 true (mb_t (P := fun i => (a &&& M 7 (14 + M 11 i) = 0 ↔ M 12 i = 1)) hi2_0 h23_5 (by omega))
  · refine G_iconst C dX11_mayBe_4 kI_1 ?_
    refine G_goto (tgt := 9) C dX11_mayBe_5 (by decide) ?_
    refine G_istore_n (lv' := [(3, .int (nI 1)), (0, .ref (ad 0)), (1, .int (nI a)), (2, .int (nI z))]) C dX11_mayBe_9 rfl (by decide) rfl ?_
    refine G_iconst C dX11_mayBe_10 kI_0 ?_
    refine G_istore (lv' := [(4, .int (nI 0)), (3, .int (nI 1)), (0, .ref (ad 0)), (1, .int (nI a)), (2, .int (nI z))]) C dX11_mayBe_11 (by decide) rfl ?_
    refine G_pick (lv' := [(0, .ref (ad 0)), (1, .int (nI a)), (2, .int (nI z)), (3, .int (nI 1)), (4, .int (nI 0))]) [2, 3, 4, 1, 0] rfl ?_
    refine loopN (P := fun i => ∀ b : Bool, (b = true ↔ (z = 0 ∧ ∀ w, w < i → (a &&& M 7 (14 + M 11 w) = 0 ↔ M 12 w = 1))) → G p l e (rmOf 0 0) s m args below meth c D _ 5 0 0 _ 13 [(0, .ref (ad 0)), (1, .int (nI a)), (2, .int (nI z)), (3, .int (nI (bN (b)))), (4, .int (nI i))] [] (wY cI cZ ad M t)) (M 0 22) ?_ ?_ 0 (Nat.zero_le _) (true) (mb_0t (P := fun i => (a &&& M 7 (14 + M 11 i) = 0 ↔ M 12 i = 1)) h1_1)
    · intro b hi13_0
      refine G_iload C 4 dX11_mayBe_13 rfl ?_
      refine G_aload_n C 0 dX11_mayBe_15 rfl rfl ?_
      refine G_get (v := .int (nI (M 0 22))) C 0 22 dX11_mayBe_16 yc_0 rfl inG11 (by decide) wm_859 rfl rfl ?_
      refine G_icmp_geN (tgt := 82) C dX11_mayBe_19 (by decide) (by have := hB 0 22; omega) (by have := hB 0 22; omega) (fun h19_14 => ?_) (fun h19_14 => ?_)
      · refine G_iload_n C 3 dX11_mayBe_82 rfl rfl ?_
        exact G_zret C hr dX11_mayBe_83 (nB_nar _) (mb_e hi13_0) (rfl)
      · exfalso; omega
    · intro i hi ih13 b hi13_0
      refine G_iload C 4 dX11_mayBe_13 rfl ?_
      refine G_aload_n C 0 dX11_mayBe_15 rfl rfl ?_
      refine G_get (v := .int (nI (M 0 22))) C 0 22 dX11_mayBe_16 yc_0 rfl inG11 (by decide) wm_859 rfl rfl ?_
      refine G_icmp_geN (tgt := 82) C dX11_mayBe_19 (by decide) (by omega) (by have := hB 0 22; omega) (fun h19_15 => ?_) (fun h19_15 => ?_)
      · exfalso; omega
      · refine G_iload_n C 3 dX11_mayBe_22 rfl rfl ?_
        refine G_if_eqB (tgt := 74) C dX11_mayBe_23 (by decide) (fun h23_16 => ?_) (fun h23_16 => ?_)
        · refine G_iconst C dX11_mayBe_74 kI_0 ?_
          refine G_istore_n (lv' := [(3, .int (nI 0)), (0, .ref (ad 0)), (1, .int (nI a)), (2, .int (nI z)), (4, .int (nI i))]) C dX11_mayBe_75 rfl (by decide) rfl ?_
          refine G_iincN (lv' := [(4, .int (nI (i + 1))), (3, .int (nI 0)), (0, .ref (ad 0)), (1, .int (nI a)), (2, .int (nI z))]) C 4 dX11_mayBe_76 rfl (by decide) rfl ?_
          refine G_goto (tgt := 13) C dX11_mayBe_79 (by decide) ?_
          refine G_pick (lv' := [(0, .ref (ad 0)), (1, .int (nI a)), (2, .int (nI z)), (3, .int (nI 0)), (4, .int (nI (i + 1)))]) [2, 3, 4, 1, 0] rfl ?_
          exact ih13 false (mb_f1 (P := fun i => (a &&& M 7 (14 + M 11 i) = 0 ↔ M 12 i = 1)) hi13_0 h23_16)
        · refine G_iload_n C 1 dX11_mayBe_26 rfl rfl ?_
          refine G_aload_n C 0 dX11_mayBe_27 rfl rfl ?_
          refine G_get (v := .ref (ad 7)) C 0 15 dX11_mayBe_28 yc_0 rfl inG11 (by decide) wm_852 rfl rfl ?_
          refine G_bipush C dX11_mayBe_31 kB_14 ?_
          refine G_aload_n C 0 dX11_mayBe_33 rfl rfl ?_
          refine G_get (v := .ref (ad 11)) C 0 20 dX11_mayBe_34 yc_0 rfl inG11 (by decide) wm_857 rfl rfl ?_
          refine G_iload C 4 dX11_mayBe_37 rfl ?_
          refine G_iald (v := nI (M 11 i)) C 11 0 dX11_mayBe_39 yc_11 rfl (by omega) (by decide) rfl ?_
          refine G_iaddN C dX11_mayBe_40 ?_
          refine G_iald (v := nI (M 7 (14 + (M 11 i)))) C 7 0 dX11_mayBe_41 yc_7 rfl (by have := hq i hi; omega) (by decide) rfl ?_
          refine G_iandN C dX11_mayBe_42 ?_
          refine G_if_neN (tgt := 50) C dX11_mayBe_43 (by decide) (andlt ha) (fun h43_17 => ?_) (fun h43_17 => ?_)
          · refine G_iconst C dX11_mayBe_50 kI_0 ?_
            refine G_aload_n C 0 dX11_mayBe_51 rfl rfl ?_
            refine G_get (v := .ref (ad 12)) C 0 21 dX11_mayBe_52 yc_0 rfl inG11 (by decide) wm_858 rfl rfl ?_
            refine G_iload C 4 dX11_mayBe_55 rfl ?_
            refine G_iald (v := nI (M 12 i)) C 12 0 dX11_mayBe_57 yc_12 rfl (by omega) (by decide) rfl ?_
            refine G_iconst C dX11_mayBe_58 kI_1 ?_
            refine G_icmp_neN (tgt := 66) C dX11_mayBe_59 (by decide) (by have := hB 12 i; omega) (by decide) (fun h59_18 => ?_) (fun h59_18 => ?_)
            · refine G_iconst C dX11_mayBe_66 kI_0 ?_
              refine G_icmp_neN (tgt := 74) C dX11_mayBe_67 (by decide) (by decide) (by decide) (fun h67_19 => ?_) (fun h67_19 => ?_)
              · exact absurd h67_19 (by decide)
              · refine G_iconst C dX11_mayBe_70 kI_1 ?_
                refine G_goto (tgt := 75) C dX11_mayBe_71 (by decide) ?_
                refine G_istore_n (lv' := [(3, .int (nI 1)), (0, .ref (ad 0)), (1, .int (nI a)), (2, .int (nI z)), (4, .int (nI i))]) C dX11_mayBe_75 rfl (by decide) rfl ?_
                refine G_iincN (lv' := [(4, .int (nI (i + 1))), (3, .int (nI 1)), (0, .ref (ad 0)), (1, .int (nI a)), (2, .int (nI z))]) C 4 dX11_mayBe_76 rfl (by decide) rfl ?_
                refine G_goto (tgt := 13) C dX11_mayBe_79 (by decide) ?_
                refine G_pick (lv' := [(0, .ref (ad 0)), (1, .int (nI a)), (2, .int (nI z)), (3, .int (nI 1)), (4, .int (nI (i + 1)))]) [2, 3, 4, 1, 0] rfl ?_
                exact ih13 true (mb_t (P := fun i => (a &&& M 7 (14 + M 11 i) = 0 ↔ M 12 i = 1)) hi13_0 h23_16 (by omega))
            · refine G_iconst C dX11_mayBe_62 kI_1 ?_
              refine G_goto (tgt := 67) C dX11_mayBe_63 (by decide) ?_
              refine G_icmp_neN (tgt := 74) C dX11_mayBe_67 (by decide) (by decide) (by decide) (fun h67_20 => ?_) (fun h67_20 => ?_)
              · refine G_iconst C dX11_mayBe_74 kI_0 ?_
                refine G_istore_n (lv' := [(3, .int (nI 0)), (0, .ref (ad 0)), (1, .int (nI a)), (2, .int (nI z)), (4, .int (nI i))]) C dX11_mayBe_75 rfl (by decide) rfl ?_
                refine G_iincN (lv' := [(4, .int (nI (i + 1))), (3, .int (nI 0)), (0, .ref (ad 0)), (1, .int (nI a)), (2, .int (nI z))]) C 4 dX11_mayBe_76 rfl (by decide) rfl ?_
                refine G_goto (tgt := 13) C dX11_mayBe_79 (by decide) ?_
                refine G_pick (lv' := [(0, .ref (ad 0)), (1, .int (nI a)), (2, .int (nI z)), (3, .int (nI 0)), (4, .int (nI (i + 1)))]) [2, 3, 4, 1, 0] rfl ?_
                exact ih13 false (mb_f2 (P := fun i => (a &&& M 7 (14 + M 11 i) = 0 ↔ M 12 i = 1)) (by omega))
              · exact absurd h67_20 (by decide)
          · refine G_iconst C dX11_mayBe_46 kI_1 ?_
            refine G_goto (tgt := 51) C dX11_mayBe_47 (by decide) ?_
            refine G_aload_n C 0 dX11_mayBe_51 rfl rfl ?_
            refine G_get (v := .ref (ad 12)) C 0 21 dX11_mayBe_52 yc_0 rfl inG11 (by decide) wm_858 rfl rfl ?_
            refine G_iload C 4 dX11_mayBe_55 rfl ?_
            refine G_iald (v := nI (M 12 i)) C 12 0 dX11_mayBe_57 yc_12 rfl (by omega) (by decide) rfl ?_
            refine G_iconst C dX11_mayBe_58 kI_1 ?_
            refine G_icmp_neN (tgt := 66) C dX11_mayBe_59 (by decide) (by have := hB 12 i; omega) (by decide) (fun h59_21 => ?_) (fun h59_21 => ?_)
            · refine G_iconst C dX11_mayBe_66 kI_0 ?_
              refine G_icmp_neN (tgt := 74) C dX11_mayBe_67 (by decide) (by decide) (by decide) (fun h67_22 => ?_) (fun h67_22 => ?_)
              · refine G_iconst C dX11_mayBe_74 kI_0 ?_
                refine G_istore_n (lv' := [(3, .int (nI 0)), (0, .ref (ad 0)), (1, .int (nI a)), (2, .int (nI z)), (4, .int (nI i))]) C dX11_mayBe_75 rfl (by decide) rfl ?_
                refine G_iincN (lv' := [(4, .int (nI (i + 1))), (3, .int (nI 0)), (0, .ref (ad 0)), (1, .int (nI a)), (2, .int (nI z))]) C 4 dX11_mayBe_76 rfl (by decide) rfl ?_
                refine G_goto (tgt := 13) C dX11_mayBe_79 (by decide) ?_
                refine G_pick (lv' := [(0, .ref (ad 0)), (1, .int (nI a)), (2, .int (nI z)), (3, .int (nI 0)), (4, .int (nI (i + 1)))]) [2, 3, 4, 1, 0] rfl ?_
                exact ih13 false (mb_f2 (P := fun i => (a &&& M 7 (14 + M 11 i) = 0 ↔ M 12 i = 1)) (by omega))
              · exact absurd h67_22 (by decide)
            · refine G_iconst C dX11_mayBe_62 kI_1 ?_
              refine G_goto (tgt := 67) C dX11_mayBe_63 (by decide) ?_
              refine G_icmp_neN (tgt := 74) C dX11_mayBe_67 (by decide) (by decide) (by decide) (fun h67_23 => ?_) (fun h67_23 => ?_)
              · exact absurd h67_23 (by decide)
              · refine G_iconst C dX11_mayBe_70 kI_1 ?_
                refine G_goto (tgt := 75) C dX11_mayBe_71 (by decide) ?_
                refine G_istore_n (lv' := [(3, .int (nI 1)), (0, .ref (ad 0)), (1, .int (nI a)), (2, .int (nI z)), (4, .int (nI i))]) C dX11_mayBe_75 rfl (by decide) rfl ?_
                refine G_iincN (lv' := [(4, .int (nI (i + 1))), (3, .int (nI 1)), (0, .ref (ad 0)), (1, .int (nI a)), (2, .int (nI z))]) C 4 dX11_mayBe_76 rfl (by decide) rfl ?_
                refine G_goto (tgt := 13) C dX11_mayBe_79 (by decide) ?_
                refine G_pick (lv' := [(0, .ref (ad 0)), (1, .int (nI a)), (2, .int (nI z)), (3, .int (nI 1)), (4, .int (nI (i + 1)))]) [2, 3, 4, 1, 0] rfl ?_
                exact ih13 true (mb_t (P := fun i => (a &&& M 7 (14 + M 11 i) = 0 ↔ M 12 i = 1)) hi13_0 h23_16 (by omega))
set_option maxHeartbeats 4000000 in
set_option maxRecDepth 100000 in
theorem c_X11_canBe {y : Int32} (h0 : M 0 0 = 0) (hS : M 0 22 ≤ 6) (hq : ∀ i, i < M 0 22 → M 11 i < 5) (hB : ∀ k j, M k j < 1024) : CT l yX11_canBe cX11_canBe 6 (some .int) (rmOf 1 24) D (tyI cI cZ) [.ref (ad 0), .int (y)] (wY cI cZ ad M t) (some (.int (y_canBe M y))) (wY cI cZ ad M t) := by
  refine CT_of (own := "FalseParityModel") (by decide) rfl (Nat.le_of_ble_eq_true rfl) (fun p e s m args below meth c C hr => ?_)
  refine G_aload_n C 0 dX11_canBe_0 rfl rfl ?_
  refine G_iconst C dX11_canBe_1 kI_0 ?_
  refine G_put (w' := wY cI cZ ad (ms M 0 (0) (0)) t) (ty := .int) C 0 0 tyX11 dX11_canBe_2 yc_0 rfl inG11 tyX11_ok nmX11 (by decide) wm_837 rfl rfl (by decide +kernel) rfl rfl (Nat.le_of_ble_eq_true rfl) (yp_0_0 _) ?_
  refine G_w (w2 := wY cI cZ ad M t) (congrArg (fun z => wY cI cZ ad z t) (ms_id h0)) ?_
  refine G_iload_n C 1 dX11_canBe_5 rfl rfl ?_
  refine G_iconst C dX11_canBe_6 kI_0 ?_
  refine G_iconst C dX11_canBe_7 kI_2 ?_
  refine G_callS1 C [.int (y), .int (nI 0), .int (nI 2)] dX11_canBe_8 (c_X11_in_c (by decide)) wm_927 wm_928 wm_61 wm_929 ydc_X11_in rfl ⟨Nat.le_of_ble_eq_true rfl, Nat.le_of_ble_eq_true rfl⟩ ⟨rfl, rfl⟩ ⟨Nat.le_refl _, Nat.le_refl _⟩ (Nat.le_of_ble_eq_true rfl) rfl ?_
  refine G_if_neB (tgt := 16) C dX11_canBe_11 (by decide) (fun h11_1 => ?_) (fun h11_1 => ?_)
  · obtain ⟨q, hx_q, rfl⟩ := inR_of (by decide) h11_1
    have cl_q := nI_clamp (n := q) (by omega)
    refine G_iconst C dX11_canBe_16 kI_0 ?_
    refine G_istore_n (lv' := [(2, .int (nI 0)), (0, .ref (ad 0)), (1, .int (nI q))]) C dX11_canBe_17 rfl (by decide) rfl ?_
    refine G_bipush C dX11_canBe_18 kB_m9 ?_
    refine G_istore_n (lv' := [(3, .int (-9)), (2, .int (nI 0)), (0, .ref (ad 0)), (1, .int (nI q))]) C dX11_canBe_20 rfl (by decide) rfl ?_
    refine G_bipush C dX11_canBe_21 kB_31 ?_
    refine G_istore (lv' := [(4, .int (nI 31)), (3, .int (-9)), (2, .int (nI 0)), (0, .ref (ad 0)), (1, .int (nI q))]) C dX11_canBe_23 (by decide) rfl ?_
    refine G_iconst C dX11_canBe_25 kI_0 ?_
    refine G_istore (lv' := [(5, .int (nI 0)), (4, .int (nI 31)), (3, .int (-9)), (2, .int (nI 0)), (0, .ref (ad 0)), (1, .int (nI q))]) C dX11_canBe_26 (by decide) rfl ?_
    refine G_pick (lv' := [(0, .ref (ad 0)), (1, .int (nI q)), (2, .int (nI 0)), (3, .int (-9)), (4, .int (nI 31)), (5, .int (nI 0))]) [4, 5, 3, 2, 1, 0] rfl ?_
    refine loopN (P := fun a => ∀ k : Nat, ∀ ls : Int32, ∀ ia : Nat, ((k, ls, ia) = y_cf M a) → (k ≤ a) → (ia < 1024) → G p l e (rmOf 1 24) s m args below meth c D _ 6 0 0 _ 28 [(0, .ref (ad 0)), (1, .int (nI q)), (2, .int (nI k)), (3, .int (ls)), (4, .int (nI ia)), (5, .int (nI a))] [] (wY cI cZ ad M t)) (32) ?_ ?_ 0 (Nat.zero_le _) (0) (-9) (31) rfl (Nat.le_refl _) (by decide)
    · intro k ls ia hi2_0 hi2_1 hi2_2
      refine G_iload C 5 dX11_canBe_28 rfl ?_
      refine G_bipush C dX11_canBe_30 kB_32 ?_
      refine G_icmp_geN (tgt := 72) C dX11_canBe_32 (by decide) (by decide) (by decide) (fun h32_3 => ?_) (fun h32_3 => ?_)
      · refine G_iload_n C 1 dX11_canBe_72 rfl rfl ?_
        refine G_if_neN (tgt := 80) C dX11_canBe_73 (by decide) (by omega) (fun h73_4 => ?_) (fun h73_4 => ?_)
        · refine G_iload_n C 1 dX11_canBe_80 rfl rfl ?_
          refine G_iconst C dX11_canBe_81 kI_1 ?_
          refine G_icmp_eqN (tgt := 89) C dX11_canBe_82 (by decide) (by omega) (by decide) (fun h82_5 => ?_) (fun h82_5 => ?_)
          · refine G_iload_n C 3 dX11_canBe_89 rfl rfl ?_
            refine G_goto (tgt := 95) C dX11_canBe_90 (by decide) ?_
            exact G_iret C hr dX11_canBe_95 (by simp only [y_canBe, h11_1, cl_q, if_true, y_canBeN]; rw [← hi2_0]; rw [if_neg (by omega), if_pos (by omega)]) (rfl)
          · refine G_iload_n C 2 dX11_canBe_85 rfl rfl ?_
            refine G_if_neN (tgt := 93) C dX11_canBe_86 (by decide) (by omega) (fun h86_6 => ?_) (fun h86_6 => ?_)
            · refine G_iload C 4 dX11_canBe_93 rfl ?_
              exact G_iret C hr dX11_canBe_95 (by simp only [y_canBe, h11_1, cl_q, if_true, y_canBeN]; rw [← hi2_0]; rw [if_neg (by omega), if_neg (by omega)]) (rfl)
            · refine G_iload_n C 3 dX11_canBe_89 rfl rfl ?_
              refine G_goto (tgt := 95) C dX11_canBe_90 (by decide) ?_
              exact G_iret C hr dX11_canBe_95 (by simp only [y_canBe, h11_1, cl_q, if_true, y_canBeN]; rw [← hi2_0]; rw [if_neg (by omega), if_pos (by omega)]) (rfl)
        · refine G_iload_n C 2 dX11_canBe_76 rfl rfl ?_
          refine G_goto (tgt := 95) C dX11_canBe_77 (by decide) ?_
          exact G_iret C hr dX11_canBe_95 (by simp only [y_canBe, h11_1, cl_q, if_true, y_canBeN]; rw [← hi2_0]; rw [if_pos (by omega)]) (rfl)
      · exact absurd h32_3 (by decide)
    · intro a ha ih2 k ls ia hi2_0 hi2_1 hi2_2
      refine G_iload C 5 dX11_canBe_28 rfl ?_
      refine G_bipush C dX11_canBe_30 kB_32 ?_
      refine G_icmp_geN (tgt := 72) C dX11_canBe_32 (by decide) (by omega) (by decide) (fun h32_7 => ?_) (fun h32_7 => ?_)
      · exfalso; omega
      · refine G_aload_n C 0 dX11_canBe_35 rfl rfl ?_
        refine G_iload C 5 dX11_canBe_36 rfl ?_
        refine G_iconst C dX11_canBe_38 kI_0 ?_
        refine G_callV1 C [.int (nI a), .int (nI 0)] 0 dX11_canBe_39 (c_X11_mayBe (by omega) (by decide) hS hq hB) wm_1052 wm_1054 wm_47 wm_61 wm_1055 yc_0 rfl ydc_X11_mayBe rfl ⟨Nat.le_of_ble_eq_true rfl, Nat.le_of_ble_eq_true rfl⟩ ⟨rfl, rfl⟩ ⟨Nat.le_refl _, Nat.le_refl _⟩ (Nat.le_of_ble_eq_true rfl) rfl ?_
        refine G_if_eqB (tgt := 66) C dX11_canBe_42 (by decide) (fun h42_8 => ?_) (fun h42_8 => ?_)
        · refine G_iincN (lv' := [(5, .int (nI (a + 1))), (0, .ref (ad 0)), (1, .int (nI q)), (2, .int (nI k)), (3, .int (ls)), (4, .int (nI ia))]) C 5 dX11_canBe_66 rfl (by decide) rfl ?_
          refine G_goto (tgt := 28) C dX11_canBe_69 (by decide) ?_
          refine G_pick (lv' := [(0, .ref (ad 0)), (1, .int (nI q)), (2, .int (nI k)), (3, .int (ls)), (4, .int (nI ia)), (5, .int (nI (a + 1)))]) [1, 2, 3, 4, 5, 0] rfl ?_
          exact ih2 _ _ _ (by rw [y_cf_s, ← hi2_0, h42_8]; rfl) (by omega) (by omega)
        · refine G_iload_n C 2 dX11_canBe_45 rfl rfl ?_
          refine G_if_neN (tgt := 54) C dX11_canBe_46 (by decide) (by omega) (fun h46_9 => ?_) (fun h46_9 => ?_)
          · refine G_iload_n C 3 dX11_canBe_54 rfl rfl ?_
            refine G_istore_n (lv' := [(3, .int (ls)), (0, .ref (ad 0)), (1, .int (nI q)), (2, .int (nI k)), (4, .int (nI ia)), (5, .int (nI a))]) C dX11_canBe_55 rfl (by decide) rfl ?_
            refine G_iload C 4 dX11_canBe_56 rfl ?_
            refine G_iload C 5 dX11_canBe_58 rfl ?_
            refine G_iandN C dX11_canBe_60 ?_
            refine G_istore (lv' := [(4, .int (nI (ia &&& a))), (3, .int (ls)), (0, .ref (ad 0)), (1, .int (nI q)), (2, .int (nI k)), (5, .int (nI a))]) C dX11_canBe_61 (by decide) rfl ?_
            refine G_iincN (lv' := [(2, .int (nI (k + 1))), (4, .int (nI (ia &&& a))), (3, .int (ls)), (0, .ref (ad 0)), (1, .int (nI q)), (5, .int (nI a))]) C 4 dX11_canBe_63 rfl (by decide) rfl ?_
            refine G_iincN (lv' := [(5, .int (nI (a + 1))), (2, .int (nI (k + 1))), (4, .int (nI (ia &&& a))), (3, .int (ls)), (0, .ref (ad 0)), (1, .int (nI q))]) C 5 dX11_canBe_66 rfl (by decide) rfl ?_
            refine G_goto (tgt := 28) C dX11_canBe_69 (by decide) ?_
            refine G_pick (lv' := [(0, .ref (ad 0)), (1, .int (nI q)), (2, .int (nI (k + 1))), (3, .int (ls)), (4, .int (nI (ia &&& a))), (5, .int (nI (a + 1)))]) [4, 5, 1, 3, 2, 0] rfl ?_
            exact ih2 _ _ _ (by rw [y_cf_s, ← hi2_0, h42_8]; simp [Nat.pos_iff_ne_zero.mp h46_9]) (by omega) (Nat.lt_of_le_of_lt Nat.and_le_left (by omega))
          · refine G_iload C 5 dX11_canBe_49 rfl ?_
            refine G_goto (tgt := 55) C dX11_canBe_51 (by decide) ?_
            refine G_istore_n (lv' := [(3, .int (nI a)), (0, .ref (ad 0)), (1, .int (nI q)), (2, .int (nI k)), (4, .int (nI ia)), (5, .int (nI a))]) C dX11_canBe_55 rfl (by decide) rfl ?_
            refine G_iload C 4 dX11_canBe_56 rfl ?_
            refine G_iload C 5 dX11_canBe_58 rfl ?_
            refine G_iandN C dX11_canBe_60 ?_
            refine G_istore (lv' := [(4, .int (nI (ia &&& a))), (3, .int (nI a)), (0, .ref (ad 0)), (1, .int (nI q)), (2, .int (nI k)), (5, .int (nI a))]) C dX11_canBe_61 (by decide) rfl ?_
            refine G_iincN (lv' := [(2, .int (nI (k + 1))), (4, .int (nI (ia &&& a))), (3, .int (nI a)), (0, .ref (ad 0)), (1, .int (nI q)), (5, .int (nI a))]) C 4 dX11_canBe_63 rfl (by decide) rfl ?_
            refine G_iincN (lv' := [(5, .int (nI (a + 1))), (2, .int (nI (k + 1))), (4, .int (nI (ia &&& a))), (3, .int (nI a)), (0, .ref (ad 0)), (1, .int (nI q))]) C 5 dX11_canBe_66 rfl (by decide) rfl ?_
            refine G_goto (tgt := 28) C dX11_canBe_69 (by decide) ?_
            refine G_pick (lv' := [(0, .ref (ad 0)), (1, .int (nI q)), (2, .int (nI (k + 1))), (3, .int (nI a)), (4, .int (nI (ia &&& a))), (5, .int (nI (a + 1)))]) [4, 5, 1, 3, 2, 0] rfl ?_
            exact ih2 _ _ _ (by rw [y_cf_s, ← hi2_0, h42_8]; simp [h46_9]) (by omega) (Nat.lt_of_le_of_lt Nat.and_le_left (by omega))
  · refine G_iconst C dX11_canBe_14 kI_m1 ?_
    exact G_iret C hr dX11_canBe_15 (by simp [y_canBe, h11_1]) (rfl)
set_option maxHeartbeats 4000000 in
set_option maxRecDepth 100000 in
theorem c_X11_years  (h0 : M 0 0 = 0) (hH : M 0 25 ≤ 6) (hB : ∀ k j, M k j < 1024) : CT l yX11_years cX11_years 5 (some .int) (rmOf 0 0) D (tyI cI cZ) [.ref (ad 0)] (wY cI cZ ad M t) (some (.int (nI (y_yrf M 9)))) (wY cI cZ ad M t) := by
  refine CT_of (own := "FalseParityModel") (by decide) rfl (Nat.le_of_ble_eq_true rfl) (fun p e s m args below meth c C hr => ?_)
  refine G_aload_n C 0 dX11_years_0 rfl rfl ?_
  refine G_iconst C dX11_years_1 kI_0 ?_
  refine G_put (w' := wY cI cZ ad (ms M 0 (0) (0)) t) (ty := .int) C 0 0 tyX11 dX11_years_2 yc_0 rfl inG11 tyX11_ok nmX11 (by decide) wm_837 rfl rfl (by decide +kernel) rfl rfl (Nat.le_of_ble_eq_true rfl) (yp_0_0 _) ?_
  refine G_w (w2 := wY cI cZ ad M t) (congrArg (fun z => wY cI cZ ad z t) (ms_id h0)) ?_
  refine G_iconst C dX11_years_5 kI_0 ?_
  refine G_istore_n (lv' := [(1, .int (nI 0)), (0, .ref (ad 0))]) C dX11_years_6 rfl (by decide) rfl ?_
  refine G_iconst C dX11_years_7 kI_1 ?_
  refine G_istore_n (lv' := [(2, .int (nI 1)), (1, .int (nI 0)), (0, .ref (ad 0))]) C dX11_years_8 rfl (by decide) rfl ?_
  refine G_pick (lv' := [(0, .ref (ad 0)), (1, .int (nI 0)), (2, .int (nI 1))]) [2, 1, 0] rfl ?_
  refine loopN (P := fun i => ∀ k : Nat, (k = y_yrf M i) → G p l e (rmOf 0 0) s m args below meth c D _ 5 0 0 _ 9 [(0, .ref (ad 0)), (1, .int (nI k)), (2, .int (nI (i + 1)))] [] (wY cI cZ ad M t)) (9) ?_ ?_ 0 (Nat.zero_le _) (0) rfl
  · intro k hi1_0
    refine G_iload_n C 2 dX11_years_9 rfl rfl ?_
    refine G_bipush C dX11_years_10 kB_10 ?_
    refine G_icmp_geN (tgt := 100) C dX11_years_12 (by decide) (by omega) (by decide) (fun h12_2 => ?_) (fun h12_2 => ?_)
    · refine G_iload_n C 1 dX11_years_100 rfl rfl ?_
      exact G_iret C hr dX11_years_101 (by rw [hi1_0]) (rfl)
    · exfalso; omega
  · intro i hi9 ih1 k hi1_0
    refine G_iload_n C 2 dX11_years_9 rfl rfl ?_
    refine G_bipush C dX11_years_10 kB_10 ?_
    refine G_icmp_geN (tgt := 100) C dX11_years_12 (by decide) (by omega) (by decide) (fun h12_3 => ?_) (fun h12_3 => ?_)
    · exfalso; omega
    · refine G_iconst C dX11_years_15 kI_1 ?_
      refine G_istore_n (lv' := [(3, .int (nI 1)), (0, .ref (ad 0)), (1, .int (nI k)), (2, .int (nI (i + 1)))]) C dX11_years_16 rfl (by decide) rfl ?_
      refine G_iconst C dX11_years_17 kI_0 ?_
      refine G_istore (lv' := [(4, .int (nI 0)), (3, .int (nI 1)), (0, .ref (ad 0)), (1, .int (nI k)), (2, .int (nI (i + 1)))]) C dX11_years_18 (by decide) rfl ?_
      refine G_pick (lv' := [(0, .ref (ad 0)), (1, .int (nI k)), (2, .int (nI (i + 1))), (3, .int (nI 1)), (4, .int (nI 0))]) [2, 3, 4, 1, 0] rfl ?_
      refine loopN (P := fun j => ∀ b : Bool, (b = true ↔ (True ∧ ∀ w, w < j → (i + 1 ≤ M 13 w ↔ M 14 w = 1))) → G p l e (rmOf 0 0) s m args below meth c D _ 5 0 0 _ 20 [(0, .ref (ad 0)), (1, .int (nI k)), (2, .int (nI (i + 1))), (3, .int (nI (bN (b)))), (4, .int (nI j))] [] (wY cI cZ ad M t)) (M 0 25) ?_ ?_ 0 (Nat.zero_le _) (true) (mb_0t (P := fun j => (i + 1 ≤ M 13 j ↔ M 14 j = 1)) trivial)
      · intro b hi4_0
        refine G_iload C 4 dX11_years_20 rfl ?_
        refine G_aload_n C 0 dX11_years_22 rfl rfl ?_
        refine G_get (v := .int (nI (M 0 25))) C 0 25 dX11_years_23 yc_0 rfl inG11 (by decide) wm_862 rfl rfl ?_
        refine G_icmp_geN (tgt := 80) C dX11_years_26 (by decide) (by have := hB 0 25; omega) (by have := hB 0 25; omega) (fun h26_5 => ?_) (fun h26_5 => ?_)
        · refine G_iload_n C 1 dX11_years_80 rfl rfl ?_
          refine G_iload_n C 3 dX11_years_81 rfl rfl ?_
          refine G_if_eqB (tgt := 91) C dX11_years_82 (by decide) (fun h82_6 => ?_) (fun h82_6 => ?_)
          · refine G_iconst C dX11_years_91 kI_0 ?_
            refine G_iorN C dX11_years_92 ?_
            refine G_istore_n (lv' := [(1, .int (nI (k ||| 0))), (0, .ref (ad 0)), (2, .int (nI (i + 1))), (3, .int (nI (bN (b)))), (4, .int (nI (M 0 25)))]) C dX11_years_93 rfl (by decide) rfl ?_
            refine G_iincN (lv' := [(2, .int (nI ((i + 1) + 1))), (1, .int (nI (k ||| 0))), (0, .ref (ad 0)), (3, .int (nI (bN (b)))), (4, .int (nI (M 0 25)))]) C 2 dX11_years_94 rfl (by decide) rfl ?_
            refine G_goto (tgt := 9) C dX11_years_97 (by decide) ?_
            refine G_pick (lv' := [(0, .ref (ad 0)), (1, .int (nI (k ||| 0))), (2, .int (nI ((i + 1) + 1)))]) [2, 1, 0] rfl ?_
            exact ih1 _ (by show _ = (if y_yf M (i + 1) then y_yrf M i ||| (1 * 2 ^ (i + 1)) else y_yrf M i ||| 0); rw [← hi1_0, show y_yf M (i + 1) = b from (Bool.eq_iff_iff.mpr (hi4_0.trans decide_eq_true_iff.symm)).symm, h82_6]; rfl)
          · refine G_iconst C dX11_years_85 kI_1 ?_
            refine G_iload_n C 2 dX11_years_86 rfl rfl ?_
            refine G_ishlN C dX11_years_87 (by omega) (sh1 (by omega)) ?_
            refine G_goto (tgt := 92) C dX11_years_88 (by decide) ?_
            refine G_iorN C dX11_years_92 ?_
            refine G_istore_n (lv' := [(1, .int (nI (k ||| (1 * 2 ^ (i + 1))))), (0, .ref (ad 0)), (2, .int (nI (i + 1))), (3, .int (nI (bN (b)))), (4, .int (nI (M 0 25)))]) C dX11_years_93 rfl (by decide) rfl ?_
            refine G_iincN (lv' := [(2, .int (nI ((i + 1) + 1))), (1, .int (nI (k ||| (1 * 2 ^ (i + 1))))), (0, .ref (ad 0)), (3, .int (nI (bN (b)))), (4, .int (nI (M 0 25)))]) C 2 dX11_years_94 rfl (by decide) rfl ?_
            refine G_goto (tgt := 9) C dX11_years_97 (by decide) ?_
            refine G_pick (lv' := [(0, .ref (ad 0)), (1, .int (nI (k ||| (1 * 2 ^ (i + 1))))), (2, .int (nI ((i + 1) + 1)))]) [2, 1, 0] rfl ?_
            exact ih1 _ (by show _ = (if y_yf M (i + 1) then y_yrf M i ||| (1 * 2 ^ (i + 1)) else y_yrf M i ||| 0); rw [← hi1_0, show y_yf M (i + 1) = b from (Bool.eq_iff_iff.mpr (hi4_0.trans decide_eq_true_iff.symm)).symm, h82_6]; rfl)
        · exfalso; omega
      · intro j hj ih4 b hi4_0
        refine G_iload C 4 dX11_years_20 rfl ?_
        refine G_aload_n C 0 dX11_years_22 rfl rfl ?_
        refine G_get (v := .int (nI (M 0 25))) C 0 25 dX11_years_23 yc_0 rfl inG11 (by decide) wm_862 rfl rfl ?_
        refine G_icmp_geN (tgt := 80) C dX11_years_26 (by decide) (by omega) (by have := hB 0 25; omega) (fun h26_7 => ?_) (fun h26_7 => ?_)
        · exfalso; omega
        · refine G_iload_n C 3 dX11_years_29 rfl rfl ?_
          refine G_if_eqB (tgt := 72) C dX11_years_30 (by decide) (fun h30_8 => ?_) (fun h30_8 => ?_)
          · refine G_iconst C dX11_years_72 kI_0 ?_
            refine G_istore_n (lv' := [(3, .int (nI 0)), (0, .ref (ad 0)), (1, .int (nI k)), (2, .int (nI (i + 1))), (4, .int (nI j))]) C dX11_years_73 rfl (by decide) rfl ?_
            refine G_iincN (lv' := [(4, .int (nI (j + 1))), (3, .int (nI 0)), (0, .ref (ad 0)), (1, .int (nI k)), (2, .int (nI (i + 1)))]) C 4 dX11_years_74 rfl (by decide) rfl ?_
            refine G_goto (tgt := 20) C dX11_years_77 (by decide) ?_
            refine G_pick (lv' := [(0, .ref (ad 0)), (1, .int (nI k)), (2, .int (nI (i + 1))), (3, .int (nI 0)), (4, .int (nI (j + 1)))]) [2, 3, 4, 1, 0] rfl ?_
            exact ih4 false (mb_f1 (P := fun j => (i + 1 ≤ M 13 j ↔ M 14 j = 1)) hi4_0 h30_8)
          · refine G_aload_n C 0 dX11_years_33 rfl rfl ?_
            refine G_get (v := .ref (ad 13)) C 0 23 dX11_years_34 yc_0 rfl inG11 (by decide) wm_860 rfl rfl ?_
            refine G_iload C 4 dX11_years_37 rfl ?_
            refine G_iald (v := nI (M 13 j)) C 13 0 dX11_years_39 yc_13 rfl (by omega) (by decide) rfl ?_
            refine G_iload_n C 2 dX11_years_40 rfl rfl ?_
            refine G_icmp_ltN (tgt := 48) C dX11_years_41 (by decide) (by have := hB 13 j; omega) (by omega) (fun h41_9 => ?_) (fun h41_9 => ?_)
            · refine G_iconst C dX11_years_48 kI_0 ?_
              refine G_aload_n C 0 dX11_years_49 rfl rfl ?_
              refine G_get (v := .ref (ad 14)) C 0 24 dX11_years_50 yc_0 rfl inG11 (by decide) wm_861 rfl rfl ?_
              refine G_iload C 4 dX11_years_53 rfl ?_
              refine G_iald (v := nI (M 14 j)) C 14 0 dX11_years_55 yc_14 rfl (by omega) (by decide) rfl ?_
              refine G_iconst C dX11_years_56 kI_1 ?_
              refine G_icmp_neN (tgt := 64) C dX11_years_57 (by decide) (by have := hB 14 j; omega) (by decide) (fun h57_10 => ?_) (fun h57_10 => ?_)
              · refine G_iconst C dX11_years_64 kI_0 ?_
                refine G_icmp_neN (tgt := 72) C dX11_years_65 (by decide) (by decide) (by decide) (fun h65_11 => ?_) (fun h65_11 => ?_)
                · exact absurd h65_11 (by decide)
                · refine G_iconst C dX11_years_68 kI_1 ?_
                  refine G_goto (tgt := 73) C dX11_years_69 (by decide) ?_
                  refine G_istore_n (lv' := [(3, .int (nI 1)), (0, .ref (ad 0)), (1, .int (nI k)), (2, .int (nI (i + 1))), (4, .int (nI j))]) C dX11_years_73 rfl (by decide) rfl ?_
                  refine G_iincN (lv' := [(4, .int (nI (j + 1))), (3, .int (nI 1)), (0, .ref (ad 0)), (1, .int (nI k)), (2, .int (nI (i + 1)))]) C 4 dX11_years_74 rfl (by decide) rfl ?_
                  refine G_goto (tgt := 20) C dX11_years_77 (by decide) ?_
                  refine G_pick (lv' := [(0, .ref (ad 0)), (1, .int (nI k)), (2, .int (nI (i + 1))), (3, .int (nI 1)), (4, .int (nI (j + 1)))]) [2, 3, 4, 1, 0] rfl ?_
                  exact ih4 true (mb_t (P := fun j => (i + 1 ≤ M 13 j ↔ M 14 j = 1)) hi4_0 h30_8 (by omega))
              · refine G_iconst C dX11_years_60 kI_1 ?_
                refine G_goto (tgt := 65) C dX11_years_61 (by decide) ?_
                refine G_icmp_neN (tgt := 72) C dX11_years_65 (by decide) (by decide) (by decide) (fun h65_12 => ?_) (fun h65_12 => ?_)
                · refine G_iconst C dX11_years_72 kI_0 ?_
                  refine G_istore_n (lv' := [(3, .int (nI 0)), (0, .ref (ad 0)), (1, .int (nI k)), (2, .int (nI (i + 1))), (4, .int (nI j))]) C dX11_years_73 rfl (by decide) rfl ?_
                  refine G_iincN (lv' := [(4, .int (nI (j + 1))), (3, .int (nI 0)), (0, .ref (ad 0)), (1, .int (nI k)), (2, .int (nI (i + 1)))]) C 4 dX11_years_74 rfl (by decide) rfl ?_
                  refine G_goto (tgt := 20) C dX11_years_77 (by decide) ?_
                  refine G_pick (lv' := [(0, .ref (ad 0)), (1, .int (nI k)), (2, .int (nI (i + 1))), (3, .int (nI 0)), (4, .int (nI (j + 1)))]) [2, 3, 4, 1, 0] rfl ?_
                  exact ih4 false (mb_f2 (P := fun j => (i + 1 ≤ M 13 j ↔ M 14 j = 1)) (by omega))
                · exact absurd h65_12 (by decide)
            · refine G_iconst C dX11_years_44 kI_1 ?_
              refine G_goto (tgt := 49) C dX11_years_45 (by decide) ?_
              refine G_aload_n C 0 dX11_years_49 rfl rfl ?_
              refine G_get (v := .ref (ad 14)) C 0 24 dX11_years_50 yc_0 rfl inG11 (by decide) wm_861 rfl rfl ?_
              refine G_iload C 4 dX11_years_53 rfl ?_
              refine G_iald (v := nI (M 14 j)) C 14 0 dX11_years_55 yc_14 rfl (by omega) (by decide) rfl ?_
              refine G_iconst C dX11_years_56 kI_1 ?_
              refine G_icmp_neN (tgt := 64) C dX11_years_57 (by decide) (by have := hB 14 j; omega) (by decide) (fun h57_13 => ?_) (fun h57_13 => ?_)
              · refine G_iconst C dX11_years_64 kI_0 ?_
                refine G_icmp_neN (tgt := 72) C dX11_years_65 (by decide) (by decide) (by decide) (fun h65_14 => ?_) (fun h65_14 => ?_)
                · refine G_iconst C dX11_years_72 kI_0 ?_
                  refine G_istore_n (lv' := [(3, .int (nI 0)), (0, .ref (ad 0)), (1, .int (nI k)), (2, .int (nI (i + 1))), (4, .int (nI j))]) C dX11_years_73 rfl (by decide) rfl ?_
                  refine G_iincN (lv' := [(4, .int (nI (j + 1))), (3, .int (nI 0)), (0, .ref (ad 0)), (1, .int (nI k)), (2, .int (nI (i + 1)))]) C 4 dX11_years_74 rfl (by decide) rfl ?_
                  refine G_goto (tgt := 20) C dX11_years_77 (by decide) ?_
                  refine G_pick (lv' := [(0, .ref (ad 0)), (1, .int (nI k)), (2, .int (nI (i + 1))), (3, .int (nI 0)), (4, .int (nI (j + 1)))]) [2, 3, 4, 1, 0] rfl ?_
                  exact ih4 false (mb_f2 (P := fun j => (i + 1 ≤ M 13 j ↔ M 14 j = 1)) (by omega))
                · exact absurd h65_14 (by decide)
              · refine G_iconst C dX11_years_60 kI_1 ?_
                refine G_goto (tgt := 65) C dX11_years_61 (by decide) ?_
                refine G_icmp_neN (tgt := 72) C dX11_years_65 (by decide) (by decide) (by decide) (fun h65_15 => ?_) (fun h65_15 => ?_)
                · exact absurd h65_15 (by decide)
                · refine G_iconst C dX11_years_68 kI_1 ?_
                  refine G_goto (tgt := 73) C dX11_years_69 (by decide) ?_
                  refine G_istore_n (lv' := [(3, .int (nI 1)), (0, .ref (ad 0)), (1, .int (nI k)), (2, .int (nI (i + 1))), (4, .int (nI j))]) C dX11_years_73 rfl (by decide) rfl ?_
                  refine G_iincN (lv' := [(4, .int (nI (j + 1))), (3, .int (nI 1)), (0, .ref (ad 0)), (1, .int (nI k)), (2, .int (nI (i + 1)))]) C 4 dX11_years_74 rfl (by decide) rfl ?_
                  refine G_goto (tgt := 20) C dX11_years_77 (by decide) ?_
                  refine G_pick (lv' := [(0, .ref (ad 0)), (1, .int (nI k)), (2, .int (nI (i + 1))), (3, .int (nI 1)), (4, .int (nI (j + 1)))]) [2, 3, 4, 1, 0] rfl ?_
                  exact ih4 true (mb_t (P := fun j => (i + 1 ≤ M 13 j ↔ M 14 j = 1)) hi4_0 h30_8 (by omega))
set_option maxHeartbeats 4000000 in
set_option maxRecDepth 100000 in
theorem c_X11_show  (h0 : M 0 0 = 0) (hS : M 0 22 ≤ 6) (hq : ∀ i, i < M 0 22 → M 11 i < 5) (hP : M 2 0 ≤ 5) (hB : ∀ k j, M k j < 1024) : CT l yX11_show cX11_show 7 (some .int) (rmOf 1 24) D (tyI cI cZ) [.ref (ad 0)] (wY cI cZ ad M t) (some (.int (y_show M))) (wY cI cZ ad M t) := by
  have hal := y_all_le M
  refine CT_of (own := "FalseParityModel") (by decide) rfl (Nat.le_of_ble_eq_true rfl) (fun p e s m args below meth c C hr => ?_)
  refine G_aload_n C 0 dX11_show_0 rfl rfl ?_
  refine G_iconst C dX11_show_1 kI_0 ?_
  refine G_put (w' := wY cI cZ ad (ms M 0 (0) (0)) t) (ty := .int) C 0 0 tyX11 dX11_show_2 yc_0 rfl inG11 tyX11_ok nmX11 (by decide) wm_837 rfl rfl (by decide +kernel) rfl rfl (Nat.le_of_ble_eq_true rfl) (yp_0_0 _) ?_
  refine G_w (w2 := wY cI cZ ad M t) (congrArg (fun z => wY cI cZ ad z t) (ms_id h0)) ?_
  refine G_iconst C dX11_show_5 kI_0 ?_
  refine G_istore_n (lv' := [(1, .int (nI 0)), (0, .ref (ad 0))]) C dX11_show_6 rfl (by decide) rfl ?_
  refine G_iconst C dX11_show_7 kI_0 ?_
  refine G_istore_n (lv' := [(2, .int (nI 0)), (1, .int (nI 0)), (0, .ref (ad 0))]) C dX11_show_8 rfl (by decide) rfl ?_
  refine G_pick (lv' := [(0, .ref (ad 0)), (1, .int (nI 0)), (2, .int (nI 0))]) [2, 1, 0] rfl ?_
  refine loopN (P := fun a => ∀ al : Nat, (al = y_all M a) → (al ≤ a) → G p l e (rmOf 1 24) s m args below meth c D _ 7 0 0 _ 9 [(0, .ref (ad 0)), (1, .int (nI al)), (2, .int (nI a))] [] (wY cI cZ ad M t)) (32) ?_ ?_ 0 (Nat.zero_le _) (0) rfl (Nat.le_refl _)
  · intro al hi1_0 hi1_1
    have hal0 := hi1_0
    refine G_iload_n C 2 dX11_show_9 rfl rfl ?_
    refine G_bipush C dX11_show_10 kB_32 ?_
    refine G_icmp_geN (tgt := 38) C dX11_show_12 (by decide) (by decide) (by decide) (fun h12_2 => ?_) (fun h12_2 => ?_)
    · refine G_bipush C dX11_show_38 kB_m9 ?_
      refine G_istore_n (lv' := [(2, .int (-9)), (0, .ref (ad 0)), (1, .int (nI al))]) C dX11_show_40 rfl (by decide) rfl ?_
      refine G_ldc C dX11_show_41 wm_1032 ?_
      refine G_top (y := nI 1000000) (by decide) ?_
      refine G_istore_n (lv' := [(3, .int (nI 1000000)), (2, .int (-9)), (0, .ref (ad 0)), (1, .int (nI al))]) C dX11_show_43 rfl (by decide) rfl ?_
      refine G_iconst C dX11_show_44 kI_0 ?_
      refine G_istore (lv' := [(4, .int (nI 0)), (3, .int (nI 1000000)), (2, .int (-9)), (0, .ref (ad 0)), (1, .int (nI al))]) C dX11_show_45 (by decide) rfl ?_
      refine G_pick (lv' := [(0, .ref (ad 0)), (1, .int (nI al)), (2, .int (-9)), (3, .int (nI 1000000)), (4, .int (nI 0))]) [3, 4, 2, 1, 0] rfl ?_
      refine loopN (P := fun q => ∀ b : Int32, ∀ pt : Nat, ((b, pt) = y_shf M q) → (pt ≤ 1000000) → (y_all M 32 ≤ 1 → b = -9) → G p l e (rmOf 1 24) s m args below meth c D _ 7 0 0 _ 47 [(0, .ref (ad 0)), (1, .int (nI al)), (2, .int (b)), (3, .int (nI pt)), (4, .int (nI q))] [] (wY cI cZ ad M t)) (M 2 0) ?_ ?_ 0 (Nat.zero_le _) (-9) (1000000) rfl (by decide) (fun _ => rfl)
      · intro b pt hi3_0 hi3_1 hi3_2
        refine G_iload C 4 dX11_show_47 rfl ?_
        refine G_aload_n C 0 dX11_show_49 rfl rfl ?_
        refine G_get (v := .ref (ad 2)) C 0 9 dX11_show_50 yc_0 rfl inG11 (by decide) wm_846 rfl rfl ?_
        refine G_iconst C dX11_show_53 kI_0 ?_
        refine G_iald (v := nI (M 2 0)) C 2 0 dX11_show_54 yc_2 rfl (by decide) (by decide) rfl ?_
        refine G_icmp_geN (tgt := 166) C dX11_show_55 (by decide) (by have := hB 2 0; omega) (by have := hB 2 0; omega) (fun h55_4 => ?_) (fun h55_4 => ?_)
        · refine G_iload_n C 2 dX11_show_166 rfl rfl ?_
          exact G_iret C hr dX11_show_167 (by unfold y_show; by_cases q : y_all M 32 ≤ 1; (rw [if_pos q, hi3_2 q]); (rw [if_neg q, ← hi3_0])) (rfl)
        · exfalso; omega
      · intro q hqP ih3 b pt hi3_0 hi3_1 hi3_2
        have hye := y_yes_le M q
        have hmr : y_mr M q ≤ 32 := (by unfold y_mr; split <;> omega)
        refine G_iload C 4 dX11_show_47 rfl ?_
        refine G_aload_n C 0 dX11_show_49 rfl rfl ?_
        refine G_get (v := .ref (ad 2)) C 0 9 dX11_show_50 yc_0 rfl inG11 (by decide) wm_846 rfl rfl ?_
        refine G_iconst C dX11_show_53 kI_0 ?_
        refine G_iald (v := nI (M 2 0)) C 2 0 dX11_show_54 yc_2 rfl (by decide) (by decide) rfl ?_
        refine G_icmp_geN (tgt := 166) C dX11_show_55 (by decide) (by omega) (by have := hB 2 0; omega) (fun h55_5 => ?_) (fun h55_5 => ?_)
        · exfalso; omega
        · refine G_iload_n C 1 dX11_show_58 rfl rfl ?_
          refine G_iconst C dX11_show_59 kI_1 ?_
          refine G_icmp_leN (tgt := 166) C dX11_show_60 (by decide) (by omega) (by decide) (fun h60_6 => ?_) (fun h60_6 => ?_)
          · refine G_iload_n C 2 dX11_show_166 rfl rfl ?_
            exact G_iret C hr dX11_show_167 (by unfold y_show; rw [if_pos (by omega), hi3_2 (by omega)]) (rfl)
          · refine G_iconst C dX11_show_63 kI_0 ?_
            refine G_istore (lv' := [(5, .int (nI 0)), (0, .ref (ad 0)), (1, .int (nI al)), (2, .int (b)), (3, .int (nI pt)), (4, .int (nI q))]) C dX11_show_64 (by decide) rfl ?_
            refine G_iconst C dX11_show_66 kI_0 ?_
            refine G_istore (lv' := [(6, .int (nI 0)), (5, .int (nI 0)), (0, .ref (ad 0)), (1, .int (nI al)), (2, .int (b)), (3, .int (nI pt)), (4, .int (nI q))]) C dX11_show_67 (by decide) rfl ?_
            refine G_pick (lv' := [(0, .ref (ad 0)), (1, .int (nI al)), (2, .int (b)), (3, .int (nI pt)), (4, .int (nI q)), (5, .int (nI 0)), (6, .int (nI 0))]) [2, 3, 4, 5, 6, 1, 0] rfl ?_
            refine loopN (P := fun a => ∀ k : Nat, (k = y_yes M q a) → (k ≤ a) → G p l e (rmOf 1 24) s m args below meth c D _ 7 0 0 _ 69 [(0, .ref (ad 0)), (1, .int (nI al)), (2, .int (b)), (3, .int (nI pt)), (4, .int (nI q)), (5, .int (nI k)), (6, .int (nI a))] [] (wY cI cZ ad M t)) (32) ?_ ?_ 0 (Nat.zero_le _) (0) rfl (Nat.le_refl _)
            · intro k hi7_0 hi7_1
              refine G_iload C 6 dX11_show_69 rfl ?_
              refine G_bipush C dX11_show_71 kB_32 ?_
              refine G_icmp_geN (tgt := 114) C dX11_show_73 (by decide) (by decide) (by decide) (fun h73_8 => ?_) (fun h73_8 => ?_)
              · refine G_iload C 5 dX11_show_114 rfl ?_
                refine G_iload_n C 1 dX11_show_116 rfl rfl ?_
                refine G_iload C 5 dX11_show_117 rfl ?_
                refine G_isubN C dX11_show_119 (by omega) ?_
                refine G_icmp_leN (tgt := 128) C dX11_show_120 (by decide) (by omega) (by omega) (fun h120_9 => ?_) (fun h120_9 => ?_)
                · refine G_iload_n C 1 dX11_show_128 rfl rfl ?_
                  refine G_iload C 5 dX11_show_129 rfl ?_
                  refine G_isubN C dX11_show_131 (by omega) ?_
                  refine G_top (y := nI (y_mr M q)) (congrArg nI (by unfold y_mr; rw [← hi7_0, ← hal0, if_pos (by omega)])) ?_
                  refine G_istore (lv' := [(6, .int (nI (y_mr M q))), (0, .ref (ad 0)), (1, .int (nI al)), (2, .int (b)), (3, .int (nI pt)), (4, .int (nI q)), (5, .int (nI k))]) C dX11_show_132 (by decide) rfl ?_
                  refine G_iload C 0 dX11_show_134 rfl ?_
                  refine G_iload_n C 4 dX11_show_136 rfl rfl ?_
                  refine G_icmp_geN (tgt := 145) C dX11_show_137 (by decide) (by omega) (by omega) (fun h137_10 => ?_) (fun h137_10 => ?_)
                  · refine G_iload_n C 3 dX11_show_145 rfl rfl ?_
                    refine G_istore_n (lv' := [(2, .int (b)), (6, .int (nI (y_mr M q))), (0, .ref (ad 0)), (1, .int (nI al)), (3, .int (nI pt)), (4, .int (nI q)), (5, .int (nI k))]) C dX11_show_146 rfl (by decide) rfl ?_
                    refine G_iload C 1 dX11_show_147 rfl ?_
                    refine G_iload_n C 4 dX11_show_149 rfl rfl ?_
                    refine G_icmp_geN (tgt := 158) C dX11_show_150 (by decide) (by omega) (by omega) (fun h150_11 => ?_) (fun h150_11 => ?_)
                    · refine G_iload_n C 4 dX11_show_158 rfl rfl ?_
                      refine G_istore_n (lv' := [(3, .int (nI pt)), (2, .int (b)), (6, .int (nI (y_mr M q))), (0, .ref (ad 0)), (1, .int (nI al)), (4, .int (nI q)), (5, .int (nI k))]) C dX11_show_159 rfl (by decide) rfl ?_
                      refine G_iincN (lv' := [(4, .int (nI (q + 1))), (3, .int (nI pt)), (2, .int (b)), (6, .int (nI (y_mr M q))), (0, .ref (ad 0)), (1, .int (nI al)), (5, .int (nI k))]) C 5 dX11_show_160 rfl (by decide) rfl ?_
                      refine G_goto (tgt := 47) C dX11_show_163 (by decide) ?_
                      refine G_pick (lv' := [(0, .ref (ad 0)), (1, .int (nI al)), (2, .int (b)), (3, .int (nI pt)), (4, .int (nI (q + 1)))]) [4, 5, 2, 1, 0] rfl ?_
                      exact ih3 _ _ (by rw [y_shf_s, ← hi3_0]; first | exact (if_pos h137_10).symm | exact (if_neg (Nat.not_lt.mpr h137_10)).symm) (by omega) (fun h => absurd h (by omega))
                    · exfalso; omega
                  · refine G_iload C 5 dX11_show_140 rfl ?_
                    refine G_goto (tgt := 146) C dX11_show_142 (by decide) ?_
                    refine G_istore_n (lv' := [(2, .int (nI q)), (6, .int (nI (y_mr M q))), (0, .ref (ad 0)), (1, .int (nI al)), (3, .int (nI pt)), (4, .int (nI q)), (5, .int (nI k))]) C dX11_show_146 rfl (by decide) rfl ?_
                    refine G_iload C 1 dX11_show_147 rfl ?_
                    refine G_iload_n C 4 dX11_show_149 rfl rfl ?_
                    refine G_icmp_geN (tgt := 158) C dX11_show_150 (by decide) (by omega) (by omega) (fun h150_12 => ?_) (fun h150_12 => ?_)
                    · exfalso; omega
                    · refine G_iload C 1 dX11_show_153 rfl ?_
                      refine G_goto (tgt := 159) C dX11_show_155 (by decide) ?_
                      refine G_istore_n (lv' := [(3, .int (nI (y_mr M q))), (2, .int (nI q)), (6, .int (nI (y_mr M q))), (0, .ref (ad 0)), (1, .int (nI al)), (4, .int (nI q)), (5, .int (nI k))]) C dX11_show_159 rfl (by decide) rfl ?_
                      refine G_iincN (lv' := [(4, .int (nI (q + 1))), (3, .int (nI (y_mr M q))), (2, .int (nI q)), (6, .int (nI (y_mr M q))), (0, .ref (ad 0)), (1, .int (nI al)), (5, .int (nI k))]) C 5 dX11_show_160 rfl (by decide) rfl ?_
                      refine G_goto (tgt := 47) C dX11_show_163 (by decide) ?_
                      refine G_pick (lv' := [(0, .ref (ad 0)), (1, .int (nI al)), (2, .int (nI q)), (3, .int (nI (y_mr M q))), (4, .int (nI (q + 1)))]) [4, 5, 2, 1, 0] rfl ?_
                      exact ih3 _ _ (by rw [y_shf_s, ← hi3_0]; first | exact (if_pos h137_10).symm | exact (if_neg (Nat.not_lt.mpr h137_10)).symm) (by omega) (fun h => absurd h (by omega))
                · refine G_iload C 5 dX11_show_123 rfl ?_
                  refine G_goto (tgt := 132) C dX11_show_125 (by decide) ?_
                  refine G_top (y := nI (y_mr M q)) (congrArg nI (by unfold y_mr; rw [← hi7_0, ← hal0, if_neg (by omega)])) ?_
                  refine G_istore (lv' := [(6, .int (nI (y_mr M q))), (0, .ref (ad 0)), (1, .int (nI al)), (2, .int (b)), (3, .int (nI pt)), (4, .int (nI q)), (5, .int (nI k))]) C dX11_show_132 (by decide) rfl ?_
                  refine G_iload C 0 dX11_show_134 rfl ?_
                  refine G_iload_n C 4 dX11_show_136 rfl rfl ?_
                  refine G_icmp_geN (tgt := 145) C dX11_show_137 (by decide) (by omega) (by omega) (fun h137_13 => ?_) (fun h137_13 => ?_)
                  · refine G_iload_n C 3 dX11_show_145 rfl rfl ?_
                    refine G_istore_n (lv' := [(2, .int (b)), (6, .int (nI (y_mr M q))), (0, .ref (ad 0)), (1, .int (nI al)), (3, .int (nI pt)), (4, .int (nI q)), (5, .int (nI k))]) C dX11_show_146 rfl (by decide) rfl ?_
                    refine G_iload C 1 dX11_show_147 rfl ?_
                    refine G_iload_n C 4 dX11_show_149 rfl rfl ?_
                    refine G_icmp_geN (tgt := 158) C dX11_show_150 (by decide) (by omega) (by omega) (fun h150_14 => ?_) (fun h150_14 => ?_)
                    · refine G_iload_n C 4 dX11_show_158 rfl rfl ?_
                      refine G_istore_n (lv' := [(3, .int (nI pt)), (2, .int (b)), (6, .int (nI (y_mr M q))), (0, .ref (ad 0)), (1, .int (nI al)), (4, .int (nI q)), (5, .int (nI k))]) C dX11_show_159 rfl (by decide) rfl ?_
                      refine G_iincN (lv' := [(4, .int (nI (q + 1))), (3, .int (nI pt)), (2, .int (b)), (6, .int (nI (y_mr M q))), (0, .ref (ad 0)), (1, .int (nI al)), (5, .int (nI k))]) C 5 dX11_show_160 rfl (by decide) rfl ?_
                      refine G_goto (tgt := 47) C dX11_show_163 (by decide) ?_
                      refine G_pick (lv' := [(0, .ref (ad 0)), (1, .int (nI al)), (2, .int (b)), (3, .int (nI pt)), (4, .int (nI (q + 1)))]) [4, 5, 2, 1, 0] rfl ?_
                      exact ih3 _ _ (by rw [y_shf_s, ← hi3_0]; first | exact (if_pos h137_13).symm | exact (if_neg (Nat.not_lt.mpr h137_13)).symm) (by omega) (fun h => absurd h (by omega))
                    · exfalso; omega
                  · refine G_iload C 5 dX11_show_140 rfl ?_
                    refine G_goto (tgt := 146) C dX11_show_142 (by decide) ?_
                    refine G_istore_n (lv' := [(2, .int (nI q)), (6, .int (nI (y_mr M q))), (0, .ref (ad 0)), (1, .int (nI al)), (3, .int (nI pt)), (4, .int (nI q)), (5, .int (nI k))]) C dX11_show_146 rfl (by decide) rfl ?_
                    refine G_iload C 1 dX11_show_147 rfl ?_
                    refine G_iload_n C 4 dX11_show_149 rfl rfl ?_
                    refine G_icmp_geN (tgt := 158) C dX11_show_150 (by decide) (by omega) (by omega) (fun h150_15 => ?_) (fun h150_15 => ?_)
                    · exfalso; omega
                    · refine G_iload C 1 dX11_show_153 rfl ?_
                      refine G_goto (tgt := 159) C dX11_show_155 (by decide) ?_
                      refine G_istore_n (lv' := [(3, .int (nI (y_mr M q))), (2, .int (nI q)), (6, .int (nI (y_mr M q))), (0, .ref (ad 0)), (1, .int (nI al)), (4, .int (nI q)), (5, .int (nI k))]) C dX11_show_159 rfl (by decide) rfl ?_
                      refine G_iincN (lv' := [(4, .int (nI (q + 1))), (3, .int (nI (y_mr M q))), (2, .int (nI q)), (6, .int (nI (y_mr M q))), (0, .ref (ad 0)), (1, .int (nI al)), (5, .int (nI k))]) C 5 dX11_show_160 rfl (by decide) rfl ?_
                      refine G_goto (tgt := 47) C dX11_show_163 (by decide) ?_
                      refine G_pick (lv' := [(0, .ref (ad 0)), (1, .int (nI al)), (2, .int (nI q)), (3, .int (nI (y_mr M q))), (4, .int (nI (q + 1)))]) [4, 5, 2, 1, 0] rfl ?_
                      exact ih3 _ _ (by rw [y_shf_s, ← hi3_0]; first | exact (if_pos h137_13).symm | exact (if_neg (Nat.not_lt.mpr h137_13)).symm) (by omega) (fun h => absurd h (by omega))
              · exact absurd h73_8 (by decide)
            · intro a ha ih7 k hi7_0 hi7_1
              refine G_iload C 6 dX11_show_69 rfl ?_
              refine G_bipush C dX11_show_71 kB_32 ?_
              refine G_icmp_geN (tgt := 114) C dX11_show_73 (by decide) (by omega) (by decide) (fun h73_16 => ?_) (fun h73_16 => ?_)
              · exfalso; omega
              · refine G_iload C 5 dX11_show_76 rfl ?_
                refine G_aload_n C 0 dX11_show_78 rfl rfl ?_
                refine G_iload C 6 dX11_show_79 rfl ?_
                refine G_iload C 6 dX11_show_81 rfl ?_
                refine G_aload_n C 0 dX11_show_83 rfl rfl ?_
                refine G_get (v := .ref (ad 7)) C 0 15 dX11_show_84 yc_0 rfl inG11 (by decide) wm_852 rfl rfl ?_
                refine G_bipush C dX11_show_87 kB_14 ?_
                refine G_iload C 4 dX11_show_89 rfl ?_
                refine G_iaddN C dX11_show_91 ?_
                refine G_iald (v := nI (M 7 (14 + q))) C 7 0 dX11_show_92 yc_7 rfl (by omega) (by decide) rfl ?_
                refine G_iandN C dX11_show_93 ?_
                refine G_callV1 C [.int (nI a), .int (nI (a &&& (M 7 (14 + q))))] 0 dX11_show_94 (c_X11_mayBe (by omega) (Nat.lt_of_le_of_lt Nat.and_le_left (by omega)) hS hq hB) wm_1052 wm_1054 wm_47 wm_61 wm_1055 yc_0 rfl ydc_X11_mayBe rfl ⟨Nat.le_of_ble_eq_true rfl, Nat.le_of_ble_eq_true rfl⟩ ⟨rfl, rfl⟩ ⟨Nat.le_refl _, Nat.le_refl _⟩ (Nat.le_of_ble_eq_true rfl) rfl ?_
                refine G_if_eqB (tgt := 104) C dX11_show_97 (by decide) (fun h97_17 => ?_) (fun h97_17 => ?_)
                · refine G_iconst C dX11_show_104 kI_0 ?_
                  refine G_iaddN C dX11_show_105 ?_
                  refine G_istore (lv' := [(5, .int (nI (k + 0))), (0, .ref (ad 0)), (1, .int (nI al)), (2, .int (b)), (3, .int (nI pt)), (4, .int (nI q)), (6, .int (nI a))]) C dX11_show_106 (by decide) rfl ?_
                  refine G_iincN (lv' := [(6, .int (nI (a + 1))), (5, .int (nI (k + 0))), (0, .ref (ad 0)), (1, .int (nI al)), (2, .int (b)), (3, .int (nI pt)), (4, .int (nI q))]) C 6 dX11_show_108 rfl (by decide) rfl ?_
                  refine G_goto (tgt := 69) C dX11_show_111 (by decide) ?_
                  refine G_pick (lv' := [(0, .ref (ad 0)), (1, .int (nI al)), (2, .int (b)), (3, .int (nI pt)), (4, .int (nI q)), (5, .int (nI (k + 0))), (6, .int (nI (a + 1)))]) [2, 3, 4, 5, 6, 1, 0] rfl ?_
                  exact ih7 _ (by rw [hi7_0]; simp [y_yes, sumTo, h97_17]) (by omega)
                · refine G_iconst C dX11_show_100 kI_1 ?_
                  refine G_goto (tgt := 105) C dX11_show_101 (by decide) ?_
                  refine G_iaddN C dX11_show_105 ?_
                  refine G_istore (lv' := [(5, .int (nI (k + 1))), (0, .ref (ad 0)), (1, .int (nI al)), (2, .int (b)), (3, .int (nI pt)), (4, .int (nI q)), (6, .int (nI a))]) C dX11_show_106 (by decide) rfl ?_
                  refine G_iincN (lv' := [(6, .int (nI (a + 1))), (5, .int (nI (k + 1))), (0, .ref (ad 0)), (1, .int (nI al)), (2, .int (b)), (3, .int (nI pt)), (4, .int (nI q))]) C 6 dX11_show_108 rfl (by decide) rfl ?_
                  refine G_goto (tgt := 69) C dX11_show_111 (by decide) ?_
                  refine G_pick (lv' := [(0, .ref (ad 0)), (1, .int (nI al)), (2, .int (b)), (3, .int (nI pt)), (4, .int (nI q)), (5, .int (nI (k + 1))), (6, .int (nI (a + 1)))]) [2, 3, 4, 5, 6, 1, 0] rfl ?_
                  exact ih7 _ (by rw [hi7_0]; simp [y_yes, sumTo, h97_17]) (by omega)
    · exact absurd h12_2 (by decide)
  · intro a ha ih1 al hi1_0 hi1_1
    refine G_iload_n C 2 dX11_show_9 rfl rfl ?_
    refine G_bipush C dX11_show_10 kB_32 ?_
    refine G_icmp_geN (tgt := 38) C dX11_show_12 (by decide) (by omega) (by decide) (fun h12_18 => ?_) (fun h12_18 => ?_)
    · exfalso; omega
    · refine G_iload_n C 1 dX11_show_15 rfl rfl ?_
      refine G_aload_n C 0 dX11_show_16 rfl rfl ?_
      refine G_iload_n C 2 dX11_show_17 rfl rfl ?_
      refine G_iconst C dX11_show_18 kI_0 ?_
      refine G_callV1 C [.int (nI a), .int (nI 0)] 0 dX11_show_19 (c_X11_mayBe (by omega) (by decide) hS hq hB) wm_1052 wm_1054 wm_47 wm_61 wm_1055 yc_0 rfl ydc_X11_mayBe rfl ⟨Nat.le_of_ble_eq_true rfl, Nat.le_of_ble_eq_true rfl⟩ ⟨rfl, rfl⟩ ⟨Nat.le_refl _, Nat.le_refl _⟩ (Nat.le_of_ble_eq_true rfl) rfl ?_
      refine G_if_eqB (tgt := 29) C dX11_show_22 (by decide) (fun h22_19 => ?_) (fun h22_19 => ?_)
      · refine G_iconst C dX11_show_29 kI_0 ?_
        refine G_iaddN C dX11_show_30 ?_
        refine G_istore_n (lv' := [(1, .int (nI (al + 0))), (0, .ref (ad 0)), (2, .int (nI a))]) C dX11_show_31 rfl (by decide) rfl ?_
        refine G_iincN (lv' := [(2, .int (nI (a + 1))), (1, .int (nI (al + 0))), (0, .ref (ad 0))]) C 2 dX11_show_32 rfl (by decide) rfl ?_
        refine G_goto (tgt := 9) C dX11_show_35 (by decide) ?_
        refine G_pick (lv' := [(0, .ref (ad 0)), (1, .int (nI (al + 0))), (2, .int (nI (a + 1)))]) [2, 1, 0] rfl ?_
        exact ih1 _ (by rw [hi1_0]; simp [y_all, sumTo, h22_19]) (by omega)
      · refine G_iconst C dX11_show_25 kI_1 ?_
        refine G_goto (tgt := 30) C dX11_show_26 (by decide) ?_
        refine G_iaddN C dX11_show_30 ?_
        refine G_istore_n (lv' := [(1, .int (nI (al + 1))), (0, .ref (ad 0)), (2, .int (nI a))]) C dX11_show_31 rfl (by decide) rfl ?_
        refine G_iincN (lv' := [(2, .int (nI (a + 1))), (1, .int (nI (al + 1))), (0, .ref (ad 0))]) C 2 dX11_show_32 rfl (by decide) rfl ?_
        refine G_goto (tgt := 9) C dX11_show_35 (by decide) ?_
        refine G_pick (lv' := [(0, .ref (ad 0)), (1, .int (nI (al + 1))), (2, .int (nI (a + 1)))]) [2, 1, 0] rfl ?_
        exact ih1 _ (by rw [hi1_0]; simp [y_all, sumTo, h22_19]) (by omega)
set_option maxHeartbeats 4000000 in
set_option maxRecDepth 100000 in
theorem c_X11_worthOf {a : Nat} {b : Bool} (ha : a < 1024) (hN : M 2 1 ≤ 6) (hB : ∀ k j, M k j < 1024) : CT l yX11_worthOf cX11_worthOf 6 (some .int) (rmOf 1 21) D (tyI cI cZ) [.ref (ad 0), .int (nI a), .int (nI (bN (b)))] (wY cI cZ ad M t) (some (.int (nI (y_wo M a b)))) (wY cI cZ ad M t) := by
  refine CT_of (own := "FalseParityModel") (by decide) rfl (Nat.le_of_ble_eq_true rfl) (fun p e s m args below meth c C hr => ?_)
  refine G_iconst C dX11_worthOf_0 kI_0 ?_
  refine G_istore_n (lv' := [(3, .int (nI 0)), (0, .ref (ad 0)), (1, .int (nI a)), (2, .int (nI (bN (b))))]) C dX11_worthOf_1 rfl (by decide) rfl ?_
  refine G_iconst C dX11_worthOf_2 kI_0 ?_
  refine G_istore (lv' := [(4, .int (nI 0)), (3, .int (nI 0)), (0, .ref (ad 0)), (1, .int (nI a)), (2, .int (nI (bN (b))))]) C dX11_worthOf_3 (by decide) rfl ?_
  refine G_pick (lv' := [(0, .ref (ad 0)), (1, .int (nI a)), (2, .int (nI (bN (b)))), (3, .int (nI 0)), (4, .int (nI 0))]) [2, 3, 4, 1, 0] rfl ?_
  refine loopN (P := fun n => ∀ sm : Nat, (sm = y_wof M a b n) → (∀ z, z < n → y_bad M a z = false) → G p l e (rmOf 1 21) s m args below meth c D _ 6 0 0 _ 5 [(0, .ref (ad 0)), (1, .int (nI a)), (2, .int (nI (bN (b)))), (3, .int (nI sm)), (4, .int (nI n))] [] (wY cI cZ ad M t)) (M 2 1) ?_ ?_ 0 (Nat.zero_le _) (0) rfl (fun z h => absurd h (Nat.not_lt_zero z))
  · intro sm hi1_0 hi1_1
    refine G_iload C 4 dX11_worthOf_5 rfl ?_
    refine G_aload_n C 0 dX11_worthOf_7 rfl rfl ?_
    refine G_get (v := .ref (ad 2)) C 0 9 dX11_worthOf_8 yc_0 rfl inG11 (by decide) wm_846 rfl rfl ?_
    refine G_iconst C dX11_worthOf_11 kI_1 ?_
    refine G_iald (v := nI (M 2 1)) C 2 0 dX11_worthOf_12 yc_2 rfl (by decide) (by decide) rfl ?_
    refine G_icmp_geN (tgt := 116) C dX11_worthOf_13 (by decide) (by have := hB 2 1; omega) (by have := hB 2 1; omega) (fun h13_2 => ?_) (fun h13_2 => ?_)
    · refine G_iload_n C 3 dX11_worthOf_116 rfl rfl ?_
      exact G_iret C hr dX11_worthOf_117 (by unfold y_wo; rw [findTo_none _ _ 0 (fun z _ hz => hi1_1 z (by omega)), hi1_0]) (rfl)
    · exfalso; omega
  · intro n hn ih1 sm hi1_0 hi1_1
    refine G_iload C 4 dX11_worthOf_5 rfl ?_
    refine G_aload_n C 0 dX11_worthOf_7 rfl rfl ?_
    refine G_get (v := .ref (ad 2)) C 0 9 dX11_worthOf_8 yc_0 rfl inG11 (by decide) wm_846 rfl rfl ?_
    refine G_iconst C dX11_worthOf_11 kI_1 ?_
    refine G_iald (v := nI (M 2 1)) C 2 0 dX11_worthOf_12 yc_2 rfl (by decide) (by decide) rfl ?_
    refine G_icmp_geN (tgt := 116) C dX11_worthOf_13 (by decide) (by omega) (by have := hB 2 1; omega) (fun h13_3 => ?_) (fun h13_3 => ?_)
    · exfalso; omega
    · refine G_iload_n C 1 dX11_worthOf_16 rfl rfl ?_
      refine G_iload C 4 dX11_worthOf_17 rfl ?_
      refine G_ishrN C dX11_worthOf_19 (by omega) (by omega) ?_
      refine G_iconst C dX11_worthOf_20 kI_1 ?_
      refine G_iandN C dX11_worthOf_21 ?_
      refine G_top (y := nI ((a / 2 ^ n) % 2)) (congrArg nI (Nat.and_one_is_mod _)) ?_
      refine G_iconst C dX11_worthOf_22 kI_1 ?_
      refine G_icmp_neN (tgt := 30) C dX11_worthOf_23 (by decide) (by omega) (by decide) (fun h23_4 => ?_) (fun h23_4 => ?_)
      · refine G_iconst C dX11_worthOf_30 kI_0 ?_
        refine G_istore (lv' := [(5, .int (nI 0)), (0, .ref (ad 0)), (1, .int (nI a)), (2, .int (nI (bN (b)))), (3, .int (nI sm)), (4, .int (nI n))]) C dX11_worthOf_31 (by decide) rfl ?_
        refine G_iload C 0 dX11_worthOf_33 rfl ?_
        refine G_if_eqN (tgt := 69) C dX11_worthOf_35 (by decide) (by decide) (fun h35_5 => ?_) (fun h35_5 => ?_)
        · refine G_iload_n C 4 dX11_worthOf_69 rfl rfl ?_
          refine G_iload C 0 dX11_worthOf_70 rfl ?_
          refine G_if_neN (tgt := 97) C dX11_worthOf_72 (by decide) (by decide) (fun h72_6 => ?_) (fun h72_6 => ?_)
          · exact absurd h72_6 (by decide)
          · refine G_iload_n C 3 dX11_worthOf_75 rfl rfl ?_
            refine G_if_eqB (tgt := 107) C dX11_worthOf_76 (by decide) (fun h76_7 => ?_) (fun h76_7 => ?_)
            · refine G_iconst C dX11_worthOf_107 kI_0 ?_
              refine G_iaddN C dX11_worthOf_108 ?_
              refine G_istore_n (lv' := [(3, .int (nI (sm + 0))), (5, .int (nI 0)), (0, .ref (ad 0)), (1, .int (nI a)), (2, .int (nI (bN (b)))), (4, .int (nI n))]) C dX11_worthOf_109 rfl (by decide) rfl ?_
              refine G_iincN (lv' := [(4, .int (nI (n + 1))), (3, .int (nI (sm + 0))), (5, .int (nI 0)), (0, .ref (ad 0)), (1, .int (nI a)), (2, .int (nI (bN (b))))]) C 5 dX11_worthOf_110 rfl (by decide) rfl ?_
              refine G_goto (tgt := 5) C dX11_worthOf_113 (by decide) ?_
              refine G_pick (lv' := [(0, .ref (ad 0)), (1, .int (nI a)), (2, .int (nI (bN (b)))), (3, .int (nI (sm + 0))), (4, .int (nI (n + 1)))]) [3, 4, 5, 1, 0] rfl ?_
              exact ih1 _ (by have eb : y_bit a n = false := decide_eq_false h23_4; simp [y_wof, sumTo, hi1_0, eb, h76_7]) (lt_succ_all (P := fun z => y_bad M a z = false) hi1_1 (by have eb : y_bit a n = false := decide_eq_false h23_4; simp [y_bad, eb]))
            · refine G_aload_n C 1 dX11_worthOf_79 rfl rfl ?_
              refine G_iload C 5 dX11_worthOf_80 rfl ?_
              refine G_callV1 C [.int (nI n)] 0 dX11_worthOf_82 (c_X11_hasParity (by omega) hB) wm_974 wm_976 wm_41 wm_61 wm_977 yc_0 rfl ydc_X11_hasParity rfl ⟨Nat.le_of_ble_eq_true rfl, Nat.le_of_ble_eq_true rfl⟩ ⟨rfl, rfl⟩ ⟨Nat.le_refl _, Nat.le_refl _⟩ (Nat.le_of_ble_eq_true rfl) rfl ?_
              refine G_if_eqB (tgt := 107) C dX11_worthOf_85 (by decide) (fun h85_8 => ?_) (fun h85_8 => ?_)
              · refine G_iconst C dX11_worthOf_107 kI_0 ?_
                refine G_iaddN C dX11_worthOf_108 ?_
                refine G_istore_n (lv' := [(3, .int (nI (sm + 0))), (5, .int (nI 0)), (0, .ref (ad 0)), (1, .int (nI a)), (2, .int (nI (bN (b)))), (4, .int (nI n))]) C dX11_worthOf_109 rfl (by decide) rfl ?_
                refine G_iincN (lv' := [(4, .int (nI (n + 1))), (3, .int (nI (sm + 0))), (5, .int (nI 0)), (0, .ref (ad 0)), (1, .int (nI a)), (2, .int (nI (bN (b))))]) C 5 dX11_worthOf_110 rfl (by decide) rfl ?_
                refine G_goto (tgt := 5) C dX11_worthOf_113 (by decide) ?_
                refine G_pick (lv' := [(0, .ref (ad 0)), (1, .int (nI a)), (2, .int (nI (bN (b)))), (3, .int (nI (sm + 0))), (4, .int (nI (n + 1)))]) [3, 4, 5, 1, 0] rfl ?_
                exact ih1 _ (by have eb : y_bit a n = false := decide_eq_false h23_4; simp [y_wof, sumTo, hi1_0, eb, h76_7, h85_8]) (lt_succ_all (P := fun z => y_bad M a z = false) hi1_1 (by have eb : y_bit a n = false := decide_eq_false h23_4; simp [y_bad, eb]))
              · refine G_aload_n C 1 dX11_worthOf_88 rfl rfl ?_
                refine G_iload C 5 dX11_worthOf_89 rfl ?_
                refine G_callV1 C [.int (nI n)] 0 dX11_worthOf_91 (c_X11_isAway (by omega) hB) wm_990 wm_992 wm_44 wm_61 wm_993 yc_0 rfl ydc_X11_isAway rfl ⟨Nat.le_of_ble_eq_true rfl, Nat.le_of_ble_eq_true rfl⟩ ⟨rfl, rfl⟩ ⟨Nat.le_refl _, Nat.le_refl _⟩ (Nat.le_of_ble_eq_true rfl) rfl ?_
                refine G_if_neB (tgt := 107) C dX11_worthOf_94 (by decide) (fun h94_9 => ?_) (fun h94_9 => ?_)
                · refine G_iconst C dX11_worthOf_107 kI_0 ?_
                  refine G_iaddN C dX11_worthOf_108 ?_
                  refine G_istore_n (lv' := [(3, .int (nI (sm + 0))), (5, .int (nI 0)), (0, .ref (ad 0)), (1, .int (nI a)), (2, .int (nI (bN (b)))), (4, .int (nI n))]) C dX11_worthOf_109 rfl (by decide) rfl ?_
                  refine G_iincN (lv' := [(4, .int (nI (n + 1))), (3, .int (nI (sm + 0))), (5, .int (nI 0)), (0, .ref (ad 0)), (1, .int (nI a)), (2, .int (nI (bN (b))))]) C 5 dX11_worthOf_110 rfl (by decide) rfl ?_
                  refine G_goto (tgt := 5) C dX11_worthOf_113 (by decide) ?_
                  refine G_pick (lv' := [(0, .ref (ad 0)), (1, .int (nI a)), (2, .int (nI (bN (b)))), (3, .int (nI (sm + 0))), (4, .int (nI (n + 1)))]) [3, 4, 5, 1, 0] rfl ?_
                  exact ih1 _ (by have eb : y_bit a n = false := decide_eq_false h23_4; simp [y_wof, sumTo, hi1_0, eb, h76_7, h85_8, h94_9]) (lt_succ_all (P := fun z => y_bad M a z = false) hi1_1 (by have eb : y_bit a n = false := decide_eq_false h23_4; simp [y_bad, eb]))
                · refine G_aload_n C 1 dX11_worthOf_97 rfl rfl ?_
                  refine G_get (v := .ref (ad 4)) C 0 12 dX11_worthOf_98 yc_0 rfl inG11 (by decide) wm_849 rfl rfl ?_
                  refine G_iload C 5 dX11_worthOf_101 rfl ?_
                  refine G_iald (v := nI (M 4 n)) C 4 0 dX11_worthOf_103 yc_4 rfl (by omega) (by decide) rfl ?_
                  refine G_goto (tgt := 108) C dX11_worthOf_104 (by decide) ?_
                  refine G_iaddN C dX11_worthOf_108 ?_
                  refine G_istore_n (lv' := [(3, .int (nI (sm + (M 4 n)))), (5, .int (nI 0)), (0, .ref (ad 0)), (1, .int (nI a)), (2, .int (nI (bN (b)))), (4, .int (nI n))]) C dX11_worthOf_109 rfl (by decide) rfl ?_
                  refine G_iincN (lv' := [(4, .int (nI (n + 1))), (3, .int (nI (sm + (M 4 n)))), (5, .int (nI 0)), (0, .ref (ad 0)), (1, .int (nI a)), (2, .int (nI (bN (b))))]) C 5 dX11_worthOf_110 rfl (by decide) rfl ?_
                  refine G_goto (tgt := 5) C dX11_worthOf_113 (by decide) ?_
                  refine G_pick (lv' := [(0, .ref (ad 0)), (1, .int (nI a)), (2, .int (nI (bN (b)))), (3, .int (nI (sm + (M 4 n)))), (4, .int (nI (n + 1)))]) [3, 4, 5, 1, 0] rfl ?_
                  exact ih1 _ (by have eb : y_bit a n = false := decide_eq_false h23_4; simp [y_wof, sumTo, hi1_0, eb, h76_7, h85_8, h94_9]) (lt_succ_all (P := fun z => y_bad M a z = false) hi1_1 (by have eb : y_bit a n = false := decide_eq_false h23_4; simp [y_bad, eb]))
        · exact absurd h35_5 (by decide)
      · refine G_iconst C dX11_worthOf_26 kI_1 ?_
        refine G_goto (tgt := 31) C dX11_worthOf_27 (by decide) ?_
        refine G_istore (lv' := [(5, .int (nI 1)), (0, .ref (ad 0)), (1, .int (nI a)), (2, .int (nI (bN (b)))), (3, .int (nI sm)), (4, .int (nI n))]) C dX11_worthOf_31 (by decide) rfl ?_
        refine G_iload C 0 dX11_worthOf_33 rfl ?_
        refine G_if_eqN (tgt := 69) C dX11_worthOf_35 (by decide) (by decide) (fun h35_10 => ?_) (fun h35_10 => ?_)
        · exact absurd h35_10 (by decide)
        · refine G_aload_n C 1 dX11_worthOf_38 rfl rfl ?_
          refine G_get (v := .ref (ad 5)) C 0 13 dX11_worthOf_39 yc_0 rfl inG11 (by decide) wm_850 rfl rfl ?_
          refine G_iload C 5 dX11_worthOf_42 rfl ?_
          refine G_iald (v := nI (M 5 n)) C 5 0 dX11_worthOf_44 yc_5 rfl (by omega) (by decide) rfl ?_
          refine G_if_eqN (tgt := 66) C dX11_worthOf_45 (by decide) (by have := hB 5 n; omega) (fun h45_11 => ?_) (fun h45_11 => ?_)
          · refine G_ldc C dX11_worthOf_66 wm_1032 ?_
            refine G_top (y := nI 1000000) (by decide) ?_
            exact G_iret C hr dX11_worthOf_68 (by have eb : y_bit a n = true := decide_eq_true h23_4; unfold y_wo; rw [findTo_some _ _ 0 n (by omega) (by omega) (fun z _ hz => hi1_1 z hz) (by simp [y_bad, eb, h45_11])]) (rfl)
          · refine G_aload_n C 1 dX11_worthOf_48 rfl rfl ?_
            refine G_iload C 5 dX11_worthOf_49 rfl ?_
            refine G_callV1 C [.int (nI n)] 0 dX11_worthOf_51 (c_X11_hasParity (by omega) hB) wm_974 wm_976 wm_41 wm_61 wm_977 yc_0 rfl ydc_X11_hasParity rfl ⟨Nat.le_of_ble_eq_true rfl, Nat.le_of_ble_eq_true rfl⟩ ⟨rfl, rfl⟩ ⟨Nat.le_refl _, Nat.le_refl _⟩ (Nat.le_of_ble_eq_true rfl) rfl ?_
            refine G_if_neB (tgt := 66) C dX11_worthOf_54 (by decide) (fun h54_12 => ?_) (fun h54_12 => ?_)
            · refine G_ldc C dX11_worthOf_66 wm_1032 ?_
              refine G_top (y := nI 1000000) (by decide) ?_
              exact G_iret C hr dX11_worthOf_68 (by have eb : y_bit a n = true := decide_eq_true h23_4; unfold y_wo; rw [findTo_some _ _ 0 n (by omega) (by omega) (fun z _ hz => hi1_1 z hz) (by simp [y_bad, eb, h54_12])]) (rfl)
            · refine G_aload_n C 1 dX11_worthOf_57 rfl rfl ?_
              refine G_iload C 5 dX11_worthOf_58 rfl ?_
              refine G_callV1 C [.int (nI n)] 0 dX11_worthOf_60 (c_X11_isAway (by omega) hB) wm_990 wm_992 wm_44 wm_61 wm_993 yc_0 rfl ydc_X11_isAway rfl ⟨Nat.le_of_ble_eq_true rfl, Nat.le_of_ble_eq_true rfl⟩ ⟨rfl, rfl⟩ ⟨Nat.le_refl _, Nat.le_refl _⟩ (Nat.le_of_ble_eq_true rfl) rfl ?_
              refine G_if_eqB (tgt := 69) C dX11_worthOf_63 (by decide) (fun h63_13 => ?_) (fun h63_13 => ?_)
              · refine G_iload_n C 4 dX11_worthOf_69 rfl rfl ?_
                refine G_iload C 0 dX11_worthOf_70 rfl ?_
                refine G_if_neN (tgt := 97) C dX11_worthOf_72 (by decide) (by decide) (fun h72_14 => ?_) (fun h72_14 => ?_)
                · refine G_aload_n C 1 dX11_worthOf_97 rfl rfl ?_
                  refine G_get (v := .ref (ad 4)) C 0 12 dX11_worthOf_98 yc_0 rfl inG11 (by decide) wm_849 rfl rfl ?_
                  refine G_iload C 5 dX11_worthOf_101 rfl ?_
                  refine G_iald (v := nI (M 4 n)) C 4 0 dX11_worthOf_103 yc_4 rfl (by omega) (by decide) rfl ?_
                  refine G_goto (tgt := 108) C dX11_worthOf_104 (by decide) ?_
                  refine G_iaddN C dX11_worthOf_108 ?_
                  refine G_istore_n (lv' := [(3, .int (nI (sm + (M 4 n)))), (5, .int (nI 1)), (0, .ref (ad 0)), (1, .int (nI a)), (2, .int (nI (bN (b)))), (4, .int (nI n))]) C dX11_worthOf_109 rfl (by decide) rfl ?_
                  refine G_iincN (lv' := [(4, .int (nI (n + 1))), (3, .int (nI (sm + (M 4 n)))), (5, .int (nI 1)), (0, .ref (ad 0)), (1, .int (nI a)), (2, .int (nI (bN (b))))]) C 5 dX11_worthOf_110 rfl (by decide) rfl ?_
                  refine G_goto (tgt := 5) C dX11_worthOf_113 (by decide) ?_
                  refine G_pick (lv' := [(0, .ref (ad 0)), (1, .int (nI a)), (2, .int (nI (bN (b)))), (3, .int (nI (sm + (M 4 n)))), (4, .int (nI (n + 1)))]) [3, 4, 5, 1, 0] rfl ?_
                  exact ih1 _ (by have eb : y_bit a n = true := decide_eq_true h23_4; simp [y_wof, sumTo, hi1_0, eb]) (lt_succ_all (P := fun z => y_bad M a z = false) hi1_1 (by have eb : y_bit a n = true := decide_eq_true h23_4; simp [y_bad, eb, Nat.pos_iff_ne_zero.mp h45_11, h54_12, h63_13]))
                · exact absurd h72_14 (by decide)
              · refine G_ldc C dX11_worthOf_66 wm_1032 ?_
                refine G_top (y := nI 1000000) (by decide) ?_
                exact G_iret C hr dX11_worthOf_68 (by have eb : y_bit a n = true := decide_eq_true h23_4; unfold y_wo; rw [findTo_some _ _ 0 n (by omega) (by omega) (fun z _ hz => hi1_1 z hz) (by simp [y_bad, eb, h63_13])]) (rfl)
set_option maxHeartbeats 4000000 in
set_option maxRecDepth 100000 in
theorem c_X11_letIn {y : Int32} (h0 : M 0 0 = 0) (hN : M 2 1 ≤ 6) (hB : ∀ k j, M k j < 1024) : CT l yX11_letIn cX11_letIn 7 (some .int) (rmOf 2 46) D (tyI cI cZ) [.ref (ad 0), .int (y)] (wY cI cZ ad M t) (some (.int (y_letIn M y))) (wY cI cZ ad M t) := by
  have hpw : 1 * 2 ^ (M 2 1) ≤ 64 := by rw [Nat.one_mul]; exact (Nat.pow_le_pow_right (by decide) hN : 2 ^ (M 2 1) ≤ 2 ^ 6)
  refine CT_of (own := "FalseParityModel") (by decide) rfl (Nat.le_of_ble_eq_true rfl) (fun p e s m args below meth c C hr => ?_)
  refine G_aload_n C 0 dX11_letIn_0 rfl rfl ?_
  refine G_iconst C dX11_letIn_1 kI_0 ?_
  refine G_put (w' := wY cI cZ ad (ms M 0 (0) (0)) t) (ty := .int) C 0 0 tyX11 dX11_letIn_2 yc_0 rfl inG11 tyX11_ok nmX11 (by decide) wm_837 rfl rfl (by decide +kernel) rfl rfl (Nat.le_of_ble_eq_true rfl) (yp_0_0 _) ?_
  refine G_w (w2 := wY cI cZ ad M t) (congrArg (fun z => wY cI cZ ad z t) (ms_id h0)) ?_
  refine G_iload_n C 1 dX11_letIn_5 rfl rfl ?_
  refine G_iconst C dX11_letIn_6 kI_0 ?_
  refine G_iconst C dX11_letIn_7 kI_1 ?_
  refine G_callS1 C [.int (y), .int (nI 0), .int (nI 1)] dX11_letIn_8 (c_X11_in_c (by decide)) wm_927 wm_928 wm_61 wm_929 ydc_X11_in rfl ⟨Nat.le_of_ble_eq_true rfl, Nat.le_of_ble_eq_true rfl⟩ ⟨rfl, rfl⟩ ⟨Nat.le_refl _, Nat.le_refl _⟩ (Nat.le_of_ble_eq_true rfl) rfl ?_
  refine G_if_neB (tgt := 16) C dX11_letIn_11 (by decide) (fun h11_1 => ?_) (fun h11_1 => ?_)
  · obtain ⟨q, hx_q, rfl⟩ := inR_of (by decide) h11_1
    have cl_q := nI_clamp (n := q) (by omega)
    refine G_bipush C dX11_letIn_16 kB_m9 ?_
    refine G_istore_n (lv' := [(2, .int (-9)), (0, .ref (ad 0)), (1, .int (nI q))]) C dX11_letIn_18 rfl (by decide) rfl ?_
    refine G_iconst C dX11_letIn_19 kI_0 ?_
    refine G_istore_n (lv' := [(3, .int (nI 0)), (2, .int (-9)), (0, .ref (ad 0)), (1, .int (nI q))]) C dX11_letIn_20 rfl (by decide) rfl ?_
    refine G_pick (lv' := [(0, .ref (ad 0)), (1, .int (nI q)), (2, .int (-9)), (3, .int (nI 0))]) [2, 3, 1, 0] rfl ?_
    refine loopN (P := fun a => ∀ b : Int32, (b = y_lf M a) → (oS b) → G p l e (rmOf 2 46) s m args below meth c D _ 7 0 0 _ 21 [(0, .ref (ad 0)), (1, .int (nI q)), (2, .int (b)), (3, .int (nI a))] [] (wY cI cZ ad M t)) (1 * 2 ^ (M 2 1)) ?_ ?_ 0 (Nat.zero_le _) (-9) rfl (Or.inl rfl)
    · intro b hi2_0 hi2_1
      refine G_iload_n C 3 dX11_letIn_21 rfl rfl ?_
      refine G_iconst C dX11_letIn_22 kI_1 ?_
      refine G_aload_n C 0 dX11_letIn_23 rfl rfl ?_
      refine G_get (v := .ref (ad 2)) C 0 9 dX11_letIn_24 yc_0 rfl inG11 (by decide) wm_846 rfl rfl ?_
      refine G_iconst C dX11_letIn_27 kI_1 ?_
      refine G_iald (v := nI (M 2 1)) C 2 0 dX11_letIn_28 yc_2 rfl (by decide) (by decide) rfl ?_
      refine G_ishlN C dX11_letIn_29 (by omega) (by omega) ?_
      refine G_icmp_geN (tgt := 147) C dX11_letIn_30 (by decide) (by omega) (by omega) (fun h30_3 => ?_) (fun h30_3 => ?_)
      · refine G_iload_n C 2 dX11_letIn_147 rfl rfl ?_
        refine G_bipush C dX11_letIn_148 kB_m9 ?_
        refine G_icmp_eq (tgt := 157) C dX11_letIn_150 (by decide) (fun h150_4 => ?_) (fun h150_4 => ?_)
        · refine G_iload_n C 2 dX11_letIn_157 rfl rfl ?_
          refine G_goto (tgt := 167) C dX11_letIn_158 (by decide) ?_
          exact G_iret C hr dX11_letIn_167 (by simp only [y_letIn, h11_1, if_true, cl_q]; rw [← hi2_0, if_pos (Or.inl h150_4)]) (rfl)
        · refine G_iload_n C 1 dX11_letIn_153 rfl rfl ?_
          refine G_if_neN (tgt := 161) C dX11_letIn_154 (by decide) (by omega) (fun h154_5 => ?_) (fun h154_5 => ?_)
          · obtain ⟨k, hk64, rfl⟩ := oS_ne hi2_1 h150_4
            refine G_aload_n C 0 dX11_letIn_161 rfl rfl ?_
            refine G_iload_n C 2 dX11_letIn_162 rfl rfl ?_
            refine G_iconst C dX11_letIn_163 kI_0 ?_
            refine G_callV1 C [.int (nI k), .int (nI 0)] 0 dX11_letIn_164 (c_X11_worthOf (b := false) (by omega) hN hB) wm_1076 wm_1078 wm_48 wm_61 wm_1079 yc_0 rfl ydc_X11_worthOf rfl ⟨Nat.le_of_ble_eq_true rfl, Nat.le_of_ble_eq_true rfl⟩ ⟨rfl, rfl⟩ ⟨Nat.le_refl _, Nat.le_refl _⟩ (Nat.le_of_ble_eq_true rfl) rfl ?_
            exact G_iret C hr dX11_letIn_167 (by simp only [y_letIn, h11_1, if_true, cl_q]; rw [← hi2_0, if_neg (fun z => z.elim (fun y => nI_n9 k hk64 y) (by omega)), nI_clamp (by omega)]) (rfl)
          · refine G_iload_n C 2 dX11_letIn_157 rfl rfl ?_
            refine G_goto (tgt := 167) C dX11_letIn_158 (by decide) ?_
            exact G_iret C hr dX11_letIn_167 (by simp only [y_letIn, h11_1, if_true, cl_q]; rw [← hi2_0, if_pos (Or.inr h154_5)]) (rfl)
      · exfalso; omega
    · intro a haN ih2 b hi2_0 hi2_1
      refine G_iload_n C 3 dX11_letIn_21 rfl rfl ?_
      refine G_iconst C dX11_letIn_22 kI_1 ?_
      refine G_aload_n C 0 dX11_letIn_23 rfl rfl ?_
      refine G_get (v := .ref (ad 2)) C 0 9 dX11_letIn_24 yc_0 rfl inG11 (by decide) wm_846 rfl rfl ?_
      refine G_iconst C dX11_letIn_27 kI_1 ?_
      refine G_iald (v := nI (M 2 1)) C 2 0 dX11_letIn_28 yc_2 rfl (by decide) (by decide) rfl ?_
      refine G_ishlN C dX11_letIn_29 (by omega) (by omega) ?_
      refine G_icmp_geN (tgt := 147) C dX11_letIn_30 (by decide) (by omega) (by omega) (fun h30_6 => ?_) (fun h30_6 => ?_)
      · exfalso; omega
      · refine G_aload_n C 0 dX11_letIn_33 rfl rfl ?_
        refine G_iload_n C 3 dX11_letIn_34 rfl rfl ?_
        refine G_iconst C dX11_letIn_35 kI_1 ?_
        refine G_callV1 C [.int (nI a), .int (nI 1)] 0 dX11_letIn_36 (c_X11_worthOf (b := true) (by omega) hN hB) wm_1076 wm_1078 wm_48 wm_61 wm_1079 yc_0 rfl ydc_X11_worthOf rfl ⟨Nat.le_of_ble_eq_true rfl, Nat.le_of_ble_eq_true rfl⟩ ⟨rfl, rfl⟩ ⟨Nat.le_refl _, Nat.le_refl _⟩ (Nat.le_of_ble_eq_true rfl) rfl ?_
        refine G_istore (lv' := [(4, .int (nI (y_wo M (a) (true)))), (0, .ref (ad 0)), (1, .int (nI q)), (2, .int (b)), (3, .int (nI a))]) C dX11_letIn_39 (by decide) rfl ?_
        refine G_iload C 0 dX11_letIn_41 rfl ?_
        refine G_ldc C dX11_letIn_43 wm_1032 ?_
        refine G_top (y := nI 1000000) (by decide) ?_
        refine G_icmp_eqN (tgt := 72) C dX11_letIn_45 (by decide) (by first | decide | (have h1 := y_wo_le hB hN a true; omega)) (by first | decide | (have h1 := y_wo_le hB hN a true; omega)) (fun h45_7 => ?_) (fun h45_7 => ?_)
        · refine G_iconst C dX11_letIn_72 kI_0 ?_
          refine G_istore (lv' := [(5, .int (nI 0)), (4, .int (nI (y_wo M (a) (true)))), (0, .ref (ad 0)), (1, .int (nI q)), (2, .int (b)), (3, .int (nI a))]) C dX11_letIn_73 (by decide) rfl ?_
          refine G_iload_n C 4 dX11_letIn_75 rfl rfl ?_
          refine G_bipush C dX11_letIn_76 kB_m9 ?_
          refine G_icmp_eq (tgt := 118) C dX11_letIn_78 (by decide) (fun h78_8 => ?_) (fun h78_8 => ?_)
          · refine G_iconst C dX11_letIn_118 kI_1 ?_
            refine G_goto (tgt := 123) C dX11_letIn_119 (by decide) ?_
            refine G_istore (lv' := [(6, .int (nI 1)), (5, .int (nI 0)), (4, .int (nI (y_wo M (a) (true)))), (0, .ref (ad 0)), (1, .int (nI q)), (2, .int (b)), (3, .int (nI a))]) C dX11_letIn_123 (by decide) rfl ?_
            refine G_iload C 1 dX11_letIn_125 rfl ?_
            refine G_if_eqN (tgt := 139) C dX11_letIn_127 (by decide) (by decide) (fun h127_9 => ?_) (fun h127_9 => ?_)
            · refine G_iload_n C 5 dX11_letIn_139 rfl rfl ?_
              refine G_istore_n (lv' := [(2, .int (b)), (6, .int (nI 1)), (5, .int (nI 0)), (4, .int (nI (y_wo M (a) (true)))), (0, .ref (ad 0)), (1, .int (nI q)), (3, .int (nI a))]) C dX11_letIn_140 rfl (by decide) rfl ?_
              refine G_iincN (lv' := [(3, .int (nI (a + 1))), (2, .int (b)), (6, .int (nI 1)), (5, .int (nI 0)), (4, .int (nI (y_wo M (a) (true)))), (0, .ref (ad 0)), (1, .int (nI q))]) C 6 dX11_letIn_141 rfl (by decide) rfl ?_
              refine G_goto (tgt := 21) C dX11_letIn_144 (by decide) ?_
              refine G_pick (lv' := [(0, .ref (ad 0)), (1, .int (nI q)), (2, .int (b)), (3, .int (nI (a + 1)))]) [5, 6, 1, 0] rfl ?_
              exact ih2 _ (by have em : y_may M a = false := (by unfold y_may; simp [h45_7]); have eo : y_more M a b = true := (by unfold y_more; simp [h78_8]); rw [y_lf_s, ← hi2_0, em, eo]; rfl) hi2_1
            · exact absurd h127_9 (by decide)
          · obtain ⟨k, hk64, rfl⟩ := oS_ne hi2_1 h78_8
            refine G_iload_n C 5 dX11_letIn_81 rfl rfl ?_
            refine G_callS1 C [.int (nI a)] dX11_letIn_82 (c_X11_ones (by omega)) wm_1018 wm_1019 wm_61 wm_1020 ydc_X11_ones rfl ⟨Nat.le_of_ble_eq_true rfl, Nat.le_of_ble_eq_true rfl⟩ ⟨rfl, rfl⟩ ⟨Nat.le_refl _, Nat.le_refl _⟩ (Nat.le_of_ble_eq_true rfl) rfl ?_
            refine G_iload_n C 4 dX11_letIn_85 rfl rfl ?_
            refine G_callS1 C [.int (nI k)] dX11_letIn_86 (c_X11_ones (by omega)) wm_1018 wm_1019 wm_61 wm_1020 ydc_X11_ones rfl ⟨Nat.le_of_ble_eq_true rfl, Nat.le_of_ble_eq_true rfl⟩ ⟨rfl, rfl⟩ ⟨Nat.le_refl _, Nat.le_refl _⟩ (Nat.le_of_ble_eq_true rfl) rfl ?_
            refine G_icmp_gtN (tgt := 118) C dX11_letIn_89 (by decide) (Nat.lt_of_le_of_lt (pc6_le _ (by omega)) (by decide)) (Nat.lt_of_le_of_lt (pc6_le _ (by omega)) (by decide)) (fun h89_10 => ?_) (fun h89_10 => ?_)
            · refine G_iconst C dX11_letIn_118 kI_1 ?_
              refine G_goto (tgt := 123) C dX11_letIn_119 (by decide) ?_
              refine G_istore (lv' := [(6, .int (nI 1)), (5, .int (nI 0)), (4, .int (nI (y_wo M (a) (true)))), (0, .ref (ad 0)), (1, .int (nI q)), (2, .int (nI k)), (3, .int (nI a))]) C dX11_letIn_123 (by decide) rfl ?_
              refine G_iload C 1 dX11_letIn_125 rfl ?_
              refine G_if_eqN (tgt := 139) C dX11_letIn_127 (by decide) (by decide) (fun h127_11 => ?_) (fun h127_11 => ?_)
              · refine G_iload_n C 5 dX11_letIn_139 rfl rfl ?_
                refine G_istore_n (lv' := [(2, .int (nI k)), (6, .int (nI 1)), (5, .int (nI 0)), (4, .int (nI (y_wo M (a) (true)))), (0, .ref (ad 0)), (1, .int (nI q)), (3, .int (nI a))]) C dX11_letIn_140 rfl (by decide) rfl ?_
                refine G_iincN (lv' := [(3, .int (nI (a + 1))), (2, .int (nI k)), (6, .int (nI 1)), (5, .int (nI 0)), (4, .int (nI (y_wo M (a) (true)))), (0, .ref (ad 0)), (1, .int (nI q))]) C 6 dX11_letIn_141 rfl (by decide) rfl ?_
                refine G_goto (tgt := 21) C dX11_letIn_144 (by decide) ?_
                refine G_pick (lv' := [(0, .ref (ad 0)), (1, .int (nI q)), (2, .int (nI k)), (3, .int (nI (a + 1)))]) [5, 6, 1, 0] rfl ?_
                exact ih2 _ (by have em : y_may M a = false := (by unfold y_may; simp [h45_7]); have eo : y_more M a (nI k) = true := (by rw [y_more_s hk64]; simp [h89_10]); rw [y_lf_s, ← hi2_0, em, eo]; rfl) hi2_1
              · exact absurd h127_11 (by decide)
            · refine G_iload_n C 5 dX11_letIn_92 rfl rfl ?_
              refine G_callS1 C [.int (nI a)] dX11_letIn_93 (c_X11_ones (by omega)) wm_1018 wm_1019 wm_61 wm_1020 ydc_X11_ones rfl ⟨Nat.le_of_ble_eq_true rfl, Nat.le_of_ble_eq_true rfl⟩ ⟨rfl, rfl⟩ ⟨Nat.le_refl _, Nat.le_refl _⟩ (Nat.le_of_ble_eq_true rfl) rfl ?_
              refine G_iload_n C 4 dX11_letIn_96 rfl rfl ?_
              refine G_callS1 C [.int (nI k)] dX11_letIn_97 (c_X11_ones (by omega)) wm_1018 wm_1019 wm_61 wm_1020 ydc_X11_ones rfl ⟨Nat.le_of_ble_eq_true rfl, Nat.le_of_ble_eq_true rfl⟩ ⟨rfl, rfl⟩ ⟨Nat.le_refl _, Nat.le_refl _⟩ (Nat.le_of_ble_eq_true rfl) rfl ?_
              refine G_icmp_neN (tgt := 122) C dX11_letIn_100 (by decide) (Nat.lt_of_le_of_lt (pc6_le _ (by omega)) (by decide)) (Nat.lt_of_le_of_lt (pc6_le _ (by omega)) (by decide)) (fun h100_12 => ?_) (fun h100_12 => ?_)
              · refine G_iconst C dX11_letIn_122 kI_0 ?_
                refine G_istore (lv' := [(6, .int (nI 0)), (5, .int (nI 0)), (4, .int (nI (y_wo M (a) (true)))), (0, .ref (ad 0)), (1, .int (nI q)), (2, .int (nI k)), (3, .int (nI a))]) C dX11_letIn_123 (by decide) rfl ?_
                refine G_iload C 1 dX11_letIn_125 rfl ?_
                refine G_if_eqN (tgt := 139) C dX11_letIn_127 (by decide) (by decide) (fun h127_13 => ?_) (fun h127_13 => ?_)
                · refine G_iload_n C 5 dX11_letIn_139 rfl rfl ?_
                  refine G_istore_n (lv' := [(2, .int (nI k)), (6, .int (nI 0)), (5, .int (nI 0)), (4, .int (nI (y_wo M (a) (true)))), (0, .ref (ad 0)), (1, .int (nI q)), (3, .int (nI a))]) C dX11_letIn_140 rfl (by decide) rfl ?_
                  refine G_iincN (lv' := [(3, .int (nI (a + 1))), (2, .int (nI k)), (6, .int (nI 0)), (5, .int (nI 0)), (4, .int (nI (y_wo M (a) (true)))), (0, .ref (ad 0)), (1, .int (nI q))]) C 6 dX11_letIn_141 rfl (by decide) rfl ?_
                  refine G_goto (tgt := 21) C dX11_letIn_144 (by decide) ?_
                  refine G_pick (lv' := [(0, .ref (ad 0)), (1, .int (nI q)), (2, .int (nI k)), (3, .int (nI (a + 1)))]) [5, 6, 1, 0] rfl ?_
                  exact ih2 _ (by have em : y_may M a = false := (by unfold y_may; simp [h45_7]); have eo : y_more M a (nI k) = false := (by rw [y_more_s hk64]; simp [Nat.not_lt.mpr h89_10, h100_12]); rw [y_lf_s, ← hi2_0, em, eo]; rfl) hi2_1
                · exact absurd h127_13 (by decide)
              · refine G_aload_n C 2 dX11_letIn_103 rfl rfl ?_
                refine G_iload_n C 5 dX11_letIn_104 rfl rfl ?_
                refine G_iconst C dX11_letIn_105 kI_0 ?_
                refine G_callV1 C [.int (nI a), .int (nI 0)] 0 dX11_letIn_106 (c_X11_worthOf (b := false) (by omega) hN hB) wm_1076 wm_1078 wm_48 wm_61 wm_1079 yc_0 rfl ydc_X11_worthOf rfl ⟨Nat.le_of_ble_eq_true rfl, Nat.le_of_ble_eq_true rfl⟩ ⟨rfl, rfl⟩ ⟨Nat.le_refl _, Nat.le_refl _⟩ (Nat.le_of_ble_eq_true rfl) rfl ?_
                refine G_aload_n C 2 dX11_letIn_109 rfl rfl ?_
                refine G_iload_n C 4 dX11_letIn_110 rfl rfl ?_
                refine G_iconst C dX11_letIn_111 kI_0 ?_
                refine G_callV1 C [.int (nI k), .int (nI 0)] 0 dX11_letIn_112 (c_X11_worthOf (b := false) (by omega) hN hB) wm_1076 wm_1078 wm_48 wm_61 wm_1079 yc_0 rfl ydc_X11_worthOf rfl ⟨Nat.le_of_ble_eq_true rfl, Nat.le_of_ble_eq_true rfl⟩ ⟨rfl, rfl⟩ ⟨Nat.le_refl _, Nat.le_refl _⟩ (Nat.le_of_ble_eq_true rfl) rfl ?_
                refine G_icmp_leN (tgt := 122) C dX11_letIn_115 (by decide) (Nat.lt_of_le_of_lt (y_wo_le hB hN _ _) (by decide)) (Nat.lt_of_le_of_lt (y_wo_le hB hN _ _) (by decide)) (fun h115_14 => ?_) (fun h115_14 => ?_)
                · refine G_iconst C dX11_letIn_122 kI_0 ?_
                  refine G_istore (lv' := [(6, .int (nI 0)), (5, .int (nI 0)), (4, .int (nI (y_wo M (a) (true)))), (0, .ref (ad 0)), (1, .int (nI q)), (2, .int (nI k)), (3, .int (nI a))]) C dX11_letIn_123 (by decide) rfl ?_
                  refine G_iload C 1 dX11_letIn_125 rfl ?_
                  refine G_if_eqN (tgt := 139) C dX11_letIn_127 (by decide) (by decide) (fun h127_15 => ?_) (fun h127_15 => ?_)
                  · refine G_iload_n C 5 dX11_letIn_139 rfl rfl ?_
                    refine G_istore_n (lv' := [(2, .int (nI k)), (6, .int (nI 0)), (5, .int (nI 0)), (4, .int (nI (y_wo M (a) (true)))), (0, .ref (ad 0)), (1, .int (nI q)), (3, .int (nI a))]) C dX11_letIn_140 rfl (by decide) rfl ?_
                    refine G_iincN (lv' := [(3, .int (nI (a + 1))), (2, .int (nI k)), (6, .int (nI 0)), (5, .int (nI 0)), (4, .int (nI (y_wo M (a) (true)))), (0, .ref (ad 0)), (1, .int (nI q))]) C 6 dX11_letIn_141 rfl (by decide) rfl ?_
                    refine G_goto (tgt := 21) C dX11_letIn_144 (by decide) ?_
                    refine G_pick (lv' := [(0, .ref (ad 0)), (1, .int (nI q)), (2, .int (nI k)), (3, .int (nI (a + 1)))]) [5, 6, 1, 0] rfl ?_
                    exact ih2 _ (by have em : y_may M a = false := (by unfold y_may; simp [h45_7]); have eo : y_more M a (nI k) = false := (by rw [y_more_s hk64]; simp [Nat.not_lt.mpr h89_10, h100_12, Nat.not_lt.mpr h115_14]); rw [y_lf_s, ← hi2_0, em, eo]; rfl) hi2_1
                  · exact absurd h127_15 (by decide)
                · refine G_iconst C dX11_letIn_118 kI_1 ?_
                  refine G_goto (tgt := 123) C dX11_letIn_119 (by decide) ?_
                  refine G_istore (lv' := [(6, .int (nI 1)), (5, .int (nI 0)), (4, .int (nI (y_wo M (a) (true)))), (0, .ref (ad 0)), (1, .int (nI q)), (2, .int (nI k)), (3, .int (nI a))]) C dX11_letIn_123 (by decide) rfl ?_
                  refine G_iload C 1 dX11_letIn_125 rfl ?_
                  refine G_if_eqN (tgt := 139) C dX11_letIn_127 (by decide) (by decide) (fun h127_16 => ?_) (fun h127_16 => ?_)
                  · refine G_iload_n C 5 dX11_letIn_139 rfl rfl ?_
                    refine G_istore_n (lv' := [(2, .int (nI k)), (6, .int (nI 1)), (5, .int (nI 0)), (4, .int (nI (y_wo M (a) (true)))), (0, .ref (ad 0)), (1, .int (nI q)), (3, .int (nI a))]) C dX11_letIn_140 rfl (by decide) rfl ?_
                    refine G_iincN (lv' := [(3, .int (nI (a + 1))), (2, .int (nI k)), (6, .int (nI 1)), (5, .int (nI 0)), (4, .int (nI (y_wo M (a) (true)))), (0, .ref (ad 0)), (1, .int (nI q))]) C 6 dX11_letIn_141 rfl (by decide) rfl ?_
                    refine G_goto (tgt := 21) C dX11_letIn_144 (by decide) ?_
                    refine G_pick (lv' := [(0, .ref (ad 0)), (1, .int (nI q)), (2, .int (nI k)), (3, .int (nI (a + 1)))]) [5, 6, 1, 0] rfl ?_
                    exact ih2 _ (by have em : y_may M a = false := (by unfold y_may; simp [h45_7]); have eo : y_more M a (nI k) = true := (by rw [y_more_s hk64]; simp [Nat.not_lt.mpr h89_10, h100_12, h115_14]); rw [y_lf_s, ← hi2_0, em, eo]; rfl) hi2_1
                  · exact absurd h127_16 (by decide)
        · refine G_bipush C dX11_letIn_48 kB_10 ?_
          refine G_iload C 0 dX11_letIn_50 rfl ?_
          refine G_imulN C dX11_letIn_52 ?_
          refine G_aload_n C 1 dX11_letIn_53 rfl rfl ?_
          refine G_get (v := .ref (ad 2)) C 0 9 dX11_letIn_54 yc_0 rfl inG11 (by decide) wm_846 rfl rfl ?_
          refine G_iconst C dX11_letIn_57 kI_3 ?_
          refine G_iald (v := nI (M 2 3)) C 2 0 dX11_letIn_58 yc_2 rfl (by decide) (by decide) rfl ?_
          refine G_aload_n C 1 dX11_letIn_59 rfl rfl ?_
          refine G_iconst C dX11_letIn_60 kI_0 ?_
          refine G_callV1 C [.int (nI 0)] 0 dX11_letIn_61 (c_X11_worthOfAll (b := false) hN hB) wm_998 wm_1000 wm_45 wm_61 wm_1001 yc_0 rfl ydc_X11_worthOfAll rfl ⟨Nat.le_of_ble_eq_true rfl, Nat.le_of_ble_eq_true rfl⟩ ⟨rfl, rfl⟩ ⟨Nat.le_refl _, Nat.le_refl _⟩ (Nat.le_of_ble_eq_true rfl) rfl ?_
          refine G_imulN C dX11_letIn_64 ?_
          refine G_icmp_gtN (tgt := 72) C dX11_letIn_65 (by decide) (by have h1 := y_wo_le hB hN a true; have h2 := y_wal_le hB false (M 2 1); have h3 := hB 2 3; have h4 : M 2 3 * y_wal M false (M 2 1) ≤ 1024 * 6144 := Nat.mul_le_mul (by omega) (by omega); omega) (by have h1 := y_wo_le hB hN a true; have h2 := y_wal_le hB false (M 2 1); have h3 := hB 2 3; have h4 : M 2 3 * y_wal M false (M 2 1) ≤ 1024 * 6144 := Nat.mul_le_mul (by omega) (by omega); omega) (fun h65_17 => ?_) (fun h65_17 => ?_)
          · refine G_iconst C dX11_letIn_72 kI_0 ?_
            refine G_istore (lv' := [(5, .int (nI 0)), (4, .int (nI (y_wo M (a) (true)))), (0, .ref (ad 0)), (1, .int (nI q)), (2, .int (b)), (3, .int (nI a))]) C dX11_letIn_73 (by decide) rfl ?_
            refine G_iload_n C 4 dX11_letIn_75 rfl rfl ?_
            refine G_bipush C dX11_letIn_76 kB_m9 ?_
            refine G_icmp_eq (tgt := 118) C dX11_letIn_78 (by decide) (fun h78_18 => ?_) (fun h78_18 => ?_)
            · refine G_iconst C dX11_letIn_118 kI_1 ?_
              refine G_goto (tgt := 123) C dX11_letIn_119 (by decide) ?_
              refine G_istore (lv' := [(6, .int (nI 1)), (5, .int (nI 0)), (4, .int (nI (y_wo M (a) (true)))), (0, .ref (ad 0)), (1, .int (nI q)), (2, .int (b)), (3, .int (nI a))]) C dX11_letIn_123 (by decide) rfl ?_
              refine G_iload C 1 dX11_letIn_125 rfl ?_
              refine G_if_eqN (tgt := 139) C dX11_letIn_127 (by decide) (by decide) (fun h127_19 => ?_) (fun h127_19 => ?_)
              · refine G_iload_n C 5 dX11_letIn_139 rfl rfl ?_
                refine G_istore_n (lv' := [(2, .int (b)), (6, .int (nI 1)), (5, .int (nI 0)), (4, .int (nI (y_wo M (a) (true)))), (0, .ref (ad 0)), (1, .int (nI q)), (3, .int (nI a))]) C dX11_letIn_140 rfl (by decide) rfl ?_
                refine G_iincN (lv' := [(3, .int (nI (a + 1))), (2, .int (b)), (6, .int (nI 1)), (5, .int (nI 0)), (4, .int (nI (y_wo M (a) (true)))), (0, .ref (ad 0)), (1, .int (nI q))]) C 6 dX11_letIn_141 rfl (by decide) rfl ?_
                refine G_goto (tgt := 21) C dX11_letIn_144 (by decide) ?_
                refine G_pick (lv' := [(0, .ref (ad 0)), (1, .int (nI q)), (2, .int (b)), (3, .int (nI (a + 1)))]) [5, 6, 1, 0] rfl ?_
                exact ih2 _ (by have em : y_may M a = false := (by unfold y_may; simp [h45_7, Nat.not_le.mpr h65_17]); have eo : y_more M a b = true := (by unfold y_more; simp [h78_18]); rw [y_lf_s, ← hi2_0, em, eo]; rfl) hi2_1
              · exact absurd h127_19 (by decide)
            · obtain ⟨k, hk64, rfl⟩ := oS_ne hi2_1 h78_18
              refine G_iload_n C 5 dX11_letIn_81 rfl rfl ?_
              refine G_callS1 C [.int (nI a)] dX11_letIn_82 (c_X11_ones (by omega)) wm_1018 wm_1019 wm_61 wm_1020 ydc_X11_ones rfl ⟨Nat.le_of_ble_eq_true rfl, Nat.le_of_ble_eq_true rfl⟩ ⟨rfl, rfl⟩ ⟨Nat.le_refl _, Nat.le_refl _⟩ (Nat.le_of_ble_eq_true rfl) rfl ?_
              refine G_iload_n C 4 dX11_letIn_85 rfl rfl ?_
              refine G_callS1 C [.int (nI k)] dX11_letIn_86 (c_X11_ones (by omega)) wm_1018 wm_1019 wm_61 wm_1020 ydc_X11_ones rfl ⟨Nat.le_of_ble_eq_true rfl, Nat.le_of_ble_eq_true rfl⟩ ⟨rfl, rfl⟩ ⟨Nat.le_refl _, Nat.le_refl _⟩ (Nat.le_of_ble_eq_true rfl) rfl ?_
              refine G_icmp_gtN (tgt := 118) C dX11_letIn_89 (by decide) (Nat.lt_of_le_of_lt (pc6_le _ (by omega)) (by decide)) (Nat.lt_of_le_of_lt (pc6_le _ (by omega)) (by decide)) (fun h89_20 => ?_) (fun h89_20 => ?_)
              · refine G_iconst C dX11_letIn_118 kI_1 ?_
                refine G_goto (tgt := 123) C dX11_letIn_119 (by decide) ?_
                refine G_istore (lv' := [(6, .int (nI 1)), (5, .int (nI 0)), (4, .int (nI (y_wo M (a) (true)))), (0, .ref (ad 0)), (1, .int (nI q)), (2, .int (nI k)), (3, .int (nI a))]) C dX11_letIn_123 (by decide) rfl ?_
                refine G_iload C 1 dX11_letIn_125 rfl ?_
                refine G_if_eqN (tgt := 139) C dX11_letIn_127 (by decide) (by decide) (fun h127_21 => ?_) (fun h127_21 => ?_)
                · refine G_iload_n C 5 dX11_letIn_139 rfl rfl ?_
                  refine G_istore_n (lv' := [(2, .int (nI k)), (6, .int (nI 1)), (5, .int (nI 0)), (4, .int (nI (y_wo M (a) (true)))), (0, .ref (ad 0)), (1, .int (nI q)), (3, .int (nI a))]) C dX11_letIn_140 rfl (by decide) rfl ?_
                  refine G_iincN (lv' := [(3, .int (nI (a + 1))), (2, .int (nI k)), (6, .int (nI 1)), (5, .int (nI 0)), (4, .int (nI (y_wo M (a) (true)))), (0, .ref (ad 0)), (1, .int (nI q))]) C 6 dX11_letIn_141 rfl (by decide) rfl ?_
                  refine G_goto (tgt := 21) C dX11_letIn_144 (by decide) ?_
                  refine G_pick (lv' := [(0, .ref (ad 0)), (1, .int (nI q)), (2, .int (nI k)), (3, .int (nI (a + 1)))]) [5, 6, 1, 0] rfl ?_
                  exact ih2 _ (by have em : y_may M a = false := (by unfold y_may; simp [h45_7, Nat.not_le.mpr h65_17]); have eo : y_more M a (nI k) = true := (by rw [y_more_s hk64]; simp [h89_20]); rw [y_lf_s, ← hi2_0, em, eo]; rfl) hi2_1
                · exact absurd h127_21 (by decide)
              · refine G_iload_n C 5 dX11_letIn_92 rfl rfl ?_
                refine G_callS1 C [.int (nI a)] dX11_letIn_93 (c_X11_ones (by omega)) wm_1018 wm_1019 wm_61 wm_1020 ydc_X11_ones rfl ⟨Nat.le_of_ble_eq_true rfl, Nat.le_of_ble_eq_true rfl⟩ ⟨rfl, rfl⟩ ⟨Nat.le_refl _, Nat.le_refl _⟩ (Nat.le_of_ble_eq_true rfl) rfl ?_
                refine G_iload_n C 4 dX11_letIn_96 rfl rfl ?_
                refine G_callS1 C [.int (nI k)] dX11_letIn_97 (c_X11_ones (by omega)) wm_1018 wm_1019 wm_61 wm_1020 ydc_X11_ones rfl ⟨Nat.le_of_ble_eq_true rfl, Nat.le_of_ble_eq_true rfl⟩ ⟨rfl, rfl⟩ ⟨Nat.le_refl _, Nat.le_refl _⟩ (Nat.le_of_ble_eq_true rfl) rfl ?_
                refine G_icmp_neN (tgt := 122) C dX11_letIn_100 (by decide) (Nat.lt_of_le_of_lt (pc6_le _ (by omega)) (by decide)) (Nat.lt_of_le_of_lt (pc6_le _ (by omega)) (by decide)) (fun h100_22 => ?_) (fun h100_22 => ?_)
                · refine G_iconst C dX11_letIn_122 kI_0 ?_
                  refine G_istore (lv' := [(6, .int (nI 0)), (5, .int (nI 0)), (4, .int (nI (y_wo M (a) (true)))), (0, .ref (ad 0)), (1, .int (nI q)), (2, .int (nI k)), (3, .int (nI a))]) C dX11_letIn_123 (by decide) rfl ?_
                  refine G_iload C 1 dX11_letIn_125 rfl ?_
                  refine G_if_eqN (tgt := 139) C dX11_letIn_127 (by decide) (by decide) (fun h127_23 => ?_) (fun h127_23 => ?_)
                  · refine G_iload_n C 5 dX11_letIn_139 rfl rfl ?_
                    refine G_istore_n (lv' := [(2, .int (nI k)), (6, .int (nI 0)), (5, .int (nI 0)), (4, .int (nI (y_wo M (a) (true)))), (0, .ref (ad 0)), (1, .int (nI q)), (3, .int (nI a))]) C dX11_letIn_140 rfl (by decide) rfl ?_
                    refine G_iincN (lv' := [(3, .int (nI (a + 1))), (2, .int (nI k)), (6, .int (nI 0)), (5, .int (nI 0)), (4, .int (nI (y_wo M (a) (true)))), (0, .ref (ad 0)), (1, .int (nI q))]) C 6 dX11_letIn_141 rfl (by decide) rfl ?_
                    refine G_goto (tgt := 21) C dX11_letIn_144 (by decide) ?_
                    refine G_pick (lv' := [(0, .ref (ad 0)), (1, .int (nI q)), (2, .int (nI k)), (3, .int (nI (a + 1)))]) [5, 6, 1, 0] rfl ?_
                    exact ih2 _ (by have em : y_may M a = false := (by unfold y_may; simp [h45_7, Nat.not_le.mpr h65_17]); have eo : y_more M a (nI k) = false := (by rw [y_more_s hk64]; simp [Nat.not_lt.mpr h89_20, h100_22]); rw [y_lf_s, ← hi2_0, em, eo]; rfl) hi2_1
                  · exact absurd h127_23 (by decide)
                · refine G_aload_n C 2 dX11_letIn_103 rfl rfl ?_
                  refine G_iload_n C 5 dX11_letIn_104 rfl rfl ?_
                  refine G_iconst C dX11_letIn_105 kI_0 ?_
                  refine G_callV1 C [.int (nI a), .int (nI 0)] 0 dX11_letIn_106 (c_X11_worthOf (b := false) (by omega) hN hB) wm_1076 wm_1078 wm_48 wm_61 wm_1079 yc_0 rfl ydc_X11_worthOf rfl ⟨Nat.le_of_ble_eq_true rfl, Nat.le_of_ble_eq_true rfl⟩ ⟨rfl, rfl⟩ ⟨Nat.le_refl _, Nat.le_refl _⟩ (Nat.le_of_ble_eq_true rfl) rfl ?_
                  refine G_aload_n C 2 dX11_letIn_109 rfl rfl ?_
                  refine G_iload_n C 4 dX11_letIn_110 rfl rfl ?_
                  refine G_iconst C dX11_letIn_111 kI_0 ?_
                  refine G_callV1 C [.int (nI k), .int (nI 0)] 0 dX11_letIn_112 (c_X11_worthOf (b := false) (by omega) hN hB) wm_1076 wm_1078 wm_48 wm_61 wm_1079 yc_0 rfl ydc_X11_worthOf rfl ⟨Nat.le_of_ble_eq_true rfl, Nat.le_of_ble_eq_true rfl⟩ ⟨rfl, rfl⟩ ⟨Nat.le_refl _, Nat.le_refl _⟩ (Nat.le_of_ble_eq_true rfl) rfl ?_
                  refine G_icmp_leN (tgt := 122) C dX11_letIn_115 (by decide) (Nat.lt_of_le_of_lt (y_wo_le hB hN _ _) (by decide)) (Nat.lt_of_le_of_lt (y_wo_le hB hN _ _) (by decide)) (fun h115_24 => ?_) (fun h115_24 => ?_)
                  · refine G_iconst C dX11_letIn_122 kI_0 ?_
                    refine G_istore (lv' := [(6, .int (nI 0)), (5, .int (nI 0)), (4, .int (nI (y_wo M (a) (true)))), (0, .ref (ad 0)), (1, .int (nI q)), (2, .int (nI k)), (3, .int (nI a))]) C dX11_letIn_123 (by decide) rfl ?_
                    refine G_iload C 1 dX11_letIn_125 rfl ?_
                    refine G_if_eqN (tgt := 139) C dX11_letIn_127 (by decide) (by decide) (fun h127_25 => ?_) (fun h127_25 => ?_)
                    · refine G_iload_n C 5 dX11_letIn_139 rfl rfl ?_
                      refine G_istore_n (lv' := [(2, .int (nI k)), (6, .int (nI 0)), (5, .int (nI 0)), (4, .int (nI (y_wo M (a) (true)))), (0, .ref (ad 0)), (1, .int (nI q)), (3, .int (nI a))]) C dX11_letIn_140 rfl (by decide) rfl ?_
                      refine G_iincN (lv' := [(3, .int (nI (a + 1))), (2, .int (nI k)), (6, .int (nI 0)), (5, .int (nI 0)), (4, .int (nI (y_wo M (a) (true)))), (0, .ref (ad 0)), (1, .int (nI q))]) C 6 dX11_letIn_141 rfl (by decide) rfl ?_
                      refine G_goto (tgt := 21) C dX11_letIn_144 (by decide) ?_
                      refine G_pick (lv' := [(0, .ref (ad 0)), (1, .int (nI q)), (2, .int (nI k)), (3, .int (nI (a + 1)))]) [5, 6, 1, 0] rfl ?_
                      exact ih2 _ (by have em : y_may M a = false := (by unfold y_may; simp [h45_7, Nat.not_le.mpr h65_17]); have eo : y_more M a (nI k) = false := (by rw [y_more_s hk64]; simp [Nat.not_lt.mpr h89_20, h100_22, Nat.not_lt.mpr h115_24]); rw [y_lf_s, ← hi2_0, em, eo]; rfl) hi2_1
                    · exact absurd h127_25 (by decide)
                  · refine G_iconst C dX11_letIn_118 kI_1 ?_
                    refine G_goto (tgt := 123) C dX11_letIn_119 (by decide) ?_
                    refine G_istore (lv' := [(6, .int (nI 1)), (5, .int (nI 0)), (4, .int (nI (y_wo M (a) (true)))), (0, .ref (ad 0)), (1, .int (nI q)), (2, .int (nI k)), (3, .int (nI a))]) C dX11_letIn_123 (by decide) rfl ?_
                    refine G_iload C 1 dX11_letIn_125 rfl ?_
                    refine G_if_eqN (tgt := 139) C dX11_letIn_127 (by decide) (by decide) (fun h127_26 => ?_) (fun h127_26 => ?_)
                    · refine G_iload_n C 5 dX11_letIn_139 rfl rfl ?_
                      refine G_istore_n (lv' := [(2, .int (nI k)), (6, .int (nI 1)), (5, .int (nI 0)), (4, .int (nI (y_wo M (a) (true)))), (0, .ref (ad 0)), (1, .int (nI q)), (3, .int (nI a))]) C dX11_letIn_140 rfl (by decide) rfl ?_
                      refine G_iincN (lv' := [(3, .int (nI (a + 1))), (2, .int (nI k)), (6, .int (nI 1)), (5, .int (nI 0)), (4, .int (nI (y_wo M (a) (true)))), (0, .ref (ad 0)), (1, .int (nI q))]) C 6 dX11_letIn_141 rfl (by decide) rfl ?_
                      refine G_goto (tgt := 21) C dX11_letIn_144 (by decide) ?_
                      refine G_pick (lv' := [(0, .ref (ad 0)), (1, .int (nI q)), (2, .int (nI k)), (3, .int (nI (a + 1)))]) [5, 6, 1, 0] rfl ?_
                      exact ih2 _ (by have em : y_may M a = false := (by unfold y_may; simp [h45_7, Nat.not_le.mpr h65_17]); have eo : y_more M a (nI k) = true := (by rw [y_more_s hk64]; simp [Nat.not_lt.mpr h89_20, h100_22, h115_24]); rw [y_lf_s, ← hi2_0, em, eo]; rfl) hi2_1
                    · exact absurd h127_26 (by decide)
          · refine G_iconst C dX11_letIn_68 kI_1 ?_
            refine G_goto (tgt := 73) C dX11_letIn_69 (by decide) ?_
            refine G_istore (lv' := [(5, .int (nI 1)), (4, .int (nI (y_wo M (a) (true)))), (0, .ref (ad 0)), (1, .int (nI q)), (2, .int (b)), (3, .int (nI a))]) C dX11_letIn_73 (by decide) rfl ?_
            refine G_iload_n C 4 dX11_letIn_75 rfl rfl ?_
            refine G_bipush C dX11_letIn_76 kB_m9 ?_
            refine G_icmp_eq (tgt := 118) C dX11_letIn_78 (by decide) (fun h78_27 => ?_) (fun h78_27 => ?_)
            · refine G_iconst C dX11_letIn_118 kI_1 ?_
              refine G_goto (tgt := 123) C dX11_letIn_119 (by decide) ?_
              refine G_istore (lv' := [(6, .int (nI 1)), (5, .int (nI 1)), (4, .int (nI (y_wo M (a) (true)))), (0, .ref (ad 0)), (1, .int (nI q)), (2, .int (b)), (3, .int (nI a))]) C dX11_letIn_123 (by decide) rfl ?_
              refine G_iload C 1 dX11_letIn_125 rfl ?_
              refine G_if_eqN (tgt := 139) C dX11_letIn_127 (by decide) (by decide) (fun h127_28 => ?_) (fun h127_28 => ?_)
              · exact absurd h127_28 (by decide)
              · refine G_iload C 0 dX11_letIn_130 rfl ?_
                refine G_if_eqN (tgt := 139) C dX11_letIn_132 (by decide) (by decide) (fun h132_29 => ?_) (fun h132_29 => ?_)
                · exact absurd h132_29 (by decide)
                · refine G_iload_n C 6 dX11_letIn_135 rfl rfl ?_
                  refine G_goto (tgt := 140) C dX11_letIn_136 (by decide) ?_
                  refine G_istore_n (lv' := [(2, .int (nI a)), (6, .int (nI 1)), (5, .int (nI 1)), (4, .int (nI (y_wo M (a) (true)))), (0, .ref (ad 0)), (1, .int (nI q)), (3, .int (nI a))]) C dX11_letIn_140 rfl (by decide) rfl ?_
                  refine G_iincN (lv' := [(3, .int (nI (a + 1))), (2, .int (nI a)), (6, .int (nI 1)), (5, .int (nI 1)), (4, .int (nI (y_wo M (a) (true)))), (0, .ref (ad 0)), (1, .int (nI q))]) C 6 dX11_letIn_141 rfl (by decide) rfl ?_
                  refine G_goto (tgt := 21) C dX11_letIn_144 (by decide) ?_
                  refine G_pick (lv' := [(0, .ref (ad 0)), (1, .int (nI q)), (2, .int (nI a)), (3, .int (nI (a + 1)))]) [5, 6, 1, 0] rfl ?_
                  exact ih2 _ (by have em : y_may M a = true := (by unfold y_may; simp [h45_7, h65_17]); have eo : y_more M a b = true := (by unfold y_more; simp [h78_27]); rw [y_lf_s, ← hi2_0, em, eo]; rfl) (Or.inr ⟨a, by omega, rfl⟩)
            · obtain ⟨k, hk64, rfl⟩ := oS_ne hi2_1 h78_27
              refine G_iload_n C 5 dX11_letIn_81 rfl rfl ?_
              refine G_callS1 C [.int (nI a)] dX11_letIn_82 (c_X11_ones (by omega)) wm_1018 wm_1019 wm_61 wm_1020 ydc_X11_ones rfl ⟨Nat.le_of_ble_eq_true rfl, Nat.le_of_ble_eq_true rfl⟩ ⟨rfl, rfl⟩ ⟨Nat.le_refl _, Nat.le_refl _⟩ (Nat.le_of_ble_eq_true rfl) rfl ?_
              refine G_iload_n C 4 dX11_letIn_85 rfl rfl ?_
              refine G_callS1 C [.int (nI k)] dX11_letIn_86 (c_X11_ones (by omega)) wm_1018 wm_1019 wm_61 wm_1020 ydc_X11_ones rfl ⟨Nat.le_of_ble_eq_true rfl, Nat.le_of_ble_eq_true rfl⟩ ⟨rfl, rfl⟩ ⟨Nat.le_refl _, Nat.le_refl _⟩ (Nat.le_of_ble_eq_true rfl) rfl ?_
              refine G_icmp_gtN (tgt := 118) C dX11_letIn_89 (by decide) (Nat.lt_of_le_of_lt (pc6_le _ (by omega)) (by decide)) (Nat.lt_of_le_of_lt (pc6_le _ (by omega)) (by decide)) (fun h89_30 => ?_) (fun h89_30 => ?_)
              · refine G_iconst C dX11_letIn_118 kI_1 ?_
                refine G_goto (tgt := 123) C dX11_letIn_119 (by decide) ?_
                refine G_istore (lv' := [(6, .int (nI 1)), (5, .int (nI 1)), (4, .int (nI (y_wo M (a) (true)))), (0, .ref (ad 0)), (1, .int (nI q)), (2, .int (nI k)), (3, .int (nI a))]) C dX11_letIn_123 (by decide) rfl ?_
                refine G_iload C 1 dX11_letIn_125 rfl ?_
                refine G_if_eqN (tgt := 139) C dX11_letIn_127 (by decide) (by decide) (fun h127_31 => ?_) (fun h127_31 => ?_)
                · exact absurd h127_31 (by decide)
                · refine G_iload C 0 dX11_letIn_130 rfl ?_
                  refine G_if_eqN (tgt := 139) C dX11_letIn_132 (by decide) (by decide) (fun h132_32 => ?_) (fun h132_32 => ?_)
                  · exact absurd h132_32 (by decide)
                  · refine G_iload_n C 6 dX11_letIn_135 rfl rfl ?_
                    refine G_goto (tgt := 140) C dX11_letIn_136 (by decide) ?_
                    refine G_istore_n (lv' := [(2, .int (nI a)), (6, .int (nI 1)), (5, .int (nI 1)), (4, .int (nI (y_wo M (a) (true)))), (0, .ref (ad 0)), (1, .int (nI q)), (3, .int (nI a))]) C dX11_letIn_140 rfl (by decide) rfl ?_
                    refine G_iincN (lv' := [(3, .int (nI (a + 1))), (2, .int (nI a)), (6, .int (nI 1)), (5, .int (nI 1)), (4, .int (nI (y_wo M (a) (true)))), (0, .ref (ad 0)), (1, .int (nI q))]) C 6 dX11_letIn_141 rfl (by decide) rfl ?_
                    refine G_goto (tgt := 21) C dX11_letIn_144 (by decide) ?_
                    refine G_pick (lv' := [(0, .ref (ad 0)), (1, .int (nI q)), (2, .int (nI a)), (3, .int (nI (a + 1)))]) [5, 6, 1, 0] rfl ?_
                    exact ih2 _ (by have em : y_may M a = true := (by unfold y_may; simp [h45_7, h65_17]); have eo : y_more M a (nI k) = true := (by rw [y_more_s hk64]; simp [h89_30]); rw [y_lf_s, ← hi2_0, em, eo]; rfl) (Or.inr ⟨a, by omega, rfl⟩)
              · refine G_iload_n C 5 dX11_letIn_92 rfl rfl ?_
                refine G_callS1 C [.int (nI a)] dX11_letIn_93 (c_X11_ones (by omega)) wm_1018 wm_1019 wm_61 wm_1020 ydc_X11_ones rfl ⟨Nat.le_of_ble_eq_true rfl, Nat.le_of_ble_eq_true rfl⟩ ⟨rfl, rfl⟩ ⟨Nat.le_refl _, Nat.le_refl _⟩ (Nat.le_of_ble_eq_true rfl) rfl ?_
                refine G_iload_n C 4 dX11_letIn_96 rfl rfl ?_
                refine G_callS1 C [.int (nI k)] dX11_letIn_97 (c_X11_ones (by omega)) wm_1018 wm_1019 wm_61 wm_1020 ydc_X11_ones rfl ⟨Nat.le_of_ble_eq_true rfl, Nat.le_of_ble_eq_true rfl⟩ ⟨rfl, rfl⟩ ⟨Nat.le_refl _, Nat.le_refl _⟩ (Nat.le_of_ble_eq_true rfl) rfl ?_
                refine G_icmp_neN (tgt := 122) C dX11_letIn_100 (by decide) (Nat.lt_of_le_of_lt (pc6_le _ (by omega)) (by decide)) (Nat.lt_of_le_of_lt (pc6_le _ (by omega)) (by decide)) (fun h100_33 => ?_) (fun h100_33 => ?_)
                · refine G_iconst C dX11_letIn_122 kI_0 ?_
                  refine G_istore (lv' := [(6, .int (nI 0)), (5, .int (nI 1)), (4, .int (nI (y_wo M (a) (true)))), (0, .ref (ad 0)), (1, .int (nI q)), (2, .int (nI k)), (3, .int (nI a))]) C dX11_letIn_123 (by decide) rfl ?_
                  refine G_iload C 1 dX11_letIn_125 rfl ?_
                  refine G_if_eqN (tgt := 139) C dX11_letIn_127 (by decide) (by decide) (fun h127_34 => ?_) (fun h127_34 => ?_)
                  · exact absurd h127_34 (by decide)
                  · refine G_iload C 0 dX11_letIn_130 rfl ?_
                    refine G_if_eqN (tgt := 139) C dX11_letIn_132 (by decide) (by decide) (fun h132_35 => ?_) (fun h132_35 => ?_)
                    · refine G_iload_n C 5 dX11_letIn_139 rfl rfl ?_
                      refine G_istore_n (lv' := [(2, .int (nI k)), (6, .int (nI 0)), (5, .int (nI 1)), (4, .int (nI (y_wo M (a) (true)))), (0, .ref (ad 0)), (1, .int (nI q)), (3, .int (nI a))]) C dX11_letIn_140 rfl (by decide) rfl ?_
                      refine G_iincN (lv' := [(3, .int (nI (a + 1))), (2, .int (nI k)), (6, .int (nI 0)), (5, .int (nI 1)), (4, .int (nI (y_wo M (a) (true)))), (0, .ref (ad 0)), (1, .int (nI q))]) C 6 dX11_letIn_141 rfl (by decide) rfl ?_
                      refine G_goto (tgt := 21) C dX11_letIn_144 (by decide) ?_
                      refine G_pick (lv' := [(0, .ref (ad 0)), (1, .int (nI q)), (2, .int (nI k)), (3, .int (nI (a + 1)))]) [5, 6, 1, 0] rfl ?_
                      exact ih2 _ (by have em : y_may M a = true := (by unfold y_may; simp [h45_7, h65_17]); have eo : y_more M a (nI k) = false := (by rw [y_more_s hk64]; simp [Nat.not_lt.mpr h89_30, h100_33]); rw [y_lf_s, ← hi2_0, em, eo]; rfl) hi2_1
                    · exact absurd h132_35 (by decide)
                · refine G_aload_n C 2 dX11_letIn_103 rfl rfl ?_
                  refine G_iload_n C 5 dX11_letIn_104 rfl rfl ?_
                  refine G_iconst C dX11_letIn_105 kI_0 ?_
                  refine G_callV1 C [.int (nI a), .int (nI 0)] 0 dX11_letIn_106 (c_X11_worthOf (b := false) (by omega) hN hB) wm_1076 wm_1078 wm_48 wm_61 wm_1079 yc_0 rfl ydc_X11_worthOf rfl ⟨Nat.le_of_ble_eq_true rfl, Nat.le_of_ble_eq_true rfl⟩ ⟨rfl, rfl⟩ ⟨Nat.le_refl _, Nat.le_refl _⟩ (Nat.le_of_ble_eq_true rfl) rfl ?_
                  refine G_aload_n C 2 dX11_letIn_109 rfl rfl ?_
                  refine G_iload_n C 4 dX11_letIn_110 rfl rfl ?_
                  refine G_iconst C dX11_letIn_111 kI_0 ?_
                  refine G_callV1 C [.int (nI k), .int (nI 0)] 0 dX11_letIn_112 (c_X11_worthOf (b := false) (by omega) hN hB) wm_1076 wm_1078 wm_48 wm_61 wm_1079 yc_0 rfl ydc_X11_worthOf rfl ⟨Nat.le_of_ble_eq_true rfl, Nat.le_of_ble_eq_true rfl⟩ ⟨rfl, rfl⟩ ⟨Nat.le_refl _, Nat.le_refl _⟩ (Nat.le_of_ble_eq_true rfl) rfl ?_
                  refine G_icmp_leN (tgt := 122) C dX11_letIn_115 (by decide) (Nat.lt_of_le_of_lt (y_wo_le hB hN _ _) (by decide)) (Nat.lt_of_le_of_lt (y_wo_le hB hN _ _) (by decide)) (fun h115_36 => ?_) (fun h115_36 => ?_)
                  · refine G_iconst C dX11_letIn_122 kI_0 ?_
                    refine G_istore (lv' := [(6, .int (nI 0)), (5, .int (nI 1)), (4, .int (nI (y_wo M (a) (true)))), (0, .ref (ad 0)), (1, .int (nI q)), (2, .int (nI k)), (3, .int (nI a))]) C dX11_letIn_123 (by decide) rfl ?_
                    refine G_iload C 1 dX11_letIn_125 rfl ?_
                    refine G_if_eqN (tgt := 139) C dX11_letIn_127 (by decide) (by decide) (fun h127_37 => ?_) (fun h127_37 => ?_)
                    · exact absurd h127_37 (by decide)
                    · refine G_iload C 0 dX11_letIn_130 rfl ?_
                      refine G_if_eqN (tgt := 139) C dX11_letIn_132 (by decide) (by decide) (fun h132_38 => ?_) (fun h132_38 => ?_)
                      · refine G_iload_n C 5 dX11_letIn_139 rfl rfl ?_
                        refine G_istore_n (lv' := [(2, .int (nI k)), (6, .int (nI 0)), (5, .int (nI 1)), (4, .int (nI (y_wo M (a) (true)))), (0, .ref (ad 0)), (1, .int (nI q)), (3, .int (nI a))]) C dX11_letIn_140 rfl (by decide) rfl ?_
                        refine G_iincN (lv' := [(3, .int (nI (a + 1))), (2, .int (nI k)), (6, .int (nI 0)), (5, .int (nI 1)), (4, .int (nI (y_wo M (a) (true)))), (0, .ref (ad 0)), (1, .int (nI q))]) C 6 dX11_letIn_141 rfl (by decide) rfl ?_
                        refine G_goto (tgt := 21) C dX11_letIn_144 (by decide) ?_
                        refine G_pick (lv' := [(0, .ref (ad 0)), (1, .int (nI q)), (2, .int (nI k)), (3, .int (nI (a + 1)))]) [5, 6, 1, 0] rfl ?_
                        exact ih2 _ (by have em : y_may M a = true := (by unfold y_may; simp [h45_7, h65_17]); have eo : y_more M a (nI k) = false := (by rw [y_more_s hk64]; simp [Nat.not_lt.mpr h89_30, h100_33, Nat.not_lt.mpr h115_36]); rw [y_lf_s, ← hi2_0, em, eo]; rfl) hi2_1
                      · exact absurd h132_38 (by decide)
                  · refine G_iconst C dX11_letIn_118 kI_1 ?_
                    refine G_goto (tgt := 123) C dX11_letIn_119 (by decide) ?_
                    refine G_istore (lv' := [(6, .int (nI 1)), (5, .int (nI 1)), (4, .int (nI (y_wo M (a) (true)))), (0, .ref (ad 0)), (1, .int (nI q)), (2, .int (nI k)), (3, .int (nI a))]) C dX11_letIn_123 (by decide) rfl ?_
                    refine G_iload C 1 dX11_letIn_125 rfl ?_
                    refine G_if_eqN (tgt := 139) C dX11_letIn_127 (by decide) (by decide) (fun h127_39 => ?_) (fun h127_39 => ?_)
                    · exact absurd h127_39 (by decide)
                    · refine G_iload C 0 dX11_letIn_130 rfl ?_
                      refine G_if_eqN (tgt := 139) C dX11_letIn_132 (by decide) (by decide) (fun h132_40 => ?_) (fun h132_40 => ?_)
                      · exact absurd h132_40 (by decide)
                      · refine G_iload_n C 6 dX11_letIn_135 rfl rfl ?_
                        refine G_goto (tgt := 140) C dX11_letIn_136 (by decide) ?_
                        refine G_istore_n (lv' := [(2, .int (nI a)), (6, .int (nI 1)), (5, .int (nI 1)), (4, .int (nI (y_wo M (a) (true)))), (0, .ref (ad 0)), (1, .int (nI q)), (3, .int (nI a))]) C dX11_letIn_140 rfl (by decide) rfl ?_
                        refine G_iincN (lv' := [(3, .int (nI (a + 1))), (2, .int (nI a)), (6, .int (nI 1)), (5, .int (nI 1)), (4, .int (nI (y_wo M (a) (true)))), (0, .ref (ad 0)), (1, .int (nI q))]) C 6 dX11_letIn_141 rfl (by decide) rfl ?_
                        refine G_goto (tgt := 21) C dX11_letIn_144 (by decide) ?_
                        refine G_pick (lv' := [(0, .ref (ad 0)), (1, .int (nI q)), (2, .int (nI a)), (3, .int (nI (a + 1)))]) [5, 6, 1, 0] rfl ?_
                        exact ih2 _ (by have em : y_may M a = true := (by unfold y_may; simp [h45_7, h65_17]); have eo : y_more M a (nI k) = true := (by rw [y_more_s hk64]; simp [Nat.not_lt.mpr h89_30, h100_33, h115_36]); rw [y_lf_s, ← hi2_0, em, eo]; rfl) (Or.inr ⟨a, by omega, rfl⟩)
  · refine G_iconst C dX11_letIn_14 kI_m1 ?_
    exact G_iret C hr dX11_letIn_15 (by simp [y_letIn, h11_1]) (rfl)
set_option maxHeartbeats 4000000 in
set_option maxRecDepth 100000 in
theorem c_X11_passings {a h : Nat} (ha : a < 64) (hh : h < 31) : CT l yX11_passings cX11_passings 3 (some .int) (rmOf 1 22) D (tyI cI cZ) [.int (nI a), .int (nI h)] (wY cI cZ ad M t) (some (.int (nI (y_ps a h)))) (wY cI cZ ad M t) := by
  refine CT_of (own := "FalseParityModel") (by decide) rfl (Nat.le_of_ble_eq_true rfl) (fun p e s m args below meth c C hr => ?_)
  refine G_iload_n C 0 dX11_passings_0 rfl rfl ?_
  refine G_iconst C dX11_passings_1 kI_1 ?_
  refine G_iload_n C 1 dX11_passings_2 rfl rfl ?_
  refine G_ishlN C dX11_passings_3 (by omega) (sh1 (by omega)) ?_
  refine G_iconst C dX11_passings_4 kI_m1 ?_
  refine G_ixor C dX11_passings_5 ?_
  refine G_iand C dX11_passings_6 ?_
  refine G_istore_n (lv' := [(2, .int ((nI (a)) &&& ((nI (1 * 2 ^ h)) ^^^ (-1)))), (0, .int (nI a)), (1, .int (nI h))]) C dX11_passings_7 rfl (by decide) rfl ?_
  refine G_iload_n C 0 dX11_passings_8 rfl rfl ?_
  refine G_if_ne (tgt := 16) C dX11_passings_9 (by decide) (fun h9_1 => ?_) (fun h9_1 => ?_)
  · refine G_iload_n C 1 dX11_passings_16 rfl rfl ?_
    refine G_callS1 C [.int (nI a)] dX11_passings_17 (c_X11_ones (by omega)) wm_1018 wm_1019 wm_61 wm_1020 ydc_X11_ones rfl ⟨Nat.le_of_ble_eq_true rfl, Nat.le_of_ble_eq_true rfl⟩ ⟨rfl, rfl⟩ ⟨Nat.le_refl _, Nat.le_refl _⟩ (Nat.le_of_ble_eq_true rfl) rfl ?_
    refine G_iconst C dX11_passings_20 kI_1 ?_
    refine G_icmp_leN (tgt := 29) C dX11_passings_21 (by decide) (by have := pc6_le a ha; omega) (by have := pc6_le a ha; omega) (fun h21_2 => ?_) (fun h21_2 => ?_)
    · refine G_iconst C dX11_passings_29 kI_1 ?_
      exact G_iret C hr dX11_passings_30 (by unfold y_ps y_rz; rw [if_neg (by rw [decide_eq_false h9_1]; decide), if_neg (Nat.not_lt.mpr h21_2)]) (rfl)
    · refine G_ldc C dX11_passings_24 wm_1032 ?_
      refine G_top (y := nI 1000000) (by decide) ?_
      refine G_goto (tgt := 30) C dX11_passings_26 (by decide) ?_
      exact G_iret C hr dX11_passings_30 (by unfold y_ps y_rz; rw [if_neg (by rw [decide_eq_false h9_1]; decide), if_pos h21_2]) (rfl)
  · refine G_iconst C dX11_passings_12 kI_0 ?_
    refine G_goto (tgt := 30) C dX11_passings_13 (by decide) ?_
    exact G_iret C hr dX11_passings_30 (by unfold y_ps y_rz; rw [if_pos (decide_eq_true h9_1)]) (rfl)
set_option maxHeartbeats 4000000 in
set_option maxRecDepth 100000 in
theorem c_X11_till {x : Int32} (h0 : M 0 0 = 0) (hN : M 2 1 ≤ 6) (hP : M 2 0 ≤ 5) (hH : ∀ n, n < M 2 1 → M 7 n < 5) (hB : ∀ k j, M k j < 1024) : CT l yX11_till cX11_till 4 (some .int) (rmOf 2 44) D (tyI cI cZ) [.ref (ad 0), .int (x)] (wY cI cZ ad M t) (some (.int (y_till M x))) (wY cI cZ ad M t) := by
  refine CT_of (own := "FalseParityModel") (by decide) rfl (Nat.le_of_ble_eq_true rfl) (fun p e s m args below meth c C hr => ?_)
  refine G_aload_n C 0 dX11_till_0 rfl rfl ?_
  refine G_iconst C dX11_till_1 kI_0 ?_
  refine G_put (w' := wY cI cZ ad (ms M 0 (0) (0)) t) (ty := .int) C 0 0 tyX11 dX11_till_2 yc_0 rfl inG11 tyX11_ok nmX11 (by decide) wm_837 rfl rfl (by decide +kernel) rfl rfl (Nat.le_of_ble_eq_true rfl) (yp_0_0 _) ?_
  refine G_w (w2 := wY cI cZ ad M t) (congrArg (fun z => wY cI cZ ad z t) (ms_id h0)) ?_
  refine G_aload_n C 0 dX11_till_5 rfl rfl ?_
  refine G_iload_n C 1 dX11_till_6 rfl rfl ?_
  refine G_callV1 C [.int (x)] 0 dX11_till_7 (c_X11_isNote hB) wm_970 wm_972 wm_40 wm_61 wm_973 yc_0 rfl ydc_X11_isNote rfl ⟨Nat.le_of_ble_eq_true rfl, Nat.le_of_ble_eq_true rfl⟩ ⟨rfl, rfl⟩ ⟨Nat.le_refl _, Nat.le_refl _⟩ (Nat.le_of_ble_eq_true rfl) rfl ?_
  refine G_if_neB (tgt := 15) C dX11_till_10 (by decide) (fun h10_1 => ?_) (fun h10_1 => ?_)
  · obtain ⟨n, hx_n, rfl⟩ := inR_of (by have := hB 2 1; omega) h10_1
    have cl_n := nI_clamp (n := n) (by have := hB 2 1; omega)
    have hps := y_ps_le (y_tk M n (y_pa M n)) (M 7 n)
    refine G_aload_n C 0 dX11_till_15 rfl rfl ?_
    refine G_iload_n C 1 dX11_till_16 rfl rfl ?_
    refine G_callV1 C [.int (nI n)] 0 dX11_till_17 (c_X11_isAway (by omega) hB) wm_990 wm_992 wm_44 wm_61 wm_993 yc_0 rfl ydc_X11_isAway rfl ⟨Nat.le_of_ble_eq_true rfl, Nat.le_of_ble_eq_true rfl⟩ ⟨rfl, rfl⟩ ⟨Nat.le_refl _, Nat.le_refl _⟩ (Nat.le_of_ble_eq_true rfl) rfl ?_
    refine G_if_eqB (tgt := 26) C dX11_till_20 (by decide) (fun h20_2 => ?_) (fun h20_2 => ?_)
    · refine G_aload_n C 0 dX11_till_26 rfl rfl ?_
      refine G_iload_n C 1 dX11_till_27 rfl rfl ?_
      refine G_aload_n C 0 dX11_till_28 rfl rfl ?_
      refine G_iload_n C 1 dX11_till_29 rfl rfl ?_
      refine G_callV1 C [.int (nI n)] 0 dX11_till_30 (c_X11_hasParity (by omega) hB) wm_974 wm_976 wm_41 wm_61 wm_977 yc_0 rfl ydc_X11_hasParity rfl ⟨Nat.le_of_ble_eq_true rfl, Nat.le_of_ble_eq_true rfl⟩ ⟨rfl, rfl⟩ ⟨Nat.le_refl _, Nat.le_refl _⟩ (Nat.le_of_ble_eq_true rfl) rfl ?_
      refine G_callV1 C [.int (nI n), .int (nI (bN (y_pa M (n))))] 0 dX11_till_33 (c_X11_takers (b := y_pa M (n)) (by omega) hP hB) wm_978 wm_980 wm_42 wm_61 wm_981 yc_0 rfl ydc_X11_takers rfl ⟨Nat.le_of_ble_eq_true rfl, Nat.le_of_ble_eq_true rfl⟩ ⟨rfl, rfl⟩ ⟨Nat.le_refl _, Nat.le_refl _⟩ (Nat.le_of_ble_eq_true rfl) rfl ?_
      refine G_aload_n C 0 dX11_till_36 rfl rfl ?_
      refine G_get (v := .ref (ad 7)) C 0 15 dX11_till_37 yc_0 rfl inG11 (by decide) wm_852 rfl rfl ?_
      refine G_iconst C dX11_till_40 kI_0 ?_
      refine G_iload_n C 1 dX11_till_41 rfl rfl ?_
      refine G_iaddN C dX11_till_42 ?_
      refine G_top (y := nI (n)) (congrArg nI (Nat.zero_add _)) ?_
      refine G_iald (v := nI (M 7 n)) C 7 0 dX11_till_43 yc_7 rfl (by omega) (by decide) rfl ?_
      refine G_callS1 C [.int (nI (y_tk M (n) (y_pa M (n)))), .int (nI (M 7 n))] dX11_till_44 (c_X11_passings (Nat.lt_trans (y_tk_lt hP) (by decide)) (by have := hH n hx_n; omega)) wm_1029 wm_1030 wm_61 wm_1031 ydc_X11_passings rfl ⟨Nat.le_of_ble_eq_true rfl, Nat.le_of_ble_eq_true rfl⟩ ⟨rfl, rfl⟩ ⟨Nat.le_refl _, Nat.le_refl _⟩ (Nat.le_of_ble_eq_true rfl) rfl ?_
      refine G_istore_n (lv' := [(2, .int (nI (y_ps (y_tk M (n) (y_pa M (n))) (M 7 n)))), (0, .ref (ad 0)), (1, .int (nI n))]) C dX11_till_47 rfl (by decide) rfl ?_
      refine G_iload_n C 0 dX11_till_48 rfl rfl ?_
      refine G_ldc C dX11_till_49 wm_1032 ?_
      refine G_top (y := nI 1000000) (by decide) ?_
      refine G_icmp_neN (tgt := 57) C dX11_till_51 (by decide) (by have := hB 7 n; omega) (by decide) (fun h51_3 => ?_) (fun h51_3 => ?_)
      · refine G_aload_n C 1 dX11_till_57 rfl rfl ?_
        refine G_get (v := .ref (ad 5)) C 0 13 dX11_till_58 yc_0 rfl inG11 (by decide) wm_850 rfl rfl ?_
        refine G_iload_n C 2 dX11_till_61 rfl rfl ?_
        refine G_iald (v := nI (M 5 n)) C 5 0 dX11_till_62 yc_5 rfl (by omega) (by decide) rfl ?_
        refine G_if_eqN (tgt := 94) C dX11_till_63 (by decide) (by have := hB 5 n; omega) (fun h63_4 => ?_) (fun h63_4 => ?_)
        · refine G_iconst C dX11_till_94 kI_0 ?_
          refine G_istore_n (lv' := [(3, .int (nI 0)), (2, .int (nI (y_ps (y_tk M (n) (y_pa M (n))) (M 7 n)))), (0, .ref (ad 0)), (1, .int (nI n))]) C dX11_till_95 rfl (by decide) rfl ?_
          refine G_iload_n C 0 dX11_till_96 rfl rfl ?_
          refine G_if_eqN (tgt := 115) C dX11_till_97 (by decide) (by decide) (fun h97_5 => ?_) (fun h97_5 => ?_)
          · refine G_iload_n C 1 dX11_till_115 rfl rfl ?_
            exact G_iret C hr dX11_till_116 (by simp only [y_till, h10_1, h20_2, cl_n, if_true, Bool.false_eq_true, if_false, y_tillN]; rw [if_neg h51_3, if_neg (by omega)]) (rfl)
          · exact absurd h97_5 (by decide)
        · refine G_iload_n C 0 dX11_till_66 rfl rfl ?_
          refine G_if_leN (tgt := 94) C dX11_till_67 (by decide) (by have := hB 7 n; omega) (fun h67_6 => ?_) (fun h67_6 => ?_)
          · refine G_iconst C dX11_till_94 kI_0 ?_
            refine G_istore_n (lv' := [(3, .int (nI 0)), (2, .int (nI (y_ps (y_tk M (n) (y_pa M (n))) (M 7 n)))), (0, .ref (ad 0)), (1, .int (nI n))]) C dX11_till_95 rfl (by decide) rfl ?_
            refine G_iload_n C 0 dX11_till_96 rfl rfl ?_
            refine G_if_eqN (tgt := 115) C dX11_till_97 (by decide) (by decide) (fun h97_7 => ?_) (fun h97_7 => ?_)
            · refine G_iload_n C 1 dX11_till_115 rfl rfl ?_
              exact G_iret C hr dX11_till_116 (by simp only [y_till, h10_1, h20_2, cl_n, if_true, Bool.false_eq_true, if_false, y_tillN]; rw [if_neg h51_3, if_neg (by omega)]) (rfl)
            · exact absurd h97_7 (by decide)
          · refine G_aload_n C 1 dX11_till_70 rfl rfl ?_
            refine G_get (v := .ref (ad 7)) C 0 15 dX11_till_71 yc_0 rfl inG11 (by decide) wm_852 rfl rfl ?_
            refine G_bipush C dX11_till_74 kB_6 ?_
            refine G_iload_n C 2 dX11_till_76 rfl rfl ?_
            refine G_iaddN C dX11_till_77 ?_
            refine G_iald (v := nI (M 7 (6 + n))) C 7 0 dX11_till_78 yc_7 rfl (by omega) (by decide) rfl ?_
            refine G_iload_n C 0 dX11_till_79 rfl rfl ?_
            refine G_iaddN C dX11_till_80 ?_
            refine G_aload_n C 1 dX11_till_81 rfl rfl ?_
            refine G_get (v := .ref (ad 2)) C 0 9 dX11_till_82 yc_0 rfl inG11 (by decide) wm_846 rfl rfl ?_
            refine G_iconst C dX11_till_85 kI_2 ?_
            refine G_iald (v := nI (M 2 2)) C 2 0 dX11_till_86 yc_2 rfl (by decide) (by decide) rfl ?_
            refine G_icmp_ltN (tgt := 94) C dX11_till_87 (by decide) (by have := hB 7 (6 + n); have := hB 7 n; omega) (by have := hB 2 2; omega) (fun h87_8 => ?_) (fun h87_8 => ?_)
            · refine G_iconst C dX11_till_94 kI_0 ?_
              refine G_istore_n (lv' := [(3, .int (nI 0)), (2, .int (nI (y_ps (y_tk M (n) (y_pa M (n))) (M 7 n)))), (0, .ref (ad 0)), (1, .int (nI n))]) C dX11_till_95 rfl (by decide) rfl ?_
              refine G_iload_n C 0 dX11_till_96 rfl rfl ?_
              refine G_if_eqN (tgt := 115) C dX11_till_97 (by decide) (by decide) (fun h97_9 => ?_) (fun h97_9 => ?_)
              · refine G_iload_n C 1 dX11_till_115 rfl rfl ?_
                exact G_iret C hr dX11_till_116 (by simp only [y_till, h10_1, h20_2, cl_n, if_true, Bool.false_eq_true, if_false, y_tillN]; rw [if_neg h51_3, if_neg (by omega)]) (rfl)
              · exact absurd h97_9 (by decide)
            · refine G_iconst C dX11_till_90 kI_1 ?_
              refine G_goto (tgt := 95) C dX11_till_91 (by decide) ?_
              refine G_istore_n (lv' := [(3, .int (nI 1)), (2, .int (nI (y_ps (y_tk M (n) (y_pa M (n))) (M 7 n)))), (0, .ref (ad 0)), (1, .int (nI n))]) C dX11_till_95 rfl (by decide) rfl ?_
              refine G_iload_n C 0 dX11_till_96 rfl rfl ?_
              refine G_if_eqN (tgt := 115) C dX11_till_97 (by decide) (by decide) (fun h97_10 => ?_) (fun h97_10 => ?_)
              · exact absurd h97_10 (by decide)
              · refine G_aload_n C 2 dX11_till_100 rfl rfl ?_
                refine G_get (v := .ref (ad 2)) C 0 9 dX11_till_101 yc_0 rfl inG11 (by decide) wm_846 rfl rfl ?_
                refine G_iconst C dX11_till_104 kI_0 ?_
                refine G_iald (v := nI (M 2 0)) C 2 0 dX11_till_105 yc_2 rfl (by decide) (by decide) rfl ?_
                refine G_iconst C dX11_till_106 kI_1 ?_
                refine G_icmp_leN (tgt := 115) C dX11_till_107 (by decide) (by have := hB 2 0; omega) (by decide) (fun h107_11 => ?_) (fun h107_11 => ?_)
                · refine G_iload_n C 1 dX11_till_115 rfl rfl ?_
                  exact G_iret C hr dX11_till_116 (by simp only [y_till, h10_1, h20_2, cl_n, if_true, Bool.false_eq_true, if_false, y_tillN]; rw [if_neg h51_3, if_neg (by omega)]) (rfl)
                · refine G_bipush C dX11_till_110 kB_m5 ?_
                  refine G_goto (tgt := 116) C dX11_till_112 (by decide) ?_
                  exact G_iret C hr dX11_till_116 (by simp only [y_till, h10_1, h20_2, cl_n, if_true, Bool.false_eq_true, if_false, y_tillN]; rw [if_neg h51_3, if_pos (by omega)]) (rfl)
      · refine G_bipush C dX11_till_54 kB_m5 ?_
        exact G_iret C hr dX11_till_56 (by simp only [y_till, h10_1, h20_2, cl_n, if_true, Bool.false_eq_true, if_false, y_tillN]; rw [if_pos h51_3]) (rfl)
    · refine G_bipush C dX11_till_23 kB_m2 ?_
      exact G_iret C hr dX11_till_25 (by simp [y_till, h10_1, h20_2, cl_n]) (rfl)
  · refine G_iconst C dX11_till_13 kI_m1 ?_
    exact G_iret C hr dX11_till_14 (by simp [y_till, h10_1]) (rfl)
set_option maxHeartbeats 4000000 in
set_option maxRecDepth 100000 in
theorem c_X11_gcd {u d : Nat} (hu : u < 2 ^ 31) (hd : d < 2 ^ 31) : CT l yX11_gcd cX11_gcd 5 (some .int) (rmOf 0 0) D (tyI cI cZ) [.int (nI u), .int (nI d)] (wY cI cZ ad M t) (some (.int (nI (Nat.gcd u d)))) (wY cI cZ ad M t) := by
  refine CT_of (own := "FalseParityModel") (by decide) rfl (Nat.le_of_ble_eq_true rfl) (fun p e s m args below meth c C hr => ?_)
  refine G_iload_n C 0 dX11_gcd_0 rfl rfl ?_
  refine G_istore_n (lv' := [(2, .int (nI u)), (0, .int (nI u)), (1, .int (nI d))]) C dX11_gcd_1 rfl (by decide) rfl ?_
  refine G_iload_n C 2 dX11_gcd_2 rfl rfl ?_
  refine G_istore_n (lv' := [(3, .int (nI d)), (2, .int (nI u)), (0, .int (nI u)), (1, .int (nI d))]) C dX11_gcd_3 rfl (by decide) rfl ?_
  refine G_pick (lv' := [(0, .int (nI u)), (1, .int (nI d)), (2, .int (nI u)), (3, .int (nI d))]) [2, 3, 1, 0] rfl ?_
  refine loopN (P := fun i => ∀ x : Nat, ∀ y : Nat, (Nat.gcd x y = Nat.gcd u d) → (y ≤ d - i) → (x < 2 ^ 31) → G p l e (rmOf 0 0) s m args below meth c D _ 5 0 0 _ 4 [(0, .int (nI u)), (1, .int (nI d)), (2, .int (nI x)), (3, .int (nI y))] [] (wY cI cZ ad M t)) (d) ?_ ?_ 0 (Nat.zero_le _) (u) (d) rfl (Nat.le_refl _) hu
  · intro x y hi1_0 hi1_1 hi1_2
    refine G_iload_n C 3 dX11_gcd_4 rfl rfl ?_
    refine G_if_eqN (tgt := 21) C dX11_gcd_5 (by decide) (by omega) (fun h5_2 => ?_) (fun h5_2 => ?_)
    · refine G_iload_n C 2 dX11_gcd_21 rfl rfl ?_
      exact G_iret C hr dX11_gcd_22 (by rw [← hi1_0, show y = 0 by omega, Nat.gcd_zero_right]) (rfl)
    · exfalso; omega
  · intro i hid ih1 x y hi1_0 hi1_1 hi1_2
    refine G_iload_n C 3 dX11_gcd_4 rfl rfl ?_
    refine G_if_eqN (tgt := 21) C dX11_gcd_5 (by decide) (by omega) (fun h5_3 => ?_) (fun h5_3 => ?_)
    · refine G_iload_n C 2 dX11_gcd_21 rfl rfl ?_
      exact G_iret C hr dX11_gcd_22 (by rw [← hi1_0, show y = 0 by omega, Nat.gcd_zero_right]) (rfl)
    · refine G_iload_n C 2 dX11_gcd_8 rfl rfl ?_
      refine G_iload_n C 3 dX11_gcd_9 rfl rfl ?_
      refine G_iremN C dX11_gcd_10 (by omega) (by omega) (by omega) ?_
      refine G_istore (lv' := [(4, .int (nI (x % y))), (0, .int (nI u)), (1, .int (nI d)), (2, .int (nI x)), (3, .int (nI y))]) C dX11_gcd_11 (by decide) rfl ?_
      refine G_iload_n C 4 dX11_gcd_13 rfl rfl ?_
      refine G_istore_n (lv' := [(2, .int (nI y)), (4, .int (nI (x % y))), (0, .int (nI u)), (1, .int (nI d)), (3, .int (nI y))]) C dX11_gcd_14 rfl (by decide) rfl ?_
      refine G_iload C 1 dX11_gcd_15 rfl ?_
      refine G_istore_n (lv' := [(3, .int (nI (x % y))), (2, .int (nI y)), (4, .int (nI (x % y))), (0, .int (nI u)), (1, .int (nI d))]) C dX11_gcd_17 rfl (by decide) rfl ?_
      refine G_goto (tgt := 4) C dX11_gcd_18 (by decide) ?_
      refine G_pick (lv' := [(0, .int (nI u)), (1, .int (nI d)), (2, .int (nI y)), (3, .int (nI (x % y)))]) [3, 4, 1, 0] rfl ?_
      exact ih1 _ _ (by rw [← hi1_0, Nat.gcd_comm x y, Nat.gcd_rec y x, Nat.gcd_comm]) (by have := Nat.mod_lt x h5_3; omega) (by omega)
end Y3
