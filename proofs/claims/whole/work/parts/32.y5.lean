section Y5
variable {l : Launch} {D : va_G} {cI cZ : ClassId} {ad : Nat → Nat} {M : Nat → Nat → Nat} {t : Int64}
set_option maxHeartbeats 4000000 in
set_option maxRecDepth 100000 in
theorem c_X11_letterAt {k : Nat} (hk : k < 2 ^ 31) (hT : M 0 3 ≤ 150) : CT l yX11_letterAt cX11_letterAt 2 (some .int) (rmOf 0 0) D (tyI cI cZ) [.ref (ad 0), .int (nI k)] (wY cI cZ ad M t) (some (.int (y_la M k))) (wY cI cZ ad M t) := by
  refine CT_of (own := "FalseParityModel") (by decide) rfl (Nat.le_of_ble_eq_true rfl) (fun p e s m args below meth c C hr => ?_)
  refine G_iload_n C 1 dX11_letterAt_0 rfl rfl ?_
  refine G_aload_n C 0 dX11_letterAt_1 rfl rfl ?_
  refine G_get (v := .int (nI (M 0 3))) C 0 3 dX11_letterAt_2 yc_0 rfl inG11 (by decide) wm_840 rfl rfl ?_
  refine G_icmp_geN (tgt := 17) C dX11_letterAt_5 (by decide) (by omega) (by omega) (fun h5_1 => ?_) (fun h5_1 => ?_)
  · refine G_iconst C dX11_letterAt_17 kI_m1 ?_
    exact G_iret C hr dX11_letterAt_18 (by rw [y_la_out (by omega)]) (rfl)
  · refine G_aload_n C 0 dX11_letterAt_8 rfl rfl ?_
    refine G_get (v := .ref (ad 1)) C 0 2 dX11_letterAt_9 yc_0 rfl inG11 (by decide) wm_839 rfl rfl ?_
    refine G_iload_n C 1 dX11_letterAt_12 rfl rfl ?_
    refine G_iald (v := nI (M 1 k)) C 1 0 dX11_letterAt_13 yc_1 rfl (by omega) (by decide) rfl ?_
    refine G_goto (tgt := 18) C dX11_letterAt_14 (by decide) ?_
    exact G_iret C hr dX11_letterAt_18 (by rw [y_la_in (by omega)]) (rfl)
set_option maxHeartbeats 4000000 in
set_option maxRecDepth 100000 in
theorem c_X11_advances  (hT : M 0 3 ≤ 150) (hX : M 0 4 ≤ M 0 3) (hB : ∀ k j, M k j < 1024) : CT l yX11_advances cX11_advances 2 none (rmOf 1 22) D (tyI cI cZ) [.ref (ad 0)] (wY cI cZ ad M t) (none) (wY cI cZ ad (y_adv M) t) := by
  refine CT_of (own := "FalseParityModel") (by decide) rfl (Nat.le_of_ble_eq_true rfl) (fun p e s m args below meth c C hr => ?_)
  refine cutG (α := Nat) (fun z => z = y_i0 M ∧ z ≤ M 0 3) 26 (fun z => [(0, .ref (ad 0))]) (fun z => []) (fun z => wY cI cZ ad (ms M 0 (4) (z)) t) (fun z hc26_h => ?_) (fun hc26 => ?_)
  · obtain ⟨hz0, hzT⟩ := hc26_h
    refine G_aload_n C 0 dX11_advances_26 rfl rfl ?_
    refine G_aload_n C 0 dX11_advances_27 rfl rfl ?_
    refine G_get (v := .int (nI z)) C 0 4 dX11_advances_28 yc_0 rfl inG11 (by decide) wm_841 rfl rfl ?_
    refine G_put (w' := wY cI cZ ad (ms (ms M 0 (4) (z)) 0 (6) (z)) t) (ty := .int) C 0 6 tyX11 dX11_advances_31 yc_0 rfl inG11 tyX11_ok nmX11 (by decide) wm_843 rfl rfl (by decide +kernel) rfl rfl (Nat.le_of_ble_eq_true rfl) (yp_0_6 _) ?_
    refine G_aload_n C 0 dX11_advances_34 rfl rfl ?_
    refine G_aload_n C 0 dX11_advances_35 rfl rfl ?_
    refine G_get (v := .int (nI z)) C 0 4 dX11_advances_36 yc_0 rfl inG11 (by decide) wm_841 rfl rfl ?_
    refine G_callV1 (v := .int (y_la M (z))) C [.int (nI z)] 0 dX11_advances_39 (c_X11_letterAt (by omega) hT) wm_942 wm_944 wm_34 wm_61 wm_945 yc_0 rfl ydc_X11_letterAt rfl ⟨Nat.le_of_ble_eq_true rfl, Nat.le_of_ble_eq_true rfl⟩ ⟨rfl, rfl⟩ ⟨Nat.le_refl _, Nat.le_refl _⟩ (Nat.le_of_ble_eq_true rfl) rfl ?_
    refine G_istore_n (lv' := [(1, .int (y_la M (z))), (0, .ref (ad 0))]) C dX11_advances_42 rfl (by decide) rfl ?_
    refine G_iload_n C 0 dX11_advances_43 rfl rfl ?_
    refine G_if_ge (tgt := 55) C dX11_advances_44 (by decide) (fun h44_1 => ?_) (fun h44_1 => ?_)
    · have hzz := (y_la_ge hB).mp h44_1
      refine G_lv (lv' := [(1, .int (nI (M 1 z))), (0, .ref (ad 0))]) (by rw [y_la_in hzz]) ?_
      refine G_iload_n C 0 dX11_advances_55 rfl rfl ?_
      refine G_bipush C dX11_advances_56 kB_48 ?_
      refine G_bipush C dX11_advances_58 kB_57 ?_
      refine G_callS1 (v := .int (nI (bN (decide (48 ≤ M 1 z) && decide (M 1 z ≤ 57))))) C [.int (nI (M 1 z)), .int (nI 48), .int (nI 57)] dX11_advances_60 (c_X11_in_n (by have := hB 1 z; omega) (by decide) (by decide)) wm_927 wm_928 wm_61 wm_929 ydc_X11_in rfl ⟨Nat.le_of_ble_eq_true rfl, Nat.le_of_ble_eq_true rfl⟩ ⟨rfl, rfl⟩ ⟨Nat.le_refl _, Nat.le_refl _⟩ (Nat.le_of_ble_eq_true rfl) rfl ?_
      refine G_if_eqB (tgt := 181) C dX11_advances_63 (by decide) (fun h63_2 => ?_) (fun h63_2 => ?_)
      · refine G_aload_n C 1 dX11_advances_181 rfl rfl ?_
        refine G_dup C dX11_advances_182 rfl ?_
        refine G_get (v := .int (nI z)) C 0 4 dX11_advances_183 yc_0 rfl inG11 (by decide) wm_841 rfl rfl ?_
        refine G_iconst C dX11_advances_186 kI_1 ?_
        refine G_iaddN C dX11_advances_187 ?_
        refine G_put (w' := wY cI cZ ad (ms (ms (ms M 0 (4) (z)) 0 (6) (z)) 0 (4) (z + 1)) t) (ty := .int) C 0 4 tyX11 dX11_advances_188 yc_0 rfl inG11 tyX11_ok nmX11 (by decide) wm_841 rfl rfl (by decide +kernel) rfl rfl (Nat.le_of_ble_eq_true rfl) (yp_0_4 _) ?_
        refine G_aload_n C 1 dX11_advances_191 rfl rfl ?_
        refine G_iload_n C 0 dX11_advances_192 rfl rfl ?_
        refine G_put (w' := wY cI cZ ad (ms (ms (ms (ms M 0 (4) (z)) 0 (6) (z)) 0 (4) (z + 1)) 0 (7) (M 1 z)) t) (ty := .int) C 0 7 tyX11 dX11_advances_193 yc_0 rfl inG11 tyX11_ok nmX11 (by decide) wm_844 rfl rfl (by decide +kernel) rfl rfl (Nat.le_of_ble_eq_true rfl) (yp_0_7 _) ?_
        refine G_aload_n C 1 dX11_advances_196 rfl rfl ?_
        refine G_iload_n C 0 dX11_advances_197 rfl rfl ?_
        refine G_bipush C dX11_advances_198 kB_59 ?_
        refine G_icmp_neN (tgt := 207) C dX11_advances_200 (by decide) (by have := hB 1 z; omega) (by decide) (fun h200_3 => ?_) (fun h200_3 => ?_)
        · refine G_iload_n C 0 dX11_advances_207 rfl rfl ?_
          refine G_bipush C dX11_advances_208 kB_112 ?_
          refine G_icmp_eqN (tgt := 231) C dX11_advances_210 (by decide) (by have := hB 1 z; omega) (by decide) (fun h210_4 => ?_) (fun h210_4 => ?_)
          · refine G_iconst C dX11_advances_231 kI_1 ?_
            refine G_goto (tgt := 236) C dX11_advances_232 (by decide) ?_
            refine G_put (w' := wY cI cZ ad (ms (ms (ms (ms (ms M 0 (4) (z)) 0 (6) (z)) 0 (4) (z + 1)) 0 (7) (M 1 z)) 0 (5) (1)) t) (ty := .int) C 0 5 tyX11 dX11_advances_236 yc_0 rfl inG11 tyX11_ok nmX11 (by decide) wm_842 rfl rfl (by decide +kernel) rfl rfl (Nat.le_of_ble_eq_true rfl) (yp_0_5 _) ?_
            exact G_vret C hr dX11_advances_239 rfl (congrArg (fun z => wY cI cZ ad z t) (by have et : y_tl (M 1 z) = 1 := (by unfold y_tl; rw [if_neg (by omega), if_pos (by omega)]); show _ = va_up M 0 (y_a0 M); rw [show y_a0 M = _ from (if_pos (by rw [← hz0]; exact hzz)).trans (if_neg (by rw [← hz0, y_dg_in hzz, h63_2]; decide)), ← hz0, et]; refine row0_eq (fun a ha => by simp only [ms_o ha]) ?_; simp only [ms_0]; funext b; simp only [va_up]; (repeat' split) <;> first | rfl | (exfalso; omega)))
          · refine G_iload_n C 0 dX11_advances_213 rfl rfl ?_
            refine G_bipush C dX11_advances_214 kB_110 ?_
            refine G_icmp_eqN (tgt := 231) C dX11_advances_216 (by decide) (by have := hB 1 z; omega) (by decide) (fun h216_5 => ?_) (fun h216_5 => ?_)
            · refine G_iconst C dX11_advances_231 kI_1 ?_
              refine G_goto (tgt := 236) C dX11_advances_232 (by decide) ?_
              refine G_put (w' := wY cI cZ ad (ms (ms (ms (ms (ms M 0 (4) (z)) 0 (6) (z)) 0 (4) (z + 1)) 0 (7) (M 1 z)) 0 (5) (1)) t) (ty := .int) C 0 5 tyX11 dX11_advances_236 yc_0 rfl inG11 tyX11_ok nmX11 (by decide) wm_842 rfl rfl (by decide +kernel) rfl rfl (Nat.le_of_ble_eq_true rfl) (yp_0_5 _) ?_
              exact G_vret C hr dX11_advances_239 rfl (congrArg (fun z => wY cI cZ ad z t) (by have et : y_tl (M 1 z) = 1 := (by unfold y_tl; rw [if_neg (by omega), if_pos (by omega)]); show _ = va_up M 0 (y_a0 M); rw [show y_a0 M = _ from (if_pos (by rw [← hz0]; exact hzz)).trans (if_neg (by rw [← hz0, y_dg_in hzz, h63_2]; decide)), ← hz0, et]; refine row0_eq (fun a ha => by simp only [ms_o ha]) ?_; simp only [ms_0]; funext b; simp only [va_up]; (repeat' split) <;> first | rfl | (exfalso; omega)))
            · refine G_iload_n C 0 dX11_advances_219 rfl rfl ?_
              refine G_bipush C dX11_advances_220 kB_98 ?_
              refine G_icmp_eqN (tgt := 231) C dX11_advances_222 (by decide) (by have := hB 1 z; omega) (by decide) (fun h222_6 => ?_) (fun h222_6 => ?_)
              · refine G_iconst C dX11_advances_231 kI_1 ?_
                refine G_goto (tgt := 236) C dX11_advances_232 (by decide) ?_
                refine G_put (w' := wY cI cZ ad (ms (ms (ms (ms (ms M 0 (4) (z)) 0 (6) (z)) 0 (4) (z + 1)) 0 (7) (M 1 z)) 0 (5) (1)) t) (ty := .int) C 0 5 tyX11 dX11_advances_236 yc_0 rfl inG11 tyX11_ok nmX11 (by decide) wm_842 rfl rfl (by decide +kernel) rfl rfl (Nat.le_of_ble_eq_true rfl) (yp_0_5 _) ?_
                exact G_vret C hr dX11_advances_239 rfl (congrArg (fun z => wY cI cZ ad z t) (by have et : y_tl (M 1 z) = 1 := (by unfold y_tl; rw [if_neg (by omega), if_pos (by omega)]); show _ = va_up M 0 (y_a0 M); rw [show y_a0 M = _ from (if_pos (by rw [← hz0]; exact hzz)).trans (if_neg (by rw [← hz0, y_dg_in hzz, h63_2]; decide)), ← hz0, et]; refine row0_eq (fun a ha => by simp only [ms_o ha]) ?_; simp only [ms_0]; funext b; simp only [va_up]; (repeat' split) <;> first | rfl | (exfalso; omega)))
              · refine G_iload_n C 0 dX11_advances_225 rfl rfl ?_
                refine G_bipush C dX11_advances_226 kB_115 ?_
                refine G_icmp_neN (tgt := 235) C dX11_advances_228 (by decide) (by have := hB 1 z; omega) (by decide) (fun h228_7 => ?_) (fun h228_7 => ?_)
                · refine G_iconst C dX11_advances_235 kI_4 ?_
                  refine G_put (w' := wY cI cZ ad (ms (ms (ms (ms (ms M 0 (4) (z)) 0 (6) (z)) 0 (4) (z + 1)) 0 (7) (M 1 z)) 0 (5) (4)) t) (ty := .int) C 0 5 tyX11 dX11_advances_236 yc_0 rfl inG11 tyX11_ok nmX11 (by decide) wm_842 rfl rfl (by decide +kernel) rfl rfl (Nat.le_of_ble_eq_true rfl) (yp_0_5 _) ?_
                  exact G_vret C hr dX11_advances_239 rfl (congrArg (fun z => wY cI cZ ad z t) (by have et : y_tl (M 1 z) = 4 := (by unfold y_tl; rw [if_neg (by omega), if_neg (by omega)]); show _ = va_up M 0 (y_a0 M); rw [show y_a0 M = _ from (if_pos (by rw [← hz0]; exact hzz)).trans (if_neg (by rw [← hz0, y_dg_in hzz, h63_2]; decide)), ← hz0, et]; refine row0_eq (fun a ha => by simp only [ms_o ha]) ?_; simp only [ms_0]; funext b; simp only [va_up]; (repeat' split) <;> first | rfl | (exfalso; omega)))
                · refine G_iconst C dX11_advances_231 kI_1 ?_
                  refine G_goto (tgt := 236) C dX11_advances_232 (by decide) ?_
                  refine G_put (w' := wY cI cZ ad (ms (ms (ms (ms (ms M 0 (4) (z)) 0 (6) (z)) 0 (4) (z + 1)) 0 (7) (M 1 z)) 0 (5) (1)) t) (ty := .int) C 0 5 tyX11 dX11_advances_236 yc_0 rfl inG11 tyX11_ok nmX11 (by decide) wm_842 rfl rfl (by decide +kernel) rfl rfl (Nat.le_of_ble_eq_true rfl) (yp_0_5 _) ?_
                  exact G_vret C hr dX11_advances_239 rfl (congrArg (fun z => wY cI cZ ad z t) (by have et : y_tl (M 1 z) = 1 := (by unfold y_tl; rw [if_neg (by omega), if_pos (by omega)]); show _ = va_up M 0 (y_a0 M); rw [show y_a0 M = _ from (if_pos (by rw [← hz0]; exact hzz)).trans (if_neg (by rw [← hz0, y_dg_in hzz, h63_2]; decide)), ← hz0, et]; refine row0_eq (fun a ha => by simp only [ms_o ha]) ?_; simp only [ms_0]; funext b; simp only [va_up]; (repeat' split) <;> first | rfl | (exfalso; omega)))
        · refine G_iconst C dX11_advances_203 kI_3 ?_
          refine G_goto (tgt := 236) C dX11_advances_204 (by decide) ?_
          refine G_put (w' := wY cI cZ ad (ms (ms (ms (ms (ms M 0 (4) (z)) 0 (6) (z)) 0 (4) (z + 1)) 0 (7) (M 1 z)) 0 (5) (3)) t) (ty := .int) C 0 5 tyX11 dX11_advances_236 yc_0 rfl inG11 tyX11_ok nmX11 (by decide) wm_842 rfl rfl (by decide +kernel) rfl rfl (Nat.le_of_ble_eq_true rfl) (yp_0_5 _) ?_
          exact G_vret C hr dX11_advances_239 rfl (congrArg (fun z => wY cI cZ ad z t) (by have et : y_tl (M 1 z) = 3 := (by unfold y_tl; rw [if_pos h200_3]); show _ = va_up M 0 (y_a0 M); rw [show y_a0 M = _ from (if_pos (by rw [← hz0]; exact hzz)).trans (if_neg (by rw [← hz0, y_dg_in hzz, h63_2]; decide)), ← hz0, et]; refine row0_eq (fun a ha => by simp only [ms_o ha]) ?_; simp only [ms_0]; funext b; simp only [va_up]; (repeat' split) <;> first | rfl | (exfalso; omega)))
      · refine G_aload_n C 1 dX11_advances_66 rfl rfl ?_
        refine G_iconst C dX11_advances_67 kI_0 ?_
        refine G_put (w' := wY cI cZ ad (ms (ms (ms M 0 (4) (z)) 0 (6) (z)) 0 (7) (0)) t) (ty := .int) C 0 7 tyX11 dX11_advances_68 yc_0 rfl inG11 tyX11_ok nmX11 (by decide) wm_844 rfl rfl (by decide +kernel) rfl rfl (Nat.le_of_ble_eq_true rfl) (yp_0_7 _) ?_
        refine cutG (α := Nat × Nat) (fun q => q = y_jv M ∧ z ≤ q.1 ∧ q.1 ≤ M 0 3 ∧ q.2 ≤ 999) 141 (fun q => [(0, .ref (ad 0)), (1, .int (nI (M 1 z)))]) (fun q => []) (fun q => wY cI cZ ad (ms (ms (ms M 0 (6) (z)) 0 (7) (q.2)) 0 (4) (q.1)) t) (fun q hc141_h => ?_) (fun hc141 => ?_)
        · obtain ⟨hq0, hq1, hq2, hq3⟩ := hc141_h
          refine G_aload_n C 0 dX11_advances_141 rfl rfl ?_
          refine G_aload_n C 0 dX11_advances_142 rfl rfl ?_
          refine G_get (v := .int (nI (q.2))) C 0 7 dX11_advances_143 yc_0 rfl inG11 (by decide) wm_844 rfl rfl ?_
          refine G_bipush C dX11_advances_146 kB_99 ?_
          refine G_icmp_gtN (tgt := 170) C dX11_advances_148 (by decide) (by omega) (by decide) (fun h148_8 => ?_) (fun h148_8 => ?_)
          · refine G_iconst C dX11_advances_170 kI_4 ?_
            refine G_goto (tgt := 175) C dX11_advances_171 (by decide) ?_
            refine G_put (w' := wY cI cZ ad (ms (ms (ms (ms M 0 (6) (z)) 0 (7) (q.2)) 0 (4) (q.1)) 0 (5) (4)) t) (ty := .int) C 0 5 tyX11 dX11_advances_175 yc_0 rfl inG11 tyX11_ok nmX11 (by decide) wm_842 rfl rfl (by decide +kernel) rfl rfl (Nat.le_of_ble_eq_true rfl) (yp_0_5 _) ?_
            refine G_goto (tgt := 239) C dX11_advances_178 (by decide) ?_
            exact G_vret C hr dX11_advances_239 rfl (congrArg (fun z => wY cI cZ ad z t) (by show _ = va_up M 0 (y_a0 M); rw [show y_a0 M = _ from (if_pos (by rw [← hz0]; exact hzz)).trans (if_pos (by rw [← hz0, y_dg_in hzz]; exact h63_2)), ← hz0, ← hq0, if_pos (by omega)]; exact row0_eq (fun a ha => by simp only [ms_o ha]) (by simp only [ms_0])))
          · refine G_iload_n C 1 dX11_advances_151 rfl rfl ?_
            refine G_bipush C dX11_advances_152 kB_48 ?_
            refine G_icmp_neN (tgt := 174) C dX11_advances_154 (by decide) (by have := hB 1 z; omega) (by decide) (fun h154_9 => ?_) (fun h154_9 => ?_)
            · refine G_iconst C dX11_advances_174 kI_2 ?_
              refine G_put (w' := wY cI cZ ad (ms (ms (ms (ms M 0 (6) (z)) 0 (7) (q.2)) 0 (4) (q.1)) 0 (5) (2)) t) (ty := .int) C 0 5 tyX11 dX11_advances_175 yc_0 rfl inG11 tyX11_ok nmX11 (by decide) wm_842 rfl rfl (by decide +kernel) rfl rfl (Nat.le_of_ble_eq_true rfl) (yp_0_5 _) ?_
              refine G_goto (tgt := 239) C dX11_advances_178 (by decide) ?_
              exact G_vret C hr dX11_advances_239 rfl (congrArg (fun z => wY cI cZ ad z t) (by show _ = va_up M 0 (y_a0 M); rw [show y_a0 M = _ from (if_pos (by rw [← hz0]; exact hzz)).trans (if_pos (by rw [← hz0, y_dg_in hzz]; exact h63_2)), ← hz0, ← hq0, if_neg (by omega)]; exact row0_eq (fun a ha => by simp only [ms_o ha]) (by simp only [ms_0])))
            · refine G_aload_n C 0 dX11_advances_157 rfl rfl ?_
              refine G_get (v := .int (nI (q.1))) C 0 4 dX11_advances_158 yc_0 rfl inG11 (by decide) wm_841 rfl rfl ?_
              refine G_aload_n C 0 dX11_advances_161 rfl rfl ?_
              refine G_get (v := .int (nI z)) C 0 6 dX11_advances_162 yc_0 rfl inG11 (by decide) wm_843 rfl rfl ?_
              refine G_isubN C dX11_advances_165 hq1 ?_
              refine G_iconst C dX11_advances_166 kI_1 ?_
              refine G_icmp_leN (tgt := 174) C dX11_advances_167 (by decide) (by omega) (by decide) (fun h167_10 => ?_) (fun h167_10 => ?_)
              · refine G_iconst C dX11_advances_174 kI_2 ?_
                refine G_put (w' := wY cI cZ ad (ms (ms (ms (ms M 0 (6) (z)) 0 (7) (q.2)) 0 (4) (q.1)) 0 (5) (2)) t) (ty := .int) C 0 5 tyX11 dX11_advances_175 yc_0 rfl inG11 tyX11_ok nmX11 (by decide) wm_842 rfl rfl (by decide +kernel) rfl rfl (Nat.le_of_ble_eq_true rfl) (yp_0_5 _) ?_
                refine G_goto (tgt := 239) C dX11_advances_178 (by decide) ?_
                exact G_vret C hr dX11_advances_239 rfl (congrArg (fun z => wY cI cZ ad z t) (by show _ = va_up M 0 (y_a0 M); rw [show y_a0 M = _ from (if_pos (by rw [← hz0]; exact hzz)).trans (if_pos (by rw [← hz0, y_dg_in hzz]; exact h63_2)), ← hz0, ← hq0, if_neg (by omega)]; exact row0_eq (fun a ha => by simp only [ms_o ha]) (by simp only [ms_0])))
              · refine G_iconst C dX11_advances_170 kI_4 ?_
                refine G_goto (tgt := 175) C dX11_advances_171 (by decide) ?_
                refine G_put (w' := wY cI cZ ad (ms (ms (ms (ms M 0 (6) (z)) 0 (7) (q.2)) 0 (4) (q.1)) 0 (5) (4)) t) (ty := .int) C 0 5 tyX11 dX11_advances_175 yc_0 rfl inG11 tyX11_ok nmX11 (by decide) wm_842 rfl rfl (by decide +kernel) rfl rfl (Nat.le_of_ble_eq_true rfl) (yp_0_5 _) ?_
                refine G_goto (tgt := 239) C dX11_advances_178 (by decide) ?_
                exact G_vret C hr dX11_advances_239 rfl (congrArg (fun z => wY cI cZ ad z t) (by show _ = va_up M 0 (y_a0 M); rw [show y_a0 M = _ from (if_pos (by rw [← hz0]; exact hzz)).trans (if_pos (by rw [← hz0, y_dg_in hzz]; exact h63_2)), ← hz0, ← hq0, if_pos (by omega)]; exact row0_eq (fun a ha => by simp only [ms_o ha]) (by simp only [ms_0])))
        · refine G_w (w2 := wY cI cZ ad (y_K M z z 0) t) (congrArg (fun z => wY cI cZ ad z t) (by funext a b; simp only [ms_if, y_K]; (repeat' split) <;> first | rfl | (exfalso; omega) | omega)) ?_
          refine G_pick (lv' := [(0, .ref (ad 0)), (1, .int (nI (M 1 z)))]) [1, 0] rfl ?_
          refine loopN (P := fun j => ∀ v : Nat, (y_num M (M 0 3 - j) j v = y_jv M) → (v ≤ 999) → (z ≤ j) → G p l e (rmOf 1 22) s m args below meth c D _ 2 0 0 _ 71 [(0, .ref (ad 0)), (1, .int (nI (M 1 z)))] [] (wY cI cZ ad (ms (ms (ms M 0 (6) (z)) 0 (7) (v)) 0 (4) (j)) t)) (M 0 3) ?_ ?_ z (by omega) (0) (by rw [hz0]; rfl) (by decide) (Nat.le_refl _)
          · intro v hi11_0 hi11_1 hi11_2
            refine G_aload_n C 0 dX11_advances_71 rfl rfl ?_
            refine G_aload_n C 0 dX11_advances_72 rfl rfl ?_
            refine G_get (v := .int (nI (M 0 3))) C 0 4 dX11_advances_73 yc_0 rfl inG11 (by decide) wm_841 rfl rfl ?_
            refine G_callV1 (v := .int (y_la M (M 0 3))) C [.int (nI (M 0 3))] 0 dX11_advances_76 (c_X11_letterAt (by omega) hT) wm_942 wm_944 wm_34 wm_61 wm_945 yc_0 rfl ydc_X11_letterAt rfl ⟨Nat.le_of_ble_eq_true rfl, Nat.le_of_ble_eq_true rfl⟩ ⟨rfl, rfl⟩ ⟨Nat.le_refl _, Nat.le_refl _⟩ (Nat.le_of_ble_eq_true rfl) rfl ?_
            refine G_bipush C dX11_advances_79 kB_48 ?_
            refine G_bipush C dX11_advances_81 kB_57 ?_
            refine G_callS1 (v := .int (nI (bN (y_dg M (M 0 3))))) C [.int (y_la M (M 0 3)), .int (nI 48), .int (nI 57)] dX11_advances_83 (c_X11_in_d (M := (ms (ms (ms M 0 (6) (z)) 0 (7) (v)) 0 (4) (M 0 3))) (k := M 0 3) (hB_ms (hB_ms (hB_ms hB (by omega)) (by omega)) (by omega))) wm_927 wm_928 wm_61 wm_929 ydc_X11_in rfl ⟨Nat.le_of_ble_eq_true rfl, Nat.le_of_ble_eq_true rfl⟩ ⟨rfl, rfl⟩ ⟨Nat.le_refl _, Nat.le_refl _⟩ (Nat.le_of_ble_eq_true rfl) rfl ?_
            refine G_if_eqB (tgt := 141) C dX11_advances_86 (by decide) (fun h86_12 => ?_) (fun h86_12 => ?_)
            · exact hc141 (M 0 3, v) ⟨(by rw [← hi11_0, Nat.sub_self]; rfl), hi11_2, by omega, by omega⟩
            · exact absurd (y_dg_d h86_12).1 (by omega)
          · intro j hjT ih11 v hi11_0 hi11_1 hi11_2
            refine G_aload_n C 0 dX11_advances_71 rfl rfl ?_
            refine G_aload_n C 0 dX11_advances_72 rfl rfl ?_
            refine G_get (v := .int (nI j)) C 0 4 dX11_advances_73 yc_0 rfl inG11 (by decide) wm_841 rfl rfl ?_
            refine G_callV1 (v := .int (y_la M (j))) C [.int (nI j)] 0 dX11_advances_76 (c_X11_letterAt (by omega) hT) wm_942 wm_944 wm_34 wm_61 wm_945 yc_0 rfl ydc_X11_letterAt rfl ⟨Nat.le_of_ble_eq_true rfl, Nat.le_of_ble_eq_true rfl⟩ ⟨rfl, rfl⟩ ⟨Nat.le_refl _, Nat.le_refl _⟩ (Nat.le_of_ble_eq_true rfl) rfl ?_
            refine G_bipush C dX11_advances_79 kB_48 ?_
            refine G_bipush C dX11_advances_81 kB_57 ?_
            refine G_callS1 (v := .int (nI (bN (y_dg M (j))))) C [.int (y_la M (j)), .int (nI 48), .int (nI 57)] dX11_advances_83 (c_X11_in_d (M := (ms (ms (ms M 0 (6) (z)) 0 (7) (v)) 0 (4) (j))) (k := j) (hB_ms (hB_ms (hB_ms hB (by omega)) (by omega)) (by omega))) wm_927 wm_928 wm_61 wm_929 ydc_X11_in rfl ⟨Nat.le_of_ble_eq_true rfl, Nat.le_of_ble_eq_true rfl⟩ ⟨rfl, rfl⟩ ⟨Nat.le_refl _, Nat.le_refl _⟩ (Nat.le_of_ble_eq_true rfl) rfl ?_
            refine G_if_eqB (tgt := 141) C dX11_advances_86 (by decide) (fun h86_13 => ?_) (fun h86_13 => ?_)
            · exact hc141 (j, v) ⟨(by rw [← hi11_0, show M 0 3 - j = (M 0 3 - (j + 1)) + 1 by omega]; show _ = (if y_dg M j = true then _ else (j, v)); rw [if_neg (by rw [h86_13]; decide)]), hi11_2, by omega, by omega⟩
            · have hdd := y_dg_d h86_13
              refine G_aload_n C 0 dX11_advances_89 rfl rfl ?_
              refine G_aload_n C 0 dX11_advances_90 rfl rfl ?_
              refine G_get (v := .int (nI v)) C 0 7 dX11_advances_91 yc_0 rfl inG11 (by decide) wm_844 rfl rfl ?_
              refine G_bipush C dX11_advances_94 kB_99 ?_
              refine G_icmp_leN (tgt := 106) C dX11_advances_96 (by decide) (by omega) (by decide) (fun h96_14 => ?_) (fun h96_14 => ?_)
              · refine G_bipush C dX11_advances_106 kB_10 ?_
                refine G_aload_n C 0 dX11_advances_108 rfl rfl ?_
                refine G_get (v := .int (nI v)) C 0 7 dX11_advances_109 yc_0 rfl inG11 (by decide) wm_844 rfl rfl ?_
                refine G_imulN C dX11_advances_112 ?_
                refine G_aload_n C 0 dX11_advances_113 rfl rfl ?_
                refine G_aload_n C 0 dX11_advances_114 rfl rfl ?_
                refine G_get (v := .int (nI j)) C 0 4 dX11_advances_115 yc_0 rfl inG11 (by decide) wm_841 rfl rfl ?_
                refine G_callV1 (v := .int (y_la M (j))) C [.int (nI j)] 0 dX11_advances_118 (c_X11_letterAt (by omega) hT) wm_942 wm_944 wm_34 wm_61 wm_945 yc_0 rfl ydc_X11_letterAt rfl ⟨Nat.le_of_ble_eq_true rfl, Nat.le_of_ble_eq_true rfl⟩ ⟨rfl, rfl⟩ ⟨Nat.le_refl _, Nat.le_refl _⟩ (Nat.le_of_ble_eq_true rfl) rfl ?_
                refine G_top (y := nI (M 1 j)) (y_la_in hjT) ?_
                refine G_iaddN C dX11_advances_121 ?_
                refine G_bipush C dX11_advances_122 kB_48 ?_
                refine G_isubN C dX11_advances_124 (by omega) ?_
                refine G_put (w' := wY cI cZ ad (ms (ms (ms (ms M 0 (6) (z)) 0 (7) (v)) 0 (4) (j)) 0 (7) (((10 * v) + (M 1 j)) - 48)) t) (ty := .int) C 0 7 tyX11 dX11_advances_125 yc_0 rfl inG11 tyX11_ok nmX11 (by decide) wm_844 rfl rfl (by decide +kernel) rfl rfl (Nat.le_of_ble_eq_true rfl) (yp_0_7 _) ?_
                refine G_aload_n C 0 dX11_advances_128 rfl rfl ?_
                refine G_dup C dX11_advances_129 rfl ?_
                refine G_get (v := .int (nI j)) C 0 4 dX11_advances_130 yc_0 rfl inG11 (by decide) wm_841 rfl rfl ?_
                refine G_iconst C dX11_advances_133 kI_1 ?_
                refine G_iaddN C dX11_advances_134 ?_
                refine G_put (w' := wY cI cZ ad (ms (ms (ms (ms (ms M 0 (6) (z)) 0 (7) (v)) 0 (4) (j)) 0 (7) (((10 * v) + (M 1 j)) - 48)) 0 (4) (j + 1)) t) (ty := .int) C 0 4 tyX11 dX11_advances_135 yc_0 rfl inG11 tyX11_ok nmX11 (by decide) wm_841 rfl rfl (by decide +kernel) rfl rfl (Nat.le_of_ble_eq_true rfl) (yp_0_4 _) ?_
                refine G_goto (tgt := 71) C dX11_advances_138 (by decide) ?_
                refine G_w (w2 := wY cI cZ ad (y_K M z (j + 1) (((10 * v) + (M 1 j)) - 48)) t) (congrArg (fun z => wY cI cZ ad z t) (by funext a b; simp only [ms_if, y_K]; (repeat' split) <;> first | rfl | (exfalso; omega) | omega)) ?_
                exact ih11 _ (by rw [← hi11_0, show M 0 3 - j = (M 0 3 - (j + 1)) + 1 by omega]; show _ = (if y_dg M j = true then y_num M (M 0 3 - (j + 1)) (j + 1) (if 99 < v then v else 10 * v + M 1 j - 48) else (j, v)); rw [if_pos h86_13, if_neg (by omega)]) (by omega) (by omega)
              · refine G_aload_n C 0 dX11_advances_99 rfl rfl ?_
                refine G_get (v := .int (nI v)) C 0 7 dX11_advances_100 yc_0 rfl inG11 (by decide) wm_844 rfl rfl ?_
                refine G_goto (tgt := 125) C dX11_advances_103 (by decide) ?_
                refine G_put (w' := wY cI cZ ad (ms (ms (ms (ms M 0 (6) (z)) 0 (7) (v)) 0 (4) (j)) 0 (7) (v)) t) (ty := .int) C 0 7 tyX11 dX11_advances_125 yc_0 rfl inG11 tyX11_ok nmX11 (by decide) wm_844 rfl rfl (by decide +kernel) rfl rfl (Nat.le_of_ble_eq_true rfl) (yp_0_7 _) ?_
                refine G_aload_n C 0 dX11_advances_128 rfl rfl ?_
                refine G_dup C dX11_advances_129 rfl ?_
                refine G_get (v := .int (nI j)) C 0 4 dX11_advances_130 yc_0 rfl inG11 (by decide) wm_841 rfl rfl ?_
                refine G_iconst C dX11_advances_133 kI_1 ?_
                refine G_iaddN C dX11_advances_134 ?_
                refine G_put (w' := wY cI cZ ad (ms (ms (ms (ms (ms M 0 (6) (z)) 0 (7) (v)) 0 (4) (j)) 0 (7) (v)) 0 (4) (j + 1)) t) (ty := .int) C 0 4 tyX11 dX11_advances_135 yc_0 rfl inG11 tyX11_ok nmX11 (by decide) wm_841 rfl rfl (by decide +kernel) rfl rfl (Nat.le_of_ble_eq_true rfl) (yp_0_4 _) ?_
                refine G_goto (tgt := 71) C dX11_advances_138 (by decide) ?_
                refine G_w (w2 := wY cI cZ ad (y_K M z (j + 1) (v)) t) (congrArg (fun z => wY cI cZ ad z t) (by funext a b; simp only [ms_if, y_K]; (repeat' split) <;> first | rfl | (exfalso; omega) | omega)) ?_
                exact ih11 _ (by rw [← hi11_0, show M 0 3 - j = (M 0 3 - (j + 1)) + 1 by omega]; show _ = (if y_dg M j = true then y_num M (M 0 3 - (j + 1)) (j + 1) (if 99 < v then v else 10 * v + M 1 j - 48) else (j, v)); rw [if_pos h86_13, if_pos h96_14]) (by omega) (by omega)
    · have hzz : ¬ z < M 0 3 := fun q => h44_1 ((y_la_ge hB).mpr q)
      refine G_aload_n C 1 dX11_advances_47 rfl rfl ?_
      refine G_iconst C dX11_advances_48 kI_0 ?_
      refine G_put (w' := wY cI cZ ad (ms (ms (ms M 0 (4) (z)) 0 (6) (z)) 0 (5) (0)) t) (ty := .int) C 0 5 tyX11 dX11_advances_49 yc_0 rfl inG11 tyX11_ok nmX11 (by decide) wm_842 rfl rfl (by decide +kernel) rfl rfl (Nat.le_of_ble_eq_true rfl) (yp_0_5 _) ?_
      refine G_goto (tgt := 239) C dX11_advances_52 (by decide) ?_
      exact G_vret C hr dX11_advances_239 rfl (congrArg (fun z => wY cI cZ ad z t) (by show _ = va_up M 0 (y_a0 M); rw [show y_a0 M = _ from if_neg (by rw [← hz0]; exact hzz), ← hz0]; exact row0_eq (fun a ha => by simp only [ms_o ha]) (by simp only [ms_0])))
  · refine G_w (w2 := wY cI cZ ad (ms M 0 4 (M 0 4)) t) (congrArg (fun z => wY cI cZ ad z t) (ms_id rfl).symm) ?_
    refine loopN (P := fun i => (y_skip M (M 0 3 - i) i = y_i0 M) → G p l e (rmOf 1 22) s m args below meth c D _ 2 0 0 _ 0 [(0, .ref (ad 0))] [] (wY cI cZ ad (ms M 0 (4) (i)) t)) (M 0 3) ?_ ?_ (M 0 4) (by omega)  rfl
    · intro  hi15_0
      refine G_aload_n C 0 dX11_advances_0 rfl rfl ?_
      refine G_aload_n C 0 dX11_advances_1 rfl rfl ?_
      refine G_get (v := .int (nI (M 0 3))) C 0 4 dX11_advances_2 yc_0 rfl inG11 (by decide) wm_841 rfl rfl ?_
      refine G_callV1 (v := .int (y_la M (M 0 3))) C [.int (nI (M 0 3))] 0 dX11_advances_5 (c_X11_letterAt (by omega) hT) wm_942 wm_944 wm_34 wm_61 wm_945 yc_0 rfl ydc_X11_letterAt rfl ⟨Nat.le_of_ble_eq_true rfl, Nat.le_of_ble_eq_true rfl⟩ ⟨rfl, rfl⟩ ⟨Nat.le_refl _, Nat.le_refl _⟩ (Nat.le_of_ble_eq_true rfl) rfl ?_
      refine G_bipush C dX11_advances_8 kB_32 ?_
      refine G_icmp_ne (tgt := 26) C dX11_advances_10 (by decide) (fun h10_16 => ?_) (fun h10_16 => ?_)
      · exact hc26 _ ⟨(by rw [← hi15_0, Nat.sub_self]; rfl), by omega⟩
      · exact absurd ((y_la_32 hB).mp h10_16).1 (by omega)
    · intro i hiT ih15  hi15_0
      refine G_aload_n C 0 dX11_advances_0 rfl rfl ?_
      refine G_aload_n C 0 dX11_advances_1 rfl rfl ?_
      refine G_get (v := .int (nI i)) C 0 4 dX11_advances_2 yc_0 rfl inG11 (by decide) wm_841 rfl rfl ?_
      refine G_callV1 (v := .int (y_la M (i))) C [.int (nI i)] 0 dX11_advances_5 (c_X11_letterAt (by omega) hT) wm_942 wm_944 wm_34 wm_61 wm_945 yc_0 rfl ydc_X11_letterAt rfl ⟨Nat.le_of_ble_eq_true rfl, Nat.le_of_ble_eq_true rfl⟩ ⟨rfl, rfl⟩ ⟨Nat.le_refl _, Nat.le_refl _⟩ (Nat.le_of_ble_eq_true rfl) rfl ?_
      refine G_bipush C dX11_advances_8 kB_32 ?_
      refine G_icmp_ne (tgt := 26) C dX11_advances_10 (by decide) (fun h10_17 => ?_) (fun h10_17 => ?_)
      · exact hc26 _ ⟨(by rw [← hi15_0, show M 0 3 - i = (M 0 3 - (i + 1)) + 1 by omega]; exact (if_neg (fun q => h10_17 ((y_la_32 hB).mpr ⟨hiT, q⟩))).symm), by omega⟩
      · refine G_aload_n C 0 dX11_advances_13 rfl rfl ?_
        refine G_dup C dX11_advances_14 rfl ?_
        refine G_get (v := .int (nI i)) C 0 4 dX11_advances_15 yc_0 rfl inG11 (by decide) wm_841 rfl rfl ?_
        refine G_iconst C dX11_advances_18 kI_1 ?_
        refine G_iaddN C dX11_advances_19 ?_
        refine G_put (w' := wY cI cZ ad (ms (ms M 0 (4) (i)) 0 (4) (i + 1)) t) (ty := .int) C 0 4 tyX11 dX11_advances_20 yc_0 rfl inG11 tyX11_ok nmX11 (by decide) wm_841 rfl rfl (by decide +kernel) rfl rfl (Nat.le_of_ble_eq_true rfl) (yp_0_4 _) ?_
        refine G_goto (tgt := 0) C dX11_advances_23 (by decide) ?_
        refine G_w (w2 := wY cI cZ ad (ms M 0 4 (i + 1)) t) (congrArg (fun z => wY cI cZ ad z t) ms_ms) ?_
        exact ih15  (by rw [← hi15_0, show M 0 3 - i = (M 0 3 - (i + 1)) + 1 by omega]; exact (if_pos (((y_la_32 hB).mp h10_17).2)).symm)
end Y5
