section Y7
variable {l : Launch} {D : va_G} {cI cZ : ClassId} {ad : Nat → Nat} {M : Nat → Nat → Nat} {t : Int64}
set_option maxHeartbeats 4000000 in
set_option maxRecDepth 100000 in
theorem c_X11_settles  (hB : ∀ k j, M k j < 1024) : CT l yX11_settles cX11_settles 2 none (rmOf 0 0) D (tyI cI cZ) [.ref (ad 0)] (wY cI cZ ad M t) (none) (wY cI cZ ad (y_set M) t) := by
  refine CT_of (own := "FalseParityModel") (by decide) rfl (Nat.le_of_ble_eq_true rfl) (fun p e s m args below meth c C hr => ?_)
  refine G_iconst C dX11_settles_0 kI_0 ?_
  refine G_istore_n (lv' := [(1, .int (nI 0)), (0, .ref (ad 0))]) C dX11_settles_1 rfl (by decide) rfl ?_
  refine G_w (w2 := wY cI cZ ad (fillR M 2 (fun j => M 2 (4 + j)) (0)) t) (congrArg (fun z => wY cI cZ ad z t) (fill_0 M 2 _).symm) ?_
  refine G_pick (lv' := [(0, .ref (ad 0)), (1, .int (nI 0))]) [1, 0] rfl ?_
  refine loopN (P := fun n => G p l e (rmOf 0 0) s m args below meth c D _ 2 0 0 _ 2 [(0, .ref (ad 0)), (1, .int (nI n))] [] (wY cI cZ ad (fillR M 2 (fun j => M 2 (4 + j)) (n)) t)) (4) ?_ ?_ 0 (Nat.zero_le _)  
  · skip
    refine G_iload_n C 1 dX11_settles_2 rfl rfl ?_
    refine G_iconst C dX11_settles_3 kI_4 ?_
    refine G_icmp_geN (tgt := 27) C dX11_settles_4 (by decide) (by decide) (by decide) (fun h4_2 => ?_) (fun h4_2 => ?_)
    · refine G_iconst C dX11_settles_27 kI_0 ?_
      refine G_istore_n (lv' := [(1, .int (nI 0)), (0, .ref (ad 0))]) C dX11_settles_28 rfl (by decide) rfl ?_
      refine G_w (w2 := wY cI cZ ad (fillR (fillR M 2 (fun j => M 2 (4 + j)) (4)) 7 (fun j => 0) (0)) t) (congrArg (fun z => wY cI cZ ad z t) (fill_0 (fillR M 2 (fun j => M 2 (4 + j)) (4)) 7 _).symm) ?_
      refine G_pick (lv' := [(0, .ref (ad 0)), (1, .int (nI 0))]) [1, 0] rfl ?_
      refine loopN (P := fun n => G p l e (rmOf 0 0) s m args below meth c D _ 2 0 0 _ 29 [(0, .ref (ad 0)), (1, .int (nI n))] [] (wY cI cZ ad (fillR (fillR M 2 (fun j => M 2 (4 + j)) (4)) 7 (fun j => 0) (n)) t)) (20) ?_ ?_ 0 (Nat.zero_le _)  
      · skip
        refine G_iload_n C 1 dX11_settles_29 rfl rfl ?_
        refine G_bipush C dX11_settles_30 kB_20 ?_
        refine G_icmp_geN (tgt := 48) C dX11_settles_32 (by decide) (by decide) (by decide) (fun h32_4 => ?_) (fun h32_4 => ?_)
        · refine G_iconst C dX11_settles_48 kI_0 ?_
          refine G_istore_n (lv' := [(1, .int (nI 0)), (0, .ref (ad 0))]) C dX11_settles_49 rfl (by decide) rfl ?_
          refine G_w (w2 := wY cI cZ ad (y_z2 M 0) t) (congrArg (fun z => wY cI cZ ad z t) (tri_0 (y_z1 M) _ _ _).symm) ?_
          refine G_pick (lv' := [(0, .ref (ad 0)), (1, .int (nI 0))]) [1, 0] rfl ?_
          refine loopN (P := fun n => G p l e (rmOf 0 0) s m args below meth c D _ 2 0 0 _ 50 [(0, .ref (ad 0)), (1, .int (nI n))] [] (wY cI cZ ad (y_z2 M n) t)) (6) ?_ ?_ 0 (Nat.zero_le _)  
          · skip
            refine G_iload_n C 1 dX11_settles_50 rfl rfl ?_
            refine G_bipush C dX11_settles_51 kB_6 ?_
            refine G_icmp_geN (tgt := 120) C dX11_settles_53 (by decide) (by decide) (by decide) (fun h53_6 => ?_) (fun h53_6 => ?_)
            · refine G_iconst C dX11_settles_120 kI_0 ?_
              refine G_istore_n (lv' := [(1, .int (nI 0)), (0, .ref (ad 0))]) C dX11_settles_121 rfl (by decide) rfl ?_
              refine G_w (w2 := wY cI cZ ad (y_z3 M 0) t) (congrArg (fun z => wY cI cZ ad z t) (cpy_0 (y_z2 M 6) _ _ _).symm) ?_
              refine G_pick (lv' := [(0, .ref (ad 0)), (1, .int (nI 0))]) [1, 0] rfl ?_
              refine loopN (P := fun n => G p l e (rmOf 0 0) s m args below meth c D _ 2 0 0 _ 122 [(0, .ref (ad 0)), (1, .int (nI n))] [] (wY cI cZ ad (y_z3 M n) t)) (5) ?_ ?_ 0 (Nat.zero_le _)  
              · skip
                refine G_iload_n C 1 dX11_settles_122 rfl rfl ?_
                refine G_iconst C dX11_settles_123 kI_5 ?_
                refine G_icmp_geN (tgt := 162) C dX11_settles_124 (by decide) (by decide) (by decide) (fun h124_8 => ?_) (fun h124_8 => ?_)
                · refine G_aload_n C 0 dX11_settles_162 rfl rfl ?_
                  refine G_iconst C dX11_settles_163 kI_0 ?_
                  refine G_put (w' := wY cI cZ ad (ms (y_z3 M 5) 0 (3) (0)) t) (ty := .int) C 0 3 tyX11 dX11_settles_164 yc_0 rfl inG11 tyX11_ok nmX11 (by decide) wm_840 rfl rfl (by decide +kernel) rfl rfl (Nat.le_of_ble_eq_true rfl) (yp_0_3 _) ?_
                  refine G_aload_n C 0 dX11_settles_167 rfl rfl ?_
                  refine G_iconst C dX11_settles_168 kI_0 ?_
                  refine G_put (w' := wY cI cZ ad (ms (ms (y_z3 M 5) 0 (3) (0)) 0 (22) (0)) t) (ty := .int) C 0 22 tyX11 dX11_settles_169 yc_0 rfl inG11 tyX11_ok nmX11 (by decide) wm_859 rfl rfl (by decide +kernel) rfl rfl (Nat.le_of_ble_eq_true rfl) (yp_0_22 _) ?_
                  refine G_aload_n C 0 dX11_settles_172 rfl rfl ?_
                  refine G_iconst C dX11_settles_173 kI_0 ?_
                  refine G_put (w' := wY cI cZ ad (ms (ms (ms (y_z3 M 5) 0 (3) (0)) 0 (22) (0)) 0 (25) (0)) t) (ty := .int) C 0 25 tyX11 dX11_settles_174 yc_0 rfl inG11 tyX11_ok nmX11 (by decide) wm_862 rfl rfl (by decide +kernel) rfl rfl (Nat.le_of_ble_eq_true rfl) (yp_0_25 _) ?_
                  refine G_aload_n C 0 dX11_settles_177 rfl rfl ?_
                  refine G_iconst C dX11_settles_178 kI_0 ?_
                  refine G_put (w' := wY cI cZ ad (ms (ms (ms (ms (y_z3 M 5) 0 (3) (0)) 0 (22) (0)) 0 (25) (0)) 0 (19) (0)) t) (ty := .int) C 0 19 tyX11 dX11_settles_179 yc_0 rfl inG11 tyX11_ok nmX11 (by decide) wm_856 rfl rfl (by decide +kernel) rfl rfl (Nat.le_of_ble_eq_true rfl) (yp_0_19 _) ?_
                  refine G_aload_n C 0 dX11_settles_182 rfl rfl ?_
                  refine G_get (v := .ref (ad 9)) C 0 17 dX11_settles_183 yc_0 rfl inG11 (by decide) wm_854 rfl rfl ?_
                  refine G_iconst C dX11_settles_186 kI_0 ?_
                  refine G_iconst C dX11_settles_187 kI_0 ?_
                  refine G_zast (w' := wY cI cZ ad (ms (ms (ms (ms (ms (y_z3 M 5) 0 (3) (0)) 0 (22) (0)) 0 (25) (0)) 0 (19) (0)) 9 (0) (0)) t) C 9 1 dX11_settles_188 yc_9 rfl (by decide) (by decide) (by decide) (ys_9 _ _) ?_
                  refine G_aload_n C 0 dX11_settles_189 rfl rfl ?_
                  refine G_get (v := .ref (ad 9)) C 0 17 dX11_settles_190 yc_0 rfl inG11 (by decide) wm_854 rfl rfl ?_
                  refine G_iconst C dX11_settles_193 kI_1 ?_
                  refine G_iconst C dX11_settles_194 kI_0 ?_
                  refine G_zast (w' := wY cI cZ ad (ms (ms (ms (ms (ms (ms (y_z3 M 5) 0 (3) (0)) 0 (22) (0)) 0 (25) (0)) 0 (19) (0)) 9 (0) (0)) 9 (1) (0)) t) C 9 1 dX11_settles_195 yc_9 rfl (by decide) (by decide) (by decide) (ys_9 _ _) ?_
                  exact G_vret C hr dX11_settles_196 rfl (rfl)
                · exact absurd h124_8 (by decide)
              · intro n hn ih7  
                refine G_iload_n C 1 dX11_settles_122 rfl rfl ?_
                refine G_iconst C dX11_settles_123 kI_5 ?_
                refine G_icmp_geN (tgt := 162) C dX11_settles_124 (by decide) (by omega) (by decide) (fun h124_9 => ?_) (fun h124_9 => ?_)
                · exfalso; omega
                · refine G_aload_n C 0 dX11_settles_127 rfl rfl ?_
                  refine G_get (v := .ref (ad 7)) C 0 15 dX11_settles_128 yc_0 rfl inG11 (by decide) wm_852 rfl rfl ?_
                  refine G_bipush C dX11_settles_131 kB_14 ?_
                  refine G_iload_n C 1 dX11_settles_133 rfl rfl ?_
                  refine G_iaddN C dX11_settles_134 ?_
                  refine G_iload_n C 1 dX11_settles_135 rfl rfl ?_
                  refine G_aload_n C 0 dX11_settles_136 rfl rfl ?_
                  refine G_get (v := .ref (ad 2)) C 0 9 dX11_settles_137 yc_0 rfl inG11 (by decide) wm_846 rfl rfl ?_
                  refine G_iconst C dX11_settles_140 kI_0 ?_
                  refine G_iald (v := nI (M 2 4)) C 2 0 dX11_settles_141 yc_2 rfl (by decide) (by decide) (congrArg nI (z3_2 (n := n) (j := 0) (by decide))) ?_
                  refine G_icmp_geN (tgt := 154) C dX11_settles_142 (by decide) (by omega) (by have := hB 2 4; omega) (fun h142_10 => ?_) (fun h142_10 => ?_)
                  · refine G_iconst C dX11_settles_154 kI_0 ?_
                    refine G_iast (w' := wY cI cZ ad (ms (y_z3 M n) 7 (14 + n) (0)) t) C 7 0 dX11_settles_155 yc_7 rfl (by omega) (by decide) (ys_7 _ _) ?_
                    refine G_iincN (lv' := [(1, .int (nI (n + 1))), (0, .ref (ad 0))]) C 1 dX11_settles_156 rfl (by decide) rfl ?_
                    refine G_goto (tgt := 122) C dX11_settles_159 (by decide) ?_
                    refine G_w (w2 := wY cI cZ ad (y_z3 M (n + 1)) t) (congrArg (fun z => wY cI cZ ad z t) (cpy_s (by omega) (by show _ = y_f4 M (0 + n); unfold y_f4; rw [Nat.zero_add, if_neg (by omega)]))) ?_
                    refine G_pick (lv' := [(0, .ref (ad 0)), (1, .int (nI (n + 1)))]) [1, 0] rfl ?_
                    exact ih7  
                  · refine G_aload_n C 0 dX11_settles_145 rfl rfl ?_
                    refine G_get (v := .ref (ad 3)) C 0 11 dX11_settles_146 yc_0 rfl inG11 (by decide) wm_848 rfl rfl ?_
                    refine G_iload_n C 1 dX11_settles_149 rfl rfl ?_
                    refine G_iald (v := nI (M 3 n)) C 3 0 dX11_settles_150 yc_3 rfl (by omega) (by decide) rfl ?_
                    refine G_goto (tgt := 155) C dX11_settles_151 (by decide) ?_
                    refine G_iast (w' := wY cI cZ ad (ms (y_z3 M n) 7 (14 + n) (M 3 n)) t) C 7 0 dX11_settles_155 yc_7 rfl (by omega) (by decide) (ys_7 _ _) ?_
                    refine G_iincN (lv' := [(1, .int (nI (n + 1))), (0, .ref (ad 0))]) C 1 dX11_settles_156 rfl (by decide) rfl ?_
                    refine G_goto (tgt := 122) C dX11_settles_159 (by decide) ?_
                    refine G_w (w2 := wY cI cZ ad (y_z3 M (n + 1)) t) (congrArg (fun z => wY cI cZ ad z t) (cpy_s (by omega) (by show _ = y_f4 M (0 + n); unfold y_f4; rw [Nat.zero_add, if_pos h142_10]))) ?_
                    refine G_pick (lv' := [(0, .ref (ad 0)), (1, .int (nI (n + 1)))]) [1, 0] rfl ?_
                    exact ih7  
            · exact absurd h53_6 (by decide)
          · intro n hn ih5  
            refine G_iload_n C 1 dX11_settles_50 rfl rfl ?_
            refine G_bipush C dX11_settles_51 kB_6 ?_
            refine G_icmp_geN (tgt := 120) C dX11_settles_53 (by decide) (by omega) (by decide) (fun h53_11 => ?_) (fun h53_11 => ?_)
            · exfalso; omega
            · refine G_aload_n C 0 dX11_settles_56 rfl rfl ?_
              refine G_get (v := .ref (ad 4)) C 0 12 dX11_settles_57 yc_0 rfl inG11 (by decide) wm_849 rfl rfl ?_
              refine G_iload_n C 1 dX11_settles_60 rfl rfl ?_
              refine G_aload_n C 0 dX11_settles_61 rfl rfl ?_
              refine G_get (v := .ref (ad 4)) C 0 12 dX11_settles_62 yc_0 rfl inG11 (by decide) wm_849 rfl rfl ?_
              refine G_bipush C dX11_settles_65 kB_6 ?_
              refine G_iload_n C 1 dX11_settles_67 rfl rfl ?_
              refine G_iaddN C dX11_settles_68 ?_
              refine G_iald (v := nI (M 4 (6 + n))) C 4 0 dX11_settles_69 yc_4 rfl (by omega) (by decide) (congrArg nI z2_4) ?_
              refine G_iast (w' := wY cI cZ ad (ms (y_z2 M n) 4 (n) (M 4 (6 + n))) t) C 4 0 dX11_settles_70 yc_4 rfl (by omega) (by decide) (ys_4 _ _) ?_
              refine G_aload_n C 0 dX11_settles_71 rfl rfl ?_
              refine G_get (v := .ref (ad 5)) C 0 13 dX11_settles_72 yc_0 rfl inG11 (by decide) wm_850 rfl rfl ?_
              refine G_iload_n C 1 dX11_settles_75 rfl rfl ?_
              refine G_aload_n C 0 dX11_settles_76 rfl rfl ?_
              refine G_get (v := .ref (ad 5)) C 0 13 dX11_settles_77 yc_0 rfl inG11 (by decide) wm_850 rfl rfl ?_
              refine G_bipush C dX11_settles_80 kB_6 ?_
              refine G_iload_n C 1 dX11_settles_82 rfl rfl ?_
              refine G_iaddN C dX11_settles_83 ?_
              refine G_iald (v := nI (M 5 (6 + n))) C 5 0 dX11_settles_84 yc_5 rfl (by omega) (by decide) (congrArg nI z2_5) ?_
              refine G_iast (w' := wY cI cZ ad (ms (ms (y_z2 M n) 4 (n) (M 4 (6 + n))) 5 (n) (M 5 (6 + n))) t) C 5 0 dX11_settles_85 yc_5 rfl (by omega) (by decide) (ys_5 _ _) ?_
              refine G_aload_n C 0 dX11_settles_86 rfl rfl ?_
              refine G_get (v := .ref (ad 7)) C 0 15 dX11_settles_87 yc_0 rfl inG11 (by decide) wm_852 rfl rfl ?_
              refine G_iconst C dX11_settles_90 kI_0 ?_
              refine G_iload_n C 1 dX11_settles_91 rfl rfl ?_
              refine G_iaddN C dX11_settles_92 ?_
              refine G_top (y := nI (n)) (congrArg nI (Nat.zero_add _)) ?_
              refine G_iload_n C 1 dX11_settles_93 rfl rfl ?_
              refine G_aload_n C 0 dX11_settles_94 rfl rfl ?_
              refine G_get (v := .ref (ad 2)) C 0 9 dX11_settles_95 yc_0 rfl inG11 (by decide) wm_846 rfl rfl ?_
              refine G_iconst C dX11_settles_98 kI_1 ?_
              refine G_iald (v := nI (M 2 5)) C 2 0 dX11_settles_99 yc_2 rfl (by decide) (by decide) (congrArg nI (z2_2 (n := n) (j := 1) (by decide))) ?_
              refine G_icmp_geN (tgt := 112) C dX11_settles_100 (by decide) (by omega) (by have := hB 2 5; omega) (fun h100_12 => ?_) (fun h100_12 => ?_)
              · refine G_iconst C dX11_settles_112 kI_0 ?_
                refine G_iast (w' := wY cI cZ ad (ms (ms (ms (y_z2 M n) 4 (n) (M 4 (6 + n))) 5 (n) (M 5 (6 + n))) 7 (n) (0)) t) C 7 0 dX11_settles_113 yc_7 rfl (by omega) (by decide) (ys_7 _ _) ?_
                refine G_iincN (lv' := [(1, .int (nI (n + 1))), (0, .ref (ad 0))]) C 1 dX11_settles_114 rfl (by decide) rfl ?_
                refine G_goto (tgt := 50) C dX11_settles_117 (by decide) ?_
                refine G_w (w2 := wY cI cZ ad (y_z2 M (n + 1)) t) (congrArg (fun z => wY cI cZ ad z t) (tri_s rfl rfl ((if_neg (by omega)).symm))) ?_
                refine G_pick (lv' := [(0, .ref (ad 0)), (1, .int (nI (n + 1)))]) [1, 0] rfl ?_
                exact ih5  
              · refine G_aload_n C 0 dX11_settles_103 rfl rfl ?_
                refine G_get (v := .ref (ad 6)) C 0 14 dX11_settles_104 yc_0 rfl inG11 (by decide) wm_851 rfl rfl ?_
                refine G_iload_n C 1 dX11_settles_107 rfl rfl ?_
                refine G_iald (v := nI (M 6 n)) C 6 0 dX11_settles_108 yc_6 rfl (by omega) (by decide) rfl ?_
                refine G_goto (tgt := 113) C dX11_settles_109 (by decide) ?_
                refine G_iast (w' := wY cI cZ ad (ms (ms (ms (y_z2 M n) 4 (n) (M 4 (6 + n))) 5 (n) (M 5 (6 + n))) 7 (n) (M 6 n)) t) C 7 0 dX11_settles_113 yc_7 rfl (by omega) (by decide) (ys_7 _ _) ?_
                refine G_iincN (lv' := [(1, .int (nI (n + 1))), (0, .ref (ad 0))]) C 1 dX11_settles_114 rfl (by decide) rfl ?_
                refine G_goto (tgt := 50) C dX11_settles_117 (by decide) ?_
                refine G_w (w2 := wY cI cZ ad (y_z2 M (n + 1)) t) (congrArg (fun z => wY cI cZ ad z t) (tri_s rfl rfl ((if_pos h100_12).symm))) ?_
                refine G_pick (lv' := [(0, .ref (ad 0)), (1, .int (nI (n + 1)))]) [1, 0] rfl ?_
                exact ih5  
        · exact absurd h32_4 (by decide)
      · intro n hn ih3  
        refine G_iload_n C 1 dX11_settles_29 rfl rfl ?_
        refine G_bipush C dX11_settles_30 kB_20 ?_
        refine G_icmp_geN (tgt := 48) C dX11_settles_32 (by decide) (by omega) (by decide) (fun h32_13 => ?_) (fun h32_13 => ?_)
        · exfalso; omega
        · refine G_aload_n C 0 dX11_settles_35 rfl rfl ?_
          refine G_get (v := .ref (ad 7)) C 0 15 dX11_settles_36 yc_0 rfl inG11 (by decide) wm_852 rfl rfl ?_
          refine G_iload_n C 1 dX11_settles_39 rfl rfl ?_
          refine G_iconst C dX11_settles_40 kI_0 ?_
          refine G_iast (w' := wY cI cZ ad (ms (fillR (fillR M 2 (fun j => M 2 (4 + j)) (4)) 7 (fun j => 0) (n)) 7 (n) (0)) t) C 7 0 dX11_settles_41 yc_7 rfl (by omega) (by decide) (ys_7 _ _) ?_
          refine G_iincN (lv' := [(1, .int (nI (n + 1))), (0, .ref (ad 0))]) C 1 dX11_settles_42 rfl (by decide) rfl ?_
          refine G_goto (tgt := 29) C dX11_settles_45 (by decide) ?_
          refine G_w (w2 := wY cI cZ ad (fillR (fillR M 2 (fun j => M 2 (4 + j)) (4)) 7 (fun j => 0) (n + 1)) t) (congrArg (fun z => wY cI cZ ad z t) (fill_s (rfl))) ?_
          refine G_pick (lv' := [(0, .ref (ad 0)), (1, .int (nI (n + 1)))]) [1, 0] rfl ?_
          exact ih3  
    · exact absurd h4_2 (by decide)
  · intro n hn ih1  
    refine G_iload_n C 1 dX11_settles_2 rfl rfl ?_
    refine G_iconst C dX11_settles_3 kI_4 ?_
    refine G_icmp_geN (tgt := 27) C dX11_settles_4 (by decide) (by omega) (by decide) (fun h4_14 => ?_) (fun h4_14 => ?_)
    · exfalso; omega
    · refine G_aload_n C 0 dX11_settles_7 rfl rfl ?_
      refine G_get (v := .ref (ad 2)) C 0 9 dX11_settles_8 yc_0 rfl inG11 (by decide) wm_846 rfl rfl ?_
      refine G_iload_n C 1 dX11_settles_11 rfl rfl ?_
      refine G_aload_n C 0 dX11_settles_12 rfl rfl ?_
      refine G_get (v := .ref (ad 2)) C 0 9 dX11_settles_13 yc_0 rfl inG11 (by decide) wm_846 rfl rfl ?_
      refine G_iconst C dX11_settles_16 kI_4 ?_
      refine G_iload_n C 1 dX11_settles_17 rfl rfl ?_
      refine G_iaddN C dX11_settles_18 ?_
      refine G_iald (v := nI (M 2 (4 + n))) C 2 0 dX11_settles_19 yc_2 rfl (by omega) (by decide) (congrArg nI (fill_hi (by omega))) ?_
      refine G_iast (w' := wY cI cZ ad (ms (fillR M 2 (fun j => M 2 (4 + j)) (n)) 2 (n) (M 2 (4 + n))) t) C 2 0 dX11_settles_20 yc_2 rfl (by omega) (by decide) (ys_2 _ _) ?_
      refine G_iincN (lv' := [(1, .int (nI (n + 1))), (0, .ref (ad 0))]) C 1 dX11_settles_21 rfl (by decide) rfl ?_
      refine G_goto (tgt := 2) C dX11_settles_24 (by decide) ?_
      refine G_w (w2 := wY cI cZ ad (fillR M 2 (fun j => M 2 (4 + j)) (n + 1)) t) (congrArg (fun z => wY cI cZ ad z t) (fill_s (rfl))) ?_
      refine G_pick (lv' := [(0, .ref (ad 0)), (1, .int (nI (n + 1)))]) [1, 0] rfl ?_
      exact ih1  
set_option maxHeartbeats 4000000 in
set_option maxRecDepth 100000 in
theorem c_X11_country  (h0 : M 0 0 = 0) (hT0 : M 0 3 ≤ 150) (hB0 : ∀ k j, M k j < 1024) : CT l yX11_country cX11_country 3 (some .int) (rmOf 5 109) D (tyI cI cZ) [.ref (ad 0)] (wY cI cZ ad M t) (some (.int (y_cty M).1)) (wY cI cZ ad (y_cty M).2 t) := by
  have hC0 := y_c0_CI hB0 hT0
  refine CT_of (own := "FalseParityModel") (by decide) rfl (Nat.le_of_ble_eq_true rfl) (fun p e s m args below meth c C hr => ?_)
  refine G_aload_n C 0 dX11_country_0 rfl rfl ?_
  refine G_iconst C dX11_country_1 kI_0 ?_
  refine G_put (w' := wY cI cZ ad (ms M 0 (0) (0)) t) (ty := .int) C 0 0 tyX11 dX11_country_2 yc_0 rfl inG11 tyX11_ok nmX11 (by decide) wm_837 rfl rfl (by decide +kernel) rfl rfl (Nat.le_of_ble_eq_true rfl) (yp_0_0 _) ?_
  refine G_w (w2 := wY cI cZ ad M t) (congrArg (fun z => wY cI cZ ad z t) (ms_id h0)) ?_
  refine G_aload_n C 0 dX11_country_5 rfl rfl ?_
  refine G_iconst C dX11_country_6 kI_m1 ?_
  refine G_top (y := nI 0 - 1) (by decide) ?_
  refine G_put (w' := wY cI cZ ad (ms M 0 (8) (0)) t) (ty := .int) C 0 8 tyX11 dX11_country_7 yc_0 rfl inG11 tyX11_ok nmX11 (by decide) wm_845 rfl rfl (by decide +kernel) rfl rfl (Nat.le_of_ble_eq_true rfl) (yp_0_8 _) ?_
  refine G_aload_n C 0 dX11_country_10 rfl rfl ?_
  refine G_iconst C dX11_country_11 kI_0 ?_
  refine G_put (w' := wY cI cZ ad (ms (ms M 0 (8) (0)) 0 (4) (0)) t) (ty := .int) C 0 4 tyX11 dX11_country_12 yc_0 rfl inG11 tyX11_ok nmX11 (by decide) wm_841 rfl rfl (by decide +kernel) rfl rfl (Nat.le_of_ble_eq_true rfl) (yp_0_4 _) ?_
  refine G_aload_n C 0 dX11_country_15 rfl rfl ?_
  refine G_callV0 (w' := wY cI cZ ad (y_bgs (ms (ms M 0 (8) (0)) 0 (4) (0))) t) C [] 0 dX11_country_16 c_X11_begins wm_829 wm_831 wm_31 wm_61 wm_832 yc_0 rfl ydc_X11_begins rfl ⟨Nat.le_of_ble_eq_true rfl, Nat.le_of_ble_eq_true rfl⟩ ⟨rfl, rfl⟩ ⟨Nat.le_refl _, Nat.le_refl _⟩ (Nat.le_of_ble_eq_true rfl) rfl ?_
  refine G_iconst C dX11_country_19 kI_0 ?_
  refine G_istore_n (lv' := [(1, .int (nI 0)), (0, .ref (ad 0))]) C dX11_country_20 rfl (by decide) rfl ?_
  refine G_aload_n C 1 dX11_country_21 rfl rfl ?_
  refine G_callV0 (w' := wY cI cZ ad (y_adv (y_bgs (ms (ms M 0 (8) (0)) 0 (4) (0)))) t) C [] 0 dX11_country_22 (c_X11_advances hT0 (Nat.zero_le _) (hB_ms (hB_ms (hB_ms (hB_ms (hB_ms (hB_ms (hB_ms hB0 (by decide)) (by decide)) (by decide)) (by decide)) (by decide)) (by decide)) (by decide))) wm_938 wm_940 wm_33 wm_61 wm_941 yc_0 rfl ydc_X11_advances rfl ⟨Nat.le_of_ble_eq_true rfl, Nat.le_of_ble_eq_true rfl⟩ ⟨rfl, rfl⟩ ⟨Nat.le_refl _, Nat.le_refl _⟩ (Nat.le_of_ble_eq_true rfl) rfl ?_
  refine cutG (α := Nat × (Nat → Nat → Nat)) (fun q => y_CI (M 0 3) q.2 q.1 ∧ y_end q.2 q.1 = y_cty M) 100 (fun q => [(0, .ref (ad 0)), (1, .int (nI (q.1)))]) (fun q => []) (fun q => wY cI cZ ad q.2 t) (fun q hc100_h => ?_) (fun hc100 => ?_)
  · obtain ⟨hcq, hend⟩ := hc100_h
    obtain ⟨hR, e3, h24, h25, h10t, hpl⟩ := id hcq
    obtain ⟨hB, hT, hX, hP, hQ⟩ := id hR
    refine G_aload_n C 0 dX11_country_100 rfl rfl ?_
    refine G_callV1 C [] 0 dX11_country_101 (c_X11_isWell hB) wm_946 wm_948 wm_35 wm_61 wm_949 yc_0 rfl ydc_X11_isWell rfl ⟨Nat.le_of_ble_eq_true rfl, Nat.le_of_ble_eq_true rfl⟩ ⟨rfl, rfl⟩ ⟨Nat.le_refl _, Nat.le_refl _⟩ (Nat.le_of_ble_eq_true rfl) rfl ?_
    refine G_if_neB (tgt := 115) C dX11_country_104 (by decide) (fun h104_1 => ?_) (fun h104_1 => ?_)
    · refine G_aload_n C 0 dX11_country_115 rfl rfl ?_
      refine G_callV0 (w' := wY cI cZ ad (y_set q.2) t) C [] 0 dX11_country_116 (c_X11_settles hB) wm_833 wm_835 wm_32 wm_61 wm_836 yc_0 rfl ydc_X11_settles rfl ⟨Nat.le_of_ble_eq_true rfl, Nat.le_of_ble_eq_true rfl⟩ ⟨rfl, rfl⟩ ⟨Nat.le_refl _, Nat.le_refl _⟩ (Nat.le_of_ble_eq_true rfl) rfl ?_
      refine G_iload_n C 1 dX11_country_119 rfl rfl ?_
      exact G_iret C hr dX11_country_120 (by rw [← hend, show y_end q.2 q.1 = _ from if_pos (of_decide_eq_true h104_1)]) (congrArg (fun z => wY cI cZ ad z t) (by rw [← hend, show y_end q.2 q.1 = _ from if_pos (of_decide_eq_true h104_1)]))
    · refine G_bipush C dX11_country_107 kB_m10 ?_
      refine G_aload_n C 0 dX11_country_109 rfl rfl ?_
      refine G_get (v := .int (nI (q.2 0 8) - 1)) C 0 8 dX11_country_110 yc_0 rfl inG11 (by decide) wm_845 rfl rfl ?_
      refine G_isub C dX11_country_113 ?_
      exact G_iret C hr dX11_country_114 (by rw [← hend, show y_end q.2 q.1 = _ from if_neg (of_decide_eq_false h104_1)]) (congrArg (fun z => wY cI cZ ad z t) (by rw [← hend, show y_end q.2 q.1 = _ from if_neg (of_decide_eq_false h104_1)]))
  · refine G_pick (lv' := [(0, .ref (ad 0)), (1, .int (nI 0))]) [1, 0] rfl ?_
    refine loopN (P := fun n => ∀ M1 : Nat → Nat → Nat, (y_CI (M 0 3) M1 n) → (y_loop (M 0 3 + 1 - n) n M1 = y_cty M) → G p l e (rmOf 5 109) s m args below meth c D _ 3 0 0 _ 25 [(0, .ref (ad 0)), (1, .int (nI n))] [] (wY cI cZ ad M1 t)) (M 0 3 + 1) ?_ ?_ 0 (Nat.zero_le _) (y_c0 M) hC0 rfl
    · intro M1 hi2_0 hi2_1
      obtain ⟨hR, e3, h24, h25, h10t, hpl⟩ := id hi2_0
      obtain ⟨hB, hT, hX, hP, hQ⟩ := id hR
      refine G_aload_n C 0 dX11_country_25 rfl rfl ?_
      refine G_callV1 C [] 0 dX11_country_26 (c_X11_isWell hB) wm_946 wm_948 wm_35 wm_61 wm_949 yc_0 rfl ydc_X11_isWell rfl ⟨Nat.le_of_ble_eq_true rfl, Nat.le_of_ble_eq_true rfl⟩ ⟨rfl, rfl⟩ ⟨Nat.le_refl _, Nat.le_refl _⟩ (Nat.le_of_ble_eq_true rfl) rfl ?_
      refine G_if_eqB (tgt := 100) C dX11_country_29 (by decide) (fun h29_3 => ?_) (fun h29_3 => ?_)
      · exact hc100 (M 0 3 + 1, M1) ⟨hi2_0, (by rw [← hi2_1, Nat.sub_self]; rfl)⟩
      · exfalso; have q := hpl (of_decide_eq_true h29_3); omega
    · intro n hnT ih2 M1 hi2_0 hi2_1
      obtain ⟨hR, e3, h24, h25, h10t, hpl⟩ := id hi2_0
      obtain ⟨hB, hT, hX, hP, hQ⟩ := id hR
      refine G_aload_n C 0 dX11_country_25 rfl rfl ?_
      refine G_callV1 C [] 0 dX11_country_26 (c_X11_isWell hB) wm_946 wm_948 wm_35 wm_61 wm_949 yc_0 rfl ydc_X11_isWell rfl ⟨Nat.le_of_ble_eq_true rfl, Nat.le_of_ble_eq_true rfl⟩ ⟨rfl, rfl⟩ ⟨Nat.le_refl _, Nat.le_refl _⟩ (Nat.le_of_ble_eq_true rfl) rfl ?_
      refine G_if_eqB (tgt := 100) C dX11_country_29 (by decide) (fun h29_4 => ?_) (fun h29_4 => ?_)
      · exact hc100 (n, M1) ⟨hi2_0, (by rw [← hi2_1, show M 0 3 + 1 - n = (M 0 3 + 1 - (n + 1)) + 1 by omega]; exact (if_neg (fun q => by have := of_decide_eq_false h29_4; exact this q.1)).symm)⟩
      · refine G_aload_n C 0 dX11_country_32 rfl rfl ?_
        refine G_get (v := .int (nI (M1 0 5))) C 0 5 dX11_country_33 yc_0 rfl inG11 (by decide) wm_842 rfl rfl ?_
        refine G_if_eqN (tgt := 100) C dX11_country_36 (by decide) (by have := hB 0 5; omega) (fun h36_5 => ?_) (fun h36_5 => ?_)
        · exact hc100 (n, M1) ⟨hi2_0, (by rw [← hi2_1, show M 0 3 + 1 - n = (M 0 3 + 1 - (n + 1)) + 1 by omega]; exact (if_neg (fun q => q.2 h36_5)).symm)⟩
        · refine cutG (α := Unit) (fun _u => True) 60 (fun _u => [(0, .ref (ad 0)), (1, .int (nI n))]) (fun _u => [.int (nI (bN (y_c1 M1))), .ref (ad 0)]) (fun _u => wY cI cZ ad M1 t) (fun _u hc60_h => ?_) (fun hc60 => ?_)
          · refine G_callV1 (w' := wY cI cZ ad ((y_take M1 (y_c1 M1)).2) t) C [.int (nI (bN (y_c1 M1)))] 0 dX11_country_60 (c_X11_takes (b := y_c1 M1) hR) wm_954 wm_956 wm_37 wm_61 wm_957 yc_0 rfl ydc_X11_takes rfl ⟨Nat.le_of_ble_eq_true rfl, Nat.le_of_ble_eq_true rfl⟩ ⟨rfl, rfl⟩ ⟨Nat.le_refl _, Nat.le_refl _⟩ (Nat.le_of_ble_eq_true rfl) rfl ?_
            refine G_istore_n (lv' := [(2, .int (nI ((y_take M1 (y_c1 M1)).1))), (0, .ref (ad 0)), (1, .int (nI n))]) C dX11_country_63 rfl (by decide) rfl ?_
            refine cutG (α := Unit) (fun _u => True) 76 (fun _u => [(0, .ref (ad 0)), (1, .int (nI n))]) (fun _u => []) (fun _u => wY cI cZ ad (y_it2 M1) t) (fun _u hc76_h => ?_) (fun hc76 => ?_)
            · refine cutG (α := Unit) (fun _u => True) 90 (fun _u => [(0, .ref (ad 0)), (1, .int (nI n))]) (fun _u => [.int (nI (bN (decide (y_it2 M1 0 5 = 3)))), .ref (ad 0)]) (fun _u => wY cI cZ ad (y_it2 M1) t) (fun _u hc90_h => ?_) (fun hc90 => ?_)
              · refine G_callV1 (w' := wY cI cZ ad ((y_take (y_it2 M1) (decide (y_it2 M1 0 5 = 3))).2) t) C [.int (nI (bN (decide (y_it2 M1 0 5 = 3))))] 0 dX11_country_90 (c_X11_takes (b := decide (y_it2 M1 0 5 = 3)) (y_it2_OK hR h24 h25 h10t).1) wm_954 wm_956 wm_37 wm_61 wm_957 yc_0 rfl ydc_X11_takes rfl ⟨Nat.le_of_ble_eq_true rfl, Nat.le_of_ble_eq_true rfl⟩ ⟨rfl, rfl⟩ ⟨Nat.le_refl _, Nat.le_refl _⟩ (Nat.le_of_ble_eq_true rfl) rfl ?_
                refine G_pop C dX11_country_93 rfl ?_
                refine G_iincN (lv' := [(1, .int (nI (n + 1))), (0, .ref (ad 0))]) C 1 dX11_country_94 rfl (by decide) rfl ?_
                refine G_goto (tgt := 25) C dX11_country_97 (by decide) ?_
                refine G_w (w2 := wY cI cZ ad (y_item M1) t) rfl ?_
                refine G_pick (lv' := [(0, .ref (ad 0)), (1, .int (nI (n + 1)))]) [1, 0] rfl ?_
                exact ih2 _ (y_item_CI hi2_0 (Nat.pos_iff_ne_zero.mp h36_5) (of_decide_eq_true h29_4)) (by rw [← hi2_1, show M 0 3 + 1 - n = (M 0 3 + 1 - (n + 1)) + 1 by omega]; exact (if_pos ⟨of_decide_eq_true h29_4, Nat.pos_iff_ne_zero.mp h36_5⟩).symm)
              · refine G_aload_n C 0 dX11_country_76 rfl rfl ?_
                refine G_aload_n C 0 dX11_country_77 rfl rfl ?_
                refine G_get (v := .int (nI ((y_it2 M1) 0 5))) C 0 5 dX11_country_78 yc_0 rfl inG11 (by decide) wm_842 rfl rfl ?_
                refine G_iconst C dX11_country_81 kI_3 ?_
                refine G_icmp_neN (tgt := 89) C dX11_country_82 (by decide) (by first | decide | (have := (y_it2_OK hR h24 h25 h10t).1.1 0 5; omega)) (by first | decide | (have := (y_it2_OK hR h24 h25 h10t).1.1 0 5; omega)) (fun h82_6 => ?_) (fun h82_6 => ?_)
                · refine G_iconst C dX11_country_89 kI_0 ?_
                  refine G_top (y := nI (bN (decide (y_it2 M1 0 5 = 3)))) (congrArg nI (by rw [decide_eq_false h82_6]; rfl)) ?_
                  exact hc90 () trivial
                · refine G_iconst C dX11_country_85 kI_1 ?_
                  refine G_goto (tgt := 90) C dX11_country_86 (by decide) ?_
                  refine G_top (y := nI (bN (decide (y_it2 M1 0 5 = 3)))) (congrArg nI (by rw [decide_eq_true h82_6]; rfl)) ?_
                  exact hc90 () trivial
            · refine G_aload_n C 1 dX11_country_64 rfl rfl ?_
              refine G_callV1 (v := .int (nI (bN (decide (((y_take M1 (y_c1 M1)).2) 0 8 = 0))))) C [] 0 dX11_country_65 (c_X11_isWell (y_take_RB hR).1.1) wm_946 wm_948 wm_35 wm_61 wm_949 yc_0 rfl ydc_X11_isWell rfl ⟨Nat.le_of_ble_eq_true rfl, Nat.le_of_ble_eq_true rfl⟩ ⟨rfl, rfl⟩ ⟨Nat.le_refl _, Nat.le_refl _⟩ (Nat.le_of_ble_eq_true rfl) rfl ?_
              refine G_if_eqB (tgt := 76) C dX11_country_68 (by decide) (fun h68_7 => ?_) (fun h68_7 => ?_)
              · refine G_w (w2 := wY cI cZ ad (y_it2 M1) t) (congrArg (fun z => wY cI cZ ad z t) (show _ = y_it2 M1 from (if_neg (of_decide_eq_false h68_7)).symm)) ?_
                refine G_pick (lv' := [(0, .ref (ad 0)), (1, .int (nI n))]) [1, 2] rfl ?_
                exact hc76 () trivial
              · refine G_aload_n C 1 dX11_country_71 rfl rfl ?_
                refine G_iload_n C 0 dX11_country_72 rfl rfl ?_
                refine G_callV0 (w' := wY cI cZ ad (y_ri ((y_take M1 (y_c1 M1)).2) ((y_take M1 (y_c1 M1)).1)) t) C [.int (nI ((y_take M1 (y_c1 M1)).1))] 0 dX11_country_73 (c_X11_readsItem (y_it1_ok hR (of_decide_eq_true h68_7)).1 (y_it1_ok hR (of_decide_eq_true h68_7)).2.1 (y_it1_ok hR (of_decide_eq_true h68_7)).2.2.1 (y_it1_ok hR (of_decide_eq_true h68_7)).2.2.2) wm_958 wm_960 wm_38 wm_61 wm_961 yc_0 rfl ydc_X11_readsItem rfl ⟨Nat.le_of_ble_eq_true rfl, Nat.le_of_ble_eq_true rfl⟩ ⟨rfl, rfl⟩ ⟨Nat.le_refl _, Nat.le_refl _⟩ (Nat.le_of_ble_eq_true rfl) rfl ?_
                refine G_w (w2 := wY cI cZ ad (y_it2 M1) t) (congrArg (fun z => wY cI cZ ad z t) (show _ = y_it2 M1 from (if_pos (of_decide_eq_true h68_7)).symm)) ?_
                refine G_pick (lv' := [(0, .ref (ad 0)), (1, .int (nI n))]) [1, 2] rfl ?_
                exact hc76 () trivial
          · refine G_aload_n C 0 dX11_country_39 rfl rfl ?_
            refine G_aload_n C 0 dX11_country_40 rfl rfl ?_
            refine G_get (v := .int (nI (M1 0 5))) C 0 5 dX11_country_41 yc_0 rfl inG11 (by decide) wm_842 rfl rfl ?_
            refine G_iconst C dX11_country_44 kI_1 ?_
            refine G_icmp_neN (tgt := 59) C dX11_country_45 (by decide) (by first | decide | (have := hB 0 5; omega)) (by first | decide | (have := hB 0 5; omega)) (fun h45_8 => ?_) (fun h45_8 => ?_)
            · refine G_iconst C dX11_country_59 kI_0 ?_
              refine G_top (y := nI (bN (y_c1 M1))) (congrArg nI (by unfold y_c1; rw [decide_eq_false h45_8, Bool.false_and]; rfl)) ?_
              exact hc60 () trivial
            · refine G_aload_n C 0 dX11_country_48 rfl rfl ?_
              refine G_callV1 C [] 0 dX11_country_49 (c_X11_mayBegin hB) wm_950 wm_952 wm_36 wm_61 wm_953 yc_0 rfl ydc_X11_mayBegin rfl ⟨Nat.le_of_ble_eq_true rfl, Nat.le_of_ble_eq_true rfl⟩ ⟨rfl, rfl⟩ ⟨Nat.le_refl _, Nat.le_refl _⟩ (Nat.le_of_ble_eq_true rfl) rfl ?_
              refine G_if_eqB (tgt := 59) C dX11_country_52 (by decide) (fun h52_9 => ?_) (fun h52_9 => ?_)
              · refine G_iconst C dX11_country_59 kI_0 ?_
                refine G_top (y := nI (bN (y_c1 M1))) (congrArg nI (by unfold y_c1; rw [decide_eq_true h45_8, Bool.true_and, h52_9]; rfl)) ?_
                exact hc60 () trivial
              · refine G_iconst C dX11_country_55 kI_1 ?_
                refine G_goto (tgt := 60) C dX11_country_56 (by decide) ?_
                refine G_top (y := nI (bN (y_c1 M1))) (congrArg nI (by unfold y_c1; rw [decide_eq_true h45_8, Bool.true_and, h52_9]; rfl)) ?_
                exact hc60 () trivial
end Y7
