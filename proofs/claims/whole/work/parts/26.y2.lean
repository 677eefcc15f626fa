section Y2
variable {l : Launch} {D : va_G} {cI cZ : ClassId} {ad : Nat → Nat} {M : Nat → Nat → Nat} {t : Int64}
set_option maxHeartbeats 4000000 in
set_option maxRecDepth 100000 in
theorem c_X11_notes  (hU : M 0 19 ≤ 10) (hB : ∀ k j, M k j < 1024) : CT l yX11_notes cX11_notes 2 none (rmOf 0 0) D (tyI cI cZ) [.ref (ad 0)] (wY cI cZ ad M t) (none) (wY cI cZ ad (y_push M) t) := by
  refine CT_of (own := "FalseParityModel") (by decide) rfl (Nat.le_of_ble_eq_true rfl) (fun p e s m args below meth c C hr => ?_)
  refine G_aload_n C 0 dX11_notes_0 rfl rfl ?_
  refine G_get (v := .int (nI (M 0 19))) C 0 19 dX11_notes_1 yc_0 rfl inG11 (by decide) wm_856 rfl rfl ?_
  refine G_bipush C dX11_notes_4 kB_10 ?_
  refine G_icmp_neN (tgt := 45) C dX11_notes_6 (by decide) (by have := hB 0 19; omega) (by decide) (fun h6_1 => ?_) (fun h6_1 => ?_)
  · refine G_iconst C dX11_notes_45 kI_0 ?_
    refine G_istore_n (lv' := [(1, .int (nI 0)), (0, .ref (ad 0))]) C dX11_notes_46 rfl (by decide) rfl ?_
    refine G_w (w2 := wY cI cZ ad (va_up M 10 (va_cpy (M 7) (M 10) (0) (20 * M 0 19) (0))) t) (congrArg (fun z => wY cI cZ ad z t) (cpy_0 M _ _ _).symm) ?_
    refine G_pick (lv' := [(0, .ref (ad 0)), (1, .int (nI 0))]) [1, 0] rfl ?_
    refine loopN (P := fun n => G p l e (rmOf 0 0) s m args below meth c D _ 2 0 0 _ 47 [(0, .ref (ad 0)), (1, .int (nI n))] [] (wY cI cZ ad (va_up M 10 (va_cpy (M 7) (M 10) (0) (20 * M 0 19) (n))) t)) (20) ?_ ?_ 0 (Nat.zero_le _)  
    · skip
      refine G_iload_n C 1 dX11_notes_47 rfl rfl ?_
      refine G_bipush C dX11_notes_48 kB_20 ?_
      refine G_icmp_geN (tgt := 79) C dX11_notes_50 (by decide) (by decide) (by decide) (fun h50_3 => ?_) (fun h50_3 => ?_)
      · refine G_aload_n C 0 dX11_notes_79 rfl rfl ?_
        refine G_dup C dX11_notes_80 rfl ?_
        refine G_get (v := .int (nI (M 0 19))) C 0 19 dX11_notes_81 yc_0 rfl inG11 (by decide) wm_856 rfl rfl ?_
        refine G_iconst C dX11_notes_84 kI_1 ?_
        refine G_iaddN C dX11_notes_85 ?_
        refine G_put (w' := wY cI cZ ad (ms (va_up M 10 (va_cpy (M 7) (M 10) (0) (20 * M 0 19) (20))) 0 (19) ((M 0 19) + 1)) t) (ty := .int) C 0 19 tyX11 dX11_notes_86 yc_0 rfl inG11 tyX11_ok nmX11 (by decide) wm_856 rfl rfl (by decide +kernel) rfl rfl (Nat.le_of_ble_eq_true rfl) (yp_0_19 _) ?_
        exact G_vret C hr dX11_notes_89 rfl (congrArg (fun z => wY cI cZ ad z t) (by rw [show y_push M = _ from by unfold y_push y_r10 y_u; rw [if_neg h6_1, if_neg h6_1]]))
      · exact absurd h50_3 (by decide)
    · intro n hn ih2  
      refine G_iload_n C 1 dX11_notes_47 rfl rfl ?_
      refine G_bipush C dX11_notes_48 kB_20 ?_
      refine G_icmp_geN (tgt := 79) C dX11_notes_50 (by decide) (by omega) (by decide) (fun h50_4 => ?_) (fun h50_4 => ?_)
      · exfalso; omega
      · refine G_aload_n C 0 dX11_notes_53 rfl rfl ?_
        refine G_get (v := .ref (ad 10)) C 0 18 dX11_notes_54 yc_0 rfl inG11 (by decide) wm_855 rfl rfl ?_
        refine G_bipush C dX11_notes_57 kB_20 ?_
        refine G_aload_n C 0 dX11_notes_59 rfl rfl ?_
        refine G_get (v := .int (nI (M 0 19))) C 0 19 dX11_notes_60 yc_0 rfl inG11 (by decide) wm_856 rfl rfl ?_
        refine G_imulN C dX11_notes_63 ?_
        refine G_iload_n C 1 dX11_notes_64 rfl rfl ?_
        refine G_iaddN C dX11_notes_65 ?_
        refine G_aload_n C 0 dX11_notes_66 rfl rfl ?_
        refine G_get (v := .ref (ad 7)) C 0 15 dX11_notes_67 yc_0 rfl inG11 (by decide) wm_852 rfl rfl ?_
        refine G_iload_n C 1 dX11_notes_70 rfl rfl ?_
        refine G_iald (v := nI (M 7 n)) C 7 0 dX11_notes_71 yc_7 rfl (by omega) (by decide) rfl ?_
        refine G_iast (w' := wY cI cZ ad (ms (va_up M 10 (va_cpy (M 7) (M 10) (0) (20 * M 0 19) (n))) 10 ((20 * (M 0 19)) + n) (M 7 n)) t) C 10 0 dX11_notes_72 yc_10 rfl (by have := hB 0 19; omega) (by decide) (ys_10 _ _) ?_
        refine G_iincN (lv' := [(1, .int (nI (n + 1))), (0, .ref (ad 0))]) C 1 dX11_notes_73 rfl (by decide) rfl ?_
        refine G_goto (tgt := 47) C dX11_notes_76 (by decide) ?_
        refine G_w (w2 := wY cI cZ ad (va_up M 10 (va_cpy (M 7) (M 10) (0) (20 * M 0 19) (n + 1))) t) (congrArg (fun z => wY cI cZ ad z t) (cpy_s (by omega) (congrArg (M 7) (by omega)))) ?_
        refine G_pick (lv' := [(0, .ref (ad 0)), (1, .int (nI (n + 1)))]) [1, 0] rfl ?_
        exact ih2  
  · refine G_iconst C dX11_notes_9 kI_0 ?_
    refine G_istore_n (lv' := [(1, .int (nI 0)), (0, .ref (ad 0))]) C dX11_notes_10 rfl (by decide) rfl ?_
    refine G_w (w2 := wY cI cZ ad (va_up M 10 (va_cpy (M 10) (M 10) (20) (0) (0))) t) (congrArg (fun z => wY cI cZ ad z t) (cpy_0 M _ _ _).symm) ?_
    refine G_pick (lv' := [(0, .ref (ad 0)), (1, .int (nI 0))]) [1, 0] rfl ?_
    refine loopN (P := fun n => G p l e (rmOf 0 0) s m args below meth c D _ 2 0 0 _ 11 [(0, .ref (ad 0)), (1, .int (nI n))] [] (wY cI cZ ad (va_up M 10 (va_cpy (M 10) (M 10) (20) (0) (n))) t)) (180) ?_ ?_ 0 (Nat.zero_le _)  
    · skip
      refine G_iload_n C 1 dX11_notes_11 rfl rfl ?_
      refine G_sipush C dX11_notes_12 kS_180 ?_
      refine G_icmp_geN (tgt := 39) C dX11_notes_15 (by decide) (by decide) (by decide) (fun h15_6 => ?_) (fun h15_6 => ?_)
      · refine G_aload_n C 0 dX11_notes_39 rfl rfl ?_
        refine G_bipush C dX11_notes_40 kB_9 ?_
        refine G_put (w' := wY cI cZ ad (ms (va_up M 10 (va_cpy (M 10) (M 10) (20) (0) (180))) 0 (19) (9)) t) (ty := .int) C 0 19 tyX11 dX11_notes_42 yc_0 rfl inG11 tyX11_ok nmX11 (by decide) wm_856 rfl rfl (by decide +kernel) rfl rfl (Nat.le_of_ble_eq_true rfl) (yp_0_19 _) ?_
        refine G_iconst C dX11_notes_45 kI_0 ?_
        refine G_istore_n (lv' := [(1, .int (nI 0)), (0, .ref (ad 0))]) C dX11_notes_46 rfl (by decide) rfl ?_
        refine G_w (w2 := wY cI cZ ad (va_up (ms (va_up M 10 (va_cpy (M 10) (M 10) (20) (0) (180))) 0 (19) (9)) 10 (va_cpy (M 7) ((ms (va_up M 10 (va_cpy (M 10) (M 10) (20) (0) (180))) 0 (19) (9)) 10) (0) (180) (0))) t) (congrArg (fun z => wY cI cZ ad z t) (cpy_0 (ms (va_up M 10 (va_cpy (M 10) (M 10) (20) (0) (180))) 0 (19) (9)) _ _ _).symm) ?_
        refine G_pick (lv' := [(0, .ref (ad 0)), (1, .int (nI 0))]) [1, 0] rfl ?_
        refine loopN (P := fun n => G p l e (rmOf 0 0) s m args below meth c D _ 2 0 0 _ 47 [(0, .ref (ad 0)), (1, .int (nI n))] [] (wY cI cZ ad (va_up (ms (va_up M 10 (va_cpy (M 10) (M 10) (20) (0) (180))) 0 (19) (9)) 10 (va_cpy (M 7) ((ms (va_up M 10 (va_cpy (M 10) (M 10) (20) (0) (180))) 0 (19) (9)) 10) (0) (180) (n))) t)) (20) ?_ ?_ 0 (Nat.zero_le _)  
        · skip
          refine G_iload_n C 1 dX11_notes_47 rfl rfl ?_
          refine G_bipush C dX11_notes_48 kB_20 ?_
          refine G_icmp_geN (tgt := 79) C dX11_notes_50 (by decide) (by decide) (by decide) (fun h50_8 => ?_) (fun h50_8 => ?_)
          · refine G_aload_n C 0 dX11_notes_79 rfl rfl ?_
            refine G_dup C dX11_notes_80 rfl ?_
            refine G_get (v := .int (nI 9)) C 0 19 dX11_notes_81 yc_0 rfl inG11 (by decide) wm_856 rfl rfl ?_
            refine G_iconst C dX11_notes_84 kI_1 ?_
            refine G_iaddN C dX11_notes_85 ?_
            refine G_top (y := nI 10) rfl ?_
            refine G_put (w' := wY cI cZ ad (ms (va_up (ms (va_up M 10 (va_cpy (M 10) (M 10) (20) (0) (180))) 0 (19) (9)) 10 (va_cpy (M 7) ((ms (va_up M 10 (va_cpy (M 10) (M 10) (20) (0) (180))) 0 (19) (9)) 10) (0) (180) (20))) 0 (19) (10)) t) (ty := .int) C 0 19 tyX11 dX11_notes_86 yc_0 rfl inG11 tyX11_ok nmX11 (by decide) wm_856 rfl rfl (by decide +kernel) rfl rfl (Nat.le_of_ble_eq_true rfl) (yp_0_19 _) ?_
            exact G_vret C hr dX11_notes_89 rfl (congrArg (fun z => wY cI cZ ad z t) (by rw [show y_push M = _ from by unfold y_push y_r10 y_u; rw [if_pos h6_1, if_pos h6_1]]; exact y_push_b))
          · exact absurd h50_8 (by decide)
        · intro n hn ih7  
          refine G_iload_n C 1 dX11_notes_47 rfl rfl ?_
          refine G_bipush C dX11_notes_48 kB_20 ?_
          refine G_icmp_geN (tgt := 79) C dX11_notes_50 (by decide) (by omega) (by decide) (fun h50_9 => ?_) (fun h50_9 => ?_)
          · exfalso; omega
          · refine G_aload_n C 0 dX11_notes_53 rfl rfl ?_
            refine G_get (v := .ref (ad 10)) C 0 18 dX11_notes_54 yc_0 rfl inG11 (by decide) wm_855 rfl rfl ?_
            refine G_bipush C dX11_notes_57 kB_20 ?_
            refine G_aload_n C 0 dX11_notes_59 rfl rfl ?_
            refine G_get (v := .int (nI 9)) C 0 19 dX11_notes_60 yc_0 rfl inG11 (by decide) wm_856 rfl rfl ?_
            refine G_imulN C dX11_notes_63 ?_
            refine G_top (y := nI 180) rfl ?_
            refine G_iload_n C 1 dX11_notes_64 rfl rfl ?_
            refine G_iaddN C dX11_notes_65 ?_
            refine G_aload_n C 0 dX11_notes_66 rfl rfl ?_
            refine G_get (v := .ref (ad 7)) C 0 15 dX11_notes_67 yc_0 rfl inG11 (by decide) wm_852 rfl rfl ?_
            refine G_iload_n C 1 dX11_notes_70 rfl rfl ?_
            refine G_iald (v := nI (M 7 n)) C 7 0 dX11_notes_71 yc_7 rfl (by omega) (by decide) rfl ?_
            refine G_iast (w' := wY cI cZ ad (ms (va_up (ms (va_up M 10 (va_cpy (M 10) (M 10) (20) (0) (180))) 0 (19) (9)) 10 (va_cpy (M 7) ((ms (va_up M 10 (va_cpy (M 10) (M 10) (20) (0) (180))) 0 (19) (9)) 10) (0) (180) (n))) 10 (180 + n) (M 7 n)) t) C 10 0 dX11_notes_72 yc_10 rfl (by omega) (by decide) (ys_10 _ _) ?_
            refine G_iincN (lv' := [(1, .int (nI (n + 1))), (0, .ref (ad 0))]) C 1 dX11_notes_73 rfl (by decide) rfl ?_
            refine G_goto (tgt := 47) C dX11_notes_76 (by decide) ?_
            refine G_w (w2 := wY cI cZ ad (va_up (ms (va_up M 10 (va_cpy (M 10) (M 10) (20) (0) (180))) 0 (19) (9)) 10 (va_cpy (M 7) ((ms (va_up M 10 (va_cpy (M 10) (M 10) (20) (0) (180))) 0 (19) (9)) 10) (0) (180) (n + 1))) t) (congrArg (fun z => wY cI cZ ad z t) (cpy_s (by omega) (congrArg (M 7) (by omega)))) ?_
            refine G_pick (lv' := [(0, .ref (ad 0)), (1, .int (nI (n + 1)))]) [1, 0] rfl ?_
            exact ih7  
      · exact absurd h15_6 (by decide)
    · intro n hn ih5  
      refine G_iload_n C 1 dX11_notes_11 rfl rfl ?_
      refine G_sipush C dX11_notes_12 kS_180 ?_
      refine G_icmp_geN (tgt := 39) C dX11_notes_15 (by decide) (by omega) (by decide) (fun h15_10 => ?_) (fun h15_10 => ?_)
      · exfalso; omega
      · refine G_aload_n C 0 dX11_notes_18 rfl rfl ?_
        refine G_get (v := .ref (ad 10)) C 0 18 dX11_notes_19 yc_0 rfl inG11 (by decide) wm_855 rfl rfl ?_
        refine G_iload_n C 1 dX11_notes_22 rfl rfl ?_
        refine G_aload_n C 0 dX11_notes_23 rfl rfl ?_
        refine G_get (v := .ref (ad 10)) C 0 18 dX11_notes_24 yc_0 rfl inG11 (by decide) wm_855 rfl rfl ?_
        refine G_iload_n C 1 dX11_notes_27 rfl rfl ?_
        refine G_bipush C dX11_notes_28 kB_20 ?_
        refine G_iaddN C dX11_notes_30 ?_
        refine G_iald (v := nI (M 10 (n + 20))) C 10 0 dX11_notes_31 yc_10 rfl (by omega) (by decide) (congrArg nI (by show va_cpy (M 10) (M 10) 20 0 n (n + 20) = _; unfold va_cpy; rw [if_neg (by omega)])) ?_
        refine G_iast (w' := wY cI cZ ad (ms (va_up M 10 (va_cpy (M 10) (M 10) (20) (0) (n))) 10 (n) (M 10 (n + 20))) t) C 10 0 dX11_notes_32 yc_10 rfl (by omega) (by decide) (ys_10 _ _) ?_
        refine G_iincN (lv' := [(1, .int (nI (n + 1))), (0, .ref (ad 0))]) C 1 dX11_notes_33 rfl (by decide) rfl ?_
        refine G_goto (tgt := 11) C dX11_notes_36 (by decide) ?_
        refine G_w (w2 := wY cI cZ ad (va_up M 10 (va_cpy (M 10) (M 10) (20) (0) (n + 1))) t) (congrArg (fun z => wY cI cZ ad z t) (cpy_s (by omega) (congrArg (M 10) (by omega)))) ?_
        refine G_pick (lv' := [(0, .ref (ad 0)), (1, .int (nI (n + 1)))]) [1, 0] rfl ?_
        exact ih5  
set_option maxHeartbeats 4000000 in
set_option maxRecDepth 100000 in
theorem c_X11_undo  (h0 : M 0 0 = 0) (hU : M 0 19 ≤ 10) (hB : ∀ k j, M k j < 1024) : CT l yX11_undo cX11_undo 2 (some .int) (rmOf 0 0) D (tyI cI cZ) [.ref (ad 0)] (wY cI cZ ad M t) (some (.int (y_undo M).1)) (wY cI cZ ad (y_undo M).2 t) := by
  refine CT_of (own := "FalseParityModel") (by decide) rfl (Nat.le_of_ble_eq_true rfl) (fun p e s m args below meth c C hr => ?_)
  refine G_aload_n C 0 dX11_undo_0 rfl rfl ?_
  refine G_iconst C dX11_undo_1 kI_0 ?_
  refine G_put (w' := wY cI cZ ad (ms M 0 (0) (0)) t) (ty := .int) C 0 0 tyX11 dX11_undo_2 yc_0 rfl inG11 tyX11_ok nmX11 (by decide) wm_837 rfl rfl (by decide +kernel) rfl rfl (Nat.le_of_ble_eq_true rfl) (yp_0_0 _) ?_
  refine G_w (w2 := wY cI cZ ad M t) (congrArg (fun z => wY cI cZ ad z t) (ms_id h0)) ?_
  refine G_aload_n C 0 dX11_undo_5 rfl rfl ?_
  refine G_get (v := .int (nI (M 0 19))) C 0 19 dX11_undo_6 yc_0 rfl inG11 (by decide) wm_856 rfl rfl ?_
  refine G_if_neN (tgt := 15) C dX11_undo_9 (by decide) (by have := hB 0 19; omega) (fun h9_1 => ?_) (fun h9_1 => ?_)
  · refine G_aload_n C 0 dX11_undo_15 rfl rfl ?_
    refine G_dup C dX11_undo_16 rfl ?_
    refine G_get (v := .int (nI (M 0 19))) C 0 19 dX11_undo_17 yc_0 rfl inG11 (by decide) wm_856 rfl rfl ?_
    refine G_iconst C dX11_undo_20 kI_1 ?_
    refine G_isubN C dX11_undo_21 (by omega) ?_
    refine G_put (w' := wY cI cZ ad (ms M 0 (19) ((M 0 19) - 1)) t) (ty := .int) C 0 19 tyX11 dX11_undo_22 yc_0 rfl inG11 tyX11_ok nmX11 (by decide) wm_856 rfl rfl (by decide +kernel) rfl rfl (Nat.le_of_ble_eq_true rfl) (yp_0_19 _) ?_
    refine G_iconst C dX11_undo_25 kI_0 ?_
    refine G_istore_n (lv' := [(1, .int (nI 0)), (0, .ref (ad 0))]) C dX11_undo_26 rfl (by decide) rfl ?_
    refine G_w (w2 := wY cI cZ ad (va_up (ms M 0 (19) ((M 0 19) - 1)) 7 (va_cpy (M 10) (M 7) (20 * (M 0 19 - 1)) (0) (0))) t) (congrArg (fun z => wY cI cZ ad z t) (cpy_0 (ms M 0 (19) ((M 0 19) - 1)) _ _ _).symm) ?_
    refine G_pick (lv' := [(0, .ref (ad 0)), (1, .int (nI 0))]) [1, 0] rfl ?_
    refine loopN (P := fun n => G p l e (rmOf 0 0) s m args below meth c D _ 2 0 0 _ 27 [(0, .ref (ad 0)), (1, .int (nI n))] [] (wY cI cZ ad (va_up (ms M 0 (19) ((M 0 19) - 1)) 7 (va_cpy (M 10) (M 7) (20 * (M 0 19 - 1)) (0) (n))) t)) (20) ?_ ?_ 0 (Nat.zero_le _)  
    · skip
      refine G_iload_n C 1 dX11_undo_27 rfl rfl ?_
      refine G_bipush C dX11_undo_28 kB_20 ?_
      refine G_icmp_geN (tgt := 59) C dX11_undo_30 (by decide) (by decide) (by decide) (fun h30_3 => ?_) (fun h30_3 => ?_)
      · refine G_aload_n C 0 dX11_undo_59 rfl rfl ?_
        refine G_get (v := .int (nI ((M 0 19) - 1))) C 0 19 dX11_undo_60 yc_0 rfl inG11 (by decide) wm_856 rfl rfl ?_
        exact G_iret C hr dX11_undo_63 (by rw [show y_undo M = _ from if_neg (Nat.pos_iff_ne_zero.mp h9_1)]) (congrArg (fun z => wY cI cZ ad z t) (by rw [show y_undo M = _ from if_neg (Nat.pos_iff_ne_zero.mp h9_1)]; rfl))
      · exact absurd h30_3 (by decide)
    · intro n hn ih2  
      refine G_iload_n C 1 dX11_undo_27 rfl rfl ?_
      refine G_bipush C dX11_undo_28 kB_20 ?_
      refine G_icmp_geN (tgt := 59) C dX11_undo_30 (by decide) (by omega) (by decide) (fun h30_4 => ?_) (fun h30_4 => ?_)
      · exfalso; omega
      · refine G_aload_n C 0 dX11_undo_33 rfl rfl ?_
        refine G_get (v := .ref (ad 7)) C 0 15 dX11_undo_34 yc_0 rfl inG11 (by decide) wm_852 rfl rfl ?_
        refine G_iload_n C 1 dX11_undo_37 rfl rfl ?_
        refine G_aload_n C 0 dX11_undo_38 rfl rfl ?_
        refine G_get (v := .ref (ad 10)) C 0 18 dX11_undo_39 yc_0 rfl inG11 (by decide) wm_855 rfl rfl ?_
        refine G_bipush C dX11_undo_42 kB_20 ?_
        refine G_aload_n C 0 dX11_undo_44 rfl rfl ?_
        refine G_get (v := .int (nI ((M 0 19) - 1))) C 0 19 dX11_undo_45 yc_0 rfl inG11 (by decide) wm_856 rfl rfl ?_
        refine G_imulN C dX11_undo_48 ?_
        refine G_iload_n C 1 dX11_undo_49 rfl rfl ?_
        refine G_iaddN C dX11_undo_50 ?_
        refine G_iald (v := nI (M 10 ((20 * ((M 0 19) - 1)) + n))) C 10 0 dX11_undo_51 yc_10 rfl (by have := hB 0 19; omega) (by decide) rfl ?_
        refine G_iast (w' := wY cI cZ ad (ms (va_up (ms M 0 (19) ((M 0 19) - 1)) 7 (va_cpy (M 10) (M 7) (20 * (M 0 19 - 1)) (0) (n))) 7 (n) (M 10 ((20 * ((M 0 19) - 1)) + n))) t) C 7 0 dX11_undo_52 yc_7 rfl (by omega) (by decide) (ys_7 _ _) ?_
        refine G_iincN (lv' := [(1, .int (nI (n + 1))), (0, .ref (ad 0))]) C 1 dX11_undo_53 rfl (by decide) rfl ?_
        refine G_goto (tgt := 27) C dX11_undo_56 (by decide) ?_
        refine G_w (w2 := wY cI cZ ad (va_up (ms M 0 (19) ((M 0 19) - 1)) 7 (va_cpy (M 10) (M 7) (20 * (M 0 19 - 1)) (0) (n + 1))) t) (congrArg (fun z => wY cI cZ ad z t) (cpy_s (by omega) (congrArg (M 10) (by omega)))) ?_
        refine G_pick (lv' := [(0, .ref (ad 0)), (1, .int (nI (n + 1)))]) [1, 0] rfl ?_
        exact ih2  
  · refine G_bipush C dX11_undo_12 kB_m2 ?_
    exact G_iret C hr dX11_undo_14 (by simp [y_undo, h9_1]) (congrArg (fun z => wY cI cZ ad z t) (by simp [y_undo, h9_1]))
set_option maxHeartbeats 4000000 in
set_option maxRecDepth 100000 in
theorem c_X11_keep {x : Int32} (h0 : M 0 0 = 0) (hB : ∀ k j, M k j < 1024) : CT l yX11_keep cX11_keep 3 (some .int) (rmOf 1 22) D (tyI cI cZ) [.ref (ad 0), .int (x)] (wY cI cZ ad M t) (some (.int (y_keep M x).1)) (wY cI cZ ad (y_keep M x).2 t) := by
  refine CT_of (own := "FalseParityModel") (by decide) rfl (Nat.le_of_ble_eq_true rfl) (fun p e s m args below meth c C hr => ?_)
  refine G_aload_n C 0 dX11_keep_0 rfl rfl ?_
  refine G_iconst C dX11_keep_1 kI_0 ?_
  refine G_put (w' := wY cI cZ ad (ms M 0 (0) (0)) t) (ty := .int) C 0 0 tyX11 dX11_keep_2 yc_0 rfl inG11 tyX11_ok nmX11 (by decide) wm_837 rfl rfl (by decide +kernel) rfl rfl (Nat.le_of_ble_eq_true rfl) (yp_0_0 _) ?_
  refine G_w (w2 := wY cI cZ ad M t) (congrArg (fun z => wY cI cZ ad z t) (ms_id h0)) ?_
  refine G_iload_n C 1 dX11_keep_5 rfl rfl ?_
  refine G_iconst C dX11_keep_6 kI_0 ?_
  refine G_iconst C dX11_keep_7 kI_1 ?_
  refine G_callS1 C [.int (x), .int (nI 0), .int (nI 1)] dX11_keep_8 (c_X11_in_c (by decide)) wm_927 wm_928 wm_61 wm_929 ydc_X11_in rfl ⟨Nat.le_of_ble_eq_true rfl, Nat.le_of_ble_eq_true rfl⟩ ⟨rfl, rfl⟩ ⟨Nat.le_refl _, Nat.le_refl _⟩ (Nat.le_of_ble_eq_true rfl) rfl ?_
  refine G_if_neB (tgt := 16) C dX11_keep_11 (by decide) (fun h11_1 => ?_) (fun h11_1 => ?_)
  · obtain ⟨i, hx_i, rfl⟩ := inR_of (by decide) h11_1
    have cl_i := nI_clamp (n := i) (by omega)
    refine G_iconst C dX11_keep_16 kI_0 ?_
    refine G_istore_n (lv' := [(2, .int (nI 0)), (0, .ref (ad 0)), (1, .int (nI i))]) C dX11_keep_17 rfl (by decide) rfl ?_
    refine G_w (w2 := wY cI cZ ad (va_up M 8 (va_cpy (M 7) (M 8) (0) (20 * i) (0))) t) (congrArg (fun z => wY cI cZ ad z t) (cpy_0 M _ _ _).symm) ?_
    refine G_pick (lv' := [(0, .ref (ad 0)), (1, .int (nI i)), (2, .int (nI 0))]) [1, 2, 0] rfl ?_
    refine loopN (P := fun n => G p l e (rmOf 1 22) s m args below meth c D _ 3 0 0 _ 18 [(0, .ref (ad 0)), (1, .int (nI i)), (2, .int (nI n))] [] (wY cI cZ ad (va_up M 8 (va_cpy (M 7) (M 8) (0) (20 * i) (n))) t)) (20) ?_ ?_ 0 (Nat.zero_le _)  
    · skip
      refine G_iload_n C 2 dX11_keep_18 rfl rfl ?_
      refine G_bipush C dX11_keep_19 kB_20 ?_
      refine G_icmp_geN (tgt := 47) C dX11_keep_21 (by decide) (by decide) (by decide) (fun h21_3 => ?_) (fun h21_3 => ?_)
      · refine G_aload_n C 0 dX11_keep_47 rfl rfl ?_
        refine G_get (v := .ref (ad 9)) C 0 17 dX11_keep_48 yc_0 rfl inG11 (by decide) wm_854 rfl rfl ?_
        refine G_iload_n C 1 dX11_keep_51 rfl rfl ?_
        refine G_iconst C dX11_keep_52 kI_1 ?_
        refine G_zast (w' := wY cI cZ ad (ms (va_up M 8 (va_cpy (M 7) (M 8) (0) (20 * i) (20))) 9 (i) (1)) t) C 9 1 dX11_keep_53 yc_9 rfl (by omega) (by decide) (by decide) (ys_9 _ _) ?_
        refine G_aload_n C 0 dX11_keep_54 rfl rfl ?_
        refine G_get (v := .ref (ad 7)) C 0 15 dX11_keep_55 yc_0 rfl inG11 (by decide) wm_852 rfl rfl ?_
        refine G_bipush C dX11_keep_58 kB_19 ?_
        refine G_iald (v := nI (M 7 19)) C 7 0 dX11_keep_60 yc_7 rfl (by decide) (by decide) rfl ?_
        exact G_iret C hr dX11_keep_61 (by simp [y_keep, va_up_self, h11_1, cl_i]) (congrArg (fun z => wY cI cZ ad z t) (by simp [y_keep, va_up_self, h11_1, cl_i]))
      · exact absurd h21_3 (by decide)
    · intro n hn ih2  
      refine G_iload_n C 2 dX11_keep_18 rfl rfl ?_
      refine G_bipush C dX11_keep_19 kB_20 ?_
      refine G_icmp_geN (tgt := 47) C dX11_keep_21 (by decide) (by omega) (by decide) (fun h21_4 => ?_) (fun h21_4 => ?_)
      · exfalso; omega
      · refine G_aload_n C 0 dX11_keep_24 rfl rfl ?_
        refine G_get (v := .ref (ad 8)) C 0 16 dX11_keep_25 yc_0 rfl inG11 (by decide) wm_853 rfl rfl ?_
        refine G_bipush C dX11_keep_28 kB_20 ?_
        refine G_iload_n C 1 dX11_keep_30 rfl rfl ?_
        refine G_imulN C dX11_keep_31 ?_
        refine G_iload_n C 2 dX11_keep_32 rfl rfl ?_
        refine G_iaddN C dX11_keep_33 ?_
        refine G_aload_n C 0 dX11_keep_34 rfl rfl ?_
        refine G_get (v := .ref (ad 7)) C 0 15 dX11_keep_35 yc_0 rfl inG11 (by decide) wm_852 rfl rfl ?_
        refine G_iload_n C 2 dX11_keep_38 rfl rfl ?_
        refine G_iald (v := nI (M 7 n)) C 7 0 dX11_keep_39 yc_7 rfl (by omega) (by decide) rfl ?_
        refine G_iast (w' := wY cI cZ ad (ms (va_up M 8 (va_cpy (M 7) (M 8) (0) (20 * i) (n))) 8 ((20 * i) + n) (M 7 n)) t) C 8 0 dX11_keep_40 yc_8 rfl (by omega) (by decide) (ys_8 _ _) ?_
        refine G_iincN (lv' := [(2, .int (nI (n + 1))), (0, .ref (ad 0)), (1, .int (nI i))]) C 2 dX11_keep_41 rfl (by decide) rfl ?_
        refine G_goto (tgt := 18) C dX11_keep_44 (by decide) ?_
        refine G_w (w2 := wY cI cZ ad (va_up M 8 (va_cpy (M 7) (M 8) (0) (20 * i) (n + 1))) t) (congrArg (fun z => wY cI cZ ad z t) (cpy_s (by omega) (congrArg (M 7) (by omega)))) ?_
        refine G_pick (lv' := [(0, .ref (ad 0)), (1, .int (nI i)), (2, .int (nI (n + 1)))]) [1, 2, 0] rfl ?_
        exact ih2  
  · refine G_iconst C dX11_keep_14 kI_m1 ?_
    exact G_iret C hr dX11_keep_15 (by simp [y_keep, va_up_self, h11_1]) (congrArg (fun z => wY cI cZ ad z t) (by simp [y_keep, va_up_self, h11_1]))
set_option maxHeartbeats 4000000 in
set_option maxRecDepth 100000 in
theorem c_X11_back {x : Int32} (h0 : M 0 0 = 0) (hB : ∀ k j, M k j < 1024) : CT l yX11_back cX11_back 3 (some .int) (rmOf 1 22) D (tyI cI cZ) [.ref (ad 0), .int (x)] (wY cI cZ ad M t) (some (.int (y_back M x).1)) (wY cI cZ ad (y_back M x).2 t) := by
  refine CT_of (own := "FalseParityModel") (by decide) rfl (Nat.le_of_ble_eq_true rfl) (fun p e s m args below meth c C hr => ?_)
  refine G_aload_n C 0 dX11_back_0 rfl rfl ?_
  refine G_iconst C dX11_back_1 kI_0 ?_
  refine G_put (w' := wY cI cZ ad (ms M 0 (0) (0)) t) (ty := .int) C 0 0 tyX11 dX11_back_2 yc_0 rfl inG11 tyX11_ok nmX11 (by decide) wm_837 rfl rfl (by decide +kernel) rfl rfl (Nat.le_of_ble_eq_true rfl) (yp_0_0 _) ?_
  refine G_w (w2 := wY cI cZ ad M t) (congrArg (fun z => wY cI cZ ad z t) (ms_id h0)) ?_
  refine G_iload_n C 1 dX11_back_5 rfl rfl ?_
  refine G_iconst C dX11_back_6 kI_0 ?_
  refine G_iconst C dX11_back_7 kI_1 ?_
  refine G_callS1 C [.int (x), .int (nI 0), .int (nI 1)] dX11_back_8 (c_X11_in_c (by decide)) wm_927 wm_928 wm_61 wm_929 ydc_X11_in rfl ⟨Nat.le_of_ble_eq_true rfl, Nat.le_of_ble_eq_true rfl⟩ ⟨rfl, rfl⟩ ⟨Nat.le_refl _, Nat.le_refl _⟩ (Nat.le_of_ble_eq_true rfl) rfl ?_
  refine G_if_neB (tgt := 16) C dX11_back_11 (by decide) (fun h11_1 => ?_) (fun h11_1 => ?_)
  · obtain ⟨i, hx_i, rfl⟩ := inR_of (by decide) h11_1
    have cl_i := nI_clamp (n := i) (by omega)
    refine G_aload_n C 0 dX11_back_16 rfl rfl ?_
    refine G_get (v := .ref (ad 9)) C 0 17 dX11_back_17 yc_0 rfl inG11 (by decide) wm_854 rfl rfl ?_
    refine G_iload_n C 1 dX11_back_20 rfl rfl ?_
    refine G_zald (v := nI (M 9 i)) C 9 1 dX11_back_21 yc_9 rfl (by omega) (by decide) rfl ?_
    refine G_if_neN (tgt := 28) C dX11_back_22 (by decide) (by have := hB 9 i; omega) (fun h22_2 => ?_) (fun h22_2 => ?_)
    · refine G_iconst C dX11_back_28 kI_0 ?_
      refine G_istore_n (lv' := [(2, .int (nI 0)), (0, .ref (ad 0)), (1, .int (nI i))]) C dX11_back_29 rfl (by decide) rfl ?_
      refine G_w (w2 := wY cI cZ ad (va_up M 7 (va_cpy (M 8) (M 7) (20 * i) (0) (0))) t) (congrArg (fun z => wY cI cZ ad z t) (cpy_0 M _ _ _).symm) ?_
      refine G_pick (lv' := [(0, .ref (ad 0)), (1, .int (nI i)), (2, .int (nI 0))]) [1, 2, 0] rfl ?_
      refine loopN (P := fun n => G p l e (rmOf 1 22) s m args below meth c D _ 3 0 0 _ 30 [(0, .ref (ad 0)), (1, .int (nI i)), (2, .int (nI n))] [] (wY cI cZ ad (va_up M 7 (va_cpy (M 8) (M 7) (20 * i) (0) (n))) t)) (20) ?_ ?_ 0 (Nat.zero_le _)  
      · skip
        refine G_iload_n C 2 dX11_back_30 rfl rfl ?_
        refine G_bipush C dX11_back_31 kB_20 ?_
        refine G_icmp_geN (tgt := 59) C dX11_back_33 (by decide) (by decide) (by decide) (fun h33_4 => ?_) (fun h33_4 => ?_)
        · refine G_aload_n C 0 dX11_back_59 rfl rfl ?_
          refine G_iconst C dX11_back_60 kI_0 ?_
          refine G_put (w' := wY cI cZ ad (ms (va_up M 7 (va_cpy (M 8) (M 7) (20 * i) (0) (20))) 0 (19) (0)) t) (ty := .int) C 0 19 tyX11 dX11_back_61 yc_0 rfl inG11 tyX11_ok nmX11 (by decide) wm_856 rfl rfl (by decide +kernel) rfl rfl (Nat.le_of_ble_eq_true rfl) (yp_0_19 _) ?_
          refine G_aload_n C 0 dX11_back_64 rfl rfl ?_
          refine G_get (v := .ref (ad 7)) C 0 15 dX11_back_65 yc_0 rfl inG11 (by decide) wm_852 rfl rfl ?_
          refine G_bipush C dX11_back_68 kB_19 ?_
          refine G_iald (v := nI ((va_up M 7 (va_cpy (M 8) (M 7) (20 * i) (0) (20))) 7 19)) C 7 0 dX11_back_70 yc_7 rfl (by decide) (by decide) rfl ?_
          exact G_iret C hr dX11_back_71 (by simp [y_back, va_up_self, h11_1, Nat.pos_iff_ne_zero.mp h22_2, cl_i]) (congrArg (fun z => wY cI cZ ad z t) (by simp [y_back, va_up_self, h11_1, Nat.pos_iff_ne_zero.mp h22_2, cl_i]))
        · exact absurd h33_4 (by decide)
      · intro n hn ih3  
        refine G_iload_n C 2 dX11_back_30 rfl rfl ?_
        refine G_bipush C dX11_back_31 kB_20 ?_
        refine G_icmp_geN (tgt := 59) C dX11_back_33 (by decide) (by omega) (by decide) (fun h33_5 => ?_) (fun h33_5 => ?_)
        · exfalso; omega
        · refine G_aload_n C 0 dX11_back_36 rfl rfl ?_
          refine G_get (v := .ref (ad 7)) C 0 15 dX11_back_37 yc_0 rfl inG11 (by decide) wm_852 rfl rfl ?_
          refine G_iload_n C 2 dX11_back_40 rfl rfl ?_
          refine G_aload_n C 0 dX11_back_41 rfl rfl ?_
          refine G_get (v := .ref (ad 8)) C 0 16 dX11_back_42 yc_0 rfl inG11 (by decide) wm_853 rfl rfl ?_
          refine G_bipush C dX11_back_45 kB_20 ?_
          refine G_iload_n C 1 dX11_back_47 rfl rfl ?_
          refine G_imulN C dX11_back_48 ?_
          refine G_iload_n C 2 dX11_back_49 rfl rfl ?_
          refine G_iaddN C dX11_back_50 ?_
          refine G_iald (v := nI (M 8 ((20 * i) + n))) C 8 0 dX11_back_51 yc_8 rfl (by omega) (by decide) rfl ?_
          refine G_iast (w' := wY cI cZ ad (ms (va_up M 7 (va_cpy (M 8) (M 7) (20 * i) (0) (n))) 7 (n) (M 8 ((20 * i) + n))) t) C 7 0 dX11_back_52 yc_7 rfl (by omega) (by decide) (ys_7 _ _) ?_
          refine G_iincN (lv' := [(2, .int (nI (n + 1))), (0, .ref (ad 0)), (1, .int (nI i))]) C 2 dX11_back_53 rfl (by decide) rfl ?_
          refine G_goto (tgt := 30) C dX11_back_56 (by decide) ?_
          refine G_w (w2 := wY cI cZ ad (va_up M 7 (va_cpy (M 8) (M 7) (20 * i) (0) (n + 1))) t) (congrArg (fun z => wY cI cZ ad z t) (cpy_s (by omega) (congrArg (M 8) (by omega)))) ?_
          refine G_pick (lv' := [(0, .ref (ad 0)), (1, .int (nI i)), (2, .int (nI (n + 1)))]) [1, 2, 0] rfl ?_
          exact ih3  
    · refine G_bipush C dX11_back_25 kB_m2 ?_
      exact G_iret C hr dX11_back_27 (by simp [y_back, va_up_self, h11_1, h22_2, cl_i]) (congrArg (fun z => wY cI cZ ad z t) (by simp [y_back, va_up_self, h11_1, h22_2, cl_i]))
  · refine G_iconst C dX11_back_14 kI_m1 ?_
    exact G_iret C hr dX11_back_15 (by simp [y_back, va_up_self, h11_1]) (congrArg (fun z => wY cI cZ ad z t) (by simp [y_back, va_up_self, h11_1]))
set_option maxHeartbeats 4000000 in
set_option maxRecDepth 100000 in
theorem c_X11_saw {x y : Int32} (h0 : M 0 0 = 0) (hS : M 0 22 ≤ 6) (hB : ∀ k j, M k j < 1024) : CT l yX11_saw cX11_saw 3 (some .int) (rmOf 2 43) D (tyI cI cZ) [.ref (ad 0), .int (x), .int (y)] (wY cI cZ ad M t) (some (.int (y_saw M x y).1)) (wY cI cZ ad (y_saw M x y).2 t) := by
  refine CT_of (own := "FalseParityModel") (by decide) rfl (Nat.le_of_ble_eq_true rfl) (fun p e s m args below meth c C hr => ?_)
  refine G_aload_n C 0 dX11_saw_0 rfl rfl ?_
  refine G_iconst C dX11_saw_1 kI_0 ?_
  refine G_put (w' := wY cI cZ ad (ms M 0 (0) (0)) t) (ty := .int) C 0 0 tyX11 dX11_saw_2 yc_0 rfl inG11 tyX11_ok nmX11 (by decide) wm_837 rfl rfl (by decide +kernel) rfl rfl (Nat.le_of_ble_eq_true rfl) (yp_0_0 _) ?_
  refine G_w (w2 := wY cI cZ ad M t) (congrArg (fun z => wY cI cZ ad z t) (ms_id h0)) ?_
  refine G_aload_n C 0 dX11_saw_5 rfl rfl ?_
  refine G_iload_n C 1 dX11_saw_6 rfl rfl ?_
  refine G_callV1 C [.int (x)] 0 dX11_saw_7 (c_X11_isPerson hB) wm_986 wm_988 wm_43 wm_61 wm_989 yc_0 rfl ydc_X11_isPerson rfl ⟨Nat.le_of_ble_eq_true rfl, Nat.le_of_ble_eq_true rfl⟩ ⟨rfl, rfl⟩ ⟨Nat.le_refl _, Nat.le_refl _⟩ (Nat.le_of_ble_eq_true rfl) rfl ?_
  refine G_if_eqB (tgt := 22) C dX11_saw_10 (by decide) (fun h10_1 => ?_) (fun h10_1 => ?_)
  · refine G_iconst C dX11_saw_22 kI_m1 ?_
    exact G_iret C hr dX11_saw_23 (by simp [y_saw, h10_1]) (congrArg (fun z => wY cI cZ ad z t) (by simp [y_saw, h10_1]))
  · obtain ⟨q, hx_q, rfl⟩ := inR_of (by have := hB 2 0; omega) h10_1
    have cl_q := nI_clamp (n := q) (by have := hB 2 0; omega)
    refine G_iload_n C 2 dX11_saw_13 rfl rfl ?_
    refine G_iconst C dX11_saw_14 kI_0 ?_
    refine G_iconst C dX11_saw_15 kI_1 ?_
    refine G_callS1 C [.int (y), .int (nI 0), .int (nI 1)] dX11_saw_16 (c_X11_in_c (by decide)) wm_927 wm_928 wm_61 wm_929 ydc_X11_in rfl ⟨Nat.le_of_ble_eq_true rfl, Nat.le_of_ble_eq_true rfl⟩ ⟨rfl, rfl⟩ ⟨Nat.le_refl _, Nat.le_refl _⟩ (Nat.le_of_ble_eq_true rfl) rfl ?_
    refine G_if_neB (tgt := 24) C dX11_saw_19 (by decide) (fun h19_2 => ?_) (fun h19_2 => ?_)
    · obtain ⟨k, hx_k, rfl⟩ := inR_of (by decide) h19_2
      have cl_k := nI_clamp (n := k) (by omega)
      refine G_aload_n C 0 dX11_saw_24 rfl rfl ?_
      refine G_get (v := .int (nI (M 0 22))) C 0 22 dX11_saw_25 yc_0 rfl inG11 (by decide) wm_859 rfl rfl ?_
      refine G_bipush C dX11_saw_28 kB_6 ?_
      refine G_icmp_neN (tgt := 36) C dX11_saw_30 (by decide) (by have := hB 0 22; omega) (by decide) (fun h30_3 => ?_) (fun h30_3 => ?_)
      · refine G_aload_n C 0 dX11_saw_36 rfl rfl ?_
        refine G_get (v := .ref (ad 11)) C 0 20 dX11_saw_37 yc_0 rfl inG11 (by decide) wm_857 rfl rfl ?_
        refine G_aload_n C 0 dX11_saw_40 rfl rfl ?_
        refine G_get (v := .int (nI (M 0 22))) C 0 22 dX11_saw_41 yc_0 rfl inG11 (by decide) wm_859 rfl rfl ?_
        refine G_iload_n C 1 dX11_saw_44 rfl rfl ?_
        refine G_iast (w' := wY cI cZ ad (ms M 11 (M 0 22) (q)) t) C 11 0 dX11_saw_45 yc_11 rfl (by have := hB 0 22; omega) (by decide) (ys_11 _ _) ?_
        refine G_aload_n C 0 dX11_saw_46 rfl rfl ?_
        refine G_get (v := .ref (ad 12)) C 0 21 dX11_saw_47 yc_0 rfl inG11 (by decide) wm_858 rfl rfl ?_
        refine G_aload_n C 0 dX11_saw_50 rfl rfl ?_
        refine G_get (v := .int (nI (M 0 22))) C 0 22 dX11_saw_51 yc_0 rfl inG11 (by decide) wm_859 rfl rfl ?_
        refine G_iload_n C 2 dX11_saw_54 rfl rfl ?_
        refine G_iast (w' := wY cI cZ ad (ms (ms M 11 (M 0 22) (q)) 12 (M 0 22) (k)) t) C 12 0 dX11_saw_55 yc_12 rfl (by have := hB 0 22; omega) (by decide) (ys_12 _ _) ?_
        refine G_aload_n C 0 dX11_saw_56 rfl rfl ?_
        refine G_dup C dX11_saw_57 rfl ?_
        refine G_get (v := .int (nI (M 0 22))) C 0 22 dX11_saw_58 yc_0 rfl inG11 (by decide) wm_859 rfl rfl ?_
        refine G_iconst C dX11_saw_61 kI_1 ?_
        refine G_iaddN C dX11_saw_62 ?_
        refine G_put (w' := wY cI cZ ad (ms (ms (ms M 11 (M 0 22) (q)) 12 (M 0 22) (k)) 0 (22) ((M 0 22) + 1)) t) (ty := .int) C 0 22 tyX11 dX11_saw_63 yc_0 rfl inG11 tyX11_ok nmX11 (by decide) wm_859 rfl rfl (by decide +kernel) rfl rfl (Nat.le_of_ble_eq_true rfl) (yp_0_22 _) ?_
        refine G_aload_n C 0 dX11_saw_66 rfl rfl ?_
        refine G_get (v := .int (nI ((M 0 22) + 1))) C 0 22 dX11_saw_67 yc_0 rfl inG11 (by decide) wm_859 rfl rfl ?_
        exact G_iret C hr dX11_saw_70 (by simp [y_saw, h10_1, h19_2, h30_3, cl_q, cl_k]) (congrArg (fun z => wY cI cZ ad z t) (by simp [y_saw, h10_1, h19_2, h30_3, cl_q, cl_k]))
      · refine G_bipush C dX11_saw_33 kB_m3 ?_
        exact G_iret C hr dX11_saw_35 (by simp [y_saw, h10_1, h19_2, h30_3]) (congrArg (fun z => wY cI cZ ad z t) (by simp [y_saw, h10_1, h19_2, h30_3]))
    · refine G_iconst C dX11_saw_22 kI_m1 ?_
      exact G_iret C hr dX11_saw_23 (by simp [y_saw, h10_1, h19_2]) (congrArg (fun z => wY cI cZ ad z t) (by simp [y_saw, h10_1, h19_2]))
set_option maxHeartbeats 4000000 in
set_option maxRecDepth 100000 in
theorem c_X11_hears {x y : Int32} (h0 : M 0 0 = 0) (hS : M 0 25 ≤ 6) (hB : ∀ k j, M k j < 1024) : CT l yX11_hears cX11_hears 3 (some .int) (rmOf 1 22) D (tyI cI cZ) [.ref (ad 0), .int (x), .int (y)] (wY cI cZ ad M t) (some (.int (y_hears M x y).1)) (wY cI cZ ad (y_hears M x y).2 t) := by
  refine CT_of (own := "FalseParityModel") (by decide) rfl (Nat.le_of_ble_eq_true rfl) (fun p e s m args below meth c C hr => ?_)
  refine G_aload_n C 0 dX11_hears_0 rfl rfl ?_
  refine G_iconst C dX11_hears_1 kI_0 ?_
  refine G_put (w' := wY cI cZ ad (ms M 0 (0) (0)) t) (ty := .int) C 0 0 tyX11 dX11_hears_2 yc_0 rfl inG11 tyX11_ok nmX11 (by decide) wm_837 rfl rfl (by decide +kernel) rfl rfl (Nat.le_of_ble_eq_true rfl) (yp_0_0 _) ?_
  refine G_w (w2 := wY cI cZ ad M t) (congrArg (fun z => wY cI cZ ad z t) (ms_id h0)) ?_
  refine G_iload_n C 1 dX11_hears_5 rfl rfl ?_
  refine G_iconst C dX11_hears_6 kI_0 ?_
  refine G_bipush C dX11_hears_7 kB_20 ?_
  refine G_callS1 C [.int (x), .int (nI 0), .int (nI 20)] dX11_hears_9 (c_X11_in_c (by decide)) wm_927 wm_928 wm_61 wm_929 ydc_X11_in rfl ⟨Nat.le_of_ble_eq_true rfl, Nat.le_of_ble_eq_true rfl⟩ ⟨rfl, rfl⟩ ⟨Nat.le_refl _, Nat.le_refl _⟩ (Nat.le_of_ble_eq_true rfl) rfl ?_
  refine G_if_eqB (tgt := 24) C dX11_hears_12 (by decide) (fun h12_1 => ?_) (fun h12_1 => ?_)
  · refine G_iconst C dX11_hears_24 kI_m1 ?_
    exact G_iret C hr dX11_hears_25 (by simp [y_hears, h12_1]) (congrArg (fun z => wY cI cZ ad z t) (by simp [y_hears, h12_1]))
  · obtain ⟨q, hx_q, rfl⟩ := inR_of (by decide) h12_1
    have cl_q := nI_clamp (n := q) (by omega)
    refine G_iload_n C 2 dX11_hears_15 rfl rfl ?_
    refine G_iconst C dX11_hears_16 kI_0 ?_
    refine G_iconst C dX11_hears_17 kI_1 ?_
    refine G_callS1 C [.int (y), .int (nI 0), .int (nI 1)] dX11_hears_18 (c_X11_in_c (by decide)) wm_927 wm_928 wm_61 wm_929 ydc_X11_in rfl ⟨Nat.le_of_ble_eq_true rfl, Nat.le_of_ble_eq_true rfl⟩ ⟨rfl, rfl⟩ ⟨Nat.le_refl _, Nat.le_refl _⟩ (Nat.le_of_ble_eq_true rfl) rfl ?_
    refine G_if_neB (tgt := 26) C dX11_hears_21 (by decide) (fun h21_2 => ?_) (fun h21_2 => ?_)
    · obtain ⟨k, hx_k, rfl⟩ := inR_of (by decide) h21_2
      have cl_k := nI_clamp (n := k) (by omega)
      refine G_aload_n C 0 dX11_hears_26 rfl rfl ?_
      refine G_get (v := .int (nI (M 0 25))) C 0 25 dX11_hears_27 yc_0 rfl inG11 (by decide) wm_862 rfl rfl ?_
      refine G_bipush C dX11_hears_30 kB_6 ?_
      refine G_icmp_neN (tgt := 38) C dX11_hears_32 (by decide) (by have := hB 0 25; omega) (by decide) (fun h32_3 => ?_) (fun h32_3 => ?_)
      · refine G_aload_n C 0 dX11_hears_38 rfl rfl ?_
        refine G_get (v := .ref (ad 13)) C 0 23 dX11_hears_39 yc_0 rfl inG11 (by decide) wm_860 rfl rfl ?_
        refine G_aload_n C 0 dX11_hears_42 rfl rfl ?_
        refine G_get (v := .int (nI (M 0 25))) C 0 25 dX11_hears_43 yc_0 rfl inG11 (by decide) wm_862 rfl rfl ?_
        refine G_iload_n C 1 dX11_hears_46 rfl rfl ?_
        refine G_iast (w' := wY cI cZ ad (ms M 13 (M 0 25) (q)) t) C 13 0 dX11_hears_47 yc_13 rfl (by have := hB 0 25; omega) (by decide) (ys_13 _ _) ?_
        refine G_aload_n C 0 dX11_hears_48 rfl rfl ?_
        refine G_get (v := .ref (ad 14)) C 0 24 dX11_hears_49 yc_0 rfl inG11 (by decide) wm_861 rfl rfl ?_
        refine G_aload_n C 0 dX11_hears_52 rfl rfl ?_
        refine G_get (v := .int (nI (M 0 25))) C 0 25 dX11_hears_53 yc_0 rfl inG11 (by decide) wm_862 rfl rfl ?_
        refine G_iload_n C 2 dX11_hears_56 rfl rfl ?_
        refine G_iast (w' := wY cI cZ ad (ms (ms M 13 (M 0 25) (q)) 14 (M 0 25) (k)) t) C 14 0 dX11_hears_57 yc_14 rfl (by have := hB 0 25; omega) (by decide) (ys_14 _ _) ?_
        refine G_aload_n C 0 dX11_hears_58 rfl rfl ?_
        refine G_dup C dX11_hears_59 rfl ?_
        refine G_get (v := .int (nI (M 0 25))) C 0 25 dX11_hears_60 yc_0 rfl inG11 (by decide) wm_862 rfl rfl ?_
        refine G_iconst C dX11_hears_63 kI_1 ?_
        refine G_iaddN C dX11_hears_64 ?_
        refine G_put (w' := wY cI cZ ad (ms (ms (ms M 13 (M 0 25) (q)) 14 (M 0 25) (k)) 0 (25) ((M 0 25) + 1)) t) (ty := .int) C 0 25 tyX11 dX11_hears_65 yc_0 rfl inG11 tyX11_ok nmX11 (by decide) wm_862 rfl rfl (by decide +kernel) rfl rfl (Nat.le_of_ble_eq_true rfl) (yp_0_25 _) ?_
        refine G_aload_n C 0 dX11_hears_68 rfl rfl ?_
        refine G_get (v := .int (nI ((M 0 25) + 1))) C 0 25 dX11_hears_69 yc_0 rfl inG11 (by decide) wm_862 rfl rfl ?_
        exact G_iret C hr dX11_hears_72 (by simp [y_hears, h12_1, h21_2, h32_3, cl_q, cl_k]) (congrArg (fun z => wY cI cZ ad z t) (by simp [y_hears, h12_1, h21_2, h32_3, cl_q, cl_k]))
      · refine G_bipush C dX11_hears_35 kB_m3 ?_
        exact G_iret C hr dX11_hears_37 (by simp [y_hears, h12_1, h21_2, h32_3]) (congrArg (fun z => wY cI cZ ad z t) (by simp [y_hears, h12_1, h21_2, h32_3]))
    · refine G_iconst C dX11_hears_24 kI_m1 ?_
      exact G_iret C hr dX11_hears_25 (by simp [y_hears, h12_1, h21_2]) (congrArg (fun z => wY cI cZ ad z t) (by simp [y_hears, h12_1, h21_2]))
set_option maxHeartbeats 4000000 in
set_option maxRecDepth 100000 in
theorem c_X11_forget  (h0 : M 0 0 = 0)  : CT l yX11_forget cX11_forget 2 (some .int) (rmOf 0 0) D (tyI cI cZ) [.ref (ad 0)] (wY cI cZ ad M t) (some (.int (nI (M 0 22 + M 0 25)))) (wY cI cZ ad (ms (ms M 0 (22) (0)) 0 (25) (0)) t) := by
  refine CT_of (own := "FalseParityModel") (by decide) rfl (Nat.le_of_ble_eq_true rfl) (fun p e s m args below meth c C hr => ?_)
  refine G_aload_n C 0 dX11_forget_0 rfl rfl ?_
  refine G_iconst C dX11_forget_1 kI_0 ?_
  refine G_put (w' := wY cI cZ ad (ms M 0 (0) (0)) t) (ty := .int) C 0 0 tyX11 dX11_forget_2 yc_0 rfl inG11 tyX11_ok nmX11 (by decide) wm_837 rfl rfl (by decide +kernel) rfl rfl (Nat.le_of_ble_eq_true rfl) (yp_0_0 _) ?_
  refine G_w (w2 := wY cI cZ ad M t) (congrArg (fun z => wY cI cZ ad z t) (ms_id h0)) ?_
  refine G_aload_n C 0 dX11_forget_5 rfl rfl ?_
  refine G_get (v := .int (nI (M 0 22))) C 0 22 dX11_forget_6 yc_0 rfl inG11 (by decide) wm_859 rfl rfl ?_
  refine G_aload_n C 0 dX11_forget_9 rfl rfl ?_
  refine G_get (v := .int (nI (M 0 25))) C 0 25 dX11_forget_10 yc_0 rfl inG11 (by decide) wm_862 rfl rfl ?_
  refine G_iaddN C dX11_forget_13 ?_
  refine G_istore_n (lv' := [(1, .int (nI ((M 0 22) + (M 0 25)))), (0, .ref (ad 0))]) C dX11_forget_14 rfl (by decide) rfl ?_
  refine G_aload_n C 1 dX11_forget_15 rfl rfl ?_
  refine G_iconst C dX11_forget_16 kI_0 ?_
  refine G_put (w' := wY cI cZ ad (ms M 0 (22) (0)) t) (ty := .int) C 0 22 tyX11 dX11_forget_17 yc_0 rfl inG11 tyX11_ok nmX11 (by decide) wm_859 rfl rfl (by decide +kernel) rfl rfl (Nat.le_of_ble_eq_true rfl) (yp_0_22 _) ?_
  refine G_aload_n C 1 dX11_forget_20 rfl rfl ?_
  refine G_iconst C dX11_forget_21 kI_0 ?_
  refine G_put (w' := wY cI cZ ad (ms (ms M 0 (22) (0)) 0 (25) (0)) t) (ty := .int) C 0 25 tyX11 dX11_forget_22 yc_0 rfl inG11 tyX11_ok nmX11 (by decide) wm_862 rfl rfl (by decide +kernel) rfl rfl (Nat.le_of_ble_eq_true rfl) (yp_0_25 _) ?_
  refine G_iload_n C 0 dX11_forget_25 rfl rfl ?_
  exact G_iret C hr dX11_forget_26 (rfl) (rfl)
set_option maxHeartbeats 4000000 in
set_option maxRecDepth 100000 in
theorem c_X11_count {y : Int32} (h0 : M 0 0 = 0)  : CT l yX11_count cX11_count 2 (some .int) (rmOf 1 22) D (tyI cI cZ) [.ref (ad 0), .int (y)] (wY cI cZ ad M t) (some (.int (y_count M y))) (wY cI cZ ad M t) := by
  refine CT_of (own := "FalseParityModel") (by decide) rfl (Nat.le_of_ble_eq_true rfl) (fun p e s m args below meth c C hr => ?_)
  refine G_aload_n C 0 dX11_count_0 rfl rfl ?_
  refine G_iconst C dX11_count_1 kI_0 ?_
  refine G_put (w' := wY cI cZ ad (ms M 0 (0) (0)) t) (ty := .int) C 0 0 tyX11 dX11_count_2 yc_0 rfl inG11 tyX11_ok nmX11 (by decide) wm_837 rfl rfl (by decide +kernel) rfl rfl (Nat.le_of_ble_eq_true rfl) (yp_0_0 _) ?_
  refine G_w (w2 := wY cI cZ ad M t) (congrArg (fun z => wY cI cZ ad z t) (ms_id h0)) ?_
  refine G_iload_n C 1 dX11_count_5 rfl rfl ?_
  refine G_iconst C dX11_count_6 kI_0 ?_
  refine G_iconst C dX11_count_7 kI_3 ?_
  refine G_callS1 C [.int (y), .int (nI 0), .int (nI 3)] dX11_count_8 (c_X11_in_c (by decide)) wm_927 wm_928 wm_61 wm_929 ydc_X11_in rfl ⟨Nat.le_of_ble_eq_true rfl, Nat.le_of_ble_eq_true rfl⟩ ⟨rfl, rfl⟩ ⟨Nat.le_refl _, Nat.le_refl _⟩ (Nat.le_of_ble_eq_true rfl) rfl ?_
  refine G_if_eqB (tgt := 23) C dX11_count_11 (by decide) (fun h11_1 => ?_) (fun h11_1 => ?_)
  · refine G_iload_n C 1 dX11_count_23 rfl rfl ?_
    refine G_iconst C dX11_count_24 kI_4 ?_
    refine G_icmp_ne (tgt := 35) C dX11_count_25 (by decide) (fun h25_2 => ?_) (fun h25_2 => ?_)
    · refine G_iload_n C 1 dX11_count_35 rfl rfl ?_
      refine G_iconst C dX11_count_36 kI_5 ?_
      refine G_icmp_ne (tgt := 47) C dX11_count_37 (by decide) (fun h37_3 => ?_) (fun h37_3 => ?_)
      · refine G_iload_n C 1 dX11_count_47 rfl rfl ?_
        refine G_bipush C dX11_count_48 kB_6 ?_
        refine G_icmp_ne (tgt := 60) C dX11_count_50 (by decide) (fun h50_4 => ?_) (fun h50_4 => ?_)
        · refine G_iconst C dX11_count_60 kI_m1 ?_
          exact G_iret C hr dX11_count_61 (by simp only [y_count]; rw [if_neg (by rw [h11_1]; decide), if_neg h25_2, if_neg h37_3, if_neg h50_4]) (rfl)
        · refine G_aload_n C 0 dX11_count_53 rfl rfl ?_
          refine G_get (v := .int (nI (M 0 3))) C 0 3 dX11_count_54 yc_0 rfl inG11 (by decide) wm_840 rfl rfl ?_
          refine G_goto (tgt := 61) C dX11_count_57 (by decide) ?_
          exact G_iret C hr dX11_count_61 (by simp only [y_count]; rw [if_neg (by rw [h11_1]; decide), if_neg h25_2, if_neg h37_3, if_pos h50_4]) (rfl)
      · refine G_aload_n C 0 dX11_count_40 rfl rfl ?_
        refine G_get (v := .int (nI (M 0 25))) C 0 25 dX11_count_41 yc_0 rfl inG11 (by decide) wm_862 rfl rfl ?_
        refine G_goto (tgt := 61) C dX11_count_44 (by decide) ?_
        exact G_iret C hr dX11_count_61 (by simp only [y_count]; rw [if_neg (by rw [h11_1]; decide), if_neg h25_2, if_pos h37_3]) (rfl)
    · refine G_aload_n C 0 dX11_count_28 rfl rfl ?_
      refine G_get (v := .int (nI (M 0 22))) C 0 22 dX11_count_29 yc_0 rfl inG11 (by decide) wm_859 rfl rfl ?_
      refine G_goto (tgt := 61) C dX11_count_32 (by decide) ?_
      exact G_iret C hr dX11_count_61 (by simp only [y_count]; rw [if_neg (by rw [h11_1]; decide), if_pos h25_2]) (rfl)
  · obtain ⟨k, hx_k, rfl⟩ := inR_of (by decide) h11_1
    have cl_k := nI_clamp (n := k) (by omega)
    refine G_aload_n C 0 dX11_count_14 rfl rfl ?_
    refine G_get (v := .ref (ad 2)) C 0 9 dX11_count_15 yc_0 rfl inG11 (by decide) wm_846 rfl rfl ?_
    refine G_iload_n C 1 dX11_count_18 rfl rfl ?_
    refine G_iald (v := nI (M 2 k)) C 2 0 dX11_count_19 yc_2 rfl (by omega) (by decide) rfl ?_
    refine G_goto (tgt := 61) C dX11_count_20 (by decide) ?_
    exact G_iret C hr dX11_count_61 (by simp [y_count, h11_1, cl_k]) (rfl)
set_option maxHeartbeats 4000000 in
set_option maxRecDepth 100000 in
theorem c_X11_trace  (h0 : M 0 0 = 0)  : CT l yX11_trace cX11_trace 1 (some .long) (rmOf 0 0) D (tyI cI cZ) [.ref (ad 0)] (wY cI cZ ad M t) (some (.long t)) (wY cI cZ ad M t) := by
  refine CT_of (own := "FalseParityModel") (by decide) rfl (Nat.le_of_ble_eq_true rfl) (fun p e s m args below meth c C hr => ?_)
  refine G_aload_n C 0 dX11_trace_0 rfl rfl ?_
  refine G_iconst C dX11_trace_1 kI_0 ?_
  refine G_put (w' := wY cI cZ ad (ms M 0 (0) (0)) t) (ty := .int) C 0 0 tyX11 dX11_trace_2 yc_0 rfl inG11 tyX11_ok nmX11 (by decide) wm_837 rfl rfl (by decide +kernel) rfl rfl (Nat.le_of_ble_eq_true rfl) (yp_0_0 _) ?_
  refine G_w (w2 := wY cI cZ ad M t) (congrArg (fun z => wY cI cZ ad z t) (ms_id h0)) ?_
  refine G_aload_n C 0 dX11_trace_5 rfl rfl ?_
  refine G_get (v := .long (t)) C 0 1 dX11_trace_6 yc_0 rfl inG11 (by decide) wm_838 rfl rfl ?_
  exact G_lret C hr dX11_trace_9 (rfl) (rfl)
set_option maxHeartbeats 4000000 in
set_option maxRecDepth 100000 in
theorem c_X11_passes {x y : Int32} (h0 : M 0 0 = 0) (hU : M 0 19 ≤ 10) (hN : M 2 1 ≤ 6) (hP : M 2 0 ≤ 5) (hA : ∀ n, n < M 2 1 → M 7 (6 + n) ≤ 999) (hR : M 7 19 ≤ 999) (hB : ∀ k j, M k j < 1024) : CT l yX11_passes cX11_passes 3 (some .int) (rmOf 2 43) D (tyI cI cZ) [.ref (ad 0), .int (x), .int (y)] (wY cI cZ ad M t) (some (.int (y_pass M x y).1)) (wY cI cZ ad (y_pass M x y).2 t) := by
  refine CT_of (own := "FalseParityModel") (by decide) rfl (Nat.le_of_ble_eq_true rfl) (fun p e s m args below meth c C hr => ?_)
  refine G_aload_n C 0 dX11_passes_0 rfl rfl ?_
  refine G_iconst C dX11_passes_1 kI_0 ?_
  refine G_put (w' := wY cI cZ ad (ms M 0 (0) (0)) t) (ty := .int) C 0 0 tyX11 dX11_passes_2 yc_0 rfl inG11 tyX11_ok nmX11 (by decide) wm_837 rfl rfl (by decide +kernel) rfl rfl (Nat.le_of_ble_eq_true rfl) (yp_0_0 _) ?_
  refine G_w (w2 := wY cI cZ ad M t) (congrArg (fun z => wY cI cZ ad z t) (ms_id h0)) ?_
  refine G_aload_n C 0 dX11_passes_5 rfl rfl ?_
  refine G_iload_n C 1 dX11_passes_6 rfl rfl ?_
  refine G_callV1 C [.int (x)] 0 dX11_passes_7 (c_X11_isNote hB) wm_970 wm_972 wm_40 wm_61 wm_973 yc_0 rfl ydc_X11_isNote rfl ⟨Nat.le_of_ble_eq_true rfl, Nat.le_of_ble_eq_true rfl⟩ ⟨rfl, rfl⟩ ⟨Nat.le_refl _, Nat.le_refl _⟩ (Nat.le_of_ble_eq_true rfl) rfl ?_
  refine G_if_eqB (tgt := 21) C dX11_passes_10 (by decide) (fun h10_1 => ?_) (fun h10_1 => ?_)
  · refine G_iconst C dX11_passes_21 kI_m1 ?_
    exact G_iret C hr dX11_passes_22 (by simp [y_pass, y_passN, h10_1]) (congrArg (fun z => wY cI cZ ad z t) (by simp [y_pass, y_passN, h10_1]))
  · obtain ⟨n, hx_n, rfl⟩ := inR_of (by have := hB 2 1; omega) h10_1
    have cl_n := nI_clamp (n := n) (by have := hB 2 1; omega)
    replace hA := hA _ hx_n
    refine G_aload_n C 0 dX11_passes_13 rfl rfl ?_
    refine G_iload_n C 2 dX11_passes_14 rfl rfl ?_
    refine G_callV1 C [.int (y)] 0 dX11_passes_15 (c_X11_isPerson hB) wm_986 wm_988 wm_43 wm_61 wm_989 yc_0 rfl ydc_X11_isPerson rfl ⟨Nat.le_of_ble_eq_true rfl, Nat.le_of_ble_eq_true rfl⟩ ⟨rfl, rfl⟩ ⟨Nat.le_refl _, Nat.le_refl _⟩ (Nat.le_of_ble_eq_true rfl) rfl ?_
    refine G_if_neB (tgt := 23) C dX11_passes_18 (by decide) (fun h18_2 => ?_) (fun h18_2 => ?_)
    · obtain ⟨q, hx_q, rfl⟩ := inR_of (by have := hB 2 0; omega) h18_2
      have cl_q := nI_clamp (n := q) (by have := hB 2 0; omega)
      refine G_aload_n C 0 dX11_passes_23 rfl rfl ?_
      refine G_iload_n C 1 dX11_passes_24 rfl rfl ?_
      refine G_callV1 C [.int (nI n)] 0 dX11_passes_25 (c_X11_isAway (by omega) hB) wm_990 wm_992 wm_44 wm_61 wm_993 yc_0 rfl ydc_X11_isAway rfl ⟨Nat.le_of_ble_eq_true rfl, Nat.le_of_ble_eq_true rfl⟩ ⟨rfl, rfl⟩ ⟨Nat.le_refl _, Nat.le_refl _⟩ (Nat.le_of_ble_eq_true rfl) rfl ?_
      refine G_if_neB (tgt := 71) C dX11_passes_28 (by decide) (fun h28_3 => ?_) (fun h28_3 => ?_)
      · refine G_bipush C dX11_passes_71 kB_m2 ?_
        exact G_iret C hr dX11_passes_73 (by simp [y_pass, y_passN, h10_1, h18_2, h28_3, cl_n, cl_q]) (congrArg (fun z => wY cI cZ ad z t) (by simp [y_pass, y_passN, h10_1, h18_2, h28_3, cl_n, cl_q]))
      · refine G_aload_n C 0 dX11_passes_31 rfl rfl ?_
        refine G_get (v := .ref (ad 7)) C 0 15 dX11_passes_32 yc_0 rfl inG11 (by decide) wm_852 rfl rfl ?_
        refine G_iconst C dX11_passes_35 kI_0 ?_
        refine G_iload_n C 1 dX11_passes_36 rfl rfl ?_
        refine G_iaddN C dX11_passes_37 ?_
        refine G_top (y := nI (n)) (congrArg nI (Nat.zero_add _)) ?_
        refine G_iald (v := nI (M 7 n)) C 7 0 dX11_passes_38 yc_7 rfl (by omega) (by decide) rfl ?_
        refine G_iload_n C 2 dX11_passes_39 rfl rfl ?_
        refine G_icmp_eqN (tgt := 71) C dX11_passes_40 (by decide) (by have := hB 7 n; omega) (by omega) (fun h40_4 => ?_) (fun h40_4 => ?_)
        · refine G_bipush C dX11_passes_71 kB_m2 ?_
          exact G_iret C hr dX11_passes_73 (by simp [y_pass, y_passN, h10_1, h18_2, h28_3, h40_4, cl_n, cl_q]) (congrArg (fun z => wY cI cZ ad z t) (by simp [y_pass, y_passN, h10_1, h18_2, h28_3, h40_4, cl_n, cl_q]))
        · refine G_aload_n C 0 dX11_passes_43 rfl rfl ?_
          refine G_get (v := .ref (ad 7)) C 0 15 dX11_passes_44 yc_0 rfl inG11 (by decide) wm_852 rfl rfl ?_
          refine G_bipush C dX11_passes_47 kB_6 ?_
          refine G_iload_n C 1 dX11_passes_49 rfl rfl ?_
          refine G_iaddN C dX11_passes_50 ?_
          refine G_iald (v := nI (M 7 (6 + n))) C 7 0 dX11_passes_51 yc_7 rfl (by omega) (by decide) rfl ?_
          refine G_sipush C dX11_passes_52 kS_999 ?_
          refine G_icmp_eqN (tgt := 71) C dX11_passes_55 (by decide) (by have := hB 7 (6 + n); omega) (by decide) (fun h55_5 => ?_) (fun h55_5 => ?_)
          · refine G_bipush C dX11_passes_71 kB_m2 ?_
            exact G_iret C hr dX11_passes_73 (by simp [y_pass, y_passN, h10_1, h18_2, h28_3, h40_4, h55_5, cl_n, cl_q]) (congrArg (fun z => wY cI cZ ad z t) (by simp [y_pass, y_passN, h10_1, h18_2, h28_3, h40_4, h55_5, cl_n, cl_q]))
          · refine G_aload_n C 0 dX11_passes_58 rfl rfl ?_
            refine G_get (v := .ref (ad 7)) C 0 15 dX11_passes_59 yc_0 rfl inG11 (by decide) wm_852 rfl rfl ?_
            refine G_bipush C dX11_passes_62 kB_19 ?_
            refine G_iald (v := nI (M 7 19)) C 7 0 dX11_passes_64 yc_7 rfl (by decide) (by decide) rfl ?_
            refine G_sipush C dX11_passes_65 kS_999 ?_
            refine G_icmp_neN (tgt := 74) C dX11_passes_68 (by decide) (by have := hB 7 19; omega) (by decide) (fun h68_6 => ?_) (fun h68_6 => ?_)
            · refine G_aload_n C 0 dX11_passes_74 rfl rfl ?_
              refine G_callV0 (w' := wY cI cZ ad (y_push M) t) C [] 0 dX11_passes_75 (c_X11_notes hU hB) wm_1006 wm_1008 wm_46 wm_61 wm_1009 yc_0 rfl ydc_X11_notes rfl ⟨Nat.le_of_ble_eq_true rfl, Nat.le_of_ble_eq_true rfl⟩ ⟨rfl, rfl⟩ ⟨Nat.le_refl _, Nat.le_refl _⟩ (Nat.le_of_ble_eq_true rfl) rfl ?_
              refine G_aload_n C 0 dX11_passes_78 rfl rfl ?_
              refine G_iload_n C 1 dX11_passes_79 rfl rfl ?_
              refine G_aload_n C 0 dX11_passes_80 rfl rfl ?_
              refine G_iload_n C 1 dX11_passes_81 rfl rfl ?_
              refine G_callV1 (v := .int (nI (bN (y_pa M (n))))) C [.int (nI n)] 0 dX11_passes_82 (c_X11_hasParity (by omega) (hBy_push hB hU)) wm_974 wm_976 wm_41 wm_61 wm_977 yc_0 rfl ydc_X11_hasParity rfl ⟨Nat.le_of_ble_eq_true rfl, Nat.le_of_ble_eq_true rfl⟩ ⟨rfl, rfl⟩ ⟨Nat.le_refl _, Nat.le_refl _⟩ (Nat.le_of_ble_eq_true rfl) rfl ?_
              refine G_callV1 (v := .int (nI (y_tk M (n) (y_pa M (n))))) C [.int (nI n), .int (nI (bN (y_pa M (n))))] 0 dX11_passes_85 (c_X11_takers (b := y_pa M (n)) (by omega) hP (hBy_push hB hU)) wm_978 wm_980 wm_42 wm_61 wm_981 yc_0 rfl ydc_X11_takers rfl ⟨Nat.le_of_ble_eq_true rfl, Nat.le_of_ble_eq_true rfl⟩ ⟨rfl, rfl⟩ ⟨Nat.le_refl _, Nat.le_refl _⟩ (Nat.le_of_ble_eq_true rfl) rfl ?_
              refine G_iload_n C 2 dX11_passes_88 rfl rfl ?_
              refine G_ishrN C dX11_passes_89 (by omega) (by have := y_tk_lt (n := n) (b := y_pa M n) hP; omega) ?_
              refine G_iconst C dX11_passes_90 kI_1 ?_
              refine G_iandN C dX11_passes_91 ?_
              refine G_top (y := nI (((y_tk M (n) (y_pa M (n))) / 2 ^ q) % 2)) (congrArg nI (Nat.and_one_is_mod _)) ?_
              refine G_if_neN (tgt := 118) C dX11_passes_92 (by decide) (by omega) (fun h92_7 => ?_) (fun h92_7 => ?_)
              · refine G_aload_n C 0 dX11_passes_118 rfl rfl ?_
                refine G_get (v := .ref (ad 7)) C 0 15 dX11_passes_119 yc_0 rfl inG11 (by decide) wm_852 rfl rfl ?_
                refine G_iconst C dX11_passes_122 kI_0 ?_
                refine G_iload_n C 1 dX11_passes_123 rfl rfl ?_
                refine G_iaddN C dX11_passes_124 ?_
                refine G_top (y := nI (n)) (congrArg nI (Nat.zero_add _)) ?_
                refine G_iload_n C 2 dX11_passes_125 rfl rfl ?_
                refine G_iast (w' := wY cI cZ ad (ms (y_push M) 7 (n) (q)) t) C 7 0 dX11_passes_126 yc_7 rfl (by omega) (by decide) (ys_7 _ _) ?_
                refine G_aload_n C 0 dX11_passes_127 rfl rfl ?_
                refine G_get (v := .ref (ad 7)) C 0 15 dX11_passes_128 yc_0 rfl inG11 (by decide) wm_852 rfl rfl ?_
                refine G_bipush C dX11_passes_131 kB_6 ?_
                refine G_iload_n C 1 dX11_passes_133 rfl rfl ?_
                refine G_iaddN C dX11_passes_134 ?_
                refine G_dup2 C dX11_passes_135 rfl rfl ?_
                refine G_iald (v := nI (M 7 (6 + n))) C 7 0 dX11_passes_136 yc_7 rfl (by omega) (by decide) (congrArg nI (ms_ne (by omega))) ?_
                refine G_iconst C dX11_passes_137 kI_1 ?_
                refine G_iaddN C dX11_passes_138 ?_
                refine G_iast (w' := wY cI cZ ad (ms (ms (y_push M) 7 (n) (q)) 7 (6 + n) ((M 7 (6 + n)) + 1)) t) C 7 0 dX11_passes_139 yc_7 rfl (by omega) (by decide) (ys_7 _ _) ?_
                refine G_aload_n C 0 dX11_passes_140 rfl rfl ?_
                refine G_get (v := .ref (ad 7)) C 0 15 dX11_passes_141 yc_0 rfl inG11 (by decide) wm_852 rfl rfl ?_
                refine G_bipush C dX11_passes_144 kB_12 ?_
                refine G_dup2 C dX11_passes_146 rfl rfl ?_
                refine G_iald (v := nI (M 7 12)) C 7 0 dX11_passes_147 yc_7 rfl (by decide) (by decide) (congrArg nI ((ms_ne (by omega)).trans (ms_ne (by omega)))) ?_
                refine G_aload_n C 0 dX11_passes_148 rfl rfl ?_
                refine G_get (v := .ref (ad 5)) C 0 13 dX11_passes_149 yc_0 rfl inG11 (by decide) wm_850 rfl rfl ?_
                refine G_iload_n C 1 dX11_passes_152 rfl rfl ?_
                refine G_iald (v := nI (M 5 n)) C 5 0 dX11_passes_153 yc_5 rfl (by omega) (by decide) rfl ?_
                refine G_if_eqN (tgt := 181) C dX11_passes_154 (by decide) (by have := hB 5 n; omega) (fun h154_8 => ?_) (fun h154_8 => ?_)
                · refine G_iconst C dX11_passes_181 kI_0 ?_
                  refine G_iorN C dX11_passes_182 ?_
                  refine G_iast (w' := wY cI cZ ad (ms (ms (ms (y_push M) 7 (n) (q)) 7 (6 + n) ((M 7 (6 + n)) + 1)) 7 (12) ((M 7 12) ||| 0)) t) C 7 0 dX11_passes_183 yc_7 rfl (by decide) (by decide) (ys_7 _ _) ?_
                  refine G_iconst C dX11_passes_184 kI_1 ?_
                  exact G_iret C hr dX11_passes_185 (by simp [y_pass, y_passN, h10_1, h18_2, h28_3, h40_4, h55_5, h68_6, Nat.pos_iff_ne_zero.mp h92_7, h154_8, cl_n, cl_q]) (congrArg (fun z => wY cI cZ ad z t) (by simp [y_pass, y_passN, h10_1, h18_2, h28_3, h40_4, h55_5, h68_6, Nat.pos_iff_ne_zero.mp h92_7, h154_8, cl_n, cl_q]))
                · refine G_aload_n C 0 dX11_passes_157 rfl rfl ?_
                  refine G_get (v := .ref (ad 7)) C 0 15 dX11_passes_158 yc_0 rfl inG11 (by decide) wm_852 rfl rfl ?_
                  refine G_bipush C dX11_passes_161 kB_6 ?_
                  refine G_iload_n C 1 dX11_passes_163 rfl rfl ?_
                  refine G_iaddN C dX11_passes_164 ?_
                  refine G_iald (v := nI (M 7 (6 + n) + 1)) C 7 0 dX11_passes_165 yc_7 rfl (by omega) (by decide) (congrArg nI ms_at) ?_
                  refine G_aload_n C 0 dX11_passes_166 rfl rfl ?_
                  refine G_get (v := .ref (ad 2)) C 0 9 dX11_passes_167 yc_0 rfl inG11 (by decide) wm_846 rfl rfl ?_
                  refine G_iconst C dX11_passes_170 kI_2 ?_
                  refine G_iald (v := nI (M 2 2)) C 2 0 dX11_passes_171 yc_2 rfl (by decide) (by decide) rfl ?_
                  refine G_icmp_ltN (tgt := 181) C dX11_passes_172 (by decide) (by have := hB 7 (6 + n); omega) (by have := hB 2 2; omega) (fun h172_9 => ?_) (fun h172_9 => ?_)
                  · refine G_iconst C dX11_passes_181 kI_0 ?_
                    refine G_iorN C dX11_passes_182 ?_
                    refine G_iast (w' := wY cI cZ ad (ms (ms (ms (y_push M) 7 (n) (q)) 7 (6 + n) ((M 7 (6 + n)) + 1)) 7 (12) ((M 7 12) ||| 0)) t) C 7 0 dX11_passes_183 yc_7 rfl (by decide) (by decide) (ys_7 _ _) ?_
                    refine G_iconst C dX11_passes_184 kI_1 ?_
                    exact G_iret C hr dX11_passes_185 (by simp [y_pass, y_passN, h10_1, h18_2, h28_3, h40_4, h55_5, h68_6, Nat.pos_iff_ne_zero.mp h92_7, h154_8, Nat.not_le.mpr h172_9, cl_n, cl_q]) (congrArg (fun z => wY cI cZ ad z t) (by simp [y_pass, y_passN, h10_1, h18_2, h28_3, h40_4, h55_5, h68_6, Nat.pos_iff_ne_zero.mp h92_7, h154_8, Nat.not_le.mpr h172_9, cl_n, cl_q]))
                  · refine G_iconst C dX11_passes_175 kI_1 ?_
                    refine G_iload_n C 1 dX11_passes_176 rfl rfl ?_
                    refine G_ishlN C dX11_passes_177 (by omega) (sh1 (by omega)) ?_
                    refine G_goto (tgt := 182) C dX11_passes_178 (by decide) ?_
                    refine G_iorN C dX11_passes_182 ?_
                    refine G_iast (w' := wY cI cZ ad (ms (ms (ms (y_push M) 7 (n) (q)) 7 (6 + n) ((M 7 (6 + n)) + 1)) 7 (12) ((M 7 12) ||| (1 * 2 ^ n))) t) C 7 0 dX11_passes_183 yc_7 rfl (by decide) (by decide) (ys_7 _ _) ?_
                    refine G_iconst C dX11_passes_184 kI_1 ?_
                    exact G_iret C hr dX11_passes_185 (by simp [y_pass, y_passN, h10_1, h18_2, h28_3, h40_4, h55_5, h68_6, Nat.pos_iff_ne_zero.mp h92_7, h154_8, h172_9, cl_n, cl_q]) (congrArg (fun z => wY cI cZ ad z t) (by simp [y_pass, y_passN, h10_1, h18_2, h28_3, h40_4, h55_5, h68_6, Nat.pos_iff_ne_zero.mp h92_7, h154_8, h172_9, cl_n, cl_q]))
              · refine G_aload_n C 0 dX11_passes_95 rfl rfl ?_
                refine G_get (v := .ref (ad 7)) C 0 15 dX11_passes_96 yc_0 rfl inG11 (by decide) wm_852 rfl rfl ?_
                refine G_bipush C dX11_passes_99 kB_19 ?_
                refine G_dup2 C dX11_passes_101 rfl rfl ?_
                refine G_iald (v := nI (M 7 19)) C 7 0 dX11_passes_102 yc_7 rfl (by decide) (by decide) rfl ?_
                refine G_iconst C dX11_passes_103 kI_1 ?_
                refine G_iaddN C dX11_passes_104 ?_
                refine G_iast (w' := wY cI cZ ad (ms (y_push M) 7 (19) ((M 7 19) + 1)) t) C 7 0 dX11_passes_105 yc_7 rfl (by decide) (by decide) (ys_7 _ _) ?_
                refine G_aload_n C 0 dX11_passes_106 rfl rfl ?_
                refine G_get (v := .ref (ad 7)) C 0 15 dX11_passes_107 yc_0 rfl inG11 (by decide) wm_852 rfl rfl ?_
                refine G_bipush C dX11_passes_110 kB_6 ?_
                refine G_iload_n C 1 dX11_passes_112 rfl rfl ?_
                refine G_iaddN C dX11_passes_113 ?_
                refine G_iconst C dX11_passes_114 kI_0 ?_
                refine G_iast (w' := wY cI cZ ad (ms (ms (y_push M) 7 (19) ((M 7 19) + 1)) 7 (6 + n) (0)) t) C 7 0 dX11_passes_115 yc_7 rfl (by omega) (by decide) (ys_7 _ _) ?_
                refine G_iconst C dX11_passes_116 kI_0 ?_
                exact G_iret C hr dX11_passes_117 (by simp [y_pass, y_passN, h10_1, h18_2, h28_3, h40_4, h55_5, h68_6, h92_7, cl_n, cl_q]) (congrArg (fun z => wY cI cZ ad z t) (by simp [y_pass, y_passN, h10_1, h18_2, h28_3, h40_4, h55_5, h68_6, h92_7, cl_n, cl_q]))
            · refine G_bipush C dX11_passes_71 kB_m2 ?_
              exact G_iret C hr dX11_passes_73 (by simp [y_pass, y_passN, h10_1, h18_2, h28_3, h40_4, h55_5, h68_6, cl_n, cl_q]) (congrArg (fun z => wY cI cZ ad z t) (by simp [y_pass, y_passN, h10_1, h18_2, h28_3, h40_4, h55_5, h68_6, cl_n, cl_q]))
    · refine G_iconst C dX11_passes_21 kI_m1 ?_
      exact G_iret C hr dX11_passes_22 (by simp [y_pass, y_passN, h10_1, h18_2]) (congrArg (fun z => wY cI cZ ad z t) (by simp [y_pass, y_passN, h10_1, h18_2]))
set_option maxHeartbeats 4000000 in
set_option maxRecDepth 100000 in
theorem c_X11_teaches {x y : Int32} (h0 : M 0 0 = 0) (hU : M 0 19 ≤ 10) (hP : M 2 0 ≤ 5) (hB : ∀ k j, M k j < 1024) : CT l yX11_teaches cX11_teaches 4 (some .int) (rmOf 2 43) D (tyI cI cZ) [.ref (ad 0), .int (x), .int (y)] (wY cI cZ ad M t) (some (.int (y_teach M x y).1)) (wY cI cZ ad (y_teach M x y).2 t) := by
  refine CT_of (own := "FalseParityModel") (by decide) rfl (Nat.le_of_ble_eq_true rfl) (fun p e s m args below meth c C hr => ?_)
  refine G_aload_n C 0 dX11_teaches_0 rfl rfl ?_
  refine G_iconst C dX11_teaches_1 kI_0 ?_
  refine G_put (w' := wY cI cZ ad (ms M 0 (0) (0)) t) (ty := .int) C 0 0 tyX11 dX11_teaches_2 yc_0 rfl inG11 tyX11_ok nmX11 (by decide) wm_837 rfl rfl (by decide +kernel) rfl rfl (Nat.le_of_ble_eq_true rfl) (yp_0_0 _) ?_
  refine G_w (w2 := wY cI cZ ad M t) (congrArg (fun z => wY cI cZ ad z t) (ms_id h0)) ?_
  refine G_aload_n C 0 dX11_teaches_5 rfl rfl ?_
  refine G_iload_n C 1 dX11_teaches_6 rfl rfl ?_
  refine G_callV1 C [.int (x)] 0 dX11_teaches_7 (c_X11_isPerson hB) wm_986 wm_988 wm_43 wm_61 wm_989 yc_0 rfl ydc_X11_isPerson rfl ⟨Nat.le_of_ble_eq_true rfl, Nat.le_of_ble_eq_true rfl⟩ ⟨rfl, rfl⟩ ⟨Nat.le_refl _, Nat.le_refl _⟩ (Nat.le_of_ble_eq_true rfl) rfl ?_
  refine G_if_eqB (tgt := 23) C dX11_teaches_10 (by decide) (fun h10_1 => ?_) (fun h10_1 => ?_)
  · refine G_iconst C dX11_teaches_23 kI_m1 ?_
    exact G_iret C hr dX11_teaches_24 (by simp [y_teach, h10_1]) (congrArg (fun z => wY cI cZ ad z t) (by simp [y_teach, h10_1]))
  · obtain ⟨q, hx_q, rfl⟩ := inR_of (by have := hB 2 0; omega) h10_1
    have cl_q := nI_clamp (n := q) (by have := hB 2 0; omega)
    refine G_iload_n C 2 dX11_teaches_13 rfl rfl ?_
    refine G_iconst C dX11_teaches_14 kI_0 ?_
    refine G_bipush C dX11_teaches_15 kB_31 ?_
    refine G_callS1 C [.int (y), .int (nI 0), .int (nI 31)] dX11_teaches_17 (c_X11_in_c (by decide)) wm_927 wm_928 wm_61 wm_929 ydc_X11_in rfl ⟨Nat.le_of_ble_eq_true rfl, Nat.le_of_ble_eq_true rfl⟩ ⟨rfl, rfl⟩ ⟨Nat.le_refl _, Nat.le_refl _⟩ (Nat.le_of_ble_eq_true rfl) rfl ?_
    refine G_if_neB (tgt := 25) C dX11_teaches_20 (by decide) (fun h20_2 => ?_) (fun h20_2 => ?_)
    · obtain ⟨a, hx_a, rfl⟩ := inR_of (by decide) h20_2
      have cl_a := nI_clamp (n := a) (by omega)
      refine G_aload_n C 0 dX11_teaches_25 rfl rfl ?_
      refine G_callV0 (w' := wY cI cZ ad (y_push M) t) C [] 0 dX11_teaches_26 (c_X11_notes hU hB) wm_1006 wm_1008 wm_46 wm_61 wm_1009 yc_0 rfl ydc_X11_notes rfl ⟨Nat.le_of_ble_eq_true rfl, Nat.le_of_ble_eq_true rfl⟩ ⟨rfl, rfl⟩ ⟨Nat.le_refl _, Nat.le_refl _⟩ (Nat.le_of_ble_eq_true rfl) rfl ?_
      refine G_aload_n C 0 dX11_teaches_29 rfl rfl ?_
      refine G_get (v := .ref (ad 7)) C 0 15 dX11_teaches_30 yc_0 rfl inG11 (by decide) wm_852 rfl rfl ?_
      refine G_bipush C dX11_teaches_33 kB_14 ?_
      refine G_iload_n C 1 dX11_teaches_35 rfl rfl ?_
      refine G_iaddN C dX11_teaches_36 ?_
      refine G_iald (v := nI (M 7 (14 + q))) C 7 0 dX11_teaches_37 yc_7 rfl (by omega) (by decide) rfl ?_
      refine G_istore_n (lv' := [(3, .int (nI (M 7 (14 + q)))), (0, .ref (ad 0)), (1, .int (nI q)), (2, .int (nI a))]) C dX11_teaches_38 rfl (by decide) rfl ?_
      refine G_aload_n C 1 dX11_teaches_39 rfl rfl ?_
      refine G_get (v := .ref (ad 7)) C 0 15 dX11_teaches_40 yc_0 rfl inG11 (by decide) wm_852 rfl rfl ?_
      refine G_bipush C dX11_teaches_43 kB_14 ?_
      refine G_iload_n C 2 dX11_teaches_45 rfl rfl ?_
      refine G_iaddN C dX11_teaches_46 ?_
      refine G_iload_n C 3 dX11_teaches_47 rfl rfl ?_
      refine G_iast (w' := wY cI cZ ad (ms (y_push M) 7 (14 + q) (a)) t) C 7 0 dX11_teaches_48 yc_7 rfl (by omega) (by decide) (ys_7 _ _) ?_
      refine G_iload_n C 0 dX11_teaches_49 rfl rfl ?_
      exact G_iret C hr dX11_teaches_50 (by simp [y_teach, h10_1, h20_2, cl_q, cl_a]) (congrArg (fun z => wY cI cZ ad z t) (by simp [y_teach, h10_1, h20_2, cl_q, cl_a]))
    · refine G_iconst C dX11_teaches_23 kI_m1 ?_
      exact G_iret C hr dX11_teaches_24 (by simp [y_teach, h10_1, h20_2]) (congrArg (fun z => wY cI cZ ad z t) (by simp [y_teach, h10_1, h20_2]))
set_option maxHeartbeats 4000000 in
set_option maxRecDepth 100000 in
theorem c_X11_sends {x y : Int32} (h0 : M 0 0 = 0) (hU : M 0 19 ≤ 10) (hN : M 2 1 ≤ 6) (hA : M 7 13 < 64) (hB : ∀ k j, M k j < 1024) : CT l yX11_sends cX11_sends 3 (some .int) (rmOf 2 43) D (tyI cI cZ) [.ref (ad 0), .int (x), .int (y)] (wY cI cZ ad M t) (some (.int (y_send M x y).1)) (wY cI cZ ad (y_send M x y).2 t) := by
  refine CT_of (own := "FalseParityModel") (by decide) rfl (Nat.le_of_ble_eq_true rfl) (fun p e s m args below meth c C hr => ?_)
  refine G_aload_n C 0 dX11_sends_0 rfl rfl ?_
  refine G_iconst C dX11_sends_1 kI_0 ?_
  refine G_put (w' := wY cI cZ ad (ms M 0 (0) (0)) t) (ty := .int) C 0 0 tyX11 dX11_sends_2 yc_0 rfl inG11 tyX11_ok nmX11 (by decide) wm_837 rfl rfl (by decide +kernel) rfl rfl (Nat.le_of_ble_eq_true rfl) (yp_0_0 _) ?_
  refine G_w (w2 := wY cI cZ ad M t) (congrArg (fun z => wY cI cZ ad z t) (ms_id h0)) ?_
  refine G_aload_n C 0 dX11_sends_5 rfl rfl ?_
  refine G_iload_n C 1 dX11_sends_6 rfl rfl ?_
  refine G_callV1 C [.int (x)] 0 dX11_sends_7 (c_X11_isNote hB) wm_970 wm_972 wm_40 wm_61 wm_973 yc_0 rfl ydc_X11_isNote rfl ⟨Nat.le_of_ble_eq_true rfl, Nat.le_of_ble_eq_true rfl⟩ ⟨rfl, rfl⟩ ⟨Nat.le_refl _, Nat.le_refl _⟩ (Nat.le_of_ble_eq_true rfl) rfl ?_
  refine G_if_eqB (tgt := 22) C dX11_sends_10 (by decide) (fun h10_1 => ?_) (fun h10_1 => ?_)
  · refine G_iconst C dX11_sends_22 kI_m1 ?_
    exact G_iret C hr dX11_sends_23 (by simp [y_send, y_sendN, h10_1]) (congrArg (fun z => wY cI cZ ad z t) (by simp [y_send, y_sendN, h10_1]))
  · obtain ⟨n, hx_n, rfl⟩ := inR_of (by have := hB 2 1; omega) h10_1
    have cl_n := nI_clamp (n := n) (by have := hB 2 1; omega)
    refine G_iload_n C 2 dX11_sends_13 rfl rfl ?_
    refine G_iconst C dX11_sends_14 kI_0 ?_
    refine G_iconst C dX11_sends_15 kI_1 ?_
    refine G_callS1 C [.int (y), .int (nI 0), .int (nI 1)] dX11_sends_16 (c_X11_in_c (by decide)) wm_927 wm_928 wm_61 wm_929 ydc_X11_in rfl ⟨Nat.le_of_ble_eq_true rfl, Nat.le_of_ble_eq_true rfl⟩ ⟨rfl, rfl⟩ ⟨Nat.le_refl _, Nat.le_refl _⟩ (Nat.le_of_ble_eq_true rfl) rfl ?_
    refine G_if_neB (tgt := 24) C dX11_sends_19 (by decide) (fun h19_2 => ?_) (fun h19_2 => ?_)
    · obtain ⟨k, hx_k, rfl⟩ := inR_of (by decide) h19_2
      have cl_k := nI_clamp (n := k) (by omega)
      refine G_aload_n C 0 dX11_sends_24 rfl rfl ?_
      refine G_get (v := .ref (ad 7)) C 0 15 dX11_sends_25 yc_0 rfl inG11 (by decide) wm_852 rfl rfl ?_
      refine G_bipush C dX11_sends_28 kB_13 ?_
      refine G_iald (v := nI (M 7 13)) C 7 0 dX11_sends_30 yc_7 rfl (by decide) (by decide) rfl ?_
      refine G_iload_n C 1 dX11_sends_31 rfl rfl ?_
      refine G_ishrN C dX11_sends_32 (by omega) (by omega) ?_
      refine G_iconst C dX11_sends_33 kI_1 ?_
      refine G_iandN C dX11_sends_34 ?_
      refine G_top (y := nI (((M 7 13) / 2 ^ n) % 2)) (congrArg nI (Nat.and_one_is_mod _)) ?_
      refine G_iload_n C 2 dX11_sends_35 rfl rfl ?_
      refine G_icmp_neN (tgt := 42) C dX11_sends_36 (by decide) (by omega) (by omega) (fun h36_3 => ?_) (fun h36_3 => ?_)
      · refine G_aload_n C 0 dX11_sends_42 rfl rfl ?_
        refine G_callV0 (w' := wY cI cZ ad (y_push M) t) C [] 0 dX11_sends_43 (c_X11_notes hU hB) wm_1006 wm_1008 wm_46 wm_61 wm_1009 yc_0 rfl ydc_X11_notes rfl ⟨Nat.le_of_ble_eq_true rfl, Nat.le_of_ble_eq_true rfl⟩ ⟨rfl, rfl⟩ ⟨Nat.le_refl _, Nat.le_refl _⟩ (Nat.le_of_ble_eq_true rfl) rfl ?_
        refine G_aload_n C 0 dX11_sends_46 rfl rfl ?_
        refine G_get (v := .ref (ad 7)) C 0 15 dX11_sends_47 yc_0 rfl inG11 (by decide) wm_852 rfl rfl ?_
        refine G_bipush C dX11_sends_50 kB_13 ?_
        refine G_aload_n C 0 dX11_sends_52 rfl rfl ?_
        refine G_get (v := .ref (ad 7)) C 0 15 dX11_sends_53 yc_0 rfl inG11 (by decide) wm_852 rfl rfl ?_
        refine G_bipush C dX11_sends_56 kB_13 ?_
        refine G_iald (v := nI (M 7 13)) C 7 0 dX11_sends_58 yc_7 rfl (by decide) (by decide) rfl ?_
        refine G_iconst C dX11_sends_59 kI_1 ?_
        refine G_iload_n C 1 dX11_sends_60 rfl rfl ?_
        refine G_ishlN C dX11_sends_61 (by omega) (sh1 (by omega)) ?_
        refine G_iconst C dX11_sends_62 kI_m1 ?_
        refine G_ixor C dX11_sends_63 ?_
        refine G_iand C dX11_sends_64 ?_
        refine G_iload_n C 2 dX11_sends_65 rfl rfl ?_
        refine G_iload_n C 1 dX11_sends_66 rfl rfl ?_
        refine G_ishlN C dX11_sends_67 (by omega) (kshl hx_k (by omega)) ?_
        refine G_ior C dX11_sends_68 ?_
        refine G_top (y := nI (M 7 13 ^^^ (1 * 2 ^ n))) (send_bits _ hA _ (by omega) _ hx_k h36_3) ?_
        refine G_iast (w' := wY cI cZ ad (ms (y_push M) 7 (13) (M 7 13 ^^^ (1 * 2 ^ n))) t) C 7 0 dX11_sends_69 yc_7 rfl (by decide) (by decide) (ys_7 _ _) ?_
        refine G_aload_n C 0 dX11_sends_70 rfl rfl ?_
        refine G_get (v := .ref (ad 7)) C 0 15 dX11_sends_71 yc_0 rfl inG11 (by decide) wm_852 rfl rfl ?_
        refine G_bipush C dX11_sends_74 kB_13 ?_
        refine G_iald (v := nI (M 7 13 ^^^ (1 * 2 ^ n))) C 7 0 dX11_sends_76 yc_7 rfl (by decide) (by decide) rfl ?_
        refine G_callS1 (v := .int (nI (pc6 (M 7 13 ^^^ (1 * 2 ^ n))))) C [.int (nI (M 7 13 ^^^ (1 * 2 ^ n)))] dX11_sends_77 (c_X11_ones (xor_lt hA (by omega))) wm_1018 wm_1019 wm_61 wm_1020 ydc_X11_ones rfl ⟨Nat.le_of_ble_eq_true rfl, Nat.le_of_ble_eq_true rfl⟩ ⟨rfl, rfl⟩ ⟨Nat.le_refl _, Nat.le_refl _⟩ (Nat.le_of_ble_eq_true rfl) rfl ?_
        exact G_iret C hr dX11_sends_80 (by simp [y_send, y_sendN, h10_1, h19_2, h36_3, cl_n, cl_k]) (congrArg (fun z => wY cI cZ ad z t) (by simp [y_send, y_sendN, h10_1, h19_2, h36_3, cl_n, cl_k]))
      · refine G_bipush C dX11_sends_39 kB_m2 ?_
        exact G_iret C hr dX11_sends_41 (by simp [y_send, y_sendN, h10_1, h19_2, h36_3, cl_n, cl_k]) (congrArg (fun z => wY cI cZ ad z t) (by simp [y_send, y_sendN, h10_1, h19_2, h36_3, cl_n, cl_k]))
    · refine G_iconst C dX11_sends_22 kI_m1 ?_
      exact G_iret C hr dX11_sends_23 (by simp [y_send, y_sendN, h10_1, h19_2]) (congrArg (fun z => wY cI cZ ad z t) (by simp [y_send, y_sendN, h10_1, h19_2]))
end Y2
