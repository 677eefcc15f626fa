section CTORS
variable {l : Launch} {D : va_G} {cI cZ : ClassId}
set_option maxHeartbeats 4000000 in
set_option maxRecDepth 100000 in
theorem c_X9_init {h : Nat} : CN l yX9_init cX9_init 1 (rmN 1 21 1 150) D (tyI cI cZ) [.ref h] [(h, .inr (9, [.null, .int (nI 0)]))] (fun ad => [(h, .inr (9, [.ref (ad 0), .int (nI 0)])), (ad 0, .inl (cI, 150, .inl (nA fun _ => 0)))]) 1 150 := by
  refine CN_of (own := "FalseParity$Text") (by decide) rfl rfl (Nat.le_of_ble_eq_true rfl) (fun p e s m args below meth c C hr hin => ?_)
  refine G_aload_n C 0 dX9_init_0 rfl rfl ?_
  refine G_objInit C dX9_init_1 wm_78 wm_71 wm_72 (Nat.le_of_ble_eq_true rfl) (Nat.le_of_ble_eq_true rfl) ?_
  refine G_aload_n C 0 dX9_init_4 rfl rfl ?_
  refine G_sipush C dX9_init_5 kS_150 ?_
  refine G_newi (cells' := 1) (slots' := 150) (w' := fun q => [(h, .inr (9, [.null, .int (nI 0)])), (q, .inl (cI, 150, .inl (nA fun _ => 0)))]) C dX9_init_8 wm_89 (by decide) (Nat.le_of_ble_eq_true rfl) (Nat.le_of_ble_eq_true rfl) rfl rfl (fun _ => rfl) (fun q1 => ?_)
  refine G_putF (w' := [(h, .inr (9, [.ref q1, .int (nI 0)])), (q1, .inl (cI, 150, .inl (nA fun _ => 0)))]) (ty := (.array .int)) C 0 0 tyX9 hin dX9_init_10 rfl rfl inG9 tyX9_ok nmX9 (by decide) wm_79 rfl rfl rfl (by decide +kernel) rfl rfl (Nat.le_of_ble_eq_true rfl) rfl ?_
  exact G_nret C hr dX9_init_13 (fun k => [q1].getD k 0) rfl
set_option maxHeartbeats 4000000 in
set_option maxRecDepth 100000 in
theorem c_X1_init {h : Nat} : CN l yX1_init cX1_init 1 (rmN 1 21 4 23) D (tyI cI cZ) [.ref h] [(h, .inr (1, [.null, .null, .null, .null, .int (nI 0), .int (nI 0), .int (nI 0), .int (nI 0)]))] (fun ad => [(h, .inr (1, [.ref (ad 0), .ref (ad 1), .ref (ad 2), .ref (ad 3), .int (nI 0), .int (nI 0), .int (nI 3), .int (nI 3)])), (ad 0, .inl (cI, 5, .inl (nA fun _ => 0))), (ad 1, .inl (cI, 6, .inl (nA fun _ => 0))), (ad 2, .inl (cI, 6, .inl (nA fun _ => 0))), (ad 3, .inl (cI, 6, .inl (nA fun _ => 0)))]) 4 23 := by
  refine CN_of (own := "FalseParity$Country") (by decide) rfl rfl (Nat.le_of_ble_eq_true rfl) (fun p e s m args below meth c C hr hin => ?_)
  refine G_aload_n C 0 dX1_init_0 rfl rfl ?_
  refine G_objInit C dX1_init_1 wm_101 wm_71 wm_72 (Nat.le_of_ble_eq_true rfl) (Nat.le_of_ble_eq_true rfl) ?_
  refine G_aload_n C 0 dX1_init_4 rfl rfl ?_
  refine G_iconst C dX1_init_5 kI_5 ?_
  refine G_newi (cells' := 1) (slots' := 5) (w' := fun q => [(h, .inr (1, [.null, .null, .null, .null, .int (nI 0), .int (nI 0), .int (nI 0), .int (nI 0)])), (q, .inl (cI, 5, .inl (nA fun _ => 0)))]) C dX1_init_6 wm_89 (by decide) (Nat.le_of_ble_eq_true rfl) (Nat.le_of_ble_eq_true rfl) rfl rfl (fun _ => rfl) (fun q1 => ?_)
  refine G_putF (w' := [(h, .inr (1, [.ref q1, .null, .null, .null, .int (nI 0), .int (nI 0), .int (nI 0), .int (nI 0)])), (q1, .inl (cI, 5, .inl (nA fun _ => 0)))]) (ty := (.array .int)) C 0 0 tyX1 hin dX1_init_8 rfl rfl inG1 tyX1_ok nmX1 (by decide) wm_102 rfl rfl rfl (by decide +kernel) rfl rfl (Nat.le_of_ble_eq_true rfl) rfl ?_
  refine G_aload_n C 0 dX1_init_11 rfl rfl ?_
  refine G_bipush C dX1_init_12 kB_6 ?_
  refine G_newi (cells' := 2) (slots' := 11) (w' := fun q => [(h, .inr (1, [.ref q1, .null, .null, .null, .int (nI 0), .int (nI 0), .int (nI 0), .int (nI 0)])), (q1, .inl (cI, 5, .inl (nA fun _ => 0))), (q, .inl (cI, 6, .inl (nA fun _ => 0)))]) C dX1_init_14 wm_89 (by decide) (Nat.le_of_ble_eq_true rfl) (Nat.le_of_ble_eq_true rfl) rfl rfl (fun _ => rfl) (fun q2 => ?_)
  refine G_putF (w' := [(h, .inr (1, [.ref q1, .ref q2, .null, .null, .int (nI 0), .int (nI 0), .int (nI 0), .int (nI 0)])), (q1, .inl (cI, 5, .inl (nA fun _ => 0))), (q2, .inl (cI, 6, .inl (nA fun _ => 0)))]) (ty := (.array .int)) C 0 1 tyX1 hin dX1_init_16 rfl rfl inG1 tyX1_ok nmX1 (by decide) wm_105 rfl rfl rfl (by decide +kernel) rfl rfl (Nat.le_of_ble_eq_true rfl) rfl ?_
  refine G_aload_n C 0 dX1_init_19 rfl rfl ?_
  refine G_bipush C dX1_init_20 kB_6 ?_
  refine G_newi (cells' := 3) (slots' := 17) (w' := fun q => [(h, .inr (1, [.ref q1, .ref q2, .null, .null, .int (nI 0), .int (nI 0), .int (nI 0), .int (nI 0)])), (q1, .inl (cI, 5, .inl (nA fun _ => 0))), (q2, .inl (cI, 6, .inl (nA fun _ => 0))), (q, .inl (cI, 6, .inl (nA fun _ => 0)))]) C dX1_init_22 wm_89 (by decide) (Nat.le_of_ble_eq_true rfl) (Nat.le_of_ble_eq_true rfl) rfl rfl (fun _ => rfl) (fun q3 => ?_)
  refine G_putF (w' := [(h, .inr (1, [.ref q1, .ref q2, .ref q3, .null, .int (nI 0), .int (nI 0), .int (nI 0), .int (nI 0)])), (q1, .inl (cI, 5, .inl (nA fun _ => 0))), (q2, .inl (cI, 6, .inl (nA fun _ => 0))), (q3, .inl (cI, 6, .inl (nA fun _ => 0)))]) (ty := (.array .int)) C 0 2 tyX1 hin dX1_init_24 rfl rfl inG1 tyX1_ok nmX1 (by decide) wm_110 rfl rfl rfl (by decide +kernel) rfl rfl (Nat.le_of_ble_eq_true rfl) rfl ?_
  refine G_aload_n C 0 dX1_init_27 rfl rfl ?_
  refine G_bipush C dX1_init_28 kB_6 ?_
  refine G_newi (cells' := 4) (slots' := 23) (w' := fun q => [(h, .inr (1, [.ref q1, .ref q2, .ref q3, .null, .int (nI 0), .int (nI 0), .int (nI 0), .int (nI 0)])), (q1, .inl (cI, 5, .inl (nA fun _ => 0))), (q2, .inl (cI, 6, .inl (nA fun _ => 0))), (q3, .inl (cI, 6, .inl (nA fun _ => 0))), (q, .inl (cI, 6, .inl (nA fun _ => 0)))]) C dX1_init_30 wm_89 (by decide) (Nat.le_of_ble_eq_true rfl) (Nat.le_of_ble_eq_true rfl) rfl rfl (fun _ => rfl) (fun q4 => ?_)
  refine G_putF (w' := [(h, .inr (1, [.ref q1, .ref q2, .ref q3, .ref q4, .int (nI 0), .int (nI 0), .int (nI 0), .int (nI 0)])), (q1, .inl (cI, 5, .inl (nA fun _ => 0))), (q2, .inl (cI, 6, .inl (nA fun _ => 0))), (q3, .inl (cI, 6, .inl (nA fun _ => 0))), (q4, .inl (cI, 6, .inl (nA fun _ => 0)))]) (ty := (.array .int)) C 0 3 tyX1 hin dX1_init_32 rfl rfl inG1 tyX1_ok nmX1 (by decide) wm_115 rfl rfl rfl (by decide +kernel) rfl rfl (Nat.le_of_ble_eq_true rfl) rfl ?_
  refine G_aload_n C 0 dX1_init_35 rfl rfl ?_
  refine G_iconst C dX1_init_36 kI_3 ?_
  refine G_put (w' := [(h, .inr (1, [.ref q1, .ref q2, .ref q3, .ref q4, .int (nI 0), .int (nI 0), .int (nI 3), .int (nI 0)])), (q1, .inl (cI, 5, .inl (nA fun _ => 0))), (q2, .inl (cI, 6, .inl (nA fun _ => 0))), (q3, .inl (cI, 6, .inl (nA fun _ => 0))), (q4, .inl (cI, 6, .inl (nA fun _ => 0)))]) (ty := .int) C 0 6 tyX1 dX1_init_37 rfl rfl inG1 tyX1_ok nmX1 (by decide) wm_127 rfl rfl (by decide +kernel) rfl rfl (Nat.le_of_ble_eq_true rfl) rfl ?_
  refine G_aload_n C 0 dX1_init_40 rfl rfl ?_
  refine G_iconst C dX1_init_41 kI_3 ?_
  refine G_put (w' := [(h, .inr (1, [.ref q1, .ref q2, .ref q3, .ref q4, .int (nI 0), .int (nI 0), .int (nI 3), .int (nI 3)])), (q1, .inl (cI, 5, .inl (nA fun _ => 0))), (q2, .inl (cI, 6, .inl (nA fun _ => 0))), (q3, .inl (cI, 6, .inl (nA fun _ => 0))), (q4, .inl (cI, 6, .inl (nA fun _ => 0)))]) (ty := .int) C 0 7 tyX1 dX1_init_42 rfl rfl inG1 tyX1_ok nmX1 (by decide) wm_131 rfl rfl (by decide +kernel) rfl rfl (Nat.le_of_ble_eq_true rfl) rfl ?_
  exact G_nret C hr dX1_init_45 (fun k => [q1, q2, q3, q4].getD k 0) rfl
set_option maxHeartbeats 4000000 in
set_option maxRecDepth 100000 in
theorem c_X8_init {h a : Nat} : CN l yX8_init cX8_init 2 (rmN 2 41 5 31) D (tyI cI cZ) [.ref h, .ref a] [(h, .inr (8, [.null, .null, .int (nI 0), .int (nI 0), .int (nI 0), .int (nI 0), .int (nI 0)]))] (fun ad => [(h, .inr (8, [.ref a, .ref (ad 0), .int (nI 0), .int (nI 0), .int (nI 0), .int (nI 0), .int (nI 0)])), (ad 0, .inr (1, [.ref (ad 1), .ref (ad 2), .ref (ad 3), .ref (ad 4), .int (nI 0), .int (nI 0), .int (nI 3), .int (nI 3)])), (ad 1, .inl (cI, 5, .inl (nA fun _ => 0))), (ad 2, .inl (cI, 6, .inl (nA fun _ => 0))), (ad 3, .inl (cI, 6, .inl (nA fun _ => 0))), (ad 4, .inl (cI, 6, .inl (nA fun _ => 0)))]) 5 31 := by
  refine CN_of (own := "FalseParity$Reader") (by decide) rfl rfl (Nat.le_of_ble_eq_true rfl) (fun p e s m args below meth c C hr hin => ?_)
  refine G_aload_n C 0 dX8_init_0 rfl rfl ?_
  refine G_objInit C dX8_init_1 wm_95 wm_71 wm_72 (Nat.le_of_ble_eq_true rfl) (Nat.le_of_ble_eq_true rfl) ?_
  refine G_aload_n C 0 dX8_init_4 rfl rfl ?_
  refine G_new (ci := 1) (fs := [.null, .null, .null, .null, .int (nI 0), .int (nI 0), .int (nI 0), .int (nI 0)]) (cells' := 1) (slots' := 8) (w' := fun q => [(h, .inr (8, [.null, .null, .int (nI 0), .int (nI 0), .int (nI 0), .int (nI 0), .int (nI 0)])), (q, .inr (1, [.null, .null, .null, .null, .int (nI 0), .int (nI 0), .int (nI 0), .int (nI 0)]))]) C tyX1 dX8_init_5 rfl inG1 tyX1_ok wm_96 wm_97 wm_53 (fun j hj => by rcases (show j = 0 ∨ j = 1 ∨ j = 2 ∨ j = 3 ∨ j = 4 ∨ j = 5 ∨ j = 6 ∨ j = 7 by omega) with rfl | rfl | rfl | rfl | rfl | rfl | rfl | rfl <;> rfl) (Nat.le_of_ble_eq_true rfl) (Nat.le_of_ble_eq_true rfl) rfl rfl (fun _ => rfl) (fun q1 => ?_)
  refine G_dup C dX8_init_8 rfl ?_
  refine G_callIN (cells' := 5) (slots' := 31) (wr := [(h, .inr (8, [.null, .null, .int (nI 0), .int (nI 0), .int (nI 0), .int (nI 0), .int (nI 0)]))]) (w2 := fun ad => [(h, .inr (8, [.null, .null, .int (nI 0), .int (nI 0), .int (nI 0), .int (nI 0), .int (nI 0)])), (q1, .inr (1, [.ref (ad 0), .ref (ad 1), .ref (ad 2), .ref (ad 3), .int (nI 0), .int (nI 0), .int (nI 3), .int (nI 3)])), (ad 0, .inl (cI, 5, .inl (nA fun _ => 0))), (ad 1, .inl (cI, 6, .inl (nA fun _ => 0))), (ad 2, .inl (cI, 6, .inl (nA fun _ => 0))), (ad 3, .inl (cI, 6, .inl (nA fun _ => 0)))]) C [] [1] [0] dX8_init_9 c_X1_init wn_98 wm_99 wm_53 wm_100 rfl ydc_X1_init rfl ⟨(Nat.le_of_ble_eq_true rfl), (Nat.le_of_ble_eq_true rfl)⟩ ⟨rfl, rfl⟩ ⟨(Nat.le_of_ble_eq_true rfl), (Nat.le_of_ble_eq_true rfl)⟩ (Nat.le_of_ble_eq_true rfl) rfl rfl rfl rfl rfl rfl (by decide) rfl rfl (fun _ => rfl) (fun g2 => ?_)
  refine G_putF (w' := [(h, .inr (8, [.null, .ref q1, .int (nI 0), .int (nI 0), .int (nI 0), .int (nI 0), .int (nI 0)])), (q1, .inr (1, [.ref (g2 0), .ref (g2 1), .ref (g2 2), .ref (g2 3), .int (nI 0), .int (nI 0), .int (nI 3), .int (nI 3)])), (g2 0, .inl (cI, 5, .inl (nA fun _ => 0))), (g2 1, .inl (cI, 6, .inl (nA fun _ => 0))), (g2 2, .inl (cI, 6, .inl (nA fun _ => 0))), (g2 3, .inl (cI, 6, .inl (nA fun _ => 0)))]) (ty := (.object "FalseParity$Country")) C 0 1 tyX8 hin dX8_init_12 rfl rfl inG8 tyX8_ok nmX8 (by decide) wm_153 rfl rfl rfl (by decide +kernel) rfl rfl (Nat.le_of_ble_eq_true rfl) rfl ?_
  refine G_aload_n C 0 dX8_init_15 rfl rfl ?_
  refine G_aload_n C 1 dX8_init_16 rfl rfl ?_
  refine G_putF (w' := [(h, .inr (8, [.ref a, .ref q1, .int (nI 0), .int (nI 0), .int (nI 0), .int (nI 0), .int (nI 0)])), (q1, .inr (1, [.ref (g2 0), .ref (g2 1), .ref (g2 2), .ref (g2 3), .int (nI 0), .int (nI 0), .int (nI 3), .int (nI 3)])), (g2 0, .inl (cI, 5, .inl (nA fun _ => 0))), (g2 1, .inl (cI, 6, .inl (nA fun _ => 0))), (g2 2, .inl (cI, 6, .inl (nA fun _ => 0))), (g2 3, .inl (cI, 6, .inl (nA fun _ => 0)))]) (ty := (.object "FalseParity$Text")) C 0 0 tyX8 hin dX8_init_17 rfl rfl inG8 tyX8_ok nmX8 (by decide) wm_152 rfl rfl rfl (by decide +kernel) rfl rfl (Nat.le_of_ble_eq_true rfl) rfl ?_
  exact G_nret C hr dX8_init_20 (fun k => [q1, g2 0, g2 1, g2 2, g2 3].getD k 0) rfl
set_option maxHeartbeats 4000000 in
set_option maxRecDepth 100000 in
theorem c_X6_init {h : Nat} : CN l yX6_init cX6_init 1 (rmN 1 21 1 20) D (tyI cI cZ) [.ref h] [(h, .inr (6, [.null]))] (fun ad => [(h, .inr (6, [.ref (ad 0)])), (ad 0, .inl (cI, 20, .inl (nA fun _ => 0)))]) 1 20 := by
  refine CN_of (own := "FalseParity$Now") (by decide) rfl rfl (Nat.le_of_ble_eq_true rfl) (fun p e s m args below meth c C hr hin => ?_)
  refine G_aload_n C 0 dX6_init_0 rfl rfl ?_
  refine G_objInit C dX6_init_1 wm_182 wm_71 wm_72 (Nat.le_of_ble_eq_true rfl) (Nat.le_of_ble_eq_true rfl) ?_
  refine G_aload_n C 0 dX6_init_4 rfl rfl ?_
  refine G_bipush C dX6_init_5 kB_20 ?_
  refine G_newi (cells' := 1) (slots' := 20) (w' := fun q => [(h, .inr (6, [.null])), (q, .inl (cI, 20, .inl (nA fun _ => 0)))]) C dX6_init_7 wm_89 (by decide) (Nat.le_of_ble_eq_true rfl) (Nat.le_of_ble_eq_true rfl) rfl rfl (fun _ => rfl) (fun q1 => ?_)
  refine G_putF (w' := [(h, .inr (6, [.ref q1])), (q1, .inl (cI, 20, .inl (nA fun _ => 0)))]) (ty := (.array .int)) C 0 0 tyX6 hin dX6_init_9 rfl rfl inG6 tyX6_ok nmX6 (by decide) wm_183 rfl rfl rfl (by decide +kernel) rfl rfl (Nat.le_of_ble_eq_true rfl) rfl ?_
  exact G_nret C hr dX6_init_12 (fun k => [q1].getD k 0) rfl
set_option maxHeartbeats 4000000 in
set_option maxRecDepth 100000 in
theorem c_X2_init {h : Nat} : CN l yX2_init cX2_init 1 (rmN 1 21 1 200) D (tyI cI cZ) [.ref h] [(h, .inr (2, [.null, .int (nI 0), .int (nI 0)]))] (fun ad => [(h, .inr (2, [.ref (ad 0), .int (nI 0), .int (nI 0)])), (ad 0, .inl (cI, 200, .inl (nA fun _ => 0)))]) 1 200 := by
  refine CN_of (own := "FalseParity$History") (by decide) rfl rfl (Nat.le_of_ble_eq_true rfl) (fun p e s m args below meth c C hr hin => ?_)
  refine G_aload_n C 0 dX2_init_0 rfl rfl ?_
  refine G_objInit C dX2_init_1 wm_192 wm_71 wm_72 (Nat.le_of_ble_eq_true rfl) (Nat.le_of_ble_eq_true rfl) ?_
  refine G_aload_n C 0 dX2_init_4 rfl rfl ?_
  refine G_sipush C dX2_init_5 kS_200 ?_
  refine G_newi (cells' := 1) (slots' := 200) (w' := fun q => [(h, .inr (2, [.null, .int (nI 0), .int (nI 0)])), (q, .inl (cI, 200, .inl (nA fun _ => 0)))]) C dX2_init_8 wm_89 (by decide) (Nat.le_of_ble_eq_true rfl) (Nat.le_of_ble_eq_true rfl) rfl rfl (fun _ => rfl) (fun q1 => ?_)
  refine G_putF (w' := [(h, .inr (2, [.ref q1, .int (nI 0), .int (nI 0)])), (q1, .inl (cI, 200, .inl (nA fun _ => 0)))]) (ty := (.array .int)) C 0 0 tyX2 hin dX2_init_10 rfl rfl inG2 tyX2_ok nmX2 (by decide) wm_193 rfl rfl rfl (by decide +kernel) rfl rfl (Nat.le_of_ble_eq_true rfl) rfl ?_
  exact G_nret C hr dX2_init_13 (fun k => [q1].getD k 0) rfl
set_option maxHeartbeats 4000000 in
set_option maxRecDepth 100000 in
theorem c_X3_init {h : Nat} : CN l yX3_init cX3_init 1 (rmN 1 21 1 40) D (tyI cI cZ) [.ref h] [(h, .inr (3, [.null, .int (nI 0)]))] (fun ad => [(h, .inr (3, [.ref (ad 0), .int (nI 0)])), (ad 0, .inl (cI, 40, .inl (nA fun _ => 0)))]) 1 40 := by
  refine CN_of (own := "FalseParity$Images") (by decide) rfl rfl (Nat.le_of_ble_eq_true rfl) (fun p e s m args below meth c C hr hin => ?_)
  refine G_aload_n C 0 dX3_init_0 rfl rfl ?_
  refine G_objInit C dX3_init_1 wm_209 wm_71 wm_72 (Nat.le_of_ble_eq_true rfl) (Nat.le_of_ble_eq_true rfl) ?_
  refine G_aload_n C 0 dX3_init_4 rfl rfl ?_
  refine G_bipush C dX3_init_5 kB_40 ?_
  refine G_newi (cells' := 1) (slots' := 40) (w' := fun q => [(h, .inr (3, [.null, .int (nI 0)])), (q, .inl (cI, 40, .inl (nA fun _ => 0)))]) C dX3_init_7 wm_89 (by decide) (Nat.le_of_ble_eq_true rfl) (Nat.le_of_ble_eq_true rfl) rfl rfl (fun _ => rfl) (fun q1 => ?_)
  refine G_putF (w' := [(h, .inr (3, [.ref q1, .int (nI 0)])), (q1, .inl (cI, 40, .inl (nA fun _ => 0)))]) (ty := (.array .int)) C 0 0 tyX3 hin dX3_init_9 rfl rfl inG3 tyX3_ok nmX3 (by decide) wm_210 rfl rfl rfl (by decide +kernel) rfl rfl (Nat.le_of_ble_eq_true rfl) rfl ?_
  exact G_nret C hr dX3_init_12 (fun k => [q1].getD k 0) rfl
set_option maxHeartbeats 4000000 in
set_option maxRecDepth 100000 in
theorem c_X7_init {h a b : Nat} : CN l yX7_init cX7_init 3 (rmN 1 21 0 0) D (tyI cI cZ) [.ref h, .ref a, .ref b] [(h, .inr (7, [.null, .null]))] (fun ad => [(h, .inr (7, [.ref a, .ref b]))]) 0 0 := by
  refine CN_of (own := "FalseParity$Paths") (by decide) rfl rfl (Nat.le_of_ble_eq_true rfl) (fun p e s m args below meth c C hr hin => ?_)
  refine G_aload_n C 0 dX7_init_0 rfl rfl ?_
  refine G_objInit C dX7_init_1 wm_222 wm_71 wm_72 (Nat.le_of_ble_eq_true rfl) (Nat.le_of_ble_eq_true rfl) ?_
  refine G_aload_n C 0 dX7_init_4 rfl rfl ?_
  refine G_aload_n C 1 dX7_init_5 rfl rfl ?_
  refine G_putF (w' := [(h, .inr (7, [.ref a, .null]))]) (ty := (.object "FalseParity$Country")) C 0 0 tyX7 hin dX7_init_6 rfl rfl inG7 tyX7_ok nmX7 (by decide) wm_223 rfl rfl rfl (by decide +kernel) rfl rfl (Nat.le_of_ble_eq_true rfl) rfl ?_
  refine G_aload_n C 0 dX7_init_9 rfl rfl ?_
  refine G_aload_n C 2 dX7_init_10 rfl rfl ?_
  refine G_putF (w' := [(h, .inr (7, [.ref a, .ref b]))]) (ty := (.object "FalseParity$Now")) C 0 1 tyX7 hin dX7_init_11 rfl rfl inG7 tyX7_ok nmX7 (by decide) wm_224 rfl rfl rfl (by decide +kernel) rfl rfl (Nat.le_of_ble_eq_true rfl) rfl ?_
  exact G_nret C hr dX7_init_14 (fun k => [].getD k 0) rfl
set_option maxHeartbeats 4000000 in
set_option maxRecDepth 100000 in
theorem c_X5_init {h a b : Nat} : CN l yX5_init cX5_init 3 (rmN 1 21 2 12) D (tyI cI cZ) [.ref h, .ref a, .ref b] [(h, .inr (5, [.null, .null, .null, .null, .int (nI 0)]))] (fun ad => [(h, .inr (5, [.ref a, .ref b, .ref (ad 0), .ref (ad 1), .int (nI 0)])), (ad 0, .inl (cI, 6, .inl (nA fun _ => 0))), (ad 1, .inl (cI, 6, .inl (nA fun _ => 0)))]) 2 12 := by
  refine CN_of (own := "FalseParity$Marks") (by decide) rfl rfl (Nat.le_of_ble_eq_true rfl) (fun p e s m args below meth c C hr hin => ?_)
  refine G_aload_n C 0 dX5_init_0 rfl rfl ?_
  refine G_objInit C dX5_init_1 wm_235 wm_71 wm_72 (Nat.le_of_ble_eq_true rfl) (Nat.le_of_ble_eq_true rfl) ?_
  refine G_aload_n C 0 dX5_init_4 rfl rfl ?_
  refine G_bipush C dX5_init_5 kB_6 ?_
  refine G_newi (cells' := 1) (slots' := 6) (w' := fun q => [(h, .inr (5, [.null, .null, .null, .null, .int (nI 0)])), (q, .inl (cI, 6, .inl (nA fun _ => 0)))]) C dX5_init_7 wm_89 (by decide) (Nat.le_of_ble_eq_true rfl) (Nat.le_of_ble_eq_true rfl) rfl rfl (fun _ => rfl) (fun q1 => ?_)
  refine G_putF (w' := [(h, .inr (5, [.null, .null, .ref q1, .null, .int (nI 0)])), (q1, .inl (cI, 6, .inl (nA fun _ => 0)))]) (ty := (.array .int)) C 0 2 tyX5 hin dX5_init_9 rfl rfl inG5 tyX5_ok nmX5 (by decide) wm_238 rfl rfl rfl (by decide +kernel) rfl rfl (Nat.le_of_ble_eq_true rfl) rfl ?_
  refine G_aload_n C 0 dX5_init_12 rfl rfl ?_
  refine G_bipush C dX5_init_13 kB_6 ?_
  refine G_newi (cells' := 2) (slots' := 12) (w' := fun q => [(h, .inr (5, [.null, .null, .ref q1, .null, .int (nI 0)])), (q1, .inl (cI, 6, .inl (nA fun _ => 0))), (q, .inl (cI, 6, .inl (nA fun _ => 0)))]) C dX5_init_15 wm_89 (by decide) (Nat.le_of_ble_eq_true rfl) (Nat.le_of_ble_eq_true rfl) rfl rfl (fun _ => rfl) (fun q2 => ?_)
  refine G_putF (w' := [(h, .inr (5, [.null, .null, .ref q1, .ref q2, .int (nI 0)])), (q1, .inl (cI, 6, .inl (nA fun _ => 0))), (q2, .inl (cI, 6, .inl (nA fun _ => 0)))]) (ty := (.array .int)) C 0 3 tyX5 hin dX5_init_17 rfl rfl inG5 tyX5_ok nmX5 (by decide) wm_239 rfl rfl rfl (by decide +kernel) rfl rfl (Nat.le_of_ble_eq_true rfl) rfl ?_
  refine G_aload_n C 0 dX5_init_20 rfl rfl ?_
  refine G_aload_n C 1 dX5_init_21 rfl rfl ?_
  refine G_putF (w' := [(h, .inr (5, [.ref a, .null, .ref q1, .ref q2, .int (nI 0)])), (q1, .inl (cI, 6, .inl (nA fun _ => 0))), (q2, .inl (cI, 6, .inl (nA fun _ => 0)))]) (ty := (.object "FalseParity$Country")) C 0 0 tyX5 hin dX5_init_22 rfl rfl inG5 tyX5_ok nmX5 (by decide) wm_236 rfl rfl rfl (by decide +kernel) rfl rfl (Nat.le_of_ble_eq_true rfl) rfl ?_
  refine G_aload_n C 0 dX5_init_25 rfl rfl ?_
  refine G_aload_n C 2 dX5_init_26 rfl rfl ?_
  refine G_putF (w' := [(h, .inr (5, [.ref a, .ref b, .ref q1, .ref q2, .int (nI 0)])), (q1, .inl (cI, 6, .inl (nA fun _ => 0))), (q2, .inl (cI, 6, .inl (nA fun _ => 0)))]) (ty := (.object "FalseParity$Now")) C 0 1 tyX5 hin dX5_init_27 rfl rfl inG5 tyX5_ok nmX5 (by decide) wm_237 rfl rfl rfl (by decide +kernel) rfl rfl (Nat.le_of_ble_eq_true rfl) rfl ?_
  exact G_nret C hr dX5_init_30 (fun k => [q1, q2].getD k 0) rfl
set_option maxHeartbeats 4000000 in
set_option maxRecDepth 100000 in
theorem c_X0_init {h a b : Nat} : CN l yX0_init cX0_init 3 (rmN 1 21 2 12) D (tyI cI cZ) [.ref h, .ref a, .ref b] [(h, .inr (0, [.null, .null, .null, .null, .int (nI 0)]))] (fun ad => [(h, .inr (0, [.ref a, .ref b, .ref (ad 0), .ref (ad 1), .int (nI 0)])), (ad 0, .inl (cI, 6, .inl (nA fun _ => 0))), (ad 1, .inl (cI, 6, .inl (nA fun _ => 0)))]) 2 12 := by
  refine CN_of (own := "FalseParity$Board") (by decide) rfl rfl (Nat.le_of_ble_eq_true rfl) (fun p e s m args below meth c C hr hin => ?_)
  refine G_aload_n C 0 dX0_init_0 rfl rfl ?_
  refine G_objInit C dX0_init_1 wm_258 wm_71 wm_72 (Nat.le_of_ble_eq_true rfl) (Nat.le_of_ble_eq_true rfl) ?_
  refine G_aload_n C 0 dX0_init_4 rfl rfl ?_
  refine G_bipush C dX0_init_5 kB_6 ?_
  refine G_newi (cells' := 1) (slots' := 6) (w' := fun q => [(h, .inr (0, [.null, .null, .null, .null, .int (nI 0)])), (q, .inl (cI, 6, .inl (nA fun _ => 0)))]) C dX0_init_7 wm_89 (by decide) (Nat.le_of_ble_eq_true rfl) (Nat.le_of_ble_eq_true rfl) rfl rfl (fun _ => rfl) (fun q1 => ?_)
  refine G_putF (w' := [(h, .inr (0, [.null, .null, .ref q1, .null, .int (nI 0)])), (q1, .inl (cI, 6, .inl (nA fun _ => 0)))]) (ty := (.array .int)) C 0 2 tyX0 hin dX0_init_9 rfl rfl inG0 tyX0_ok nmX0 (by decide) wm_261 rfl rfl rfl (by decide +kernel) rfl rfl (Nat.le_of_ble_eq_true rfl) rfl ?_
  refine G_aload_n C 0 dX0_init_12 rfl rfl ?_
  refine G_bipush C dX0_init_13 kB_6 ?_
  refine G_newi (cells' := 2) (slots' := 12) (w' := fun q => [(h, .inr (0, [.null, .null, .ref q1, .null, .int (nI 0)])), (q1, .inl (cI, 6, .inl (nA fun _ => 0))), (q, .inl (cI, 6, .inl (nA fun _ => 0)))]) C dX0_init_15 wm_89 (by decide) (Nat.le_of_ble_eq_true rfl) (Nat.le_of_ble_eq_true rfl) rfl rfl (fun _ => rfl) (fun q2 => ?_)
  refine G_putF (w' := [(h, .inr (0, [.null, .null, .ref q1, .ref q2, .int (nI 0)])), (q1, .inl (cI, 6, .inl (nA fun _ => 0))), (q2, .inl (cI, 6, .inl (nA fun _ => 0)))]) (ty := (.array .int)) C 0 3 tyX0 hin dX0_init_17 rfl rfl inG0 tyX0_ok nmX0 (by decide) wm_262 rfl rfl rfl (by decide +kernel) rfl rfl (Nat.le_of_ble_eq_true rfl) rfl ?_
  refine G_aload_n C 0 dX0_init_20 rfl rfl ?_
  refine G_aload_n C 1 dX0_init_21 rfl rfl ?_
  refine G_putF (w' := [(h, .inr (0, [.ref a, .null, .ref q1, .ref q2, .int (nI 0)])), (q1, .inl (cI, 6, .inl (nA fun _ => 0))), (q2, .inl (cI, 6, .inl (nA fun _ => 0)))]) (ty := (.object "FalseParity$Country")) C 0 0 tyX0 hin dX0_init_22 rfl rfl inG0 tyX0_ok nmX0 (by decide) wm_259 rfl rfl rfl (by decide +kernel) rfl rfl (Nat.le_of_ble_eq_true rfl) rfl ?_
  refine G_aload_n C 0 dX0_init_25 rfl rfl ?_
  refine G_aload_n C 2 dX0_init_26 rfl rfl ?_
  refine G_putF (w' := [(h, .inr (0, [.ref a, .ref b, .ref q1, .ref q2, .int (nI 0)])), (q1, .inl (cI, 6, .inl (nA fun _ => 0))), (q2, .inl (cI, 6, .inl (nA fun _ => 0)))]) (ty := (.object "FalseParity$Now")) C 0 1 tyX0 hin dX0_init_27 rfl rfl inG0 tyX0_ok nmX0 (by decide) wm_260 rfl rfl rfl (by decide +kernel) rfl rfl (Nat.le_of_ble_eq_true rfl) rfl ?_
  exact G_nret C hr dX0_init_30 (fun k => [q1, q2].getD k 0) rfl
set_option maxHeartbeats 4000000 in
set_option maxRecDepth 100000 in
theorem c_X4_init {h a b : Nat} : CN l yX4_init cX4_init 3 (rmN 1 21 0 0) D (tyI cI cZ) [.ref h, .ref a, .ref b] [(h, .inr (4, [.null, .null, .long 0]))] (fun ad => [(h, .inr (4, [.ref a, .ref b, .long 0]))]) 0 0 := by
  refine CN_of (own := "FalseParity$Kinds") (by decide) rfl rfl (Nat.le_of_ble_eq_true rfl) (fun p e s m args below meth c C hr hin => ?_)
  refine G_aload_n C 0 dX4_init_0 rfl rfl ?_
  refine G_objInit C dX4_init_1 wm_281 wm_71 wm_72 (Nat.le_of_ble_eq_true rfl) (Nat.le_of_ble_eq_true rfl) ?_
  refine G_aload_n C 0 dX4_init_4 rfl rfl ?_
  refine G_aload_n C 1 dX4_init_5 rfl rfl ?_
  refine G_putF (w' := [(h, .inr (4, [.ref a, .null, .long 0]))]) (ty := (.object "FalseParity$Country")) C 0 0 tyX4 hin dX4_init_6 rfl rfl inG4 tyX4_ok nmX4 (by decide) wm_282 rfl rfl rfl (by decide +kernel) rfl rfl (Nat.le_of_ble_eq_true rfl) rfl ?_
  refine G_aload_n C 0 dX4_init_9 rfl rfl ?_
  refine G_aload_n C 2 dX4_init_10 rfl rfl ?_
  refine G_putF (w' := [(h, .inr (4, [.ref a, .ref b, .long 0]))]) (ty := (.object "FalseParity$Now")) C 0 1 tyX4 hin dX4_init_11 rfl rfl inG4 tyX4_ok nmX4 (by decide) wm_283 rfl rfl rfl (by decide +kernel) rfl rfl (Nat.le_of_ble_eq_true rfl) rfl ?_
  exact G_nret C hr dX4_init_14 (fun k => [].getD k 0) rfl
def mX0 : Nat → Nat → Nat := ms (ms (ms (ms (fun _ _ => 0) 4 6 3) 4 7 3) 9 6 3) 9 7 3
def mY0 : Nat → Nat → Nat := ms (fun _ _ => 0) 0 8 1
end CTORS
