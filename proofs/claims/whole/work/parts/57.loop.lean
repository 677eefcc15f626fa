section LOOP
variable {p : Program} {l : Launch} {e : Env} {s : State} {m : MethodId} {below : List Frame} {meth : Method} {c : Code} {D : va_G} {cI cZ : ClassId} {b L i : Nat} {xs : Nat → Int32} {aX aY : Nat → Nat} {X Y : Nat → Nat → Nat} {t t2 : Int64}
theorem gt_out {L i : Nat} (hL : L ≤ 256) (hi : i ≤ 260) (h : ¬ nI L - nI 4 < nI i) : i + 4 ≤ L := by
  rw [Int32.lt_iff_toInt_lt, pk_sub_toInt (by omega) (by decide), nI_toInt (by omega)] at h
  omega
set_option maxHeartbeats 4000000 in
set_option maxRecDepth 100000 in
theorem law_sw (C : lawC p s m meth c D cI cZ b) (S : lawS s b L i xs) (h : Rel X Y) (k : lawK p l e s m below meth c D cI cZ b i aX aY) {v : Int32} : lawG p l e s m below meth c D b 32 [(0, .ref b), (1, .ref (aX 0)), (2, .ref (aY 0)), (3, .int (nI i))] [.int v] (wX cI cZ aX X t ++ wY cI cZ aY Y t) := by
  by_cases h0 : v = 0
  · refine G_top h0 ?_
    refine G_tableIn (tgt := 148) C dL_law_32 (by decide) (by decide) rfl (by decide) ?_
    exact law_type C S h k
  by_cases h1 : v = 1
  · refine G_top h1 ?_
    refine G_tableIn (tgt := 171) C dL_law_32 (by decide) (by decide) rfl (by decide) ?_
    exact law_clear C S h k
  by_cases h2 : v = 2
  · refine G_top h2 ?_
    refine G_tableIn (tgt := 184) C dL_law_32 (by decide) (by decide) rfl (by decide) ?_
    exact law_country C S h k
  by_cases h3 : v = 3
  · refine G_top h3 ?_
    refine G_tableIn (tgt := 197) C dL_law_32 (by decide) (by decide) rfl (by decide) ?_
    exact law_note C S h k
  by_cases h4 : v = 4
  · refine G_top h4 ?_
    refine G_tableIn (tgt := 230) C dL_law_32 (by decide) (by decide) rfl (by decide) ?_
    exact law_person C S h k
  by_cases h5 : v = 5
  · refine G_top h5 ?_
    refine G_tableIn (tgt := 263) C dL_law_32 (by decide) (by decide) rfl (by decide) ?_
    exact law_now C S h k
  by_cases h6 : v = 6
  · refine G_top h6 ?_
    refine G_tableIn (tgt := 286) C dL_law_32 (by decide) (by decide) rfl (by decide) ?_
    exact law_passes C S h k
  by_cases h7 : v = 7
  · refine G_top h7 ?_
    refine G_tableIn (tgt := 319) C dL_law_32 (by decide) (by decide) rfl (by decide) ?_
    exact law_teaches C S h k
  by_cases h8 : v = 8
  · refine G_top h8 ?_
    refine G_tableIn (tgt := 352) C dL_law_32 (by decide) (by decide) rfl (by decide) ?_
    exact law_sends C S h k
  by_cases h9 : v = 9
  · refine G_top h9 ?_
    refine G_tableIn (tgt := 385) C dL_law_32 (by decide) (by decide) rfl (by decide) ?_
    exact law_undo C S h k
  by_cases h10 : v = 10
  · refine G_top h10 ?_
    refine G_tableIn (tgt := 398) C dL_law_32 (by decide) (by decide) rfl (by decide) ?_
    exact law_soonest C S h k
  by_cases h11 : v = 11
  · refine G_top h11 ?_
    refine G_tableIn (tgt := 431) C dL_law_32 (by decide) (by decide) rfl (by decide) ?_
    exact law_till C S h k
  by_cases h12 : v = 12
  · refine G_top h12 ?_
    refine G_tableIn (tgt := 454) C dL_law_32 (by decide) (by decide) rfl (by decide) ?_
    exact law_odds C S h k
  by_cases h13 : v = 13
  · refine G_top h13 ?_
    refine G_tableIn (tgt := 497) C dL_law_32 (by decide) (by decide) rfl (by decide) ?_
    exact law_saw C S h k
  by_cases h14 : v = 14
  · refine G_top h14 ?_
    refine G_tableIn (tgt := 530) C dL_law_32 (by decide) (by decide) rfl (by decide) ?_
    exact law_canBe C S h k
  by_cases h15 : v = 15
  · refine G_top h15 ?_
    refine G_tableIn (tgt := 553) C dL_law_32 (by decide) (by decide) rfl (by decide) ?_
    exact law_show C S h k
  by_cases h16 : v = 16
  · refine G_top h16 ?_
    refine G_tableIn (tgt := 566) C dL_law_32 (by decide) (by decide) rfl (by decide) ?_
    exact law_hears C S h k
  by_cases h17 : v = 17
  · refine G_top h17 ?_
    refine G_tableIn (tgt := 599) C dL_law_32 (by decide) (by decide) rfl (by decide) ?_
    exact law_forget C S h k
  by_cases h18 : v = 18
  · refine G_top h18 ?_
    refine G_tableIn (tgt := 612) C dL_law_32 (by decide) (by decide) rfl (by decide) ?_
    exact law_years C S h k
  by_cases h19 : v = 19
  · refine G_top h19 ?_
    refine G_tableIn (tgt := 625) C dL_law_32 (by decide) (by decide) rfl (by decide) ?_
    exact law_letIn C S h k
  by_cases h20 : v = 20
  · refine G_top h20 ?_
    refine G_tableIn (tgt := 648) C dL_law_32 (by decide) (by decide) rfl (by decide) ?_
    exact law_rate C S h k
  by_cases h21 : v = 21
  · refine G_top h21 ?_
    refine G_tableIn (tgt := 681) C dL_law_32 (by decide) (by decide) rfl (by decide) ?_
    exact law_keep C S h k
  by_cases h22 : v = 22
  · refine G_top h22 ?_
    refine G_tableIn (tgt := 704) C dL_law_32 (by decide) (by decide) rfl (by decide) ?_
    exact law_back C S h k
  by_cases h23 : v = 23
  · refine G_top h23 ?_
    refine G_tableIn (tgt := 727) C dL_law_32 (by decide) (by decide) rfl (by decide) ?_
    exact law_count C S h k
  by_cases h24 : v = 24
  · refine G_top h24 ?_
    refine G_tableIn (tgt := 750) C dL_law_32 (by decide) (by decide) rfl (by decide) ?_
    exact law_trace C S h k
  have n0 := lv_neT h0 (a := 0) rfl
  have n1 := lv_neT h1 (a := 1) rfl
  have n2 := lv_neT h2 (a := 2) rfl
  have n3 := lv_neT h3 (a := 3) rfl
  have n4 := lv_neT h4 (a := 4) rfl
  have n5 := lv_neT h5 (a := 5) rfl
  have n6 := lv_neT h6 (a := 6) rfl
  have n7 := lv_neT h7 (a := 7) rfl
  have n8 := lv_neT h8 (a := 8) rfl
  have n9 := lv_neT h9 (a := 9) rfl
  have n10 := lv_neT h10 (a := 10) rfl
  have n11 := lv_neT h11 (a := 11) rfl
  have n12 := lv_neT h12 (a := 12) rfl
  have n13 := lv_neT h13 (a := 13) rfl
  have n14 := lv_neT h14 (a := 14) rfl
  have n15 := lv_neT h15 (a := 15) rfl
  have n16 := lv_neT h16 (a := 16) rfl
  have n17 := lv_neT h17 (a := 17) rfl
  have n18 := lv_neT h18 (a := 18) rfl
  have n19 := lv_neT h19 (a := 19) rfl
  have n20 := lv_neT h20 (a := 20) rfl
  have n21 := lv_neT h21 (a := 21) rfl
  have n22 := lv_neT h22 (a := 22) rfl
  have n23 := lv_neT h23 (a := 23) rfl
  have n24 := lv_neT h24 (a := 24) rfl
  refine G_tableOut (tgt := 764) C dL_law_32 (by omega) (by decide) ?_
  exact k X Y t h
set_option maxHeartbeats 4000000 in
set_option maxRecDepth 100000 in
theorem law_loop (hr : meth.sig.returnType = ret) (C : lawC p s m meth c D cI cZ b) (hX : va_X b L xs s s.heap) (hbl : b < s.heap.size) (hL : L ≤ 256) : ∀ (n i : Nat) (X Y : Nat → Nat → Nat) (t : Int64), i ≤ L + 4 → L + 5 ≤ i + n → Rel X Y → lawG p l e s m below meth c D b 18 [(0, .ref b), (1, .ref (aX 0)), (2, .ref (aY 0)), (3, .int (nI i))] [] (wX cI cZ aX X t ++ wY cI cZ aY Y t) := by
  have hbA : ¬ (fun q => s.heap.size ≤ q) b := Nat.not_le.mpr hbl
  intro n
  induction n with
  | zero => intro i X Y t h1 h2; exact absurd h2 (by omega)
  | succ n ih =>
    intro i X Y t h1 h2 h
    refine G_iload_n C 3 dL_law_18 rfl rfl ?_
    refine G_aload_n C 0 dL_law_19 rfl rfl ?_
    refine G_slen C hX hbl hbA dL_law_20 ?_
    refine G_iconst C dL_law_21 kI_4 ?_
    refine G_isub C dL_law_22 ?_
    refine G_icmp_gt (tgt := 770) C dL_law_23 (by decide) (fun _ => ?_) (fun q => ?_)
    · refine G_iconst (v := 1) C dL_law_770 (by decide) ?_
      intro H locs ls hP hD hS hl
      exact va_forget (fun q hq => hS.2.2 q hq) (lw_ret C.x C.b hr C.lk dL_law_771)
    · have hi := gt_out hL (by omega) q
      refine G_aload_n C 0 dL_law_26 rfl rfl ?_
      refine G_iload_n C 3 dL_law_27 rfl rfl ?_
      refine G_sld C hX hbl hbA (by omega) (by omega) dL_law_28 ?_
      refine G_bipush C dL_law_29 kB_31 ?_
      refine G_iand C dL_law_31 ?_
      refine law_sw C ⟨hX, hbl, hi, hL⟩ h ?_
      intro X Y t h
      refine G_iinc (lv' := [(3, .int (nI (i + 4))), (0, .ref b), (1, .ref (aX 0)), (2, .ref (aY 0))]) C 3 dL_law_764 rfl (by rw [kI_4]; exact nI_add i 4) (by decide) rfl ?_
      refine G_goto (tgt := 18) C dL_law_767 (by decide) ?_
      refine G_pick (lv' := [(0, .ref b), (1, .ref (aX 0)), (2, .ref (aY 0)), (3, .int (nI (i + 4)))]) [1, 2, 3, 0] rfl ?_
      exact ih (i + 4) X Y t (by omega) (by omega) h
end LOOP
