set_option maxHeartbeats 4000000 in
set_option maxRecDepth 100000 in
theorem whole_start {p : Program} {e : Env} {s : State} {m : MethodId} {below : List Frame} {meth : Method} {c : Code} (l : Launch) {b L : Nat} {xs : Nat → Int32} (hL : L ≤ 256) (C0 : lw_At p s m meth c b L xs) : W p l e room_1 s m #[Value.ref b] below meth c s.heap [] 0 0 (lw_Z below #[Value.ref b] s) (entryFrame m ([Value.ref b] : List Value).toArray 4) := by
  obtain ⟨hx, hb, hr, hml, hown, hts, hX, hbl, hlocks, hgv⟩ := id C0
  have htg : ∀ w ∈ gw, w.before #[Value.ref b] s = true := fun w hw => hts w (List.mem_filter.mp hw).1
  obtain ⟨c0, i0, k0⟩ := u_known (C := RX0) (T := TX0) (N := 5) (n := 5) htg inG0 (htg _ wm_254)
  obtain ⟨c1, i1, k1⟩ := u_known (C := RX1) (T := TX1) (N := 8) (n := 8) htg inG1 (htg _ wm_97)
  obtain ⟨c2, i2, k2⟩ := u_known (C := RX2) (T := TX2) (N := 3) (n := 3) htg inG2 (htg _ wm_188)
  obtain ⟨c3, i3, k3⟩ := u_known (C := RX3) (T := TX3) (N := 2) (n := 2) htg inG3 (htg _ wm_205)
  obtain ⟨c4, i4, k4⟩ := u_known (C := RX4) (T := TX4) (N := 3) (n := 3) htg inG4 (htg _ wm_277)
  obtain ⟨c5, i5, k5⟩ := u_known (C := RX5) (T := TX5) (N := 5) (n := 5) htg inG5 (htg _ wm_231)
  obtain ⟨c6, i6, k6⟩ := u_known (C := RX6) (T := TX6) (N := 1) (n := 1) htg inG6 (htg _ wm_178)
  obtain ⟨c7, i7, k7⟩ := u_known (C := RX7) (T := TX7) (N := 2) (n := 2) htg inG7 (htg _ wm_218)
  obtain ⟨c8, i8, k8⟩ := u_known (C := RX8) (T := TX8) (N := 7) (n := 7) htg inG8 (htg _ wm_91)
  obtain ⟨c9, i9, k9⟩ := u_known (C := RX9) (T := TX9) (N := 2) (n := 2) htg inG9 (htg _ wm_74)
  obtain ⟨c10, i10, k10⟩ := u_known (C := RX10) (T := TX10) (N := 10) (n := 10) htg inG10 (htg _ wm_66)
  obtain ⟨c11, i11, k11⟩ := u_known (C := RX11) (T := TX11) (N := 28) (n := 28) htg inG11 (htg _ wm_824)
  obtain ⟨cI, kI, compI, fI, gI, jI⟩ := Cond.arrayClass_spec (htg _ wm_89)
  obtain ⟨cZ, kZ, compZ, fZ, gZ, jZ⟩ := Cond.arrayClass_spec (htg _ wm_922)
  obtain ⟨D, hKc⟩ : ∃ D : va_G, ∀ (k : Nat) (q : vw_C), vwCl[k]? = some q → u_Kn s q.1 q.2.1 q.2.2 (D.1 k) (D.2 k) := by
    refine ⟨(fun k => [c0, c1, c2, c3, c4, c5, c6, c7, c8, c9, c10, c11].getD k 0, fun k => [i0, i1, i2, i3, i4, i5, i6, i7, i8, i9, i10, i11].getD k (fun _ => 0)), ?_⟩
    intro k q hq
    match k, hq with
    | 0, hq => cases hq; exact k0
    | 1, hq => cases hq; exact k1
    | 2, hq => cases hq; exact k2
    | 3, hq => cases hq; exact k3
    | 4, hq => cases hq; exact k4
    | 5, hq => cases hq; exact k5
    | 6, hq => cases hq; exact k6
    | 7, hq => cases hq; exact k7
    | 8, hq => cases hq; exact k8
    | 9, hq => cases hq; exact k9
    | 10, hq => cases hq; exact k10
    | 11, hq => cases hq; exact k11
    | k + 12, hq => simp [vwCl] at hq
  have hK : va_K D vwCl (tyI cI cZ) s := by
    refine ⟨hKc, fun k q hq => ?_⟩
    match k, hq with
    | 0, hq => cases hq; exact ⟨fun n z => ⟨fun k h => (by cases h), kI, gI, compI, jI⟩, fI⟩
    | 1, hq => cases hq; exact ⟨fun n z => ⟨fun k h => (by cases h), kZ, gZ, compZ, jZ⟩, fZ⟩
    | k + 2, hq => simp [tyI] at hq
  have hnw : nwS s := by
    intro w hw
    obtain ⟨h1, h2⟩ := List.mem_filter.mp hw
    refine va_Nw.of ?_ (hts w h1)
    cases w <;> first | rfl | cases h2
  have C : lawC p s m meth c D cI cZ b := ⟨hx, hb, hml, hown, htg, hnw, hK, fun _ h => h, hlocks⟩
  have hS : va_S (fun q : Nat => s.heap.size ≤ q) s.heap s.heap [] := va_S.rf
  have hP : va_P D vwCl [] s.heap := fun k q h => by simp at h
  have hD : va_D (fun q : Nat => s.heap.size ≤ q) [] := ⟨fun i j p q h => by simp at h, fun k q h => by simp at h⟩
  have hl := lv_entry ([.ref b]) (n := 4) (Nat.le_of_ble_eq_true rfl)
  rw [lg_entry_eq]
  generalize (lg_sl ([.ref b]) ++ List.replicate (4 - (lg_sl ([.ref b])).length) Slot.unset).toArray = ls at hl ⊢
  have hl : lv_has ls 4 [(0, .ref b)] := hl
  refine (?_ : G p l e room_1 s m #[Value.ref b] below meth c D (fun q => s.heap.size ≤ q) 4 0 0 (lw_Z below #[Value.ref b] s) 0 [(0, .ref b)] [] []) s.heap [] ls hP hD hS hl
  refine G_new (ci := 10) (fs := [.null, .null, .null, .null, .null, .null, .null, .null, .null, .null]) (cells' := 1) (slots' := 10) (w' := fun q => [(q, .inr (10, [.null, .null, .null, .null, .null, .null, .null, .null, .null, .null]))]) C tyX10 dL_law_0 rfl inG10 tyX10_ok wm_65 wm_66 wm_50 (fun j hj => by rcases (show j = 0 ∨ j = 1 ∨ j = 2 ∨ j = 3 ∨ j = 4 ∨ j = 5 ∨ j = 6 ∨ j = 7 ∨ j = 8 ∨ j = 9 by omega) with rfl | rfl | rfl | rfl | rfl | rfl | rfl | rfl | rfl | rfl <;> rfl) (Nat.le_of_ble_eq_true rfl) (Nat.le_of_ble_eq_true rfl) rfl rfl (fun _ => rfl) (fun q1 => ?_)
  refine G_dup C dL_law_3 rfl ?_
  refine G_callI (cells' := 28) (slots' := 536) (wr := []) (w2 := fun ad => wX cI cZ (va_up ad 0 q1) mX0 0) C [] [0] [] dL_law_4 c_X10_init wm_67 wm_68 wm_50 wm_69 rfl ydc_X10_init rfl ⟨Nat.le_of_ble_eq_true rfl, Nat.le_of_ble_eq_true rfl⟩ ⟨rfl, rfl⟩ ⟨Nat.le_of_ble_eq_true rfl, Nat.le_of_ble_eq_true rfl⟩ (Nat.le_of_ble_eq_true rfl) rfl rfl rfl rfl rfl rfl (by decide) rfl rfl (fun _ => rfl) (fun g1 => ?_)
  obtain ⟨aX, haX⟩ : ∃ aX : Nat → Nat, aX = va_up g1 0 q1 := ⟨_, rfl⟩
  rw [← haX]
  have eX : q1 = aX 0 := by rw [haX]; rfl
  rw [eX]
  refine G_astore_n (lv' := [(1, .ref (aX 0)), (0, .ref b)]) C dL_law_7 rfl (by decide) rfl ?_
  refine G_new (ci := 11) (fs := [.int (nI 0), .long 0, .null, .int (nI 0), .int (nI 0), .int (nI 0), .int (nI 0), .int (nI 0), .int (nI 1 - 1), .null, .int (nI 0), .null, .null, .null, .null, .null, .null, .null, .null, .int (nI 0), .null, .null, .int (nI 0), .null, .null, .int (nI 0), .null, .null]) (cells' := 29) (slots' := 564) (w' := fun q => wX cI cZ aX mX0 0 ++ [(q, .inr (11, [.int (nI 0), .long 0, .null, .int (nI 0), .int (nI 0), .int (nI 0), .int (nI 0), .int (nI 0), .int (nI 1 - 1), .null, .int (nI 0), .null, .null, .null, .null, .null, .null, .null, .null, .int (nI 0), .null, .null, .int (nI 0), .null, .null, .int (nI 0), .null, .null]))]) C tyX11 dL_law_8 rfl inG11 tyX11_ok wm_823 wm_824 wm_61 (fun j hj => by rcases (show j = 0 ∨ j = 1 ∨ j = 2 ∨ j = 3 ∨ j = 4 ∨ j = 5 ∨ j = 6 ∨ j = 7 ∨ j = 8 ∨ j = 9 ∨ j = 10 ∨ j = 11 ∨ j = 12 ∨ j = 13 ∨ j = 14 ∨ j = 15 ∨ j = 16 ∨ j = 17 ∨ j = 18 ∨ j = 19 ∨ j = 20 ∨ j = 21 ∨ j = 22 ∨ j = 23 ∨ j = 24 ∨ j = 25 ∨ j = 26 ∨ j = 27 by omega) with rfl | rfl | rfl | rfl | rfl | rfl | rfl | rfl | rfl | rfl | rfl | rfl | rfl | rfl | rfl | rfl | rfl | rfl | rfl | rfl | rfl | rfl | rfl | rfl | rfl | rfl | rfl | rfl <;> rfl) (Nat.le_of_ble_eq_true rfl) (Nat.le_of_ble_eq_true rfl) rfl rfl (fun _ => rfl) (fun q2 => ?_)
  refine G_dup C dL_law_11 rfl ?_
  refine G_callI (cells' := 45) (slots' := 1053) (wr := wX cI cZ aX mX0 0) (w2 := fun ad => wX cI cZ aX mX0 0 ++ wY cI cZ (va_up ad 0 q2) (y_set (y_bgs mY0)) 0) C [] [28] [0, 1, 2, 3, 4, 5, 6, 7, 8, 9, 10, 11, 12, 13, 14, 15, 16, 17, 18, 19, 20, 21, 22, 23, 24, 25, 26, 27] dL_law_12 c_X11_init wm_825 wm_826 wm_61 wm_827 rfl ydc_X11_init rfl ⟨Nat.le_of_ble_eq_true rfl, Nat.le_of_ble_eq_true rfl⟩ ⟨rfl, rfl⟩ ⟨Nat.le_of_ble_eq_true rfl, Nat.le_of_ble_eq_true rfl⟩ (Nat.le_of_ble_eq_true rfl) rfl rfl rfl rfl rfl rfl (by decide) rfl rfl (fun _ => rfl) (fun g2 => ?_)
  obtain ⟨aY, haY⟩ : ∃ aY : Nat → Nat, aY = va_up g2 0 q2 := ⟨_, rfl⟩
  rw [← haY]
  have eY : q2 = aY 0 := by rw [haY]; rfl
  rw [eY]
  refine G_astore_n (lv' := [(2, .ref (aY 0)), (1, .ref (aX 0)), (0, .ref b)]) C dL_law_15 rfl (by decide) rfl ?_
  refine G_iconst C dL_law_16 kI_0 ?_
  refine G_istore_n (lv' := [(3, .int (nI 0)), (2, .ref (aY 0)), (1, .ref (aX 0)), (0, .ref b)]) C dL_law_17 rfl (by decide) rfl ?_
  refine G_pick (lv' := [(0, .ref b), (1, .ref (aX 0)), (2, .ref (aY 0)), (3, .int (nI 0))]) [3, 2, 1, 0] rfl ?_
  exact law_loop hr C hX hbl hL (L + 5) 0 mX0 (y_set (y_bgs mY0)) 0 (by omega) (by omega) rel0
