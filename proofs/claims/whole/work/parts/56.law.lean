abbrev lawG (p : Program) (l : Launch) (e : Env) (s : State) (m : MethodId) (below : List Frame) (meth : Method) (c : Code) (D : va_G) (b : Nat) (pc : Nat) (lv : List (Nat × Value)) (st : List Value) (w : va_W) : Prop := G p l e room_1 s m #[Value.ref b] below meth c D (fun q => s.heap.size ≤ q) 4 45 1053 (lw_Z below #[Value.ref b] s) pc lv st w
abbrev lawC (p : Program) (s : State) (m : MethodId) (meth : Method) (c : Code) (D : va_G) (cI cZ : ClassId) (b : Nat) : Prop := Cx p s m #[Value.ref b] meth c D (tyI cI cZ) (fun q => s.heap.size ≤ q) 4 cL_law "FalseParityLaw"
/-- the script, and how far it is read -/
def lawS (s : State) (b L i : Nat) (xs : Nat → Int32) : Prop := va_X b L xs s s.heap ∧ b < s.heap.size ∧ i + 4 ≤ L ∧ L ≤ 256
section LAW
variable {p : Program} {l : Launch} {e : Env} {s : State} {m : MethodId} {below : List Frame} {meth : Method} {c : Code} {D : va_G} {cI cZ : ClassId} {b L i : Nat} {xs : Nat → Int32} {aX aY : Nat → Nat} {X Y : Nat → Nat → Nat} {t t2 : Int64}
theorem fx0 : ([0, 1, 2, 3, 4, 5, 6, 7, 8, 9, 10, 11, 12, 13, 14, 15, 16, 17, 18, 19, 20, 21, 22, 23, 24, 25, 26, 27] : List Nat).filterMap (fun i => (wX cI cZ aX X t ++ wY cI cZ aY Y t2)[i]?) = wX cI cZ aX X t := rfl
theorem fx1 : ([0, 1, 2, 3, 4, 5, 6, 7, 8, 9, 10, 11, 12, 13, 14, 15, 16, 17, 18, 19, 20, 21, 22, 23, 24, 25, 26, 27] : List Nat).map (fun i => (wX cI cZ aX X t ++ wY cI cZ aY Y t2)[i]?) = (wX cI cZ aX X t).map some := rfl
theorem fx2 : ([28, 29, 30, 31, 32, 33, 34, 35, 36, 37, 38, 39, 40, 41, 42, 43, 44] : List Nat).map (fun i => (wX cI cZ aX X t ++ wY cI cZ aY Y t2)[i]?) = (wY cI cZ aY Y t2).map some := rfl
theorem fy0 : ([0, 1, 2, 3, 4, 5, 6, 7, 8, 9, 10, 11, 12, 13, 14, 15, 16] : List Nat).filterMap (fun i => (wY cI cZ aY Y t2 ++ wX cI cZ aX X t)[i]?) = wY cI cZ aY Y t2 := rfl
theorem fy1 : ([0, 1, 2, 3, 4, 5, 6, 7, 8, 9, 10, 11, 12, 13, 14, 15, 16] : List Nat).map (fun i => (wY cI cZ aY Y t2 ++ wX cI cZ aX X t)[i]?) = (wY cI cZ aY Y t2).map some := rfl
theorem fy2 : ([17, 18, 19, 20, 21, 22, 23, 24, 25, 26, 27, 28, 29, 30, 31, 32, 33, 34, 35, 36, 37, 38, 39, 40, 41, 42, 43, 44] : List Nat).map (fun i => (wY cI cZ aY Y t2 ++ wX cI cZ aX X t)[i]?) = (wX cI cZ aX X t).map some := rfl
theorem fd1 : va_nd [0, 1, 2, 3, 4, 5, 6, 7, 8, 9, 10, 11, 12, 13, 14, 15, 16, 17, 18, 19, 20, 21, 22, 23, 24, 25, 26, 27] = true := by decide
theorem fd2 : va_nd [28, 29, 30, 31, 32, 33, 34, 35, 36, 37, 38, 39, 40, 41, 42, 43, 44] = true := by decide
theorem fd3 : ∀ i ∈ [28, 29, 30, 31, 32, 33, 34, 35, 36, 37, 38, 39, 40, 41, 42, 43, 44], i ∉ [0, 1, 2, 3, 4, 5, 6, 7, 8, 9, 10, 11, 12, 13, 14, 15, 16, 17, 18, 19, 20, 21, 22, 23, 24, 25, 26, 27] := by decide
theorem fd4 : va_nd [0, 1, 2, 3, 4, 5, 6, 7, 8, 9, 10, 11, 12, 13, 14, 15, 16] = true := by decide
theorem fd5 : va_nd [17, 18, 19, 20, 21, 22, 23, 24, 25, 26, 27, 28, 29, 30, 31, 32, 33, 34, 35, 36, 37, 38, 39, 40, 41, 42, 43, 44] = true := by decide
theorem fd6 : ∀ i ∈ [17, 18, 19, 20, 21, 22, 23, 24, 25, 26, 27, 28, 29, 30, 31, 32, 33, 34, 35, 36, 37, 38, 39, 40, 41, 42, 43, 44], i ∉ [0, 1, 2, 3, 4, 5, 6, 7, 8, 9, 10, 11, 12, 13, 14, 15, 16] := by decide
/-- behind a case -/
def lawK (p : Program) (l : Launch) (e : Env) (s : State) (m : MethodId) (below : List Frame) (meth : Method) (c : Code) (D : va_G) (cI cZ : ClassId) (b i : Nat) (aX aY : Nat → Nat) : Prop := ∀ (X Y : Nat → Nat → Nat) (t : Int64), Rel X Y → lawG p l e s m below meth c D b 764 [(0, .ref b), (1, .ref (aX 0)), (2, .ref (aY 0)), (3, .int (nI i))] [] (wX cI cZ aX X t ++ wY cI cZ aY Y t)
set_option maxHeartbeats 4000000 in
set_option maxRecDepth 100000 in
theorem law_type (C : lawC p s m meth c D cI cZ b) (S : lawS s b L i xs) (h : Rel X Y) (k : lawK p l e s m below meth c D cI cZ b i aX aY) : lawG p l e s m below meth c D b 148 [(0, .ref b), (1, .ref (aX 0)), (2, .ref (aY 0)), (3, .int (nI i))] [] (wX cI cZ aX X t ++ wY cI cZ aY Y t) := by
  obtain ⟨hX, hbl, hi, hL⟩ := S
  have hbA : ¬ (fun q => s.heap.size ≤ q) b := Nat.not_le.mpr hbl
  refine G_aload_n C 1 dL_law_148 rfl rfl ?_
  refine G_aload_n C 0 dL_law_149 rfl rfl ?_
  refine G_iload_n C 3 dL_law_150 rfl rfl ?_
  refine G_iconst C dL_law_151 kI_1 ?_
  refine G_iaddN C dL_law_152 ?_
  refine G_sld C hX hbl hbA (by omega) (by omega) dL_law_153 ?_
  refine G_callVF (v := .int ((x_type X (xs (i + 1))).1)) (wr := wY cI cZ aY Y t) (w' := wX cI cZ aX (x_type X (xs (i + 1))).2 t) C [.int (xs (i + 1))] 0 [0, 1, 2, 3, 4, 5, 6, 7, 8, 9, 10, 11, 12, 13, 14, 15, 16, 17, 18, 19, 20, 21, 22, 23, 24, 25, 26, 27] [28, 29, 30, 31, 32, 33, 34, 35, 36, 37, 38, 39, 40, 41, 42, 43, 44] dL_law_154 (c_X10_type h.xB) wm_324 wm_325 wm_326 wm_50 wm_327 xc_0 rfl ydc_X10_type rfl ⟨Nat.le_of_ble_eq_true rfl, Nat.le_of_ble_eq_true rfl⟩ ⟨rfl, rfl⟩ ⟨Nat.le_of_ble_eq_true rfl, Nat.le_of_ble_eq_true rfl⟩ (Nat.le_of_ble_eq_true rfl) rfl fx0 fd1 fx1 fx2 fd2 fd3 ?_
  refine G_aload_n C 2 dL_law_157 rfl rfl ?_
  refine G_aload_n C 0 dL_law_158 rfl rfl ?_
  refine G_iload_n C 3 dL_law_159 rfl rfl ?_
  refine G_iconst C dL_law_160 kI_1 ?_
  refine G_iaddN C dL_law_161 ?_
  refine G_sld C hX hbl hbA (by omega) (by omega) dL_law_162 ?_
  refine G_callVF (v := .int ((y_type Y (xs (i + 1))).1)) (wr := wX cI cZ aX (x_type X (xs (i + 1))).2 t) (w' := wY cI cZ aY (y_type Y (xs (i + 1))).2 t) C [.int (xs (i + 1))] 0 [0, 1, 2, 3, 4, 5, 6, 7, 8, 9, 10, 11, 12, 13, 14, 15, 16] [17, 18, 19, 20, 21, 22, 23, 24, 25, 26, 27, 28, 29, 30, 31, 32, 33, 34, 35, 36, 37, 38, 39, 40, 41, 42, 43, 44] dL_law_163 (c_X11_type h.z h.yT h.yB) wm_923 wm_924 wm_925 wm_61 wm_926 yc_0 rfl ydc_X11_type rfl ⟨Nat.le_of_ble_eq_true rfl, Nat.le_of_ble_eq_true rfl⟩ ⟨rfl, rfl⟩ ⟨Nat.le_of_ble_eq_true rfl, Nat.le_of_ble_eq_true rfl⟩ (Nat.le_of_ble_eq_true rfl) rfl fy0 fd4 fy1 fy2 fd5 fd6 ?_
  have q := rl_type h (xs (i + 1))
  exact G_icmp_eq (tgt := 764) C dL_law_166 (by decide) (fun _ => k _ _ _ q.2) (fun q2 => absurd q.1 q2)
set_option maxHeartbeats 4000000 in
set_option maxRecDepth 100000 in
theorem law_clear (C : lawC p s m meth c D cI cZ b) (S : lawS s b L i xs) (h : Rel X Y) (k : lawK p l e s m below meth c D cI cZ b i aX aY) : lawG p l e s m below meth c D b 171 [(0, .ref b), (1, .ref (aX 0)), (2, .ref (aY 0)), (3, .int (nI i))] [] (wX cI cZ aX X t ++ wY cI cZ aY Y t) := by
  obtain ⟨hX, hbl, hi, hL⟩ := S
  have hbA : ¬ (fun q => s.heap.size ≤ q) b := Nat.not_le.mpr hbl
  refine G_aload_n C 1 dL_law_171 rfl rfl ?_
  refine G_callVF (v := .int (nI (X 1 1))) (wr := wY cI cZ aY Y t) (w' := wX cI cZ aX (ms X 1 1 0) t) C [] 0 [0, 1, 2, 3, 4, 5, 6, 7, 8, 9, 10, 11, 12, 13, 14, 15, 16, 17, 18, 19, 20, 21, 22, 23, 24, 25, 26, 27] [28, 29, 30, 31, 32, 33, 34, 35, 36, 37, 38, 39, 40, 41, 42, 43, 44] dL_law_172 (c_X10_clear) wm_332 wm_333 wm_334 wm_50 wm_335 xc_0 rfl ydc_X10_clear rfl ⟨Nat.le_of_ble_eq_true rfl, Nat.le_of_ble_eq_true rfl⟩ ⟨rfl, rfl⟩ ⟨Nat.le_of_ble_eq_true rfl, Nat.le_of_ble_eq_true rfl⟩ (Nat.le_of_ble_eq_true rfl) rfl fx0 fd1 fx1 fx2 fd2 fd3 ?_
  refine G_aload_n C 2 dL_law_175 rfl rfl ?_
  refine G_callVF (v := .int (nI (Y 0 3))) (wr := wX cI cZ aX (ms X 1 1 0) t) (w' := wY cI cZ aY (ms Y 0 3 0) t) C [] 0 [0, 1, 2, 3, 4, 5, 6, 7, 8, 9, 10, 11, 12, 13, 14, 15, 16] [17, 18, 19, 20, 21, 22, 23, 24, 25, 26, 27, 28, 29, 30, 31, 32, 33, 34, 35, 36, 37, 38, 39, 40, 41, 42, 43, 44] dL_law_176 (c_X11_clear h.z) wm_930 wm_931 wm_932 wm_61 wm_933 yc_0 rfl ydc_X11_clear rfl ⟨Nat.le_of_ble_eq_true rfl, Nat.le_of_ble_eq_true rfl⟩ ⟨rfl, rfl⟩ ⟨Nat.le_of_ble_eq_true rfl, Nat.le_of_ble_eq_true rfl⟩ (Nat.le_of_ble_eq_true rfl) rfl fy0 fd4 fy1 fy2 fd5 fd6 ?_
  have q := rl_clear h
  exact G_icmp_eq (tgt := 764) C dL_law_179 (by decide) (fun _ => k _ _ _ q.2) (fun q2 => absurd q.1 q2)
set_option maxHeartbeats 4000000 in
set_option maxRecDepth 100000 in
theorem law_country (C : lawC p s m meth c D cI cZ b) (S : lawS s b L i xs) (h : Rel X Y) (k : lawK p l e s m below meth c D cI cZ b i aX aY) : lawG p l e s m below meth c D b 184 [(0, .ref b), (1, .ref (aX 0)), (2, .ref (aY 0)), (3, .int (nI i))] [] (wX cI cZ aX X t ++ wY cI cZ aY Y t) := by
  obtain ⟨hX, hbl, hi, hL⟩ := S
  have hbA : ¬ (fun q => s.heap.size ≤ q) b := Nat.not_le.mpr hbl
  refine G_aload_n C 1 dL_law_184 rfl rfl ?_
  refine G_callVF (v := .int ((x_cty X).1)) (wr := wY cI cZ aY Y t) (w' := wX cI cZ aX (x_cty X).2 t) C [] 0 [0, 1, 2, 3, 4, 5, 6, 7, 8, 9, 10, 11, 12, 13, 14, 15, 16, 17, 18, 19, 20, 21, 22, 23, 24, 25, 26, 27] [28, 29, 30, 31, 32, 33, 34, 35, 36, 37, 38, 39, 40, 41, 42, 43, 44] dL_law_185 (c_X10_country h.t.1 h.t.2.2.2 h.xB) wm_340 wm_341 wm_342 wm_50 wm_343 xc_0 rfl ydc_X10_country rfl ⟨Nat.le_of_ble_eq_true rfl, Nat.le_of_ble_eq_true rfl⟩ ⟨rfl, rfl⟩ ⟨Nat.le_of_ble_eq_true rfl, Nat.le_of_ble_eq_true rfl⟩ (Nat.le_of_ble_eq_true rfl) rfl fx0 fd1 fx1 fx2 fd2 fd3 ?_
  refine G_aload_n C 2 dL_law_188 rfl rfl ?_
  refine G_callVF (v := .int ((y_cty Y).1)) (wr := wX cI cZ aX (x_cty X).2 t) (w' := wY cI cZ aY (y_cty Y).2 t) C [] 0 [0, 1, 2, 3, 4, 5, 6, 7, 8, 9, 10, 11, 12, 13, 14, 15, 16] [17, 18, 19, 20, 21, 22, 23, 24, 25, 26, 27, 28, 29, 30, 31, 32, 33, 34, 35, 36, 37, 38, 39, 40, 41, 42, 43, 44] dL_law_189 (c_X11_country h.z h.yT h.yB) wm_934 wm_935 wm_936 wm_61 wm_937 yc_0 rfl ydc_X11_country rfl ⟨Nat.le_of_ble_eq_true rfl, Nat.le_of_ble_eq_true rfl⟩ ⟨rfl, rfl⟩ ⟨Nat.le_of_ble_eq_true rfl, Nat.le_of_ble_eq_true rfl⟩ (Nat.le_of_ble_eq_true rfl) rfl fy0 fd4 fy1 fy2 fd5 fd6 ?_
  have q := rl_cty h
  exact G_icmp_eq (tgt := 764) C dL_law_192 (by decide) (fun _ => k _ _ _ q.2) (fun q2 => absurd q.1 q2)
set_option maxHeartbeats 4000000 in
set_option maxRecDepth 100000 in
theorem law_note (C : lawC p s m meth c D cI cZ b) (S : lawS s b L i xs) (h : Rel X Y) (k : lawK p l e s m below meth c D cI cZ b i aX aY) : lawG p l e s m below meth c D b 197 [(0, .ref b), (1, .ref (aX 0)), (2, .ref (aY 0)), (3, .int (nI i))] [] (wX cI cZ aX X t ++ wY cI cZ aY Y t) := by
  obtain ⟨hX, hbl, hi, hL⟩ := S
  have hbA : ¬ (fun q => s.heap.size ≤ q) b := Nat.not_le.mpr hbl
  refine G_aload_n C 1 dL_law_197 rfl rfl ?_
  refine G_aload_n C 0 dL_law_198 rfl rfl ?_
  refine G_iload_n C 3 dL_law_199 rfl rfl ?_
  refine G_iconst C dL_law_200 kI_1 ?_
  refine G_iaddN C dL_law_201 ?_
  refine G_sld C hX hbl hbA (by omega) (by omega) dL_law_202 ?_
  refine G_aload_n C 0 dL_law_203 rfl rfl ?_
  refine G_iload_n C 3 dL_law_204 rfl rfl ?_
  refine G_iconst C dL_law_205 kI_2 ?_
  refine G_iaddN C dL_law_206 ?_
  refine G_sld C hX hbl hbA (by omega) (by omega) dL_law_207 ?_
  refine G_callVF (v := .int (x_note X (xs (i + 1)) (xs (i + 2)))) (wr := wY cI cZ aY Y t) (w' := wX cI cZ aX X t) C [.int (xs (i + 1)), .int (xs (i + 2))] 0 [0, 1, 2, 3, 4, 5, 6, 7, 8, 9, 10, 11, 12, 13, 14, 15, 16, 17, 18, 19, 20, 21, 22, 23, 24, 25, 26, 27] [28, 29, 30, 31, 32, 33, 34, 35, 36, 37, 38, 39, 40, 41, 42, 43, 44] dL_law_208 (c_X10_note h.N h.P h.xB) wm_443 wm_444 wm_445 wm_50 wm_446 xc_0 rfl ydc_X10_note rfl ⟨Nat.le_of_ble_eq_true rfl, Nat.le_of_ble_eq_true rfl⟩ ⟨rfl, rfl⟩ ⟨Nat.le_of_ble_eq_true rfl, Nat.le_of_ble_eq_true rfl⟩ (Nat.le_of_ble_eq_true rfl) rfl fx0 fd1 fx1 fx2 fd2 fd3 ?_
  refine G_aload_n C 2 dL_law_211 rfl rfl ?_
  refine G_aload_n C 0 dL_law_212 rfl rfl ?_
  refine G_iload_n C 3 dL_law_213 rfl rfl ?_
  refine G_iconst C dL_law_214 kI_1 ?_
  refine G_iaddN C dL_law_215 ?_
  refine G_sld C hX hbl hbA (by omega) (by omega) dL_law_216 ?_
  refine G_aload_n C 0 dL_law_217 rfl rfl ?_
  refine G_iload_n C 3 dL_law_218 rfl rfl ?_
  refine G_iconst C dL_law_219 kI_2 ?_
  refine G_iaddN C dL_law_220 ?_
  refine G_sld C hX hbl hbA (by omega) (by omega) dL_law_221 ?_
  refine G_callVF (v := .int (y_note Y (xs (i + 1)) (xs (i + 2)))) (wr := wX cI cZ aX X t) (w' := wY cI cZ aY Y t) C [.int (xs (i + 1)), .int (xs (i + 2))] 0 [0, 1, 2, 3, 4, 5, 6, 7, 8, 9, 10, 11, 12, 13, 14, 15, 16] [17, 18, 19, 20, 21, 22, 23, 24, 25, 26, 27, 28, 29, 30, 31, 32, 33, 34, 35, 36, 37, 38, 39, 40, 41, 42, 43, 44] dL_law_222 (c_X11_note h.z h.yN h.yP h.yB) wm_966 wm_967 wm_968 wm_61 wm_969 yc_0 rfl ydc_X11_note rfl ⟨Nat.le_of_ble_eq_true rfl, Nat.le_of_ble_eq_true rfl⟩ ⟨rfl, rfl⟩ ⟨Nat.le_of_ble_eq_true rfl, Nat.le_of_ble_eq_true rfl⟩ (Nat.le_of_ble_eq_true rfl) rfl fy0 fd4 fy1 fy2 fd5 fd6 ?_
  have q := (And.intro (eq_note h (xs (i + 1)) (xs (i + 2))) h)
  exact G_icmp_eq (tgt := 764) C dL_law_225 (by decide) (fun _ => k _ _ _ q.2) (fun q2 => absurd q.1 q2)
set_option maxHeartbeats 4000000 in
set_option maxRecDepth 100000 in
theorem law_person (C : lawC p s m meth c D cI cZ b) (S : lawS s b L i xs) (h : Rel X Y) (k : lawK p l e s m below meth c D cI cZ b i aX aY) : lawG p l e s m below meth c D b 230 [(0, .ref b), (1, .ref (aX 0)), (2, .ref (aY 0)), (3, .int (nI i))] [] (wX cI cZ aX X t ++ wY cI cZ aY Y t) := by
  obtain ⟨hX, hbl, hi, hL⟩ := S
  have hbA : ¬ (fun q => s.heap.size ≤ q) b := Nat.not_le.mpr hbl
  refine G_aload_n C 1 dL_law_230 rfl rfl ?_
  refine G_aload_n C 0 dL_law_231 rfl rfl ?_
  refine G_iload_n C 3 dL_law_232 rfl rfl ?_
  refine G_iconst C dL_law_233 kI_1 ?_
  refine G_iaddN C dL_law_234 ?_
  refine G_sld C hX hbl hbA (by omega) (by omega) dL_law_235 ?_
  refine G_aload_n C 0 dL_law_236 rfl rfl ?_
  refine G_iload_n C 3 dL_law_237 rfl rfl ?_
  refine G_iconst C dL_law_238 kI_2 ?_
  refine G_iaddN C dL_law_239 ?_
  refine G_sld C hX hbl hbA (by omega) (by omega) dL_law_240 ?_
  refine G_callVF (v := .int (x_person X (xs (i + 1)) (xs (i + 2)))) (wr := wY cI cZ aY Y t) (w' := wX cI cZ aX X t) C [.int (xs (i + 1)), .int (xs (i + 2))] 0 [0, 1, 2, 3, 4, 5, 6, 7, 8, 9, 10, 11, 12, 13, 14, 15, 16, 17, 18, 19, 20, 21, 22, 23, 24, 25, 26, 27] [28, 29, 30, 31, 32, 33, 34, 35, 36, 37, 38, 39, 40, 41, 42, 43, 44] dL_law_241 (c_X10_person h.N h.P h.xB) wm_483 wm_484 wm_485 wm_50 wm_486 xc_0 rfl ydc_X10_person rfl ⟨Nat.le_of_ble_eq_true rfl, Nat.le_of_ble_eq_true rfl⟩ ⟨rfl, rfl⟩ ⟨Nat.le_of_ble_eq_true rfl, Nat.le_of_ble_eq_true rfl⟩ (Nat.le_of_ble_eq_true rfl) rfl fx0 fd1 fx1 fx2 fd2 fd3 ?_
  refine G_aload_n C 2 dL_law_244 rfl rfl ?_
  refine G_aload_n C 0 dL_law_245 rfl rfl ?_
  refine G_iload_n C 3 dL_law_246 rfl rfl ?_
  refine G_iconst C dL_law_247 kI_1 ?_
  refine G_iaddN C dL_law_248 ?_
  refine G_sld C hX hbl hbA (by omega) (by omega) dL_law_249 ?_
  refine G_aload_n C 0 dL_law_250 rfl rfl ?_
  refine G_iload_n C 3 dL_law_251 rfl rfl ?_
  refine G_iconst C dL_law_252 kI_2 ?_
  refine G_iaddN C dL_law_253 ?_
  refine G_sld C hX hbl hbA (by omega) (by omega) dL_law_254 ?_
  refine G_callVF (v := .int (y_person Y (xs (i + 1)) (xs (i + 2)))) (wr := wX cI cZ aX X t) (w' := wY cI cZ aY Y t) C [.int (xs (i + 1)), .int (xs (i + 2))] 0 [0, 1, 2, 3, 4, 5, 6, 7, 8, 9, 10, 11, 12, 13, 14, 15, 16] [17, 18, 19, 20, 21, 22, 23, 24, 25, 26, 27, 28, 29, 30, 31, 32, 33, 34, 35, 36, 37, 38, 39, 40, 41, 42, 43, 44] dL_law_255 (c_X11_person h.z h.yN h.yP h.yB) wm_982 wm_983 wm_984 wm_61 wm_985 yc_0 rfl ydc_X11_person rfl ⟨Nat.le_of_ble_eq_true rfl, Nat.le_of_ble_eq_true rfl⟩ ⟨rfl, rfl⟩ ⟨Nat.le_of_ble_eq_true rfl, Nat.le_of_ble_eq_true rfl⟩ (Nat.le_of_ble_eq_true rfl) rfl fy0 fd4 fy1 fy2 fd5 fd6 ?_
  have q := (And.intro (eq_person h (xs (i + 1)) (xs (i + 2))) h)
  exact G_icmp_eq (tgt := 764) C dL_law_258 (by decide) (fun _ => k _ _ _ q.2) (fun q2 => absurd q.1 q2)
set_option maxHeartbeats 4000000 in
set_option maxRecDepth 100000 in
theorem law_now (C : lawC p s m meth c D cI cZ b) (S : lawS s b L i xs) (h : Rel X Y) (k : lawK p l e s m below meth c D cI cZ b i aX aY) : lawG p l e s m below meth c D b 263 [(0, .ref b), (1, .ref (aX 0)), (2, .ref (aY 0)), (3, .int (nI i))] [] (wX cI cZ aX X t ++ wY cI cZ aY Y t) := by
  obtain ⟨hX, hbl, hi, hL⟩ := S
  have hbA : ¬ (fun q => s.heap.size ≤ q) b := Nat.not_le.mpr hbl
  refine G_aload_n C 1 dL_law_263 rfl rfl ?_
  refine G_aload_n C 0 dL_law_264 rfl rfl ?_
  refine G_iload_n C 3 dL_law_265 rfl rfl ?_
  refine G_iconst C dL_law_266 kI_1 ?_
  refine G_iaddN C dL_law_267 ?_
  refine G_sld C hX hbl hbA (by omega) (by omega) dL_law_268 ?_
  refine G_callVF (v := .int (x_now X (xs (i + 1)))) (wr := wY cI cZ aY Y t) (w' := wX cI cZ aX X t) C [.int (xs (i + 1))] 0 [0, 1, 2, 3, 4, 5, 6, 7, 8, 9, 10, 11, 12, 13, 14, 15, 16, 17, 18, 19, 20, 21, 22, 23, 24, 25, 26, 27] [28, 29, 30, 31, 32, 33, 34, 35, 36, 37, 38, 39, 40, 41, 42, 43, 44] dL_law_269 (c_X10_now h.N h.xB) wm_496 wm_497 wm_498 wm_50 wm_499 xc_0 rfl ydc_X10_now rfl ⟨Nat.le_of_ble_eq_true rfl, Nat.le_of_ble_eq_true rfl⟩ ⟨rfl, rfl⟩ ⟨Nat.le_of_ble_eq_true rfl, Nat.le_of_ble_eq_true rfl⟩ (Nat.le_of_ble_eq_true rfl) rfl fx0 fd1 fx1 fx2 fd2 fd3 ?_
  refine G_aload_n C 2 dL_law_272 rfl rfl ?_
  refine G_aload_n C 0 dL_law_273 rfl rfl ?_
  refine G_iload_n C 3 dL_law_274 rfl rfl ?_
  refine G_iconst C dL_law_275 kI_1 ?_
  refine G_iaddN C dL_law_276 ?_
  refine G_sld C hX hbl hbA (by omega) (by omega) dL_law_277 ?_
  refine G_callVF (v := .int (y_now Y (xs (i + 1)))) (wr := wX cI cZ aX X t) (w' := wY cI cZ aY Y t) C [.int (xs (i + 1))] 0 [0, 1, 2, 3, 4, 5, 6, 7, 8, 9, 10, 11, 12, 13, 14, 15, 16] [17, 18, 19, 20, 21, 22, 23, 24, 25, 26, 27, 28, 29, 30, 31, 32, 33, 34, 35, 36, 37, 38, 39, 40, 41, 42, 43, 44] dL_law_278 (c_X11_now h.z h.yN h.yB) wm_994 wm_995 wm_996 wm_61 wm_997 yc_0 rfl ydc_X11_now rfl ⟨Nat.le_of_ble_eq_true rfl, Nat.le_of_ble_eq_true rfl⟩ ⟨rfl, rfl⟩ ⟨Nat.le_of_ble_eq_true rfl, Nat.le_of_ble_eq_true rfl⟩ (Nat.le_of_ble_eq_true rfl) rfl fy0 fd4 fy1 fy2 fd5 fd6 ?_
  have q := (And.intro (eq_now h (xs (i + 1))) h)
  exact G_icmp_eq (tgt := 764) C dL_law_281 (by decide) (fun _ => k _ _ _ q.2) (fun q2 => absurd q.1 q2)
set_option maxHeartbeats 4000000 in
set_option maxRecDepth 100000 in
theorem law_passes (C : lawC p s m meth c D cI cZ b) (S : lawS s b L i xs) (h : Rel X Y) (k : lawK p l e s m below meth c D cI cZ b i aX aY) : lawG p l e s m below meth c D b 286 [(0, .ref b), (1, .ref (aX 0)), (2, .ref (aY 0)), (3, .int (nI i))] [] (wX cI cZ aX X t ++ wY cI cZ aY Y t) := by
  obtain ⟨hX, hbl, hi, hL⟩ := S
  have hbA : ¬ (fun q => s.heap.size ≤ q) b := Nat.not_le.mpr hbl
  refine G_aload_n C 1 dL_law_286 rfl rfl ?_
  refine G_aload_n C 0 dL_law_287 rfl rfl ?_
  refine G_iload_n C 3 dL_law_288 rfl rfl ?_
  refine G_iconst C dL_law_289 kI_1 ?_
  refine G_iaddN C dL_law_290 ?_
  refine G_sld C hX hbl hbA (by omega) (by omega) dL_law_291 ?_
  refine G_aload_n C 0 dL_law_292 rfl rfl ?_
  refine G_iload_n C 3 dL_law_293 rfl rfl ?_
  refine G_iconst C dL_law_294 kI_2 ?_
  refine G_iaddN C dL_law_295 ?_
  refine G_sld C hX hbl hbA (by omega) (by omega) dL_law_296 ?_
  refine G_callVF (v := .int ((x_pass X (xs (i + 1)) (xs (i + 2))).1)) (wr := wY cI cZ aY Y t) (w' := wX cI cZ aX (x_pass X (xs (i + 1)) (xs (i + 2))).2 t) C [.int (xs (i + 1)), .int (xs (i + 2))] 0 [0, 1, 2, 3, 4, 5, 6, 7, 8, 9, 10, 11, 12, 13, 14, 15, 16, 17, 18, 19, 20, 21, 22, 23, 24, 25, 26, 27] [28, 29, 30, 31, 32, 33, 34, 35, 36, 37, 38, 39, 40, 41, 42, 43, 44] dL_law_297 (c_X10_passes h.h.1 h.N h.P h.xB) wm_534 wm_535 wm_536 wm_50 wm_537 xc_0 rfl ydc_X10_passes rfl ⟨Nat.le_of_ble_eq_true rfl, Nat.le_of_ble_eq_true rfl⟩ ⟨rfl, rfl⟩ ⟨Nat.le_of_ble_eq_true rfl, Nat.le_of_ble_eq_true rfl⟩ (Nat.le_of_ble_eq_true rfl) rfl fx0 fd1 fx1 fx2 fd2 fd3 ?_
  refine G_aload_n C 2 dL_law_300 rfl rfl ?_
  refine G_aload_n C 0 dL_law_301 rfl rfl ?_
  refine G_iload_n C 3 dL_law_302 rfl rfl ?_
  refine G_iconst C dL_law_303 kI_1 ?_
  refine G_iaddN C dL_law_304 ?_
  refine G_sld C hX hbl hbA (by omega) (by omega) dL_law_305 ?_
  refine G_aload_n C 0 dL_law_306 rfl rfl ?_
  refine G_iload_n C 3 dL_law_307 rfl rfl ?_
  refine G_iconst C dL_law_308 kI_2 ?_
  refine G_iaddN C dL_law_309 ?_
  refine G_sld C hX hbl hbA (by omega) (by omega) dL_law_310 ?_
  refine G_callVF (v := .int ((y_pass Y (xs (i + 1)) (xs (i + 2))).1)) (wr := wX cI cZ aX (x_pass X (xs (i + 1)) (xs (i + 2))).2 t) (w' := wY cI cZ aY (y_pass Y (xs (i + 1)) (xs (i + 2))).2 t) C [.int (xs (i + 1)), .int (xs (i + 2))] 0 [0, 1, 2, 3, 4, 5, 6, 7, 8, 9, 10, 11, 12, 13, 14, 15, 16] [17, 18, 19, 20, 21, 22, 23, 24, 25, 26, 27, 28, 29, 30, 31, 32, 33, 34, 35, 36, 37, 38, 39, 40, 41, 42, 43, 44] dL_law_311 (c_X11_passes h.z h.yU h.yN h.yP h.yus h.yre h.yB) wm_1002 wm_1003 wm_1004 wm_61 wm_1005 yc_0 rfl ydc_X11_passes rfl ⟨Nat.le_of_ble_eq_true rfl, Nat.le_of_ble_eq_true rfl⟩ ⟨rfl, rfl⟩ ⟨Nat.le_of_ble_eq_true rfl, Nat.le_of_ble_eq_true rfl⟩ (Nat.le_of_ble_eq_true rfl) rfl fy0 fd4 fy1 fy2 fd5 fd6 ?_
  have q := rl_pass h (xs (i + 1)) (xs (i + 2))
  exact G_icmp_eq (tgt := 764) C dL_law_314 (by decide) (fun _ => k _ _ _ q.2) (fun q2 => absurd q.1 q2)
set_option maxHeartbeats 4000000 in
set_option maxRecDepth 100000 in
theorem law_teaches (C : lawC p s m meth c D cI cZ b) (S : lawS s b L i xs) (h : Rel X Y) (k : lawK p l e s m below meth c D cI cZ b i aX aY) : lawG p l e s m below meth c D b 319 [(0, .ref b), (1, .ref (aX 0)), (2, .ref (aY 0)), (3, .int (nI i))] [] (wX cI cZ aX X t ++ wY cI cZ aY Y t) := by
  obtain ⟨hX, hbl, hi, hL⟩ := S
  have hbA : ¬ (fun q => s.heap.size ≤ q) b := Nat.not_le.mpr hbl
  refine G_aload_n C 1 dL_law_319 rfl rfl ?_
  refine G_aload_n C 0 dL_law_320 rfl rfl ?_
  refine G_iload_n C 3 dL_law_321 rfl rfl ?_
  refine G_iconst C dL_law_322 kI_1 ?_
  refine G_iaddN C dL_law_323 ?_
  refine G_sld C hX hbl hbA (by omega) (by omega) dL_law_324 ?_
  refine G_aload_n C 0 dL_law_325 rfl rfl ?_
  refine G_iload_n C 3 dL_law_326 rfl rfl ?_
  refine G_iconst C dL_law_327 kI_2 ?_
  refine G_iaddN C dL_law_328 ?_
  refine G_sld C hX hbl hbA (by omega) (by omega) dL_law_329 ?_
  refine G_callVF (v := .int ((x_teach X (xs (i + 1)) (xs (i + 2))).1)) (wr := wY cI cZ aY Y t) (w' := wX cI cZ aX (x_teach X (xs (i + 1)) (xs (i + 2))).2 t) C [.int (xs (i + 1)), .int (xs (i + 2))] 0 [0, 1, 2, 3, 4, 5, 6, 7, 8, 9, 10, 11, 12, 13, 14, 15, 16, 17, 18, 19, 20, 21, 22, 23, 24, 25, 26, 27] [28, 29, 30, 31, 32, 33, 34, 35, 36, 37, 38, 39, 40, 41, 42, 43, 44] dL_law_330 (c_X10_teaches h.h.1 h.P h.xB) wm_566 wm_567 wm_568 wm_50 wm_569 xc_0 rfl ydc_X10_teaches rfl ⟨Nat.le_of_ble_eq_true rfl, Nat.le_of_ble_eq_true rfl⟩ ⟨rfl, rfl⟩ ⟨Nat.le_of_ble_eq_true rfl, Nat.le_of_ble_eq_true rfl⟩ (Nat.le_of_ble_eq_true rfl) rfl fx0 fd1 fx1 fx2 fd2 fd3 ?_
  refine G_aload_n C 2 dL_law_333 rfl rfl ?_
  refine G_aload_n C 0 dL_law_334 rfl rfl ?_
  refine G_iload_n C 3 dL_law_335 rfl rfl ?_
  refine G_iconst C dL_law_336 kI_1 ?_
  refine G_iaddN C dL_law_337 ?_
  refine G_sld C hX hbl hbA (by omega) (by omega) dL_law_338 ?_
  refine G_aload_n C 0 dL_law_339 rfl rfl ?_
  refine G_iload_n C 3 dL_law_340 rfl rfl ?_
  refine G_iconst C dL_law_341 kI_2 ?_
  refine G_iaddN C dL_law_342 ?_
  refine G_sld C hX hbl hbA (by omega) (by omega) dL_law_343 ?_
  refine G_callVF (v := .int ((y_teach Y (xs (i + 1)) (xs (i + 2))).1)) (wr := wX cI cZ aX (x_teach X (xs (i + 1)) (xs (i + 2))).2 t) (w' := wY cI cZ aY (y_teach Y (xs (i + 1)) (xs (i + 2))).2 t) C [.int (xs (i + 1)), .int (xs (i + 2))] 0 [0, 1, 2, 3, 4, 5, 6, 7, 8, 9, 10, 11, 12, 13, 14, 15, 16] [17, 18, 19, 20, 21, 22, 23, 24, 25, 26, 27, 28, 29, 30, 31, 32, 33, 34, 35, 36, 37, 38, 39, 40, 41, 42, 43, 44] dL_law_344 (c_X11_teaches h.z h.yU h.yP h.yB) wm_1010 wm_1011 wm_1012 wm_61 wm_1013 yc_0 rfl ydc_X11_teaches rfl ⟨Nat.le_of_ble_eq_true rfl, Nat.le_of_ble_eq_true rfl⟩ ⟨rfl, rfl⟩ ⟨Nat.le_of_ble_eq_true rfl, Nat.le_of_ble_eq_true rfl⟩ (Nat.le_of_ble_eq_true rfl) rfl fy0 fd4 fy1 fy2 fd5 fd6 ?_
  have q := rl_teach h (xs (i + 1)) (xs (i + 2))
  exact G_icmp_eq (tgt := 764) C dL_law_347 (by decide) (fun _ => k _ _ _ q.2) (fun q2 => absurd q.1 q2)
set_option maxHeartbeats 4000000 in
set_option maxRecDepth 100000 in
theorem law_sends (C : lawC p s m meth c D cI cZ b) (S : lawS s b L i xs) (h : Rel X Y) (k : lawK p l e s m below meth c D cI cZ b i aX aY) : lawG p l e s m below meth c D b 352 [(0, .ref b), (1, .ref (aX 0)), (2, .ref (aY 0)), (3, .int (nI i))] [] (wX cI cZ aX X t ++ wY cI cZ aY Y t) := by
  obtain ⟨hX, hbl, hi, hL⟩ := S
  have hbA : ¬ (fun q => s.heap.size ≤ q) b := Nat.not_le.mpr hbl
  refine G_aload_n C 1 dL_law_352 rfl rfl ?_
  refine G_aload_n C 0 dL_law_353 rfl rfl ?_
  refine G_iload_n C 3 dL_law_354 rfl rfl ?_
  refine G_iconst C dL_law_355 kI_1 ?_
  refine G_iaddN C dL_law_356 ?_
  refine G_sld C hX hbl hbA (by omega) (by omega) dL_law_357 ?_
  refine G_aload_n C 0 dL_law_358 rfl rfl ?_
  refine G_iload_n C 3 dL_law_359 rfl rfl ?_
  refine G_iconst C dL_law_360 kI_2 ?_
  refine G_iaddN C dL_law_361 ?_
  refine G_sld C hX hbl hbA (by omega) (by omega) dL_law_362 ?_
  refine G_callVF (v := .int ((x_send X (xs (i + 1)) (xs (i + 2))).1)) (wr := wY cI cZ aY Y t) (w' := wX cI cZ aX (x_send X (xs (i + 1)) (xs (i + 2))).2 t) C [.int (xs (i + 1)), .int (xs (i + 2))] 0 [0, 1, 2, 3, 4, 5, 6, 7, 8, 9, 10, 11, 12, 13, 14, 15, 16, 17, 18, 19, 20, 21, 22, 23, 24, 25, 26, 27] [28, 29, 30, 31, 32, 33, 34, 35, 36, 37, 38, 39, 40, 41, 42, 43, 44] dL_law_363 (c_X10_sends h.h.1 h.aw6 h.N h.xB) wm_574 wm_575 wm_576 wm_50 wm_577 xc_0 rfl ydc_X10_sends rfl ⟨Nat.le_of_ble_eq_true rfl, Nat.le_of_ble_eq_true rfl⟩ ⟨rfl, rfl⟩ ⟨Nat.le_of_ble_eq_true rfl, Nat.le_of_ble_eq_true rfl⟩ (Nat.le_of_ble_eq_true rfl) rfl fx0 fd1 fx1 fx2 fd2 fd3 ?_
  refine G_aload_n C 2 dL_law_366 rfl rfl ?_
  refine G_aload_n C 0 dL_law_367 rfl rfl ?_
  refine G_iload_n C 3 dL_law_368 rfl rfl ?_
  refine G_iconst C dL_law_369 kI_1 ?_
  refine G_iaddN C dL_law_370 ?_
  refine G_sld C hX hbl hbA (by omega) (by omega) dL_law_371 ?_
  refine G_aload_n C 0 dL_law_372 rfl rfl ?_
  refine G_iload_n C 3 dL_law_373 rfl rfl ?_
  refine G_iconst C dL_law_374 kI_2 ?_
  refine G_iaddN C dL_law_375 ?_
  refine G_sld C hX hbl hbA (by omega) (by omega) dL_law_376 ?_
  refine G_callVF (v := .int ((y_send Y (xs (i + 1)) (xs (i + 2))).1)) (wr := wX cI cZ aX (x_send X (xs (i + 1)) (xs (i + 2))).2 t) (w' := wY cI cZ aY (y_send Y (xs (i + 1)) (xs (i + 2))).2 t) C [.int (xs (i + 1)), .int (xs (i + 2))] 0 [0, 1, 2, 3, 4, 5, 6, 7, 8, 9, 10, 11, 12, 13, 14, 15, 16] [17, 18, 19, 20, 21, 22, 23, 24, 25, 26, 27, 28, 29, 30, 31, 32, 33, 34, 35, 36, 37, 38, 39, 40, 41, 42, 43, 44] dL_law_377 (c_X11_sends h.z h.yU h.yN h.yaw6 h.yB) wm_1014 wm_1015 wm_1016 wm_61 wm_1017 yc_0 rfl ydc_X11_sends rfl ⟨Nat.le_of_ble_eq_true rfl, Nat.le_of_ble_eq_true rfl⟩ ⟨rfl, rfl⟩ ⟨Nat.le_of_ble_eq_true rfl, Nat.le_of_ble_eq_true rfl⟩ (Nat.le_of_ble_eq_true rfl) rfl fy0 fd4 fy1 fy2 fd5 fd6 ?_
  have q := rl_send h (xs (i + 1)) (xs (i + 2))
  exact G_icmp_eq (tgt := 764) C dL_law_380 (by decide) (fun _ => k _ _ _ q.2) (fun q2 => absurd q.1 q2)
set_option maxHeartbeats 4000000 in
set_option maxRecDepth 100000 in
theorem law_undo (C : lawC p s m meth c D cI cZ b) (S : lawS s b L i xs) (h : Rel X Y) (k : lawK p l e s m below meth c D cI cZ b i aX aY) : lawG p l e s m below meth c D b 385 [(0, .ref b), (1, .ref (aX 0)), (2, .ref (aY 0)), (3, .int (nI i))] [] (wX cI cZ aX X t ++ wY cI cZ aY Y t) := by
  obtain ⟨hX, hbl, hi, hL⟩ := S
  have hbA : ¬ (fun q => s.heap.size ≤ q) b := Nat.not_le.mpr hbl
  refine G_aload_n C 1 dL_law_385 rfl rfl ?_
  refine G_callVF (v := .int ((x_undo X).1)) (wr := wY cI cZ aY Y t) (w' := wX cI cZ aX (x_undo X).2 t) C [] 0 [0, 1, 2, 3, 4, 5, 6, 7, 8, 9, 10, 11, 12, 13, 14, 15, 16, 17, 18, 19, 20, 21, 22, 23, 24, 25, 26, 27] [28, 29, 30, 31, 32, 33, 34, 35, 36, 37, 38, 39, 40, 41, 42, 43, 44] dL_law_386 (c_X10_undo h.h.1 h.xB) wm_591 wm_592 wm_593 wm_50 wm_594 xc_0 rfl ydc_X10_undo rfl ⟨Nat.le_of_ble_eq_true rfl, Nat.le_of_ble_eq_true rfl⟩ ⟨rfl, rfl⟩ ⟨Nat.le_of_ble_eq_true rfl, Nat.le_of_ble_eq_true rfl⟩ (Nat.le_of_ble_eq_true rfl) rfl fx0 fd1 fx1 fx2 fd2 fd3 ?_
  refine G_aload_n C 2 dL_law_389 rfl rfl ?_
  refine G_callVF (v := .int ((y_undo Y).1)) (wr := wX cI cZ aX (x_undo X).2 t) (w' := wY cI cZ aY (y_undo Y).2 t) C [] 0 [0, 1, 2, 3, 4, 5, 6, 7, 8, 9, 10, 11, 12, 13, 14, 15, 16] [17, 18, 19, 20, 21, 22, 23, 24, 25, 26, 27, 28, 29, 30, 31, 32, 33, 34, 35, 36, 37, 38, 39, 40, 41, 42, 43, 44] dL_law_390 (c_X11_undo h.z h.yU h.yB) wm_1021 wm_1022 wm_1023 wm_61 wm_1024 yc_0 rfl ydc_X11_undo rfl ⟨Nat.le_of_ble_eq_true rfl, Nat.le_of_ble_eq_true rfl⟩ ⟨rfl, rfl⟩ ⟨Nat.le_of_ble_eq_true rfl, Nat.le_of_ble_eq_true rfl⟩ (Nat.le_of_ble_eq_true rfl) rfl fy0 fd4 fy1 fy2 fd5 fd6 ?_
  have q := rl_undo h
  exact G_icmp_eq (tgt := 764) C dL_law_393 (by decide) (fun _ => k _ _ _ q.2) (fun q2 => absurd q.1 q2)
set_option maxHeartbeats 4000000 in
set_option maxRecDepth 100000 in
theorem law_soonest (C : lawC p s m meth c D cI cZ b) (S : lawS s b L i xs) (h : Rel X Y) (k : lawK p l e s m below meth c D cI cZ b i aX aY) : lawG p l e s m below meth c D b 398 [(0, .ref b), (1, .ref (aX 0)), (2, .ref (aY 0)), (3, .int (nI i))] [] (wX cI cZ aX X t ++ wY cI cZ aY Y t) := by
  obtain ⟨hX, hbl, hi, hL⟩ := S
  have hbA : ¬ (fun q => s.heap.size ≤ q) b := Nat.not_le.mpr hbl
  refine G_aload_n C 1 dL_law_398 rfl rfl ?_
  refine G_aload_n C 0 dL_law_399 rfl rfl ?_
  refine G_iload_n C 3 dL_law_400 rfl rfl ?_
  refine G_iconst C dL_law_401 kI_1 ?_
  refine G_iaddN C dL_law_402 ?_
  refine G_sld C hX hbl hbA (by omega) (by omega) dL_law_403 ?_
  refine G_aload_n C 0 dL_law_404 rfl rfl ?_
  refine G_iload_n C 3 dL_law_405 rfl rfl ?_
  refine G_iconst C dL_law_406 kI_2 ?_
  refine G_iaddN C dL_law_407 ?_
  refine G_sld C hX hbl hbA (by omega) (by omega) dL_law_408 ?_
  refine G_callVF (v := .int (x_soon X (xs (i + 1)) (xs (i + 2)))) (wr := wY cI cZ aY Y t) (w' := wX cI cZ aX X t) C [.int (xs (i + 1)), .int (xs (i + 2))] 0 [0, 1, 2, 3, 4, 5, 6, 7, 8, 9, 10, 11, 12, 13, 14, 15, 16, 17, 18, 19, 20, 21, 22, 23, 24, 25, 26, 27] [28, 29, 30, 31, 32, 33, 34, 35, 36, 37, 38, 39, 40, 41, 42, 43, 44] dL_law_409 (c_X10_soonest h.xU h.N h.P h.xB) wm_603 wm_604 wm_605 wm_50 wm_606 xc_0 rfl ydc_X10_soonest rfl ⟨Nat.le_of_ble_eq_true rfl, Nat.le_of_ble_eq_true rfl⟩ ⟨rfl, rfl⟩ ⟨Nat.le_of_ble_eq_true rfl, Nat.le_of_ble_eq_true rfl⟩ (Nat.le_of_ble_eq_true rfl) rfl fx0 fd1 fx1 fx2 fd2 fd3 ?_
  refine G_aload_n C 2 dL_law_412 rfl rfl ?_
  refine G_aload_n C 0 dL_law_413 rfl rfl ?_
  refine G_iload_n C 3 dL_law_414 rfl rfl ?_
  refine G_iconst C dL_law_415 kI_1 ?_
  refine G_iaddN C dL_law_416 ?_
  refine G_sld C hX hbl hbA (by omega) (by omega) dL_law_417 ?_
  refine G_aload_n C 0 dL_law_418 rfl rfl ?_
  refine G_iload_n C 3 dL_law_419 rfl rfl ?_
  refine G_iconst C dL_law_420 kI_2 ?_
  refine G_iaddN C dL_law_421 ?_
  refine G_sld C hX hbl hbA (by omega) (by omega) dL_law_422 ?_
  refine G_callVF (v := .int (y_soon Y (xs (i + 1)) (xs (i + 2)))) (wr := wX cI cZ aX X t) (w' := wY cI cZ aY Y t) C [.int (xs (i + 1)), .int (xs (i + 2))] 0 [0, 1, 2, 3, 4, 5, 6, 7, 8, 9, 10, 11, 12, 13, 14, 15, 16] [17, 18, 19, 20, 21, 22, 23, 24, 25, 26, 27, 28, 29, 30, 31, 32, 33, 34, 35, 36, 37, 38, 39, 40, 41, 42, 43, 44] dL_law_423 (c_X11_soonest h.z h.yB1 h.yH h.yN h.yP h.yB) wm_1025 wm_1026 wm_1027 wm_61 wm_1028 yc_0 rfl ydc_X11_soonest rfl ⟨Nat.le_of_ble_eq_true rfl, Nat.le_of_ble_eq_true rfl⟩ ⟨rfl, rfl⟩ ⟨Nat.le_of_ble_eq_true rfl, Nat.le_of_ble_eq_true rfl⟩ (Nat.le_of_ble_eq_true rfl) rfl fy0 fd4 fy1 fy2 fd5 fd6 ?_
  have q := (And.intro (eq_soon h (xs (i + 1)) (xs (i + 2))) h)
  exact G_icmp_eq (tgt := 764) C dL_law_426 (by decide) (fun _ => k _ _ _ q.2) (fun q2 => absurd q.1 q2)
set_option maxHeartbeats 4000000 in
set_option maxRecDepth 100000 in
theorem law_till (C : lawC p s m meth c D cI cZ b) (S : lawS s b L i xs) (h : Rel X Y) (k : lawK p l e s m below meth c D cI cZ b i aX aY) : lawG p l e s m below meth c D b 431 [(0, .ref b), (1, .ref (aX 0)), (2, .ref (aY 0)), (3, .int (nI i))] [] (wX cI cZ aX X t ++ wY cI cZ aY Y t) := by
  obtain ⟨hX, hbl, hi, hL⟩ := S
  have hbA : ¬ (fun q => s.heap.size ≤ q) b := Nat.not_le.mpr hbl
  refine G_aload_n C 1 dL_law_431 rfl rfl ?_
  refine G_aload_n C 0 dL_law_432 rfl rfl ?_
  refine G_iload_n C 3 dL_law_433 rfl rfl ?_
  refine G_iconst C dL_law_434 kI_1 ?_
  refine G_iaddN C dL_law_435 ?_
  refine G_sld C hX hbl hbA (by omega) (by omega) dL_law_436 ?_
  refine G_callVF (v := .int (x_till X (xs (i + 1)))) (wr := wY cI cZ aY Y t) (w' := wX cI cZ aX X t) C [.int (xs (i + 1))] 0 [0, 1, 2, 3, 4, 5, 6, 7, 8, 9, 10, 11, 12, 13, 14, 15, 16, 17, 18, 19, 20, 21, 22, 23, 24, 25, 26, 27] [28, 29, 30, 31, 32, 33, 34, 35, 36, 37, 38, 39, 40, 41, 42, 43, 44] dL_law_437 (c_X10_till h.N h.P h.xB) wm_635 wm_636 wm_637 wm_50 wm_638 xc_0 rfl ydc_X10_till rfl ⟨Nat.le_of_ble_eq_true rfl, Nat.le_of_ble_eq_true rfl⟩ ⟨rfl, rfl⟩ ⟨Nat.le_of_ble_eq_true rfl, Nat.le_of_ble_eq_true rfl⟩ (Nat.le_of_ble_eq_true rfl) rfl fx0 fd1 fx1 fx2 fd2 fd3 ?_
  refine G_aload_n C 2 dL_law_440 rfl rfl ?_
  refine G_aload_n C 0 dL_law_441 rfl rfl ?_
  refine G_iload_n C 3 dL_law_442 rfl rfl ?_
  refine G_iconst C dL_law_443 kI_1 ?_
  refine G_iaddN C dL_law_444 ?_
  refine G_sld C hX hbl hbA (by omega) (by omega) dL_law_445 ?_
  refine G_callVF (v := .int (y_till Y (xs (i + 1)))) (wr := wX cI cZ aX X t) (w' := wY cI cZ aY Y t) C [.int (xs (i + 1))] 0 [0, 1, 2, 3, 4, 5, 6, 7, 8, 9, 10, 11, 12, 13, 14, 15, 16] [17, 18, 19, 20, 21, 22, 23, 24, 25, 26, 27, 28, 29, 30, 31, 32, 33, 34, 35, 36, 37, 38, 39, 40, 41, 42, 43, 44] dL_law_446 (c_X11_till h.z h.yN h.yP h.yH h.yB) wm_1033 wm_1034 wm_1035 wm_61 wm_1036 yc_0 rfl ydc_X11_till rfl ⟨Nat.le_of_ble_eq_true rfl, Nat.le_of_ble_eq_true rfl⟩ ⟨rfl, rfl⟩ ⟨Nat.le_of_ble_eq_true rfl, Nat.le_of_ble_eq_true rfl⟩ (Nat.le_of_ble_eq_true rfl) rfl fy0 fd4 fy1 fy2 fd5 fd6 ?_
  have q := (And.intro (eq_till h (xs (i + 1))) h)
  exact G_icmp_eq (tgt := 764) C dL_law_449 (by decide) (fun _ => k _ _ _ q.2) (fun q2 => absurd q.1 q2)
set_option maxHeartbeats 4000000 in
set_option maxRecDepth 100000 in
theorem law_odds (C : lawC p s m meth c D cI cZ b) (S : lawS s b L i xs) (h : Rel X Y) (k : lawK p l e s m below meth c D cI cZ b i aX aY) : lawG p l e s m below meth c D b 454 [(0, .ref b), (1, .ref (aX 0)), (2, .ref (aY 0)), (3, .int (nI i))] [] (wX cI cZ aX X t ++ wY cI cZ aY Y t) := by
  obtain ⟨hX, hbl, hi, hL⟩ := S
  have hbA : ¬ (fun q => s.heap.size ≤ q) b := Nat.not_le.mpr hbl
  refine G_aload_n C 1 dL_law_454 rfl rfl ?_
  refine G_aload_n C 0 dL_law_455 rfl rfl ?_
  refine G_iload_n C 3 dL_law_456 rfl rfl ?_
  refine G_iconst C dL_law_457 kI_1 ?_
  refine G_iaddN C dL_law_458 ?_
  refine G_sld C hX hbl hbA (by omega) (by omega) dL_law_459 ?_
  refine G_aload_n C 0 dL_law_460 rfl rfl ?_
  refine G_iload_n C 3 dL_law_461 rfl rfl ?_
  refine G_iconst C dL_law_462 kI_2 ?_
  refine G_iaddN C dL_law_463 ?_
  refine G_sld C hX hbl hbA (by omega) (by omega) dL_law_464 ?_
  refine G_aload_n C 0 dL_law_465 rfl rfl ?_
  refine G_iload_n C 3 dL_law_466 rfl rfl ?_
  refine G_iconst C dL_law_467 kI_3 ?_
  refine G_iaddN C dL_law_468 ?_
  refine G_sld C hX hbl hbA (by omega) (by omega) dL_law_469 ?_
  refine G_callVF (v := .int (x_odds X (xs (i + 1)) (xs (i + 2)) (xs (i + 3)))) (wr := wY cI cZ aY Y t) (w' := wX cI cZ aX X t) C [.int (xs (i + 1)), .int (xs (i + 2)), .int (xs (i + 3))] 0 [0, 1, 2, 3, 4, 5, 6, 7, 8, 9, 10, 11, 12, 13, 14, 15, 16, 17, 18, 19, 20, 21, 22, 23, 24, 25, 26, 27] [28, 29, 30, 31, 32, 33, 34, 35, 36, 37, 38, 39, 40, 41, 42, 43, 44] dL_law_470 (c_X10_odds (fun n hn => h.hoP hn) h.N h.P h.xB) wm_643 wm_644 wm_645 wm_50 wm_646 xc_0 rfl ydc_X10_odds rfl ⟨Nat.le_of_ble_eq_true rfl, Nat.le_of_ble_eq_true rfl⟩ ⟨rfl, rfl⟩ ⟨Nat.le_of_ble_eq_true rfl, Nat.le_of_ble_eq_true rfl⟩ (Nat.le_of_ble_eq_true rfl) rfl fx0 fd1 fx1 fx2 fd2 fd3 ?_
  refine G_aload_n C 2 dL_law_473 rfl rfl ?_
  refine G_aload_n C 0 dL_law_474 rfl rfl ?_
  refine G_iload_n C 3 dL_law_475 rfl rfl ?_
  refine G_iconst C dL_law_476 kI_1 ?_
  refine G_iaddN C dL_law_477 ?_
  refine G_sld C hX hbl hbA (by omega) (by omega) dL_law_478 ?_
  refine G_aload_n C 0 dL_law_479 rfl rfl ?_
  refine G_iload_n C 3 dL_law_480 rfl rfl ?_
  refine G_iconst C dL_law_481 kI_2 ?_
  refine G_iaddN C dL_law_482 ?_
  refine G_sld C hX hbl hbA (by omega) (by omega) dL_law_483 ?_
  refine G_aload_n C 0 dL_law_484 rfl rfl ?_
  refine G_iload_n C 3 dL_law_485 rfl rfl ?_
  refine G_iconst C dL_law_486 kI_3 ?_
  refine G_iaddN C dL_law_487 ?_
  refine G_sld C hX hbl hbA (by omega) (by omega) dL_law_488 ?_
  refine G_callVF (v := .int ((y_odds Y (xs (i + 1)) (xs (i + 2)) (xs (i + 3))).1)) (wr := wX cI cZ aX X t) (w' := wY cI cZ aY (y_odds Y (xs (i + 1)) (xs (i + 2)) (xs (i + 3))).2 t) C [.int (xs (i + 1)), .int (xs (i + 2)), .int (xs (i + 3))] 0 [0, 1, 2, 3, 4, 5, 6, 7, 8, 9, 10, 11, 12, 13, 14, 15, 16] [17, 18, 19, 20, 21, 22, 23, 24, 25, 26, 27, 28, 29, 30, 31, 32, 33, 34, 35, 36, 37, 38, 39, 40, 41, 42, 43, 44] dL_law_489 (c_X11_odds h.z h.yN h.yP h.yB) wm_1037 wm_1038 wm_1039 wm_61 wm_1040 yc_0 rfl ydc_X11_odds rfl ⟨Nat.le_of_ble_eq_true rfl, Nat.le_of_ble_eq_true rfl⟩ ⟨rfl, rfl⟩ ⟨Nat.le_of_ble_eq_true rfl, Nat.le_of_ble_eq_true rfl⟩ (Nat.le_of_ble_eq_true rfl) rfl fy0 fd4 fy1 fy2 fd5 fd6 ?_
  have q := rl_odds h (xs (i + 1)) (xs (i + 2)) (xs (i + 3))
  exact G_icmp_eq (tgt := 764) C dL_law_492 (by decide) (fun _ => k _ _ _ q.2) (fun q2 => absurd q.1 q2)
set_option maxHeartbeats 4000000 in
set_option maxRecDepth 100000 in
theorem law_saw (C : lawC p s m meth c D cI cZ b) (S : lawS s b L i xs) (h : Rel X Y) (k : lawK p l e s m below meth c D cI cZ b i aX aY) : lawG p l e s m below meth c D b 497 [(0, .ref b), (1, .ref (aX 0)), (2, .ref (aY 0)), (3, .int (nI i))] [] (wX cI cZ aX X t ++ wY cI cZ aY Y t) := by
  obtain ⟨hX, hbl, hi, hL⟩ := S
  have hbA : ¬ (fun q => s.heap.size ≤ q) b := Nat.not_le.mpr hbl
  refine G_aload_n C 1 dL_law_497 rfl rfl ?_
  refine G_aload_n C 0 dL_law_498 rfl rfl ?_
  refine G_iload_n C 3 dL_law_499 rfl rfl ?_
  refine G_iconst C dL_law_500 kI_1 ?_
  refine G_iaddN C dL_law_501 ?_
  refine G_sld C hX hbl hbA (by omega) (by omega) dL_law_502 ?_
  refine G_aload_n C 0 dL_law_503 rfl rfl ?_
  refine G_iload_n C 3 dL_law_504 rfl rfl ?_
  refine G_iconst C dL_law_505 kI_2 ?_
  refine G_iaddN C dL_law_506 ?_
  refine G_sld C hX hbl hbA (by omega) (by omega) dL_law_507 ?_
  refine G_callVF (v := .int ((x_saw X (xs (i + 1)) (xs (i + 2))).1)) (wr := wY cI cZ aY Y t) (w' := wX cI cZ aX (x_saw X (xs (i + 1)) (xs (i + 2))).2 t) C [.int (xs (i + 1)), .int (xs (i + 2))] 0 [0, 1, 2, 3, 4, 5, 6, 7, 8, 9, 10, 11, 12, 13, 14, 15, 16, 17, 18, 19, 20, 21, 22, 23, 24, 25, 26, 27] [28, 29, 30, 31, 32, 33, 34, 35, 36, 37, 38, 39, 40, 41, 42, 43, 44] dL_law_508 (c_X10_saw h.xB) wm_658 wm_659 wm_660 wm_50 wm_661 xc_0 rfl ydc_X10_saw rfl ⟨Nat.le_of_ble_eq_true rfl, Nat.le_of_ble_eq_true rfl⟩ ⟨rfl, rfl⟩ ⟨Nat.le_of_ble_eq_true rfl, Nat.le_of_ble_eq_true rfl⟩ (Nat.le_of_ble_eq_true rfl) rfl fx0 fd1 fx1 fx2 fd2 fd3 ?_
  refine G_aload_n C 2 dL_law_511 rfl rfl ?_
  refine G_aload_n C 0 dL_law_512 rfl rfl ?_
  refine G_iload_n C 3 dL_law_513 rfl rfl ?_
  refine G_iconst C dL_law_514 kI_1 ?_
  refine G_iaddN C dL_law_515 ?_
  refine G_sld C hX hbl hbA (by omega) (by omega) dL_law_516 ?_
  refine G_aload_n C 0 dL_law_517 rfl rfl ?_
  refine G_iload_n C 3 dL_law_518 rfl rfl ?_
  refine G_iconst C dL_law_519 kI_2 ?_
  refine G_iaddN C dL_law_520 ?_
  refine G_sld C hX hbl hbA (by omega) (by omega) dL_law_521 ?_
  refine G_callVF (v := .int ((y_saw Y (xs (i + 1)) (xs (i + 2))).1)) (wr := wX cI cZ aX (x_saw X (xs (i + 1)) (xs (i + 2))).2 t) (w' := wY cI cZ aY (y_saw Y (xs (i + 1)) (xs (i + 2))).2 t) C [.int (xs (i + 1)), .int (xs (i + 2))] 0 [0, 1, 2, 3, 4, 5, 6, 7, 8, 9, 10, 11, 12, 13, 14, 15, 16] [17, 18, 19, 20, 21, 22, 23, 24, 25, 26, 27, 28, 29, 30, 31, 32, 33, 34, 35, 36, 37, 38, 39, 40, 41, 42, 43, 44] dL_law_522 (c_X11_saw h.z h.ysm h.yB) wm_1044 wm_1045 wm_1046 wm_61 wm_1047 yc_0 rfl ydc_X11_saw rfl ⟨Nat.le_of_ble_eq_true rfl, Nat.le_of_ble_eq_true rfl⟩ ⟨rfl, rfl⟩ ⟨Nat.le_of_ble_eq_true rfl, Nat.le_of_ble_eq_true rfl⟩ (Nat.le_of_ble_eq_true rfl) rfl fy0 fd4 fy1 fy2 fd5 fd6 ?_
  have q := rl_saw h (xs (i + 1)) (xs (i + 2))
  exact G_icmp_eq (tgt := 764) C dL_law_525 (by decide) (fun _ => k _ _ _ q.2) (fun q2 => absurd q.1 q2)
set_option maxHeartbeats 4000000 in
set_option maxRecDepth 100000 in
theorem law_canBe (C : lawC p s m meth c D cI cZ b) (S : lawS s b L i xs) (h : Rel X Y) (k : lawK p l e s m below meth c D cI cZ b i aX aY) : lawG p l e s m below meth c D b 530 [(0, .ref b), (1, .ref (aX 0)), (2, .ref (aY 0)), (3, .int (nI i))] [] (wX cI cZ aX X t ++ wY cI cZ aY Y t) := by
  obtain ⟨hX, hbl, hi, hL⟩ := S
  have hbA : ¬ (fun q => s.heap.size ≤ q) b := Nat.not_le.mpr hbl
  refine G_aload_n C 1 dL_law_530 rfl rfl ?_
  refine G_aload_n C 0 dL_law_531 rfl rfl ?_
  refine G_iload_n C 3 dL_law_532 rfl rfl ?_
  refine G_iconst C dL_law_533 kI_1 ?_
  refine G_iaddN C dL_law_534 ?_
  refine G_sld C hX hbl hbA (by omega) (by omega) dL_law_535 ?_
  refine G_callVF (v := .int (x_canBe X (xs (i + 1)))) (wr := wY cI cZ aY Y t) (w' := wX cI cZ aX X t) C [.int (xs (i + 1))] 0 [0, 1, 2, 3, 4, 5, 6, 7, 8, 9, 10, 11, 12, 13, 14, 15, 16, 17, 18, 19, 20, 21, 22, 23, 24, 25, 26, 27] [28, 29, 30, 31, 32, 33, 34, 35, 36, 37, 38, 39, 40, 41, 42, 43, 44] dL_law_536 (c_X10_canBe h.s.1 h.xq h.xB) wm_666 wm_667 wm_668 wm_50 wm_669 xc_0 rfl ydc_X10_canBe rfl ⟨Nat.le_of_ble_eq_true rfl, Nat.le_of_ble_eq_true rfl⟩ ⟨rfl, rfl⟩ ⟨Nat.le_of_ble_eq_true rfl, Nat.le_of_ble_eq_true rfl⟩ (Nat.le_of_ble_eq_true rfl) rfl fx0 fd1 fx1 fx2 fd2 fd3 ?_
  refine G_aload_n C 2 dL_law_539 rfl rfl ?_
  refine G_aload_n C 0 dL_law_540 rfl rfl ?_
  refine G_iload_n C 3 dL_law_541 rfl rfl ?_
  refine G_iconst C dL_law_542 kI_1 ?_
  refine G_iaddN C dL_law_543 ?_
  refine G_sld C hX hbl hbA (by omega) (by omega) dL_law_544 ?_
  refine G_callVF (v := .int (y_canBe Y (xs (i + 1)))) (wr := wX cI cZ aX X t) (w' := wY cI cZ aY Y t) C [.int (xs (i + 1))] 0 [0, 1, 2, 3, 4, 5, 6, 7, 8, 9, 10, 11, 12, 13, 14, 15, 16] [17, 18, 19, 20, 21, 22, 23, 24, 25, 26, 27, 28, 29, 30, 31, 32, 33, 34, 35, 36, 37, 38, 39, 40, 41, 42, 43, 44] dL_law_545 (c_X11_canBe h.z h.ysm h.yq h.yB) wm_1048 wm_1049 wm_1050 wm_61 wm_1051 yc_0 rfl ydc_X11_canBe rfl ⟨Nat.le_of_ble_eq_true rfl, Nat.le_of_ble_eq_true rfl⟩ ⟨rfl, rfl⟩ ⟨Nat.le_of_ble_eq_true rfl, Nat.le_of_ble_eq_true rfl⟩ (Nat.le_of_ble_eq_true rfl) rfl fy0 fd4 fy1 fy2 fd5 fd6 ?_
  have q := (And.intro (eq_canBe h (xs (i + 1))) h)
  exact G_icmp_eq (tgt := 764) C dL_law_548 (by decide) (fun _ => k _ _ _ q.2) (fun q2 => absurd q.1 q2)
set_option maxHeartbeats 4000000 in
set_option maxRecDepth 100000 in
theorem law_show (C : lawC p s m meth c D cI cZ b) (S : lawS s b L i xs) (h : Rel X Y) (k : lawK p l e s m below meth c D cI cZ b i aX aY) : lawG p l e s m below meth c D b 553 [(0, .ref b), (1, .ref (aX 0)), (2, .ref (aY 0)), (3, .int (nI i))] [] (wX cI cZ aX X t ++ wY cI cZ aY Y t) := by
  obtain ⟨hX, hbl, hi, hL⟩ := S
  have hbA : ¬ (fun q => s.heap.size ≤ q) b := Nat.not_le.mpr hbl
  refine G_aload_n C 1 dL_law_553 rfl rfl ?_
  refine G_callVF (v := .int (x_best X)) (wr := wY cI cZ aY Y t) (w' := wX cI cZ aX X t) C [] 0 [0, 1, 2, 3, 4, 5, 6, 7, 8, 9, 10, 11, 12, 13, 14, 15, 16, 17, 18, 19, 20, 21, 22, 23, 24, 25, 26, 27] [28, 29, 30, 31, 32, 33, 34, 35, 36, 37, 38, 39, 40, 41, 42, 43, 44] dL_law_554 (c_X10_show h.P h.s.1 h.xq h.xB) wm_691 wm_692 wm_693 wm_50 wm_694 xc_0 rfl ydc_X10_show rfl ⟨Nat.le_of_ble_eq_true rfl, Nat.le_of_ble_eq_true rfl⟩ ⟨rfl, rfl⟩ ⟨Nat.le_of_ble_eq_true rfl, Nat.le_of_ble_eq_true rfl⟩ (Nat.le_of_ble_eq_true rfl) rfl fx0 fd1 fx1 fx2 fd2 fd3 ?_
  refine G_aload_n C 2 dL_law_557 rfl rfl ?_
  refine G_callVF (v := .int (y_show Y)) (wr := wX cI cZ aX X t) (w' := wY cI cZ aY Y t) C [] 0 [0, 1, 2, 3, 4, 5, 6, 7, 8, 9, 10, 11, 12, 13, 14, 15, 16] [17, 18, 19, 20, 21, 22, 23, 24, 25, 26, 27, 28, 29, 30, 31, 32, 33, 34, 35, 36, 37, 38, 39, 40, 41, 42, 43, 44] dL_law_558 (c_X11_show h.z h.ysm h.yq h.yP h.yB) wm_1056 wm_1057 wm_1058 wm_61 wm_1059 yc_0 rfl ydc_X11_show rfl ⟨Nat.le_of_ble_eq_true rfl, Nat.le_of_ble_eq_true rfl⟩ ⟨rfl, rfl⟩ ⟨Nat.le_of_ble_eq_true rfl, Nat.le_of_ble_eq_true rfl⟩ (Nat.le_of_ble_eq_true rfl) rfl fy0 fd4 fy1 fy2 fd5 fd6 ?_
  have q := (And.intro (eq_show h) h)
  exact G_icmp_eq (tgt := 764) C dL_law_561 (by decide) (fun _ => k _ _ _ q.2) (fun q2 => absurd q.1 q2)
set_option maxHeartbeats 4000000 in
set_option maxRecDepth 100000 in
theorem law_hears (C : lawC p s m meth c D cI cZ b) (S : lawS s b L i xs) (h : Rel X Y) (k : lawK p l e s m below meth c D cI cZ b i aX aY) : lawG p l e s m below meth c D b 566 [(0, .ref b), (1, .ref (aX 0)), (2, .ref (aY 0)), (3, .int (nI i))] [] (wX cI cZ aX X t ++ wY cI cZ aY Y t) := by
  obtain ⟨hX, hbl, hi, hL⟩ := S
  have hbA : ¬ (fun q => s.heap.size ≤ q) b := Nat.not_le.mpr hbl
  refine G_aload_n C 1 dL_law_566 rfl rfl ?_
  refine G_aload_n C 0 dL_law_567 rfl rfl ?_
  refine G_iload_n C 3 dL_law_568 rfl rfl ?_
  refine G_iconst C dL_law_569 kI_1 ?_
  refine G_iaddN C dL_law_570 ?_
  refine G_sld C hX hbl hbA (by omega) (by omega) dL_law_571 ?_
  refine G_aload_n C 0 dL_law_572 rfl rfl ?_
  refine G_iload_n C 3 dL_law_573 rfl rfl ?_
  refine G_iconst C dL_law_574 kI_2 ?_
  refine G_iaddN C dL_law_575 ?_
  refine G_sld C hX hbl hbA (by omega) (by omega) dL_law_576 ?_
  refine G_callVF (v := .int ((x_hears X (xs (i + 1)) (xs (i + 2))).1)) (wr := wY cI cZ aY Y t) (w' := wX cI cZ aX (x_hears X (xs (i + 1)) (xs (i + 2))).2 t) C [.int (xs (i + 1)), .int (xs (i + 2))] 0 [0, 1, 2, 3, 4, 5, 6, 7, 8, 9, 10, 11, 12, 13, 14, 15, 16, 17, 18, 19, 20, 21, 22, 23, 24, 25, 26, 27] [28, 29, 30, 31, 32, 33, 34, 35, 36, 37, 38, 39, 40, 41, 42, 43, 44] dL_law_577 (c_X10_hears h.xB) wm_707 wm_708 wm_709 wm_50 wm_710 xc_0 rfl ydc_X10_hears rfl ⟨Nat.le_of_ble_eq_true rfl, Nat.le_of_ble_eq_true rfl⟩ ⟨rfl, rfl⟩ ⟨Nat.le_of_ble_eq_true rfl, Nat.le_of_ble_eq_true rfl⟩ (Nat.le_of_ble_eq_true rfl) rfl fx0 fd1 fx1 fx2 fd2 fd3 ?_
  refine G_aload_n C 2 dL_law_580 rfl rfl ?_
  refine G_aload_n C 0 dL_law_581 rfl rfl ?_
  refine G_iload_n C 3 dL_law_582 rfl rfl ?_
  refine G_iconst C dL_law_583 kI_1 ?_
  refine G_iaddN C dL_law_584 ?_
  refine G_sld C hX hbl hbA (by omega) (by omega) dL_law_585 ?_
  refine G_aload_n C 0 dL_law_586 rfl rfl ?_
  refine G_iload_n C 3 dL_law_587 rfl rfl ?_
  refine G_iconst C dL_law_588 kI_2 ?_
  refine G_iaddN C dL_law_589 ?_
  refine G_sld C hX hbl hbA (by omega) (by omega) dL_law_590 ?_
  refine G_callVF (v := .int ((y_hears Y (xs (i + 1)) (xs (i + 2))).1)) (wr := wX cI cZ aX (x_hears X (xs (i + 1)) (xs (i + 2))).2 t) (w' := wY cI cZ aY (y_hears Y (xs (i + 1)) (xs (i + 2))).2 t) C [.int (xs (i + 1)), .int (xs (i + 2))] 0 [0, 1, 2, 3, 4, 5, 6, 7, 8, 9, 10, 11, 12, 13, 14, 15, 16] [17, 18, 19, 20, 21, 22, 23, 24, 25, 26, 27, 28, 29, 30, 31, 32, 33, 34, 35, 36, 37, 38, 39, 40, 41, 42, 43, 44] dL_law_591 (c_X11_hears h.z h.yhm h.yB) wm_1060 wm_1061 wm_1062 wm_61 wm_1063 yc_0 rfl ydc_X11_hears rfl ⟨Nat.le_of_ble_eq_true rfl, Nat.le_of_ble_eq_true rfl⟩ ⟨rfl, rfl⟩ ⟨Nat.le_of_ble_eq_true rfl, Nat.le_of_ble_eq_true rfl⟩ (Nat.le_of_ble_eq_true rfl) rfl fy0 fd4 fy1 fy2 fd5 fd6 ?_
  have q := rl_hears h (xs (i + 1)) (xs (i + 2))
  exact G_icmp_eq (tgt := 764) C dL_law_594 (by decide) (fun _ => k _ _ _ q.2) (fun q2 => absurd q.1 q2)
set_option maxHeartbeats 4000000 in
set_option maxRecDepth 100000 in
theorem law_forget (C : lawC p s m meth c D cI cZ b) (S : lawS s b L i xs) (h : Rel X Y) (k : lawK p l e s m below meth c D cI cZ b i aX aY) : lawG p l e s m below meth c D b 599 [(0, .ref b), (1, .ref (aX 0)), (2, .ref (aY 0)), (3, .int (nI i))] [] (wX cI cZ aX X t ++ wY cI cZ aY Y t) := by
  obtain ⟨hX, hbl, hi, hL⟩ := S
  have hbA : ¬ (fun q => s.heap.size ≤ q) b := Nat.not_le.mpr hbl
  refine G_aload_n C 1 dL_law_599 rfl rfl ?_
  refine G_callVF (v := .int (nI (X 21 4 + X 24 4))) (wr := wY cI cZ aY Y t) (w' := wX cI cZ aX (ms (ms X 21 4 0) 24 4 0) t) C [] 0 [0, 1, 2, 3, 4, 5, 6, 7, 8, 9, 10, 11, 12, 13, 14, 15, 16, 17, 18, 19, 20, 21, 22, 23, 24, 25, 26, 27] [28, 29, 30, 31, 32, 33, 34, 35, 36, 37, 38, 39, 40, 41, 42, 43, 44] dL_law_600 (c_X10_forget) wm_715 wm_716 wm_717 wm_50 wm_718 xc_0 rfl ydc_X10_forget rfl ⟨Nat.le_of_ble_eq_true rfl, Nat.le_of_ble_eq_true rfl⟩ ⟨rfl, rfl⟩ ⟨Nat.le_of_ble_eq_true rfl, Nat.le_of_ble_eq_true rfl⟩ (Nat.le_of_ble_eq_true rfl) rfl fx0 fd1 fx1 fx2 fd2 fd3 ?_
  refine G_aload_n C 2 dL_law_603 rfl rfl ?_
  refine G_callVF (v := .int (nI (Y 0 22 + Y 0 25))) (wr := wX cI cZ aX (ms (ms X 21 4 0) 24 4 0) t) (w' := wY cI cZ aY (ms (ms Y 0 22 0) 0 25 0) t) C [] 0 [0, 1, 2, 3, 4, 5, 6, 7, 8, 9, 10, 11, 12, 13, 14, 15, 16] [17, 18, 19, 20, 21, 22, 23, 24, 25, 26, 27, 28, 29, 30, 31, 32, 33, 34, 35, 36, 37, 38, 39, 40, 41, 42, 43, 44] dL_law_604 (c_X11_forget h.z) wm_1064 wm_1065 wm_1066 wm_61 wm_1067 yc_0 rfl ydc_X11_forget rfl ⟨Nat.le_of_ble_eq_true rfl, Nat.le_of_ble_eq_true rfl⟩ ⟨rfl, rfl⟩ ⟨Nat.le_of_ble_eq_true rfl, Nat.le_of_ble_eq_true rfl⟩ (Nat.le_of_ble_eq_true rfl) rfl fy0 fd4 fy1 fy2 fd5 fd6 ?_
  have q := rl_forget h
  exact G_icmp_eq (tgt := 764) C dL_law_607 (by decide) (fun _ => k _ _ _ q.2) (fun q2 => absurd q.1 q2)
set_option maxHeartbeats 4000000 in
set_option maxRecDepth 100000 in
theorem law_years (C : lawC p s m meth c D cI cZ b) (S : lawS s b L i xs) (h : Rel X Y) (k : lawK p l e s m below meth c D cI cZ b i aX aY) : lawG p l e s m below meth c D b 612 [(0, .ref b), (1, .ref (aX 0)), (2, .ref (aY 0)), (3, .int (nI i))] [] (wX cI cZ aX X t ++ wY cI cZ aY Y t) := by
  obtain ⟨hX, hbl, hi, hL⟩ := S
  have hbA : ¬ (fun q => s.heap.size ≤ q) b := Nat.not_le.mpr hbl
  refine G_aload_n C 1 dL_law_612 rfl rfl ?_
  refine G_callVF (v := .int (nI (x_py X))) (wr := wY cI cZ aY Y t) (w' := wX cI cZ aX X t) C [] 0 [0, 1, 2, 3, 4, 5, 6, 7, 8, 9, 10, 11, 12, 13, 14, 15, 16, 17, 18, 19, 20, 21, 22, 23, 24, 25, 26, 27] [28, 29, 30, 31, 32, 33, 34, 35, 36, 37, 38, 39, 40, 41, 42, 43, 44] dL_law_613 (c_X10_years h.b.1 h.xB) wm_719 wm_720 wm_721 wm_50 wm_722 xc_0 rfl ydc_X10_years rfl ⟨Nat.le_of_ble_eq_true rfl, Nat.le_of_ble_eq_true rfl⟩ ⟨rfl, rfl⟩ ⟨Nat.le_of_ble_eq_true rfl, Nat.le_of_ble_eq_true rfl⟩ (Nat.le_of_ble_eq_true rfl) rfl fx0 fd1 fx1 fx2 fd2 fd3 ?_
  refine G_aload_n C 2 dL_law_616 rfl rfl ?_
  refine G_callVF (v := .int (nI (y_yrf Y 9))) (wr := wX cI cZ aX X t) (w' := wY cI cZ aY Y t) C [] 0 [0, 1, 2, 3, 4, 5, 6, 7, 8, 9, 10, 11, 12, 13, 14, 15, 16] [17, 18, 19, 20, 21, 22, 23, 24, 25, 26, 27, 28, 29, 30, 31, 32, 33, 34, 35, 36, 37, 38, 39, 40, 41, 42, 43, 44] dL_law_617 (c_X11_years h.z h.yhm h.yB) wm_1068 wm_1069 wm_1070 wm_61 wm_1071 yc_0 rfl ydc_X11_years rfl ⟨Nat.le_of_ble_eq_true rfl, Nat.le_of_ble_eq_true rfl⟩ ⟨rfl, rfl⟩ ⟨Nat.le_of_ble_eq_true rfl, Nat.le_of_ble_eq_true rfl⟩ (Nat.le_of_ble_eq_true rfl) rfl fy0 fd4 fy1 fy2 fd5 fd6 ?_
  have q := (And.intro (congrArg nI (eq_years h)) h)
  exact G_icmp_eq (tgt := 764) C dL_law_620 (by decide) (fun _ => k _ _ _ q.2) (fun q2 => absurd q.1 q2)
set_option maxHeartbeats 4000000 in
set_option maxRecDepth 100000 in
theorem law_letIn (C : lawC p s m meth c D cI cZ b) (S : lawS s b L i xs) (h : Rel X Y) (k : lawK p l e s m below meth c D cI cZ b i aX aY) : lawG p l e s m below meth c D b 625 [(0, .ref b), (1, .ref (aX 0)), (2, .ref (aY 0)), (3, .int (nI i))] [] (wX cI cZ aX X t ++ wY cI cZ aY Y t) := by
  obtain ⟨hX, hbl, hi, hL⟩ := S
  have hbA : ¬ (fun q => s.heap.size ≤ q) b := Nat.not_le.mpr hbl
  refine G_aload_n C 1 dL_law_625 rfl rfl ?_
  refine G_aload_n C 0 dL_law_626 rfl rfl ?_
  refine G_iload_n C 3 dL_law_627 rfl rfl ?_
  refine G_iconst C dL_law_628 kI_1 ?_
  refine G_iaddN C dL_law_629 ?_
  refine G_sld C hX hbl hbA (by omega) (by omega) dL_law_630 ?_
  refine G_callVF (v := .int (x_letIn X (xs (i + 1)))) (wr := wY cI cZ aY Y t) (w' := wX cI cZ aX X t) C [.int (xs (i + 1))] 0 [0, 1, 2, 3, 4, 5, 6, 7, 8, 9, 10, 11, 12, 13, 14, 15, 16, 17, 18, 19, 20, 21, 22, 23, 24, 25, 26, 27] [28, 29, 30, 31, 32, 33, 34, 35, 36, 37, 38, 39, 40, 41, 42, 43, 44] dL_law_631 (c_X10_letIn h.N h.xB) wm_731 wm_732 wm_733 wm_50 wm_734 xc_0 rfl ydc_X10_letIn rfl ⟨Nat.le_of_ble_eq_true rfl, Nat.le_of_ble_eq_true rfl⟩ ⟨rfl, rfl⟩ ⟨Nat.le_of_ble_eq_true rfl, Nat.le_of_ble_eq_true rfl⟩ (Nat.le_of_ble_eq_true rfl) rfl fx0 fd1 fx1 fx2 fd2 fd3 ?_
  refine G_aload_n C 2 dL_law_634 rfl rfl ?_
  refine G_aload_n C 0 dL_law_635 rfl rfl ?_
  refine G_iload_n C 3 dL_law_636 rfl rfl ?_
  refine G_iconst C dL_law_637 kI_1 ?_
  refine G_iaddN C dL_law_638 ?_
  refine G_sld C hX hbl hbA (by omega) (by omega) dL_law_639 ?_
  refine G_callVF (v := .int (y_letIn Y (xs (i + 1)))) (wr := wX cI cZ aX X t) (w' := wY cI cZ aY Y t) C [.int (xs (i + 1))] 0 [0, 1, 2, 3, 4, 5, 6, 7, 8, 9, 10, 11, 12, 13, 14, 15, 16] [17, 18, 19, 20, 21, 22, 23, 24, 25, 26, 27, 28, 29, 30, 31, 32, 33, 34, 35, 36, 37, 38, 39, 40, 41, 42, 43, 44] dL_law_640 (c_X11_letIn h.z h.yN h.yB) wm_1072 wm_1073 wm_1074 wm_61 wm_1075 yc_0 rfl ydc_X11_letIn rfl ⟨Nat.le_of_ble_eq_true rfl, Nat.le_of_ble_eq_true rfl⟩ ⟨rfl, rfl⟩ ⟨Nat.le_of_ble_eq_true rfl, Nat.le_of_ble_eq_true rfl⟩ (Nat.le_of_ble_eq_true rfl) rfl fy0 fd4 fy1 fy2 fd5 fd6 ?_
  have q := (And.intro (eq_letIn h (xs (i + 1))) h)
  exact G_icmp_eq (tgt := 764) C dL_law_643 (by decide) (fun _ => k _ _ _ q.2) (fun q2 => absurd q.1 q2)
set_option maxHeartbeats 4000000 in
set_option maxRecDepth 100000 in
theorem law_rate (C : lawC p s m meth c D cI cZ b) (S : lawS s b L i xs) (h : Rel X Y) (k : lawK p l e s m below meth c D cI cZ b i aX aY) : lawG p l e s m below meth c D b 648 [(0, .ref b), (1, .ref (aX 0)), (2, .ref (aY 0)), (3, .int (nI i))] [] (wX cI cZ aX X t ++ wY cI cZ aY Y t) := by
  obtain ⟨hX, hbl, hi, hL⟩ := S
  have hbA : ¬ (fun q => s.heap.size ≤ q) b := Nat.not_le.mpr hbl
  refine G_aload_n C 1 dL_law_648 rfl rfl ?_
  refine G_aload_n C 0 dL_law_649 rfl rfl ?_
  refine G_iload_n C 3 dL_law_650 rfl rfl ?_
  refine G_iconst C dL_law_651 kI_1 ?_
  refine G_iaddN C dL_law_652 ?_
  refine G_sld C hX hbl hbA (by omega) (by omega) dL_law_653 ?_
  refine G_aload_n C 0 dL_law_654 rfl rfl ?_
  refine G_iload_n C 3 dL_law_655 rfl rfl ?_
  refine G_iconst C dL_law_656 kI_2 ?_
  refine G_iaddN C dL_law_657 ?_
  refine G_sld C hX hbl hbA (by omega) (by omega) dL_law_658 ?_
  refine G_callVF (v := .int ((x_rateT X (xs (i + 1)) (xs (i + 2)) t).1)) (wr := wY cI cZ aY Y t) (w' := wX cI cZ aX X (x_rateT X (xs (i + 1)) (xs (i + 2)) t).2) C [.int (xs (i + 1)), .int (xs (i + 2))] 0 [0, 1, 2, 3, 4, 5, 6, 7, 8, 9, 10, 11, 12, 13, 14, 15, 16, 17, 18, 19, 20, 21, 22, 23, 24, 25, 26, 27] [28, 29, 30, 31, 32, 33, 34, 35, 36, 37, 38, 39, 40, 41, 42, 43, 44] dL_law_659 (c_X10_rate h.xm h.N h.xB) wm_747 wm_748 wm_749 wm_50 wm_750 xc_0 rfl ydc_X10_rate rfl ⟨Nat.le_of_ble_eq_true rfl, Nat.le_of_ble_eq_true rfl⟩ ⟨rfl, rfl⟩ ⟨Nat.le_of_ble_eq_true rfl, Nat.le_of_ble_eq_true rfl⟩ (Nat.le_of_ble_eq_true rfl) rfl fx0 fd1 fx1 fx2 fd2 fd3 ?_
  refine G_aload_n C 2 dL_law_662 rfl rfl ?_
  refine G_aload_n C 0 dL_law_663 rfl rfl ?_
  refine G_iload_n C 3 dL_law_664 rfl rfl ?_
  refine G_iconst C dL_law_665 kI_1 ?_
  refine G_iaddN C dL_law_666 ?_
  refine G_sld C hX hbl hbA (by omega) (by omega) dL_law_667 ?_
  refine G_aload_n C 0 dL_law_668 rfl rfl ?_
  refine G_iload_n C 3 dL_law_669 rfl rfl ?_
  refine G_iconst C dL_law_670 kI_2 ?_
  refine G_iaddN C dL_law_671 ?_
  refine G_sld C hX hbl hbA (by omega) (by omega) dL_law_672 ?_
  refine G_callVF (v := .int ((y_rate Y (xs (i + 1)) (xs (i + 2)) t).1)) (wr := wX cI cZ aX X (x_rateT X (xs (i + 1)) (xs (i + 2)) t).2) (w' := wY cI cZ aY Y (y_rate Y (xs (i + 1)) (xs (i + 2)) t).2) C [.int (xs (i + 1)), .int (xs (i + 2))] 0 [0, 1, 2, 3, 4, 5, 6, 7, 8, 9, 10, 11, 12, 13, 14, 15, 16] [17, 18, 19, 20, 21, 22, 23, 24, 25, 26, 27, 28, 29, 30, 31, 32, 33, 34, 35, 36, 37, 38, 39, 40, 41, 42, 43, 44] dL_law_673 (c_X11_rate h.z h.ym h.yN h.yB) wm_1080 wm_1081 wm_1082 wm_61 wm_1083 yc_0 rfl ydc_X11_rate rfl ⟨Nat.le_of_ble_eq_true rfl, Nat.le_of_ble_eq_true rfl⟩ ⟨rfl, rfl⟩ ⟨Nat.le_of_ble_eq_true rfl, Nat.le_of_ble_eq_true rfl⟩ (Nat.le_of_ble_eq_true rfl) rfl fy0 fd4 fy1 fy2 fd5 fd6 ?_
  have q := eq_rate h (xs (i + 1)) (xs (i + 2)) t
  rw [← q]
  exact G_icmp_eq (tgt := 764) C dL_law_676 (by decide) (fun _ => k _ _ _ h) (fun q2 => absurd rfl q2)
set_option maxHeartbeats 4000000 in
set_option maxRecDepth 100000 in
theorem law_keep (C : lawC p s m meth c D cI cZ b) (S : lawS s b L i xs) (h : Rel X Y) (k : lawK p l e s m below meth c D cI cZ b i aX aY) : lawG p l e s m below meth c D b 681 [(0, .ref b), (1, .ref (aX 0)), (2, .ref (aY 0)), (3, .int (nI i))] [] (wX cI cZ aX X t ++ wY cI cZ aY Y t) := by
  obtain ⟨hX, hbl, hi, hL⟩ := S
  have hbA : ¬ (fun q => s.heap.size ≤ q) b := Nat.not_le.mpr hbl
  refine G_aload_n C 1 dL_law_681 rfl rfl ?_
  refine G_aload_n C 0 dL_law_682 rfl rfl ?_
  refine G_iload_n C 3 dL_law_683 rfl rfl ?_
  refine G_iconst C dL_law_684 kI_1 ?_
  refine G_iaddN C dL_law_685 ?_
  refine G_sld C hX hbl hbA (by omega) (by omega) dL_law_686 ?_
  refine G_callVF (v := .int ((x_keepT X (xs (i + 1))).1)) (wr := wY cI cZ aY Y t) (w' := wX cI cZ aX (x_keepT X (xs (i + 1))).2 t) C [.int (xs (i + 1))] 0 [0, 1, 2, 3, 4, 5, 6, 7, 8, 9, 10, 11, 12, 13, 14, 15, 16, 17, 18, 19, 20, 21, 22, 23, 24, 25, 26, 27] [28, 29, 30, 31, 32, 33, 34, 35, 36, 37, 38, 39, 40, 41, 42, 43, 44] dL_law_687 (c_X10_keep) wm_789 wm_790 wm_791 wm_50 wm_792 xc_0 rfl ydc_X10_keep rfl ⟨Nat.le_of_ble_eq_true rfl, Nat.le_of_ble_eq_true rfl⟩ ⟨rfl, rfl⟩ ⟨Nat.le_of_ble_eq_true rfl, Nat.le_of_ble_eq_true rfl⟩ (Nat.le_of_ble_eq_true rfl) rfl fx0 fd1 fx1 fx2 fd2 fd3 ?_
  refine G_aload_n C 2 dL_law_690 rfl rfl ?_
  refine G_aload_n C 0 dL_law_691 rfl rfl ?_
  refine G_iload_n C 3 dL_law_692 rfl rfl ?_
  refine G_iconst C dL_law_693 kI_1 ?_
  refine G_iaddN C dL_law_694 ?_
  refine G_sld C hX hbl hbA (by omega) (by omega) dL_law_695 ?_
  refine G_callVF (v := .int ((y_keep Y (xs (i + 1))).1)) (wr := wX cI cZ aX (x_keepT X (xs (i + 1))).2 t) (w' := wY cI cZ aY (y_keep Y (xs (i + 1))).2 t) C [.int (xs (i + 1))] 0 [0, 1, 2, 3, 4, 5, 6, 7, 8, 9, 10, 11, 12, 13, 14, 15, 16] [17, 18, 19, 20, 21, 22, 23, 24, 25, 26, 27, 28, 29, 30, 31, 32, 33, 34, 35, 36, 37, 38, 39, 40, 41, 42, 43, 44] dL_law_696 (c_X11_keep h.z h.yB) wm_1090 wm_1091 wm_1092 wm_61 wm_1093 yc_0 rfl ydc_X11_keep rfl ⟨Nat.le_of_ble_eq_true rfl, Nat.le_of_ble_eq_true rfl⟩ ⟨rfl, rfl⟩ ⟨Nat.le_of_ble_eq_true rfl, Nat.le_of_ble_eq_true rfl⟩ (Nat.le_of_ble_eq_true rfl) rfl fy0 fd4 fy1 fy2 fd5 fd6 ?_
  have q := rl_keep h (xs (i + 1))
  exact G_icmp_eq (tgt := 764) C dL_law_699 (by decide) (fun _ => k _ _ _ q.2) (fun q2 => absurd q.1 q2)
set_option maxHeartbeats 4000000 in
set_option maxRecDepth 100000 in
theorem law_back (C : lawC p s m meth c D cI cZ b) (S : lawS s b L i xs) (h : Rel X Y) (k : lawK p l e s m below meth c D cI cZ b i aX aY) : lawG p l e s m below meth c D b 704 [(0, .ref b), (1, .ref (aX 0)), (2, .ref (aY 0)), (3, .int (nI i))] [] (wX cI cZ aX X t ++ wY cI cZ aY Y t) := by
  obtain ⟨hX, hbl, hi, hL⟩ := S
  have hbA : ¬ (fun q => s.heap.size ≤ q) b := Nat.not_le.mpr hbl
  refine G_aload_n C 1 dL_law_704 rfl rfl ?_
  refine G_aload_n C 0 dL_law_705 rfl rfl ?_
  refine G_iload_n C 3 dL_law_706 rfl rfl ?_
  refine G_iconst C dL_law_707 kI_1 ?_
  refine G_iaddN C dL_law_708 ?_
  refine G_sld C hX hbl hbA (by omega) (by omega) dL_law_709 ?_
  refine G_callVF (v := .int ((x_backT X (xs (i + 1))).1)) (wr := wY cI cZ aY Y t) (w' := wX cI cZ aX (x_backT X (xs (i + 1))).2 t) C [.int (xs (i + 1))] 0 [0, 1, 2, 3, 4, 5, 6, 7, 8, 9, 10, 11, 12, 13, 14, 15, 16, 17, 18, 19, 20, 21, 22, 23, 24, 25, 26, 27] [28, 29, 30, 31, 32, 33, 34, 35, 36, 37, 38, 39, 40, 41, 42, 43, 44] dL_law_710 (c_X10_back) wm_801 wm_802 wm_803 wm_50 wm_804 xc_0 rfl ydc_X10_back rfl ⟨Nat.le_of_ble_eq_true rfl, Nat.le_of_ble_eq_true rfl⟩ ⟨rfl, rfl⟩ ⟨Nat.le_of_ble_eq_true rfl, Nat.le_of_ble_eq_true rfl⟩ (Nat.le_of_ble_eq_true rfl) rfl fx0 fd1 fx1 fx2 fd2 fd3 ?_
  refine G_aload_n C 2 dL_law_713 rfl rfl ?_
  refine G_aload_n C 0 dL_law_714 rfl rfl ?_
  refine G_iload_n C 3 dL_law_715 rfl rfl ?_
  refine G_iconst C dL_law_716 kI_1 ?_
  refine G_iaddN C dL_law_717 ?_
  refine G_sld C hX hbl hbA (by omega) (by omega) dL_law_718 ?_
  refine G_callVF (v := .int ((y_back Y (xs (i + 1))).1)) (wr := wX cI cZ aX (x_backT X (xs (i + 1))).2 t) (w' := wY cI cZ aY (y_back Y (xs (i + 1))).2 t) C [.int (xs (i + 1))] 0 [0, 1, 2, 3, 4, 5, 6, 7, 8, 9, 10, 11, 12, 13, 14, 15, 16] [17, 18, 19, 20, 21, 22, 23, 24, 25, 26, 27, 28, 29, 30, 31, 32, 33, 34, 35, 36, 37, 38, 39, 40, 41, 42, 43, 44] dL_law_719 (c_X11_back h.z h.yB) wm_1094 wm_1095 wm_1096 wm_61 wm_1097 yc_0 rfl ydc_X11_back rfl ⟨Nat.le_of_ble_eq_true rfl, Nat.le_of_ble_eq_true rfl⟩ ⟨rfl, rfl⟩ ⟨Nat.le_of_ble_eq_true rfl, Nat.le_of_ble_eq_true rfl⟩ (Nat.le_of_ble_eq_true rfl) rfl fy0 fd4 fy1 fy2 fd5 fd6 ?_
  have q := rl_back h (xs (i + 1))
  exact G_icmp_eq (tgt := 764) C dL_law_722 (by decide) (fun _ => k _ _ _ q.2) (fun q2 => absurd q.1 q2)
set_option maxHeartbeats 4000000 in
set_option maxRecDepth 100000 in
theorem law_count (C : lawC p s m meth c D cI cZ b) (S : lawS s b L i xs) (h : Rel X Y) (k : lawK p l e s m below meth c D cI cZ b i aX aY) : lawG p l e s m below meth c D b 727 [(0, .ref b), (1, .ref (aX 0)), (2, .ref (aY 0)), (3, .int (nI i))] [] (wX cI cZ aX X t ++ wY cI cZ aY Y t) := by
  obtain ⟨hX, hbl, hi, hL⟩ := S
  have hbA : ¬ (fun q => s.heap.size ≤ q) b := Nat.not_le.mpr hbl
  refine G_aload_n C 1 dL_law_727 rfl rfl ?_
  refine G_aload_n C 0 dL_law_728 rfl rfl ?_
  refine G_iload_n C 3 dL_law_729 rfl rfl ?_
  refine G_iconst C dL_law_730 kI_1 ?_
  refine G_iaddN C dL_law_731 ?_
  refine G_sld C hX hbl hbA (by omega) (by omega) dL_law_732 ?_
  refine G_callVF (v := .int (x_count X (xs (i + 1)))) (wr := wY cI cZ aY Y t) (w' := wX cI cZ aX X t) C [.int (xs (i + 1))] 0 [0, 1, 2, 3, 4, 5, 6, 7, 8, 9, 10, 11, 12, 13, 14, 15, 16, 17, 18, 19, 20, 21, 22, 23, 24, 25, 26, 27] [28, 29, 30, 31, 32, 33, 34, 35, 36, 37, 38, 39, 40, 41, 42, 43, 44] dL_law_733 (c_X10_count) wm_815 wm_816 wm_817 wm_50 wm_818 xc_0 rfl ydc_X10_count rfl ⟨Nat.le_of_ble_eq_true rfl, Nat.le_of_ble_eq_true rfl⟩ ⟨rfl, rfl⟩ ⟨Nat.le_of_ble_eq_true rfl, Nat.le_of_ble_eq_true rfl⟩ (Nat.le_of_ble_eq_true rfl) rfl fx0 fd1 fx1 fx2 fd2 fd3 ?_
  refine G_aload_n C 2 dL_law_736 rfl rfl ?_
  refine G_aload_n C 0 dL_law_737 rfl rfl ?_
  refine G_iload_n C 3 dL_law_738 rfl rfl ?_
  refine G_iconst C dL_law_739 kI_1 ?_
  refine G_iaddN C dL_law_740 ?_
  refine G_sld C hX hbl hbA (by omega) (by omega) dL_law_741 ?_
  refine G_callVF (v := .int (y_count Y (xs (i + 1)))) (wr := wX cI cZ aX X t) (w' := wY cI cZ aY Y t) C [.int (xs (i + 1))] 0 [0, 1, 2, 3, 4, 5, 6, 7, 8, 9, 10, 11, 12, 13, 14, 15, 16] [17, 18, 19, 20, 21, 22, 23, 24, 25, 26, 27, 28, 29, 30, 31, 32, 33, 34, 35, 36, 37, 38, 39, 40, 41, 42, 43, 44] dL_law_742 (c_X11_count h.z) wm_1098 wm_1099 wm_1100 wm_61 wm_1101 yc_0 rfl ydc_X11_count rfl ⟨Nat.le_of_ble_eq_true rfl, Nat.le_of_ble_eq_true rfl⟩ ⟨rfl, rfl⟩ ⟨Nat.le_of_ble_eq_true rfl, Nat.le_of_ble_eq_true rfl⟩ (Nat.le_of_ble_eq_true rfl) rfl fy0 fd4 fy1 fy2 fd5 fd6 ?_
  have q := (And.intro (eq_count h (xs (i + 1))) h)
  exact G_icmp_eq (tgt := 764) C dL_law_745 (by decide) (fun _ => k _ _ _ q.2) (fun q2 => absurd q.1 q2)
set_option maxHeartbeats 4000000 in
set_option maxRecDepth 100000 in
theorem law_trace (C : lawC p s m meth c D cI cZ b) (S : lawS s b L i xs) (h : Rel X Y) (k : lawK p l e s m below meth c D cI cZ b i aX aY) : lawG p l e s m below meth c D b 750 [(0, .ref b), (1, .ref (aX 0)), (2, .ref (aY 0)), (3, .int (nI i))] [] (wX cI cZ aX X t ++ wY cI cZ aY Y t) := by
  obtain ⟨hX, hbl, hi, hL⟩ := S
  have hbA : ¬ (fun q => s.heap.size ≤ q) b := Nat.not_le.mpr hbl
  refine G_aload_n C 1 dL_law_750 rfl rfl ?_
  refine G_callVF (v := .long t) (wr := wY cI cZ aY Y t) (w' := wX cI cZ aX X t) C [] 0 [0, 1, 2, 3, 4, 5, 6, 7, 8, 9, 10, 11, 12, 13, 14, 15, 16, 17, 18, 19, 20, 21, 22, 23, 24, 25, 26, 27] [28, 29, 30, 31, 32, 33, 34, 35, 36, 37, 38, 39, 40, 41, 42, 43, 44] dL_law_751 (c_X10_trace) wm_819 wm_820 wm_821 wm_50 wm_822 xc_0 rfl ydc_X10_trace rfl ⟨Nat.le_of_ble_eq_true rfl, Nat.le_of_ble_eq_true rfl⟩ ⟨rfl, rfl⟩ ⟨Nat.le_of_ble_eq_true rfl, Nat.le_of_ble_eq_true rfl⟩ (Nat.le_of_ble_eq_true rfl) rfl fx0 fd1 fx1 fx2 fd2 fd3 ?_
  refine G_aload_n C 2 dL_law_754 rfl rfl ?_
  refine G_callVF (v := .long t) (wr := wX cI cZ aX X t) (w' := wY cI cZ aY Y t) C [] 0 [0, 1, 2, 3, 4, 5, 6, 7, 8, 9, 10, 11, 12, 13, 14, 15, 16] [17, 18, 19, 20, 21, 22, 23, 24, 25, 26, 27, 28, 29, 30, 31, 32, 33, 34, 35, 36, 37, 38, 39, 40, 41, 42, 43, 44] dL_law_755 (c_X11_trace h.z) wm_1102 wm_1103 wm_1104 wm_61 wm_1105 yc_0 rfl ydc_X11_trace rfl ⟨Nat.le_of_ble_eq_true rfl, Nat.le_of_ble_eq_true rfl⟩ ⟨rfl, rfl⟩ ⟨Nat.le_of_ble_eq_true rfl, Nat.le_of_ble_eq_true rfl⟩ (Nat.le_of_ble_eq_true rfl) rfl fy0 fd4 fy1 fy2 fd5 fd6 ?_
  refine G_lcmp C dL_law_758 ?_
  exact G_if_eq (tgt := 764) C dL_law_759 (by decide) (fun _ => k _ _ _ h) (fun q2 => absurd (by simp [lg_cmp]) q2)
end LAW
