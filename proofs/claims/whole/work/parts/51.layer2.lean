def QcN (D : va_G) (w : va_W) (sz : Nat) (w' : (Nat → Nat) → va_W) : Array Value → State → Outcome → State → Prop := fun _ st o t => o = .returned none ∧ ∃ ad : Nat → Nat, va_P D vwCl (w' ad) t.heap ∧ va_D (va_A w sz) (w' ad) ∧ va_F (va_A w sz) st t
/-- a constructor's contract: from the world w, for some addresses ad the world is w' ad; mc cells and ms slots are new -/
def CN (l : Launch) (y : MethodName) (cc : ByteArray) (maxL : Nat) (rm : Room) (D : va_G) (tys : List (ClassId × FieldType)) (av : List Value) (w : va_W) (w' : (Nat → Nat) → va_W) (mc ms : Nat) : Prop :=
  ∀ sz, Met l y (.code y cc maxL none :: gw) rm (PcW D tys av w sz) (QcN D w sz w') mc ms (va_A w sz)
abbrev rmN (f n k z : Nat) : Room := { frames := f, cells := k, slots := z, locals := n }
section GN
variable {p : Program} {l : Launch} {e : Env} {R : Room} {s : State} {m : MethodId} {args : Array Value} {below : List Frame} {meth : Method} {c : Code} {D : va_G} {tys : List (ClassId × FieldType)} {A : Nat → Prop} {nL cells slots : Nat} {Q : State → Prop} {cc : ByteArray} {own : String} {pc : Nat} {lv lv' : List (Nat × Value)} {st : List Value} {w : va_W}
variable {cells' slots' : Nat}
theorem G_new (C : Cx p s m args meth c D tys A nL cc own) {ci N index : Nat} {Cn : String} {T : u_T} {fs : List Value} {w' : Nat → va_W} (ty : Nat → FieldType) (hd : decode cc pc = .ok (.new index, 3)) (hc : vwCl[ci]? = some (Cn, T, N)) (hin : ∀ w ∈ u_ws Cn T N, w ∈ gw) (hty : ∀ k, k < N → parseFieldDescriptor (T k).2.2.1 = some (ty k)) (hcl : Cond.classLink own index Cn ∈ gw) (hinst : Cond.instantiable Cn N ∈ gw) (hini : Cond.initialized Cn ∈ gw) (hfs : ∀ j, j < N → defaultValue (ty j) = vp_V fs j) (hcells : cells + 1 ≤ R.cells) (hslots : slots + N ≤ R.slots) (e1 : cells + 1 = cells') (e2 : slots + N = slots') (hw : ∀ q, w ++ [(q, .inr (ci, fs))] = w' q) (k : ∀ q : Nat, G p l e R s m args below meth c D A nL cells' slots' Q (pc + 3) lv (.ref q :: st) (w' q)) : G p l e R s m args below meth c D A nL cells slots Q (pc) (lv) (st) (w) := fun H locs ls hP hD hS hl => by
  subst e1; subst e2
  exact va_new C.x C.b C.ts hin ty hty C.ow (C.ts _ hcl) (C.ts _ hinst) (C.ts _ hini) C.K hP hD hS C.fr hc hfs hcells hslots hd (fun q H1 hP1 hD1 hS1 => k q H1 locs ls (hw q ▸ hP1) (hw q ▸ hD1) hS1 hl)
theorem G_newi {cI cZ : ClassId} (C : Cx p s m args meth c D (tyI cI cZ) A nL cc own) {n : Nat} {w' : Nat → va_W} (hd : decode cc pc = .ok (.newarray .int, 2)) (harr : Cond.arrayClass .int ∈ gw) (hn : n ≤ 200) (hcells : cells + 1 ≤ R.cells) (hslots : slots + n ≤ R.slots) (e1 : cells + 1 = cells') (e2 : slots + n = slots') (hw : ∀ q, w ++ [(q, .inl (cI, n, .inl (nA fun _ => 0)))] = w' q) (k : ∀ q : Nat, G p l e R s m args below meth c D A nL cells' slots' Q (pc + 2) lv (.ref q :: st) (w' q)) : G p l e R s m args below meth c D A nL cells slots Q (pc) (lv) (.int (nI n) :: st) (w) := fun H locs ls hP hD hS hl => by
  subst e1; subst e2
  refine va_newa C.x C.b (atype := .int) (ty := .int) (C.ts _ harr) rfl C.K hP hD hS C.fr (n := nI n) (N' := n) (a0 := (n, .inl (nA fun _ => 0))) (fun cA => rfl) (nI_pos (by omega)) (nI_clamp (by omega)) (by show n * 4 ≤ 536870912; omega) hcells hslots hd (fun q cA H1 hK1 hP1 hD1 hS1 => ?_)
  have f1 : s.vm.findClass ("[" ++ FieldType.int.toString) = some cI := (C.K.2 0 (cI, .int) rfl).2
  have f2 : s.vm.findClass ("[" ++ FieldType.int.toString) = some cA := (hK1.2 2 (cA, .int) rfl).2
  have f : cA = cI := Option.some.inj (f2.symm.trans f1)
  rw [f, hw q] at hP1 hD1
  exact k q H1 locs ls hP1 hD1 hS1 hl
theorem G_newz {cI cZ : ClassId} (C : Cx p s m args meth c D (tyI cI cZ) A nL cc own) {n : Nat} {w' : Nat → va_W} (hd : decode cc pc = .ok (.newarray .boolean, 2)) (harr : Cond.arrayClass .boolean ∈ gw) (hn : n ≤ 200) (hcells : cells + 1 ≤ R.cells) (hslots : slots + n ≤ R.slots) (e1 : cells + 1 = cells') (e2 : slots + n = slots') (hw : ∀ q, w ++ [(q, .inl (cZ, n, .inl (nA fun _ => 0)))] = w' q) (k : ∀ q : Nat, G p l e R s m args below meth c D A nL cells' slots' Q (pc + 2) lv (.ref q :: st) (w' q)) : G p l e R s m args below meth c D A nL cells slots Q (pc) (lv) (.int (nI n) :: st) (w) := fun H locs ls hP hD hS hl => by
  subst e1; subst e2
  refine va_newa C.x C.b (atype := .boolean) (ty := .boolean) (C.ts _ harr) rfl C.K hP hD hS C.fr (n := nI n) (N' := n) (a0 := (n, .inl (nA fun _ => 0))) (fun cA => rfl) (nI_pos (by omega)) (nI_clamp (by omega)) (by show n * 1 ≤ 536870912; omega) hcells hslots hd (fun q cA H1 hK1 hP1 hD1 hS1 => ?_)
  have f1 : s.vm.findClass ("[" ++ FieldType.boolean.toString) = some cZ := (C.K.2 1 (cZ, .boolean) rfl).2
  have f2 : s.vm.findClass ("[" ++ FieldType.boolean.toString) = some cA := (hK1.2 2 (cA, .boolean) rfl).2
  have f : cA = cZ := Option.some.inj (f2.symm.trans f1)
  rw [f, hw q] at hP1 hD1
  exact k q H1 locs ls hP1 hD1 hS1 hl
theorem G_objInit (C : Cx p s m args meth c D tys A nL cc own) {index a : Nat} (hd : decode cc pc = .ok (.invokespecial index, 3)) (h1 : Cond.methodLink own index Lib.objectInit ∈ gw) (h2 : Cond.instanceMethod Lib.objectInit ∈ gw) (h3 : Cond.code Lib.objectInit ⟨#[0xb1]⟩ 1 none ∈ gw) (hfr : 1 ≤ R.frames) (hlo : (st.map fun v => v.category).sum + 12 ≤ R.locals) (k : G p l e R s m args below meth c D A nL cells slots Q (pc + 3) (lv) (st) (w)) : G p l e R s m args below meth c D A nL cells slots Q (pc) (lv) (.ref a :: st) (w) := fun H locs ls hP hD hS hl => W.objInit C.x C.b C.ow (C.ts _ h1) (C.ts _ h2) (C.ts _ h3) rfl (by rw [C.ml]; exact hl.1) rfl hd hfr (by
  show 2 * 0 + (st.map fun v => v.category).sum + 12 ≤ R.locals
  omega) (k H locs ls hP hD hS hl)
theorem G_putF (C : Cx p s m args meth c D tys A nL cc own) {a ci N index : Nat} {ref Cn : String} {T : u_T} {fs : List Value} {v : Value} {w' : va_W} {ty : FieldType} (q0 k0 : Nat) (ty0 : Nat → FieldType) (hin2 : meth.name = "<init>") (hd : decode cc pc = .ok (.putfield index, 3)) (he : w[q0]? = some (a, .inr (ci, fs))) (hc : vwCl[ci]? = some (Cn, T, N)) (hin : ∀ w ∈ u_ws Cn T N, w ∈ gw) (hty : ∀ k, k < N → parseFieldDescriptor (T k).2.2.1 = some (ty0 k)) (hnm : ∀ a, a < N → ∀ b, b < N → a ≠ b → (T a).2.1 ≠ (T b).2.1) (hk : k0 < N) (hlink : Cond.fieldLink own index ref (T k0).2.1 (T k0).2.2.1 ∈ gw) (href : (T k0).1 = ref) (hfin : (T k0).2.2.2 = true) (hdecl : (T k0).1 = own) (hdsc : parseFieldDescriptor (T k0).2.2.1 = some ty) (hn : narrow ty v = v) (hfit : fits ty v = true) (hl0 : k0 < fs.length) (hw : w.set q0 (a, .inr (ci, fs.set k0 v)) = w') (k : G p l e R s m args below meth c D A nL cells slots Q (pc + 3) (lv) (st) (w')) : G p l e R s m args below meth c D A nL cells slots Q (pc) (lv) (v :: .ref a :: st) (w) := fun H locs ls hP hD hS hl => va_putF C.x C.b C.ts hin ty0 hty hnm C.ow C.K hP hD hS q0 he hc k0 hk (C.ts _ hlink) (fun x h => by rw [← href]; exact h) hfin hin2 hdecl hdsc hn hfit hl0 hd (fun H1 locs1 hP1 hD1 hS1 => k H1 locs1 ls (hw ▸ hP1) (hw ▸ hD1) hS1 hl)
/-- the world's cells in another order -/
theorem G_perm {w' : va_W} (ks : List Nat) (h1 : ks.filterMap (fun i => w[i]?) = w') (h2 : va_nd ks = true) (h3 : ks.map (fun i => w[i]?) = w'.map some) (k : G p l e R s m args below meth c D A nL cells slots Q (pc) (lv) (st) (w')) : G p l e R s m args below meth c D A nL cells slots Q (pc) (lv) (st) (w) := fun H locs ls hP hD hS hl => k H locs ls (hP.sub ks h1) (hD.sub ks h2 h3) hS hl
/-- a call on some of the world's cells: the rest stays -/
theorem G_runF {r : Option Value} {wc wr w' : va_W} {stk : List Value} {a : Array Value} (C : Cx p s m args meth c D tys A nL cc own) (isC isR : List Nat) (hC0 : isC.filterMap (fun i => w[i]?) = wc) (hCn : va_nd isC = true) (hC : isC.map (fun i => w[i]?) = wc.map some) (hR : isR.map (fun i => w[i]?) = wr.map some) (hRn : va_nd isR = true) (hdis : ∀ i ∈ isR, i ∉ isC)
    (hr : ∀ (H : Heap) (locs : List Loc) (ls : Array Slot), va_P D vwCl wc H → va_D A wc → lv_has ls nL lv → va_Run p l e R s m args below meth c H locs cells slots 0 0 (F0 m pc ls stk) st (QcW D wc H.size r w' a) (va_A wc H.size)) (k : G p l e R s m args below meth c D A nL cells slots Q (pc + 3) (lv) (r.toList ++ st) (wr ++ w')) : G p l e R s m args below meth c D A nL cells slots Q (pc) (lv) (stk) (w) := by
  intro H locs ls hP hD hS hl T hT X0
  have hPc := hP.sub isC hC0
  have hDc := hD.sub isC hCn hC
  have hF := va_free hD hS C.fr isC hC
  obtain ⟨v, st₀, t, T', L, h0, X', hL, e1, e2, ⟨hv, hP1, hD1, hz, hk⟩, stp⟩ := hr H locs ls hPc hDc hl T hT X0
  cases hv
  rw [h0] at hz hk
  rw [← e1] at hP1 hz hk
  obtain ⟨hPj, hDj⟩ := va_join hP hD isC isR hC hR hRn hdis hk hF hP1 hD1
  obtain ⟨t2, a1, b1⟩ := k T'.heap (locs ++ L) ls hPj hDj ⟨Nat.le_trans hS.1 hz, fun q h1 h2 => by rw [hk q (Nat.lt_of_lt_of_le h1 hS.1) (fun z => h2 (hF q z))]; exact hS.2.1 q h1 h2, fun q hq => by
      rcases List.mem_append.mp hq with h | h
      · exact hS.2.2 q h
      · exact hF _ (hL q h)⟩ hl T' rfl X'
  exact ⟨t2, stp t2 a1, b1⟩
theorem G_runN {wc wr : va_W} {w' : (Nat → Nat) → va_W} {w2 : (Nat → Nat) → va_W} {stk : List Value} {a : Array Value} {mc ms : Nat} (C : Cx p s m args meth c D tys A nL cc own) (isC isR : List Nat) (hC0 : isC.filterMap (fun i => w[i]?) = wc) (hCn : va_nd isC = true) (hC : isC.map (fun i => w[i]?) = wc.map some) (hR : isR.map (fun i => w[i]?) = wr.map some) (hRn : va_nd isR = true) (hdis : ∀ i ∈ isR, i ∉ isC) (e1 : cells + mc = cells') (e2 : slots + ms = slots') (hw : ∀ ad, wr ++ w' ad = w2 ad)
    (hr : ∀ (H : Heap) (locs : List Loc) (ls : Array Slot), va_P D vwCl wc H → va_D A wc → lv_has ls nL lv → va_Run p l e R s m args below meth c H locs cells slots mc ms (F0 m pc ls stk) st (QcN D wc H.size w' a) (va_A wc H.size)) (k : ∀ ad : Nat → Nat, G p l e R s m args below meth c D A nL cells' slots' Q (pc + 3) lv st (w2 ad)) : G p l e R s m args below meth c D A nL cells slots Q (pc) (lv) (stk) (w) := by
  subst e1; subst e2
  intro H locs ls hP hD hS hl T hT X0
  have hPc := hP.sub isC hC0
  have hDc := hD.sub isC hCn hC
  have hF := va_free hD hS C.fr isC hC
  obtain ⟨v, st₀, t, T', L, h0, X', hL, e1, e2, ⟨hv, ad, hP1, hD1, hz, hk⟩, stp⟩ := hr H locs ls hPc hDc hl T hT X0
  cases hv
  rw [h0] at hz hk
  rw [← e1] at hP1 hz hk
  obtain ⟨hPj, hDj⟩ := va_join hP hD isC isR hC hR hRn hdis hk hF hP1 hD1
  rw [hw ad] at hPj hDj
  obtain ⟨t2, a1, b1⟩ := k ad T'.heap (locs ++ L) ls hPj hDj ⟨Nat.le_trans hS.1 hz, fun q h1 h2 => by rw [hk q (Nat.lt_of_lt_of_le h1 hS.1) (fun z => h2 (hF q z))]; exact hS.2.1 q h1 h2, fun q hq => by
      rcases List.mem_append.mp hq with h | h
      · exact hS.2.2 q h
      · exact hF _ (hL q h)⟩ hl T' rfl X'
  exact ⟨t2, stp t2 a1, b1⟩
theorem G_callVF {y : MethodName} {bytes : ByteArray} {maxL index ci b N : Nat} {ret : Option FieldType} {rm : Room} {v : Value} {wc wr w' : va_W} {stk : List Value} {fs : List Value} {T : u_T} (C : Cx p s m args meth c D tys A nL cc own) (As : List Value) {n : Nat} (q0 : Nat) (isC isR : List Nat) (hd : decode cc pc = .ok (.invokevirtual index, 3)) (hM : CT l y bytes maxL ret rm D tys (.ref b :: As) wc (some v) w') (h1 : Cond.methodLink own index y ∈ gw) (h2 : Cond.instanceMethod y ∈ gw) (h3 : Cond.selects y.cls y y ∈ gw) (h4 : Cond.initialized y.cls ∈ gw) (h5 : Cond.code y bytes maxL ret ∈ gw) (he : wc[q0]? = some (b, .inr (ci, fs))) (hc : vwCl[ci]? = some (y.cls, T, N)) (hdc : y.cls ≠ "java/lang/invoke/MethodHandle" ∧ y.cls ≠ "java/lang/invoke/VarHandle" ∧ (parseMethodDescriptor y.desc).map (fun d => d.parameters.length) = some n) (hlen : As.length = n) (hR : rm.frames + 1 ≤ R.frames ∧ 8 + (maxL + 11) + rm.locals ≤ R.locals) (hz : rm.cells = 0 ∧ rm.slots = 0) (hcs : cells ≤ R.cells ∧ slots ≤ R.slots) (hroom : (st.map fun v => v.category).sum ≤ 8) (hst : stk = As.reverse ++ .ref b :: st)
    (hC0 : isC.filterMap (fun i => w[i]?) = wc) (hCn : va_nd isC = true) (hC : isC.map (fun i => w[i]?) = wc.map some) (hR2 : isR.map (fun i => w[i]?) = wr.map some) (hRn : va_nd isR = true) (hdis : ∀ i ∈ isR, i ∉ isC) (k : G p l e R s m args below meth c D A nL cells slots Q (pc + 3) (lv) (v :: st) (wr ++ w')) : G p l e R s m args below meth c D A nL cells slots Q (pc) (lv) (stk) (w) := by
  refine G_runF (r := some v) (wr := wr) (w' := w') (a := (Value.ref b :: As).toArray) C isC isR hC0 hCn hC hR2 hRn hdis (fun H locs ls hP hD hl => ?_) k
  refine va_runV (C := y.cls) (bytes := bytes) (maxL := maxL) (ret := ret) (n := n) (As := As) (rest := st) ⟨C.x, C.b, C.ml, C.ow, C.ts⟩ (hM H.size) (cwV n C.ts ?_ rfl hz.1 hz.2 ⟨rfl, hdc⟩ hR) ⟨Pc_blind, va_recv C.K hP hc he, Pc_at C hP hD⟩ rfl hlen hl.1 hst (lv_room hroom) hd ⟨by simpa using hcs.1, by simpa using hcs.2⟩
  refine gw_good _ h5 (fun w hw => ?_)
  simp only [List.mem_cons, List.not_mem_nil, or_false] at hw
  rcases hw with rfl | rfl | rfl | rfl
  · exact h1
  · exact h2
  · exact h3
  · exact h4
theorem G_callI {y : MethodName} {bytes : ByteArray} {maxL index b mc ms : Nat} {rm : Room} {wc wr : va_W} {w' w2 : (Nat → Nat) → va_W} {stk : List Value} (C : Cx p s m args meth c D tys A nL cc own) (As : List Value) {n : Nat} (isC isR : List Nat) (hd : decode cc pc = .ok (.invokespecial index, 3)) (hM : CN l y bytes maxL rm D tys (.ref b :: As) wc w' mc ms) (h1 : Cond.methodLink own index y ∈ gw) (h2 : Cond.instanceMethod y ∈ gw) (h4 : Cond.initialized y.cls ∈ gw) (h5 : Cond.code y bytes maxL none ∈ gw) (hnm : y.name = "<init>") (hdc : y.cls ≠ "java/lang/invoke/MethodHandle" ∧ y.cls ≠ "java/lang/invoke/VarHandle" ∧ (parseMethodDescriptor y.desc).map (fun d => d.parameters.length) = some n) (hlen : As.length = n) (hR : rm.frames + 1 ≤ R.frames ∧ 8 + (maxL + 11) + rm.locals ≤ R.locals) (hz : rm.cells = mc ∧ rm.slots = ms) (hcs : cells + mc ≤ R.cells ∧ slots + ms ≤ R.slots) (hroom : (st.map fun v => v.category).sum ≤ 8) (hst : stk = As.reverse ++ .ref b :: st)
    (hC0 : isC.filterMap (fun i => w[i]?) = wc) (hCn : va_nd isC = true) (hC : isC.map (fun i => w[i]?) = wc.map some) (hR2 : isR.map (fun i => w[i]?) = wr.map some) (hRn : va_nd isR = true) (hdis : ∀ i ∈ isR, i ∉ isC) (e1 : cells + mc = cells') (e2 : slots + ms = slots') (hw : ∀ ad, wr ++ w' ad = w2 ad) (k : ∀ ad : Nat → Nat, G p l e R s m args below meth c D A nL cells' slots' Q (pc + 3) lv st (w2 ad)) : G p l e R s m args below meth c D A nL cells slots Q (pc) (lv) (stk) (w) := by
  refine G_runN (wr := wr) (w' := w') (w2 := w2) (a := (Value.ref b :: As).toArray) C isC isR hC0 hCn hC hR2 hRn hdis e1 e2 hw (fun H locs ls hP hD hl => ?_) k
  have hg : GoodIn gw (.code y bytes maxL none :: gw) := gw_good (ws := []) _ h5 (fun w hw => absurd hw List.not_mem_nil)
  exact va_runI (bytes := bytes) (maxL := maxL) (n := n) (As := As) (rest := st) ⟨C.x, C.b, C.ml, C.ow, C.ts⟩ (hM H.size) (cwI n C.ts hg rfl hz.1 hz.2 (C.ts _ h4) (C.ts _ h1) (C.ts _ h2) hnm hdc hR) ⟨Pc_blind, Pc_at C hP hD⟩ rfl hlen hl.1 hst (lv_room hroom) hd hcs
theorem G_callIN {y : MethodName} {bytes : ByteArray} {maxL index b mc ms : Nat} {host : String} {rm : Room} {wc wr : va_W} {w' w2 : (Nat → Nat) → va_W} {stk : List Value} (C : Cx p s m args meth c D tys A nL cc own) (As : List Value) {n : Nat} (isC isR : List Nat) (hd : decode cc pc = .ok (.invokespecial index, 3)) (hM : CN l y bytes maxL rm D tys (.ref b :: As) wc w' mc ms) (h1 : Cond.methodLinkNest own index y host ∈ nwl) (h2 : Cond.instanceMethod y ∈ gw) (h4 : Cond.initialized y.cls ∈ gw) (h5 : Cond.code y bytes maxL none ∈ gw) (hnm : y.name = "<init>") (hdc : y.cls ≠ "java/lang/invoke/MethodHandle" ∧ y.cls ≠ "java/lang/invoke/VarHandle" ∧ (parseMethodDescriptor y.desc).map (fun d => d.parameters.length) = some n) (hlen : As.length = n) (hR : rm.frames + 1 ≤ R.frames ∧ 8 + (maxL + 11) + rm.locals ≤ R.locals) (hz : rm.cells = mc ∧ rm.slots = ms) (hcs : cells + mc ≤ R.cells ∧ slots + ms ≤ R.slots) (hroom : (st.map fun v => v.category).sum ≤ 8) (hst : stk = As.reverse ++ .ref b :: st)
    (hC0 : isC.filterMap (fun i => w[i]?) = wc) (hCn : va_nd isC = true) (hC : isC.map (fun i => w[i]?) = wc.map some) (hR2 : isR.map (fun i => w[i]?) = wr.map some) (hRn : va_nd isR = true) (hdis : ∀ i ∈ isR, i ∉ isC) (e1 : cells + mc = cells') (e2 : slots + ms = slots') (hw : ∀ ad, wr ++ w' ad = w2 ad) (k : ∀ ad : Nat → Nat, G p l e R s m args below meth c D A nL cells' slots' Q (pc + 3) lv st (w2 ad)) : G p l e R s m args below meth c D A nL cells slots Q (pc) (lv) (stk) (w) := by
  refine G_runN (wr := wr) (w' := w') (w2 := w2) (a := (Value.ref b :: As).toArray) C isC isR hC0 hCn hC hR2 hRn hdis e1 e2 hw (fun H locs ls hP hD hl => ?_) k
  have hg : GoodIn gw (.code y bytes maxL none :: gw) := gw_good (ws := []) _ h5 (fun w hw => absurd hw List.not_mem_nil)
  exact va_runIN (host := host) (bytes := bytes) (maxL := maxL) (n := n) (As := As) (rest := st) ⟨C.x, C.b, C.ml, C.ow, C.ts⟩ (hM H.size) ⟨va_cnB n C.ts hg rfl hz.1 hz.2 (C.nw _ h1) (C.ts _ h4) hdc hR, hnm, C.ts _ h2⟩ ⟨Pc_blind, Pc_at C hP hD⟩ rfl hlen hl.1 hst (lv_room hroom) hd hcs
theorem G_lcmp (C : Cx p s m args meth c D tys A nL cc own) {x y : Int64} (hd : decode cc pc = .ok (.lcmp, 1)) (k : G p l e R s m args below meth c D A nL cells slots Q (pc + 1) (lv) (.int (lg_cmp x y) :: st) (w)) : G p l e R s m args below meth c D A nL cells slots Q (pc) (lv) (.long y :: .long x :: st) (w) := fun H locs ls hP hD hS hl => W.lcmp C.x C.b hd (k H locs ls hP hD hS hl)
theorem G_sld (C : Cx p s m args meth c D tys A nL cc own) {b L j : Nat} {xs : Nat → Int32} (hX : va_X b L xs s s.heap) (hbl : b < s.heap.size) (hbA : ¬ A b) (hj : j < L) (hL : L < 2 ^ 31) (hd : decode cc pc = .ok (.iaload, 1)) (k : G p l e R s m args below meth c D A nL cells slots Q (pc + 1) (lv) (.int (xs j) :: st) (w)) : G p l e R s m args below meth c D A nL cells slots Q (pc) (lv) (.int (nI j) :: .ref b :: st) (w) := fun H locs ls hP hD hS hl => va_sld C.x C.b hX hbl hbA hS (vp_in_nI hj hL) hd (by rw [nI_clamp (Nat.lt_trans hj hL)]; exact k H locs ls hP hD hS hl)
theorem G_slen (C : Cx p s m args meth c D tys A nL cc own) {b L : Nat} {xs : Nat → Int32} (hX : va_X b L xs s s.heap) (hbl : b < s.heap.size) (hbA : ¬ A b) (hd : decode cc pc = .ok (.arraylength, 1)) (k : G p l e R s m args below meth c D A nL cells slots Q (pc + 1) (lv) (.int (nI L) :: st) (w)) : G p l e R s m args below meth c D A nL cells slots Q (pc) (lv) (.ref b :: st) (w) := fun H locs ls hP hD hS hl => va_slen C.x C.b hX hbl hbA hS hd (k H locs ls hP hD hS hl)
end GN
section GNR
variable {p : Program} {l : Launch} {e : Env} {R : Room} {s : State} {m : MethodId} {args : Array Value} {below : List Frame} {meth : Method} {c : Code} {D : va_G} {tys : List (ClassId × FieldType)} {nL mc ms : Nat} {cc : ByteArray} {own : String} {pc : Nat} {lv : List (Nat × Value)} {w w0 : va_W} {w' : (Nat → Nat) → va_W}
theorem G_nret (C : Cx p s m args meth c D tys (va_A w0 s.heap.size) nL cc own) (hr : meth.sig.returnType = none) (hd : decode cc pc = .ok (.return_, 1)) (ad : Nat → Nat) (hw : w = w' ad) : G p l e R s m args below meth c D (va_A w0 s.heap.size) nL mc ms (MQ below (QcN D w0 s.heap.size w') args s mc ms (va_A w0 s.heap.size)) pc lv [] w := fun H locs ls hP hD hS hl => W.vret C.x C.b hr (fun t ht _ => ⟨rfl, ad, by rw [ht, ← hw]; exact hP, by rw [← hw]; exact hD, hS.F ht⟩) hS.2.2 hd (hlocks := C.lk)
end GNR
theorem CN_of {l : Launch} {y : MethodName} {cc : ByteArray} {maxL mc ms : Nat} {rm : Room} {D : va_G} {tys : List (ClassId × FieldType)} {av : List Value} {w : va_W} {w' : (Nat → Nat) → va_W} {own : String} (hy : plainName y.cls = true) (hown : y.cls = own) (hyn : y.name = "<init>") (hlen : (lg_sl av).length ≤ maxL)
    (body : ∀ (p : Program) (e : Env) (s : State) (m : MethodId) (args : Array Value) (below : List Frame) (meth : Method) (c : Code), Cx p s m args meth c D tys (va_A w s.heap.size) maxL cc own → meth.sig.returnType = none → meth.name = "<init>" → G p l e rm s m args below meth c D (va_A w s.heap.size) maxL 0 0 (MQ below (QcN D w s.heap.size w') args s mc ms (va_A w s.heap.size)) 0 (lv_args 0 av) [] w) : CN l y cc maxL rm D tys av w w' mc ms := by
  intro sz
  refine Met.ofW (cc := cc) (maxL := maxL) (ret := none) hy rfl ?_
  intro p e s m args below meth c s₁ B hml hv
  obtain ⟨rfl, hsz, hP, hK, hnw, hD0⟩ := hv
  have hts := atoms_spec (ws := .code y cc maxL none :: gw) B.pre
  have hfc : s.vm.findClass own = some m.cls := by rw [← hown]; exact findClass_of_methodNamed B.named
  have hin : meth.name = "<init>" := (name_of_methodNamed B.named B.method).1.trans hyn
  subst hsz
  have C : Cx p s m av.toArray meth c D tys (va_A w s.heap.size) maxL cc own := ⟨B.exec, B.bytes, hml, hfc, fun w hw => hts w (List.mem_cons_of_mem _ hw), hnw, hK, fun q h => Or.inr h, B.notSynchronized⟩
  have hl := lv_entry av (n := maxL) hlen
  rw [lg_entry_eq]
  exact body p e s m av.toArray below meth c C B.returns hin s.heap [] _ hP (hD0.self (sz := s.heap.size)) va_S.rf hl
