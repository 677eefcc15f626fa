def nA (f : Nat → Nat) : Nat → Int32 := fun j => nI (f j)
theorem upd_nA (f : Nat → Nat) (j v : Nat) : upd (nA f) j (nI v) = nA (va_up f j v) := by
  funext a
  simp only [upd, nA, va_up]
  split <;> rfl
theorem cpy_nA (f g : Nat → Nat) (sp dp n : Nat) : va_cpy (nA f) (nA g) sp dp n = nA (va_cpy f g sp dp n) := by
  funext a
  simp only [va_cpy, nA]
  split <;> rfl
/-- the j-th number of cell k becomes v -/
def ms (M : Nat → Nat → Nat) (k j v : Nat) : Nat → Nat → Nat := va_up M k (va_up (M k) j v)
abbrev tyI (cI cZ : ClassId) : List (ClassId × FieldType) := [(cI, .int), (cZ, .boolean)]
def wX (cI cZ : ClassId) (ad : Nat → Nat) (M : Nat → Nat → Nat) (t : Int64) : va_W := [(ad 0, .inr (10, [.ref (ad 1), .ref (ad 3), .ref (ad 9), .ref (ad 14), .ref (ad 16), .ref (ad 18), .ref (ad 20), .ref (ad 21), .ref (ad 24), .ref (ad 27)])),
  (ad 1, .inr (9, [.ref (ad 2), .int (nI (M 1 1))])),
  (ad 2, .inl (cI, 150, .inl (nA (M 2)))),
  (ad 3, .inr (8, [.ref (ad 1), .ref (ad 4), .int (nI (M 3 2)), .int (nI (M 3 3)), .int (nI (M 3 4)), .int (nI (M 3 5)), .int (nI (M 3 6))])),
  (ad 4, .inr (1, [.ref (ad 5), .ref (ad 6), .ref (ad 7), .ref (ad 8), .int (nI (M 4 4)), .int (nI (M 4 5)), .int (nI (M 4 6)), .int (nI (M 4 7))])),
  (ad 5, .inl (cI, 5, .inl (nA (M 5)))),
  (ad 6, .inl (cI, 6, .inl (nA (M 6)))),
  (ad 7, .inl (cI, 6, .inl (nA (M 7)))),
  (ad 8, .inl (cI, 6, .inl (nA (M 8)))),
  (ad 9, .inr (1, [.ref (ad 10), .ref (ad 11), .ref (ad 12), .ref (ad 13), .int (nI (M 9 4)), .int (nI (M 9 5)), .int (nI (M 9 6)), .int (nI (M 9 7))])),
  (ad 10, .inl (cI, 5, .inl (nA (M 10)))),
  (ad 11, .inl (cI, 6, .inl (nA (M 11)))),
  (ad 12, .inl (cI, 6, .inl (nA (M 12)))),
  (ad 13, .inl (cI, 6, .inl (nA (M 13)))),
  (ad 14, .inr (6, [.ref (ad 15)])),
  (ad 15, .inl (cI, 20, .inl (nA (M 15)))),
  (ad 16, .inr (2, [.ref (ad 17), .int (nI (M 16 1)), .int (nI (M 16 2))])),
  (ad 17, .inl (cI, 200, .inl (nA (M 17)))),
  (ad 18, .inr (3, [.ref (ad 19), .int (nI (M 18 1))])),
  (ad 19, .inl (cI, 40, .inl (nA (M 19)))),
  (ad 20, .inr (7, [.ref (ad 9), .ref (ad 14)])),
  (ad 21, .inr (5, [.ref (ad 9), .ref (ad 14), .ref (ad 22), .ref (ad 23), .int (nI (M 21 4))])),
  (ad 22, .inl (cI, 6, .inl (nA (M 22)))),
  (ad 23, .inl (cI, 6, .inl (nA (M 23)))),
  (ad 24, .inr (0, [.ref (ad 9), .ref (ad 14), .ref (ad 25), .ref (ad 26), .int (nI (M 24 4))])),
  (ad 25, .inl (cI, 6, .inl (nA (M 25)))),
  (ad 26, .inl (cI, 6, .inl (nA (M 26)))),
  (ad 27, .inr (4, [.ref (ad 9), .ref (ad 14), .long t]))]
section WX
variable {cI cZ : ClassId} {ad : Nat → Nat} {M : Nat → Nat → Nat} {t : Int64}
theorem xc_0 : (wX cI cZ ad M t)[0]? = some (ad 0, .inr (10, [.ref (ad 1), .ref (ad 3), .ref (ad 9), .ref (ad 14), .ref (ad 16), .ref (ad 18), .ref (ad 20), .ref (ad 21), .ref (ad 24), .ref (ad 27)])) := rfl
theorem xc_1 : (wX cI cZ ad M t)[1]? = some (ad 1, .inr (9, [.ref (ad 2), .int (nI (M 1 1))])) := rfl
theorem xp_1_1 (v : Nat) : (wX cI cZ ad M t).set 1 (ad 1, .inr (9, [.ref (ad 2), .int (nI v)])) = wX cI cZ ad (ms M 1 1 v) t := rfl
theorem xc_2 : (wX cI cZ ad M t)[2]? = some (ad 2, .inl (cI, 150, .inl (nA (M 2)))) := rfl
theorem xs_2 (j v : Nat) : (wX cI cZ ad M t).set 2 (ad 2, .inl (cI, 150, .inl (upd (nA (M 2)) j (nI v)))) = wX cI cZ ad (ms M 2 j v) t := by rw [upd_nA]; rfl
theorem xr_2 (f : Nat → Nat) : (wX cI cZ ad M t).set 2 (ad 2, .inl (cI, 150, .inl (nA f))) = wX cI cZ ad (va_up M 2 f) t := rfl
theorem xc_3 : (wX cI cZ ad M t)[3]? = some (ad 3, .inr (8, [.ref (ad 1), .ref (ad 4), .int (nI (M 3 2)), .int (nI (M 3 3)), .int (nI (M 3 4)), .int (nI (M 3 5)), .int (nI (M 3 6))])) := rfl
theorem xp_3_2 (v : Nat) : (wX cI cZ ad M t).set 3 (ad 3, .inr (8, [.ref (ad 1), .ref (ad 4), .int (nI v), .int (nI (M 3 3)), .int (nI (M 3 4)), .int (nI (M 3 5)), .int (nI (M 3 6))])) = wX cI cZ ad (ms M 3 2 v) t := rfl
theorem xp_3_3 (v : Nat) : (wX cI cZ ad M t).set 3 (ad 3, .inr (8, [.ref (ad 1), .ref (ad 4), .int (nI (M 3 2)), .int (nI v), .int (nI (M 3 4)), .int (nI (M 3 5)), .int (nI (M 3 6))])) = wX cI cZ ad (ms M 3 3 v) t := rfl
theorem xp_3_4 (v : Nat) : (wX cI cZ ad M t).set 3 (ad 3, .inr (8, [.ref (ad 1), .ref (ad 4), .int (nI (M 3 2)), .int (nI (M 3 3)), .int (nI v), .int (nI (M 3 5)), .int (nI (M 3 6))])) = wX cI cZ ad (ms M 3 4 v) t := rfl
theorem xp_3_5 (v : Nat) : (wX cI cZ ad M t).set 3 (ad 3, .inr (8, [.ref (ad 1), .ref (ad 4), .int (nI (M 3 2)), .int (nI (M 3 3)), .int (nI (M 3 4)), .int (nI v), .int (nI (M 3 6))])) = wX cI cZ ad (ms M 3 5 v) t := rfl
theorem xp_3_6 (v : Nat) : (wX cI cZ ad M t).set 3 (ad 3, .inr (8, [.ref (ad 1), .ref (ad 4), .int (nI (M 3 2)), .int (nI (M 3 3)), .int (nI (M 3 4)), .int (nI (M 3 5)), .int (nI v)])) = wX cI cZ ad (ms M 3 6 v) t := rfl
theorem xc_4 : (wX cI cZ ad M t)[4]? = some (ad 4, .inr (1, [.ref (ad 5), .ref (ad 6), .ref (ad 7), .ref (ad 8), .int (nI (M 4 4)), .int (nI (M 4 5)), .int (nI (M 4 6)), .int (nI (M 4 7))])) := rfl
theorem xp_4_4 (v : Nat) : (wX cI cZ ad M t).set 4 (ad 4, .inr (1, [.ref (ad 5), .ref (ad 6), .ref (ad 7), .ref (ad 8), .int (nI v), .int (nI (M 4 5)), .int (nI (M 4 6)), .int (nI (M 4 7))])) = wX cI cZ ad (ms M 4 4 v) t := rfl
theorem xp_4_5 (v : Nat) : (wX cI cZ ad M t).set 4 (ad 4, .inr (1, [.ref (ad 5), .ref (ad 6), .ref (ad 7), .ref (ad 8), .int (nI (M 4 4)), .int (nI v), .int (nI (M 4 6)), .int (nI (M 4 7))])) = wX cI cZ ad (ms M 4 5 v) t := rfl
theorem xp_4_6 (v : Nat) : (wX cI cZ ad M t).set 4 (ad 4, .inr (1, [.ref (ad 5), .ref (ad 6), .ref (ad 7), .ref (ad 8), .int (nI (M 4 4)), .int (nI (M 4 5)), .int (nI v), .int (nI (M 4 7))])) = wX cI cZ ad (ms M 4 6 v) t := rfl
theorem xp_4_7 (v : Nat) : (wX cI cZ ad M t).set 4 (ad 4, .inr (1, [.ref (ad 5), .ref (ad 6), .ref (ad 7), .ref (ad 8), .int (nI (M 4 4)), .int (nI (M 4 5)), .int (nI (M 4 6)), .int (nI v)])) = wX cI cZ ad (ms M 4 7 v) t := rfl
theorem xc_5 : (wX cI cZ ad M t)[5]? = some (ad 5, .inl (cI, 5, .inl (nA (M 5)))) := rfl
theorem xs_5 (j v : Nat) : (wX cI cZ ad M t).set 5 (ad 5, .inl (cI, 5, .inl (upd (nA (M 5)) j (nI v)))) = wX cI cZ ad (ms M 5 j v) t := by rw [upd_nA]; rfl
theorem xr_5 (f : Nat → Nat) : (wX cI cZ ad M t).set 5 (ad 5, .inl (cI, 5, .inl (nA f))) = wX cI cZ ad (va_up M 5 f) t := rfl
theorem xc_6 : (wX cI cZ ad M t)[6]? = some (ad 6, .inl (cI, 6, .inl (nA (M 6)))) := rfl
theorem xs_6 (j v : Nat) : (wX cI cZ ad M t).set 6 (ad 6, .inl (cI, 6, .inl (upd (nA (M 6)) j (nI v)))) = wX cI cZ ad (ms M 6 j v) t := by rw [upd_nA]; rfl
theorem xr_6 (f : Nat → Nat) : (wX cI cZ ad M t).set 6 (ad 6, .inl (cI, 6, .inl (nA f))) = wX cI cZ ad (va_up M 6 f) t := rfl
theorem xc_7 : (wX cI cZ ad M t)[7]? = some (ad 7, .inl (cI, 6, .inl (nA (M 7)))) := rfl
theorem xs_7 (j v : Nat) : (wX cI cZ ad M t).set 7 (ad 7, .inl (cI, 6, .inl (upd (nA (M 7)) j (nI v)))) = wX cI cZ ad (ms M 7 j v) t := by rw [upd_nA]; rfl
theorem xr_7 (f : Nat → Nat) : (wX cI cZ ad M t).set 7 (ad 7, .inl (cI, 6, .inl (nA f))) = wX cI cZ ad (va_up M 7 f) t := rfl
theorem xc_8 : (wX cI cZ ad M t)[8]? = some (ad 8, .inl (cI, 6, .inl (nA (M 8)))) := rfl
theorem xs_8 (j v : Nat) : (wX cI cZ ad M t).set 8 (ad 8, .inl (cI, 6, .inl (upd (nA (M 8)) j (nI v)))) = wX cI cZ ad (ms M 8 j v) t := by rw [upd_nA]; rfl
theorem xr_8 (f : Nat → Nat) : (wX cI cZ ad M t).set 8 (ad 8, .inl (cI, 6, .inl (nA f))) = wX cI cZ ad (va_up M 8 f) t := rfl
theorem xc_9 : (wX cI cZ ad M t)[9]? = some (ad 9, .inr (1, [.ref (ad 10), .ref (ad 11), .ref (ad 12), .ref (ad 13), .int (nI (M 9 4)), .int (nI (M 9 5)), .int (nI (M 9 6)), .int (nI (M 9 7))])) := rfl
theorem xp_9_4 (v : Nat) : (wX cI cZ ad M t).set 9 (ad 9, .inr (1, [.ref (ad 10), .ref (ad 11), .ref (ad 12), .ref (ad 13), .int (nI v), .int (nI (M 9 5)), .int (nI (M 9 6)), .int (nI (M 9 7))])) = wX cI cZ ad (ms M 9 4 v) t := rfl
theorem xp_9_5 (v : Nat) : (wX cI cZ ad M t).set 9 (ad 9, .inr (1, [.ref (ad 10), .ref (ad 11), .ref (ad 12), .ref (ad 13), .int (nI (M 9 4)), .int (nI v), .int (nI (M 9 6)), .int (nI (M 9 7))])) = wX cI cZ ad (ms M 9 5 v) t := rfl
theorem xp_9_6 (v : Nat) : (wX cI cZ ad M t).set 9 (ad 9, .inr (1, [.ref (ad 10), .ref (ad 11), .ref (ad 12), .ref (ad 13), .int (nI (M 9 4)), .int (nI (M 9 5)), .int (nI v), .int (nI (M 9 7))])) = wX cI cZ ad (ms M 9 6 v) t := rfl
theorem xp_9_7 (v : Nat) : (wX cI cZ ad M t).set 9 (ad 9, .inr (1, [.ref (ad 10), .ref (ad 11), .ref (ad 12), .ref (ad 13), .int (nI (M 9 4)), .int (nI (M 9 5)), .int (nI (M 9 6)), .int (nI v)])) = wX cI cZ ad (ms M 9 7 v) t := rfl
theorem xc_10 : (wX cI cZ ad M t)[10]? = some (ad 10, .inl (cI, 5, .inl (nA (M 10)))) := rfl
theorem xs_10 (j v : Nat) : (wX cI cZ ad M t).set 10 (ad 10, .inl (cI, 5, .inl (upd (nA (M 10)) j (nI v)))) = wX cI cZ ad (ms M 10 j v) t := by rw [upd_nA]; rfl
theorem xr_10 (f : Nat → Nat) : (wX cI cZ ad M t).set 10 (ad 10, .inl (cI, 5, .inl (nA f))) = wX cI cZ ad (va_up M 10 f) t := rfl
theorem xc_11 : (wX cI cZ ad M t)[11]? = some (ad 11, .inl (cI, 6, .inl (nA (M 11)))) := rfl
theorem xs_11 (j v : Nat) : (wX cI cZ ad M t).set 11 (ad 11, .inl (cI, 6, .inl (upd (nA (M 11)) j (nI v)))) = wX cI cZ ad (ms M 11 j v) t := by rw [upd_nA]; rfl
theorem xr_11 (f : Nat → Nat) : (wX cI cZ ad M t).set 11 (ad 11, .inl (cI, 6, .inl (nA f))) = wX cI cZ ad (va_up M 11 f) t := rfl
theorem xc_12 : (wX cI cZ ad M t)[12]? = some (ad 12, .inl (cI, 6, .inl (nA (M 12)))) := rfl
theorem xs_12 (j v : Nat) : (wX cI cZ ad M t).set 12 (ad 12, .inl (cI, 6, .inl (upd (nA (M 12)) j (nI v)))) = wX cI cZ ad (ms M 12 j v) t := by rw [upd_nA]; rfl
theorem xr_12 (f : Nat → Nat) : (wX cI cZ ad M t).set 12 (ad 12, .inl (cI, 6, .inl (nA f))) = wX cI cZ ad (va_up M 12 f) t := rfl
theorem xc_13 : (wX cI cZ ad M t)[13]? = some (ad 13, .inl (cI, 6, .inl (nA (M 13)))) := rfl
theorem xs_13 (j v : Nat) : (wX cI cZ ad M t).set 13 (ad 13, .inl (cI, 6, .inl (upd (nA (M 13)) j (nI v)))) = wX cI cZ ad (ms M 13 j v) t := by rw [upd_nA]; rfl
theorem xr_13 (f : Nat → Nat) : (wX cI cZ ad M t).set 13 (ad 13, .inl (cI, 6, .inl (nA f))) = wX cI cZ ad (va_up M 13 f) t := rfl
theorem xc_14 : (wX cI cZ ad M t)[14]? = some (ad 14, .inr (6, [.ref (ad 15)])) := rfl
theorem xc_15 : (wX cI cZ ad M t)[15]? = some (ad 15, .inl (cI, 20, .inl (nA (M 15)))) := rfl
theorem xs_15 (j v : Nat) : (wX cI cZ ad M t).set 15 (ad 15, .inl (cI, 20, .inl (upd (nA (M 15)) j (nI v)))) = wX cI cZ ad (ms M 15 j v) t := by rw [upd_nA]; rfl
theorem xr_15 (f : Nat → Nat) : (wX cI cZ ad M t).set 15 (ad 15, .inl (cI, 20, .inl (nA f))) = wX cI cZ ad (va_up M 15 f) t := rfl
theorem xc_16 : (wX cI cZ ad M t)[16]? = some (ad 16, .inr (2, [.ref (ad 17), .int (nI (M 16 1)), .int (nI (M 16 2))])) := rfl
theorem xp_16_1 (v : Nat) : (wX cI cZ ad M t).set 16 (ad 16, .inr (2, [.ref (ad 17), .int (nI v), .int (nI (M 16 2))])) = wX cI cZ ad (ms M 16 1 v) t := rfl
theorem xp_16_2 (v : Nat) : (wX cI cZ ad M t).set 16 (ad 16, .inr (2, [.ref (ad 17), .int (nI (M 16 1)), .int (nI v)])) = wX cI cZ ad (ms M 16 2 v) t := rfl
theorem xc_17 : (wX cI cZ ad M t)[17]? = some (ad 17, .inl (cI, 200, .inl (nA (M 17)))) := rfl
theorem xs_17 (j v : Nat) : (wX cI cZ ad M t).set 17 (ad 17, .inl (cI, 200, .inl (upd (nA (M 17)) j (nI v)))) = wX cI cZ ad (ms M 17 j v) t := by rw [upd_nA]; rfl
theorem xr_17 (f : Nat → Nat) : (wX cI cZ ad M t).set 17 (ad 17, .inl (cI, 200, .inl (nA f))) = wX cI cZ ad (va_up M 17 f) t := rfl
theorem xc_18 : (wX cI cZ ad M t)[18]? = some (ad 18, .inr (3, [.ref (ad 19), .int (nI (M 18 1))])) := rfl
theorem xp_18_1 (v : Nat) : (wX cI cZ ad M t).set 18 (ad 18, .inr (3, [.ref (ad 19), .int (nI v)])) = wX cI cZ ad (ms M 18 1 v) t := rfl
theorem xc_19 : (wX cI cZ ad M t)[19]? = some (ad 19, .inl (cI, 40, .inl (nA (M 19)))) := rfl
theorem xs_19 (j v : Nat) : (wX cI cZ ad M t).set 19 (ad 19, .inl (cI, 40, .inl (upd (nA (M 19)) j (nI v)))) = wX cI cZ ad (ms M 19 j v) t := by rw [upd_nA]; rfl
theorem xr_19 (f : Nat → Nat) : (wX cI cZ ad M t).set 19 (ad 19, .inl (cI, 40, .inl (nA f))) = wX cI cZ ad (va_up M 19 f) t := rfl
theorem xc_20 : (wX cI cZ ad M t)[20]? = some (ad 20, .inr (7, [.ref (ad 9), .ref (ad 14)])) := rfl
theorem xc_21 : (wX cI cZ ad M t)[21]? = some (ad 21, .inr (5, [.ref (ad 9), .ref (ad 14), .ref (ad 22), .ref (ad 23), .int (nI (M 21 4))])) := rfl
theorem xp_21_4 (v : Nat) : (wX cI cZ ad M t).set 21 (ad 21, .inr (5, [.ref (ad 9), .ref (ad 14), .ref (ad 22), .ref (ad 23), .int (nI v)])) = wX cI cZ ad (ms M 21 4 v) t := rfl
theorem xc_22 : (wX cI cZ ad M t)[22]? = some (ad 22, .inl (cI, 6, .inl (nA (M 22)))) := rfl
theorem xs_22 (j v : Nat) : (wX cI cZ ad M t).set 22 (ad 22, .inl (cI, 6, .inl (upd (nA (M 22)) j (nI v)))) = wX cI cZ ad (ms M 22 j v) t := by rw [upd_nA]; rfl
theorem xr_22 (f : Nat → Nat) : (wX cI cZ ad M t).set 22 (ad 22, .inl (cI, 6, .inl (nA f))) = wX cI cZ ad (va_up M 22 f) t := rfl
theorem xc_23 : (wX cI cZ ad M t)[23]? = some (ad 23, .inl (cI, 6, .inl (nA (M 23)))) := rfl
theorem xs_23 (j v : Nat) : (wX cI cZ ad M t).set 23 (ad 23, .inl (cI, 6, .inl (upd (nA (M 23)) j (nI v)))) = wX cI cZ ad (ms M 23 j v) t := by rw [upd_nA]; rfl
theorem xr_23 (f : Nat → Nat) : (wX cI cZ ad M t).set 23 (ad 23, .inl (cI, 6, .inl (nA f))) = wX cI cZ ad (va_up M 23 f) t := rfl
theorem xc_24 : (wX cI cZ ad M t)[24]? = some (ad 24, .inr (0, [.ref (ad 9), .ref (ad 14), .ref (ad 25), .ref (ad 26), .int (nI (M 24 4))])) := rfl
theorem xp_24_4 (v : Nat) : (wX cI cZ ad M t).set 24 (ad 24, .inr (0, [.ref (ad 9), .ref (ad 14), .ref (ad 25), .ref (ad 26), .int (nI v)])) = wX cI cZ ad (ms M 24 4 v) t := rfl
theorem xc_25 : (wX cI cZ ad M t)[25]? = some (ad 25, .inl (cI, 6, .inl (nA (M 25)))) := rfl
theorem xs_25 (j v : Nat) : (wX cI cZ ad M t).set 25 (ad 25, .inl (cI, 6, .inl (upd (nA (M 25)) j (nI v)))) = wX cI cZ ad (ms M 25 j v) t := by rw [upd_nA]; rfl
theorem xr_25 (f : Nat → Nat) : (wX cI cZ ad M t).set 25 (ad 25, .inl (cI, 6, .inl (nA f))) = wX cI cZ ad (va_up M 25 f) t := rfl
theorem xc_26 : (wX cI cZ ad M t)[26]? = some (ad 26, .inl (cI, 6, .inl (nA (M 26)))) := rfl
theorem xs_26 (j v : Nat) : (wX cI cZ ad M t).set 26 (ad 26, .inl (cI, 6, .inl (upd (nA (M 26)) j (nI v)))) = wX cI cZ ad (ms M 26 j v) t := by rw [upd_nA]; rfl
theorem xr_26 (f : Nat → Nat) : (wX cI cZ ad M t).set 26 (ad 26, .inl (cI, 6, .inl (nA f))) = wX cI cZ ad (va_up M 26 f) t := rfl
theorem xc_27 : (wX cI cZ ad M t)[27]? = some (ad 27, .inr (4, [.ref (ad 9), .ref (ad 14), .long t])) := rfl
theorem xp_27_2 (u v : Int64) : (wX cI cZ ad M u).set 27 (ad 27, .inr (4, [.ref (ad 9), .ref (ad 14), .long v])) = wX cI cZ ad M v := rfl
end WX
def wY (cI cZ : ClassId) (ad : Nat → Nat) (M : Nat → Nat → Nat) (t : Int64) : va_W := [(ad 0, .inr (11, [.int (nI (M 0 0)), .long t, .ref (ad 1), .int (nI (M 0 3)), .int (nI (M 0 4)), .int (nI (M 0 5)), .int (nI (M 0 6)), .int (nI (M 0 7)), .int (nI (M 0 8) - 1), .ref (ad 2), .int (nI (M 0 10)), .ref (ad 3), .ref (ad 4), .ref (ad 5), .ref (ad 6), .ref (ad 7), .ref (ad 8), .ref (ad 9), .ref (ad 10), .int (nI (M 0 19)), .ref (ad 11), .ref (ad 12), .int (nI (M 0 22)), .ref (ad 13), .ref (ad 14), .int (nI (M 0 25)), .ref (ad 15), .ref (ad 16)])),
  (ad 1, .inl (cI, 150, .inl (nA (M 1)))),
  (ad 2, .inl (cI, 8, .inl (nA (M 2)))),
  (ad 3, .inl (cI, 5, .inl (nA (M 3)))),
  (ad 4, .inl (cI, 12, .inl (nA (M 4)))),
  (ad 5, .inl (cI, 12, .inl (nA (M 5)))),
  (ad 6, .inl (cI, 6, .inl (nA (M 6)))),
  (ad 7, .inl (cI, 20, .inl (nA (M 7)))),
  (ad 8, .inl (cI, 40, .inl (nA (M 8)))),
  (ad 9, .inl (cZ, 2, .inl (nA (M 9)))),
  (ad 10, .inl (cI, 200, .inl (nA (M 10)))),
  (ad 11, .inl (cI, 6, .inl (nA (M 11)))),
  (ad 12, .inl (cI, 6, .inl (nA (M 12)))),
  (ad 13, .inl (cI, 6, .inl (nA (M 13)))),
  (ad 14, .inl (cI, 6, .inl (nA (M 14)))),
  (ad 15, .inl (cI, 5, .inl (nA (M 15)))),
  (ad 16, .inl (cI, 5, .inl (nA (M 16))))]
section WY
variable {cI cZ : ClassId} {ad : Nat → Nat} {M : Nat → Nat → Nat} {t : Int64}
theorem yc_0 : (wY cI cZ ad M t)[0]? = some (ad 0, .inr (11, [.int (nI (M 0 0)), .long t, .ref (ad 1), .int (nI (M 0 3)), .int (nI (M 0 4)), .int (nI (M 0 5)), .int (nI (M 0 6)), .int (nI (M 0 7)), .int (nI (M 0 8) - 1), .ref (ad 2), .int (nI (M 0 10)), .ref (ad 3), .ref (ad 4), .ref (ad 5), .ref (ad 6), .ref (ad 7), .ref (ad 8), .ref (ad 9), .ref (ad 10), .int (nI (M 0 19)), .ref (ad 11), .ref (ad 12), .int (nI (M 0 22)), .ref (ad 13), .ref (ad 14), .int (nI (M 0 25)), .ref (ad 15), .ref (ad 16)])) := rfl
theorem yp_0_0 (v : Nat) : (wY cI cZ ad M t).set 0 (ad 0, .inr (11, [.int (nI v), .long t, .ref (ad 1), .int (nI (M 0 3)), .int (nI (M 0 4)), .int (nI (M 0 5)), .int (nI (M 0 6)), .int (nI (M 0 7)), .int (nI (M 0 8) - 1), .ref (ad 2), .int (nI (M 0 10)), .ref (ad 3), .ref (ad 4), .ref (ad 5), .ref (ad 6), .ref (ad 7), .ref (ad 8), .ref (ad 9), .ref (ad 10), .int (nI (M 0 19)), .ref (ad 11), .ref (ad 12), .int (nI (M 0 22)), .ref (ad 13), .ref (ad 14), .int (nI (M 0 25)), .ref (ad 15), .ref (ad 16)])) = wY cI cZ ad (ms M 0 0 v) t := rfl
theorem yp_0_1 (u v : Int64) : (wY cI cZ ad M u).set 0 (ad 0, .inr (11, [.int (nI (M 0 0)), .long v, .ref (ad 1), .int (nI (M 0 3)), .int (nI (M 0 4)), .int (nI (M 0 5)), .int (nI (M 0 6)), .int (nI (M 0 7)), .int (nI (M 0 8) - 1), .ref (ad 2), .int (nI (M 0 10)), .ref (ad 3), .ref (ad 4), .ref (ad 5), .ref (ad 6), .ref (ad 7), .ref (ad 8), .ref (ad 9), .ref (ad 10), .int (nI (M 0 19)), .ref (ad 11), .ref (ad 12), .int (nI (M 0 22)), .ref (ad 13), .ref (ad 14), .int (nI (M 0 25)), .ref (ad 15), .ref (ad 16)])) = wY cI cZ ad M v := rfl
theorem yp_0_3 (v : Nat) : (wY cI cZ ad M t).set 0 (ad 0, .inr (11, [.int (nI (M 0 0)), .long t, .ref (ad 1), .int (nI v), .int (nI (M 0 4)), .int (nI (M 0 5)), .int (nI (M 0 6)), .int (nI (M 0 7)), .int (nI (M 0 8) - 1), .ref (ad 2), .int (nI (M 0 10)), .ref (ad 3), .ref (ad 4), .ref (ad 5), .ref (ad 6), .ref (ad 7), .ref (ad 8), .ref (ad 9), .ref (ad 10), .int (nI (M 0 19)), .ref (ad 11), .ref (ad 12), .int (nI (M 0 22)), .ref (ad 13), .ref (ad 14), .int (nI (M 0 25)), .ref (ad 15), .ref (ad 16)])) = wY cI cZ ad (ms M 0 3 v) t := rfl
theorem yp_0_4 (v : Nat) : (wY cI cZ ad M t).set 0 (ad 0, .inr (11, [.int (nI (M 0 0)), .long t, .ref (ad 1), .int (nI (M 0 3)), .int (nI v), .int (nI (M 0 5)), .int (nI (M 0 6)), .int (nI (M 0 7)), .int (nI (M 0 8) - 1), .ref (ad 2), .int (nI (M 0 10)), .ref (ad 3), .ref (ad 4), .ref (ad 5), .ref (ad 6), .ref (ad 7), .ref (ad 8), .ref (ad 9), .ref (ad 10), .int (nI (M 0 19)), .ref (ad 11), .ref (ad 12), .int (nI (M 0 22)), .ref (ad 13), .ref (ad 14), .int (nI (M 0 25)), .ref (ad 15), .ref (ad 16)])) = wY cI cZ ad (ms M 0 4 v) t := rfl
theorem yp_0_5 (v : Nat) : (wY cI cZ ad M t).set 0 (ad 0, .inr (11, [.int (nI (M 0 0)), .long t, .ref (ad 1), .int (nI (M 0 3)), .int (nI (M 0 4)), .int (nI v), .int (nI (M 0 6)), .int (nI (M 0 7)), .int (nI (M 0 8) - 1), .ref (ad 2), .int (nI (M 0 10)), .ref (ad 3), .ref (ad 4), .ref (ad 5), .ref (ad 6), .ref (ad 7), .ref (ad 8), .ref (ad 9), .ref (ad 10), .int (nI (M 0 19)), .ref (ad 11), .ref (ad 12), .int (nI (M 0 22)), .ref (ad 13), .ref (ad 14), .int (nI (M 0 25)), .ref (ad 15), .ref (ad 16)])) = wY cI cZ ad (ms M 0 5 v) t := rfl
theorem yp_0_6 (v : Nat) : (wY cI cZ ad M t).set 0 (ad 0, .inr (11, [.int (nI (M 0 0)), .long t, .ref (ad 1), .int (nI (M 0 3)), .int (nI (M 0 4)), .int (nI (M 0 5)), .int (nI v), .int (nI (M 0 7)), .int (nI (M 0 8) - 1), .ref (ad 2), .int (nI (M 0 10)), .ref (ad 3), .ref (ad 4), .ref (ad 5), .ref (ad 6), .ref (ad 7), .ref (ad 8), .ref (ad 9), .ref (ad 10), .int (nI (M 0 19)), .ref (ad 11), .ref (ad 12), .int (nI (M 0 22)), .ref (ad 13), .ref (ad 14), .int (nI (M 0 25)), .ref (ad 15), .ref (ad 16)])) = wY cI cZ ad (ms M 0 6 v) t := rfl
theorem yp_0_7 (v : Nat) : (wY cI cZ ad M t).set 0 (ad 0, .inr (11, [.int (nI (M 0 0)), .long t, .ref (ad 1), .int (nI (M 0 3)), .int (nI (M 0 4)), .int (nI (M 0 5)), .int (nI (M 0 6)), .int (nI v), .int (nI (M 0 8) - 1), .ref (ad 2), .int (nI (M 0 10)), .ref (ad 3), .ref (ad 4), .ref (ad 5), .ref (ad 6), .ref (ad 7), .ref (ad 8), .ref (ad 9), .ref (ad 10), .int (nI (M 0 19)), .ref (ad 11), .ref (ad 12), .int (nI (M 0 22)), .ref (ad 13), .ref (ad 14), .int (nI (M 0 25)), .ref (ad 15), .ref (ad 16)])) = wY cI cZ ad (ms M 0 7 v) t := rfl
theorem yp_0_8 (v : Nat) : (wY cI cZ ad M t).set 0 (ad 0, .inr (11, [.int (nI (M 0 0)), .long t, .ref (ad 1), .int (nI (M 0 3)), .int (nI (M 0 4)), .int (nI (M 0 5)), .int (nI (M 0 6)), .int (nI (M 0 7)), .int (nI v - 1), .ref (ad 2), .int (nI (M 0 10)), .ref (ad 3), .ref (ad 4), .ref (ad 5), .ref (ad 6), .ref (ad 7), .ref (ad 8), .ref (ad 9), .ref (ad 10), .int (nI (M 0 19)), .ref (ad 11), .ref (ad 12), .int (nI (M 0 22)), .ref (ad 13), .ref (ad 14), .int (nI (M 0 25)), .ref (ad 15), .ref (ad 16)])) = wY cI cZ ad (ms M 0 8 v) t := rfl
theorem yp_0_10 (v : Nat) : (wY cI cZ ad M t).set 0 (ad 0, .inr (11, [.int (nI (M 0 0)), .long t, .ref (ad 1), .int (nI (M 0 3)), .int (nI (M 0 4)), .int (nI (M 0 5)), .int (nI (M 0 6)), .int (nI (M 0 7)), .int (nI (M 0 8) - 1), .ref (ad 2), .int (nI v), .ref (ad 3), .ref (ad 4), .ref (ad 5), .ref (ad 6), .ref (ad 7), .ref (ad 8), .ref (ad 9), .ref (ad 10), .int (nI (M 0 19)), .ref (ad 11), .ref (ad 12), .int (nI (M 0 22)), .ref (ad 13), .ref (ad 14), .int (nI (M 0 25)), .ref (ad 15), .ref (ad 16)])) = wY cI cZ ad (ms M 0 10 v) t := rfl
theorem yp_0_19 (v : Nat) : (wY cI cZ ad M t).set 0 (ad 0, .inr (11, [.int (nI (M 0 0)), .long t, .ref (ad 1), .int (nI (M 0 3)), .int (nI (M 0 4)), .int (nI (M 0 5)), .int (nI (M 0 6)), .int (nI (M 0 7)), .int (nI (M 0 8) - 1), .ref (ad 2), .int (nI (M 0 10)), .ref (ad 3), .ref (ad 4), .ref (ad 5), .ref (ad 6), .ref (ad 7), .ref (ad 8), .ref (ad 9), .ref (ad 10), .int (nI v), .ref (ad 11), .ref (ad 12), .int (nI (M 0 22)), .ref (ad 13), .ref (ad 14), .int (nI (M 0 25)), .ref (ad 15), .ref (ad 16)])) = wY cI cZ ad (ms M 0 19 v) t := rfl
theorem yp_0_22 (v : Nat) : (wY cI cZ ad M t).set 0 (ad 0, .inr (11, [.int (nI (M 0 0)), .long t, .ref (ad 1), .int (nI (M 0 3)), .int (nI (M 0 4)), .int (nI (M 0 5)), .int (nI (M 0 6)), .int (nI (M 0 7)), .int (nI (M 0 8) - 1), .ref (ad 2), .int (nI (M 0 10)), .ref (ad 3), .ref (ad 4), .ref (ad 5), .ref (ad 6), .ref (ad 7), .ref (ad 8), .ref (ad 9), .ref (ad 10), .int (nI (M 0 19)), .ref (ad 11), .ref (ad 12), .int (nI v), .ref (ad 13), .ref (ad 14), .int (nI (M 0 25)), .ref (ad 15), .ref (ad 16)])) = wY cI cZ ad (ms M 0 22 v) t := rfl
theorem yp_0_25 (v : Nat) : (wY cI cZ ad M t).set 0 (ad 0, .inr (11, [.int (nI (M 0 0)), .long t, .ref (ad 1), .int (nI (M 0 3)), .int (nI (M 0 4)), .int (nI (M 0 5)), .int (nI (M 0 6)), .int (nI (M 0 7)), .int (nI (M 0 8) - 1), .ref (ad 2), .int (nI (M 0 10)), .ref (ad 3), .ref (ad 4), .ref (ad 5), .ref (ad 6), .ref (ad 7), .ref (ad 8), .ref (ad 9), .ref (ad 10), .int (nI (M 0 19)), .ref (ad 11), .ref (ad 12), .int (nI (M 0 22)), .ref (ad 13), .ref (ad 14), .int (nI v), .ref (ad 15), .ref (ad 16)])) = wY cI cZ ad (ms M 0 25 v) t := rfl
theorem yc_1 : (wY cI cZ ad M t)[1]? = some (ad 1, .inl (cI, 150, .inl (nA (M 1)))) := rfl
theorem ys_1 (j v : Nat) : (wY cI cZ ad M t).set 1 (ad 1, .inl (cI, 150, .inl (upd (nA (M 1)) j (nI v)))) = wY cI cZ ad (ms M 1 j v) t := by rw [upd_nA]; rfl
theorem yr_1 (f : Nat → Nat) : (wY cI cZ ad M t).set 1 (ad 1, .inl (cI, 150, .inl (nA f))) = wY cI cZ ad (va_up M 1 f) t := rfl
theorem yc_2 : (wY cI cZ ad M t)[2]? = some (ad 2, .inl (cI, 8, .inl (nA (M 2)))) := rfl
theorem ys_2 (j v : Nat) : (wY cI cZ ad M t).set 2 (ad 2, .inl (cI, 8, .inl (upd (nA (M 2)) j (nI v)))) = wY cI cZ ad (ms M 2 j v) t := by rw [upd_nA]; rfl
theorem yr_2 (f : Nat → Nat) : (wY cI cZ ad M t).set 2 (ad 2, .inl (cI, 8, .inl (nA f))) = wY cI cZ ad (va_up M 2 f) t := rfl
theorem yc_3 : (wY cI cZ ad M t)[3]? = some (ad 3, .inl (cI, 5, .inl (nA (M 3)))) := rfl
theorem ys_3 (j v : Nat) : (wY cI cZ ad M t).set 3 (ad 3, .inl (cI, 5, .inl (upd (nA (M 3)) j (nI v)))) = wY cI cZ ad (ms M 3 j v) t := by rw [upd_nA]; rfl
theorem yr_3 (f : Nat → Nat) : (wY cI cZ ad M t).set 3 (ad 3, .inl (cI, 5, .inl (nA f))) = wY cI cZ ad (va_up M 3 f) t := rfl
theorem yc_4 : (wY cI cZ ad M t)[4]? = some (ad 4, .inl (cI, 12, .inl (nA (M 4)))) := rfl
theorem ys_4 (j v : Nat) : (wY cI cZ ad M t).set 4 (ad 4, .inl (cI, 12, .inl (upd (nA (M 4)) j (nI v)))) = wY cI cZ ad (ms M 4 j v) t := by rw [upd_nA]; rfl
theorem yr_4 (f : Nat → Nat) : (wY cI cZ ad M t).set 4 (ad 4, .inl (cI, 12, .inl (nA f))) = wY cI cZ ad (va_up M 4 f) t := rfl
theorem yc_5 : (wY cI cZ ad M t)[5]? = some (ad 5, .inl (cI, 12, .inl (nA (M 5)))) := rfl
theorem ys_5 (j v : Nat) : (wY cI cZ ad M t).set 5 (ad 5, .inl (cI, 12, .inl (upd (nA (M 5)) j (nI v)))) = wY cI cZ ad (ms M 5 j v) t := by rw [upd_nA]; rfl
theorem yr_5 (f : Nat → Nat) : (wY cI cZ ad M t).set 5 (ad 5, .inl (cI, 12, .inl (nA f))) = wY cI cZ ad (va_up M 5 f) t := rfl
theorem yc_6 : (wY cI cZ ad M t)[6]? = some (ad 6, .inl (cI, 6, .inl (nA (M 6)))) := rfl
theorem ys_6 (j v : Nat) : (wY cI cZ ad M t).set 6 (ad 6, .inl (cI, 6, .inl (upd (nA (M 6)) j (nI v)))) = wY cI cZ ad (ms M 6 j v) t := by rw [upd_nA]; rfl
theorem yr_6 (f : Nat → Nat) : (wY cI cZ ad M t).set 6 (ad 6, .inl (cI, 6, .inl (nA f))) = wY cI cZ ad (va_up M 6 f) t := rfl
theorem yc_7 : (wY cI cZ ad M t)[7]? = some (ad 7, .inl (cI, 20, .inl (nA (M 7)))) := rfl
theorem ys_7 (j v : Nat) : (wY cI cZ ad M t).set 7 (ad 7, .inl (cI, 20, .inl (upd (nA (M 7)) j (nI v)))) = wY cI cZ ad (ms M 7 j v) t := by rw [upd_nA]; rfl
theorem yr_7 (f : Nat → Nat) : (wY cI cZ ad M t).set 7 (ad 7, .inl (cI, 20, .inl (nA f))) = wY cI cZ ad (va_up M 7 f) t := rfl
theorem yc_8 : (wY cI cZ ad M t)[8]? = some (ad 8, .inl (cI, 40, .inl (nA (M 8)))) := rfl
theorem ys_8 (j v : Nat) : (wY cI cZ ad M t).set 8 (ad 8, .inl (cI, 40, .inl (upd (nA (M 8)) j (nI v)))) = wY cI cZ ad (ms M 8 j v) t := by rw [upd_nA]; rfl
theorem yr_8 (f : Nat → Nat) : (wY cI cZ ad M t).set 8 (ad 8, .inl (cI, 40, .inl (nA f))) = wY cI cZ ad (va_up M 8 f) t := rfl
theorem yc_9 : (wY cI cZ ad M t)[9]? = some (ad 9, .inl (cZ, 2, .inl (nA (M 9)))) := rfl
theorem ys_9 (j v : Nat) : (wY cI cZ ad M t).set 9 (ad 9, .inl (cZ, 2, .inl (upd (nA (M 9)) j (nI v)))) = wY cI cZ ad (ms M 9 j v) t := by rw [upd_nA]; rfl
theorem yr_9 (f : Nat → Nat) : (wY cI cZ ad M t).set 9 (ad 9, .inl (cZ, 2, .inl (nA f))) = wY cI cZ ad (va_up M 9 f) t := rfl
theorem yc_10 : (wY cI cZ ad M t)[10]? = some (ad 10, .inl (cI, 200, .inl (nA (M 10)))) := rfl
theorem ys_10 (j v : Nat) : (wY cI cZ ad M t).set 10 (ad 10, .inl (cI, 200, .inl (upd (nA (M 10)) j (nI v)))) = wY cI cZ ad (ms M 10 j v) t := by rw [upd_nA]; rfl
theorem yr_10 (f : Nat → Nat) : (wY cI cZ ad M t).set 10 (ad 10, .inl (cI, 200, .inl (nA f))) = wY cI cZ ad (va_up M 10 f) t := rfl
theorem yc_11 : (wY cI cZ ad M t)[11]? = some (ad 11, .inl (cI, 6, .inl (nA (M 11)))) := rfl
theorem ys_11 (j v : Nat) : (wY cI cZ ad M t).set 11 (ad 11, .inl (cI, 6, .inl (upd (nA (M 11)) j (nI v)))) = wY cI cZ ad (ms M 11 j v) t := by rw [upd_nA]; rfl
theorem yr_11 (f : Nat → Nat) : (wY cI cZ ad M t).set 11 (ad 11, .inl (cI, 6, .inl (nA f))) = wY cI cZ ad (va_up M 11 f) t := rfl
theorem yc_12 : (wY cI cZ ad M t)[12]? = some (ad 12, .inl (cI, 6, .inl (nA (M 12)))) := rfl
theorem ys_12 (j v : Nat) : (wY cI cZ ad M t).set 12 (ad 12, .inl (cI, 6, .inl (upd (nA (M 12)) j (nI v)))) = wY cI cZ ad (ms M 12 j v) t := by rw [upd_nA]; rfl
theorem yr_12 (f : Nat → Nat) : (wY cI cZ ad M t).set 12 (ad 12, .inl (cI, 6, .inl (nA f))) = wY cI cZ ad (va_up M 12 f) t := rfl
theorem yc_13 : (wY cI cZ ad M t)[13]? = some (ad 13, .inl (cI, 6, .inl (nA (M 13)))) := rfl
theorem ys_13 (j v : Nat) : (wY cI cZ ad M t).set 13 (ad 13, .inl (cI, 6, .inl (upd (nA (M 13)) j (nI v)))) = wY cI cZ ad (ms M 13 j v) t := by rw [upd_nA]; rfl
theorem yr_13 (f : Nat → Nat) : (wY cI cZ ad M t).set 13 (ad 13, .inl (cI, 6, .inl (nA f))) = wY cI cZ ad (va_up M 13 f) t := rfl
theorem yc_14 : (wY cI cZ ad M t)[14]? = some (ad 14, .inl (cI, 6, .inl (nA (M 14)))) := rfl
theorem ys_14 (j v : Nat) : (wY cI cZ ad M t).set 14 (ad 14, .inl (cI, 6, .inl (upd (nA (M 14)) j (nI v)))) = wY cI cZ ad (ms M 14 j v) t := by rw [upd_nA]; rfl
theorem yr_14 (f : Nat → Nat) : (wY cI cZ ad M t).set 14 (ad 14, .inl (cI, 6, .inl (nA f))) = wY cI cZ ad (va_up M 14 f) t := rfl
theorem yc_15 : (wY cI cZ ad M t)[15]? = some (ad 15, .inl (cI, 5, .inl (nA (M 15)))) := rfl
theorem ys_15 (j v : Nat) : (wY cI cZ ad M t).set 15 (ad 15, .inl (cI, 5, .inl (upd (nA (M 15)) j (nI v)))) = wY cI cZ ad (ms M 15 j v) t := by rw [upd_nA]; rfl
theorem yr_15 (f : Nat → Nat) : (wY cI cZ ad M t).set 15 (ad 15, .inl (cI, 5, .inl (nA f))) = wY cI cZ ad (va_up M 15 f) t := rfl
theorem yc_16 : (wY cI cZ ad M t)[16]? = some (ad 16, .inl (cI, 5, .inl (nA (M 16)))) := rfl
theorem ys_16 (j v : Nat) : (wY cI cZ ad M t).set 16 (ad 16, .inl (cI, 5, .inl (upd (nA (M 16)) j (nI v)))) = wY cI cZ ad (ms M 16 j v) t := by rw [upd_nA]; rfl
theorem yr_16 (f : Nat → Nat) : (wY cI cZ ad M t).set 16 (ad 16, .inl (cI, 5, .inl (nA f))) = wY cI cZ ad (va_up M 16 f) t := rfl
end WY
