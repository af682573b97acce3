/-! ===== by program (wip/whole/lawcase.py): the law's cases ===== -/
section
variable {qX : ZQ} {aM : Nat → Nat} {o : Nat} {cL : ClassId} {b L : Nat} {xs : Nat → Int32} {p : Program} {e : Env} {s : State} {m : MethodId} {below : List Frame} {meth : Method} {c : Code} {H : Heap} {locs : List Loc} {ce sl : Nat} {Q : State → Prop}
variable {M N : Mem} {v : Int64} {ls : Array Slot}
set_option maxRecDepth 100000 in
set_option maxHeartbeats 4000000 in
theorem lc_write (C : lwC qX aM o cL b L xs p s m meth c) {i : Nat} {n : Int} (hi : i + 3 < L) (hn : n + 1 < 2 ^ 31) (h : zRI n 0 M N) (hX : lwX qX o cL M v H) (hM : lwM qX aM N H) (hS : va_S (lA0 s) s.heap H locs) (hl : lv_has ls 7 (lwL qX aM o b i)) (hc : ce + 1 ≤ room_1.cells ∧ sl + 6 ≤ room_1.slots) (K : lwK qX aM o cL b p e s m below meth c Q i (ce + 1) (sl + 6) (n + 1)) : W p qX.1 e room_1 s m #[Value.ref b] below meth c H locs ce sl Q (F0 m 156 ls []) := by
  obtain ⟨hz, hq⟩ := r_write (a := (xs (i + 1))) (b := (xs (i + 2))) (v := (xs (i + 3))) h
  have hw := w_write qX C.2.2.2.2.2.2.1 o cL (xs (i + 1)) (xs (i + 2)) (xs (i + 3)) M v
  have hkm := k_X5_write (lqM qX aM) (xs (i + 1)) (xs (i + 2)) (xs (i + 3)) N
  obtain ⟨q1, q2⟩ := qA_I cE_ne hq
  clear hq
  revert hz hw hkm q1 q2
  generalize f_X4_write (xs (i + 1)) (xs (i + 2)) (xs (i + 3)) M = r4
  generalize f_X5_write (xs (i + 1)) (xs (i + 2)) (xs (i + 3)) N = r5
  intro hz hw hkm q1 q2
  refine lv_aload_n C.1.1 C.1.2.1 dL_law_156 rfl (lv_at hl 1 rfl) ?_
  refine lw_arg (k0 := 0) (k4 := 4) (jn := 1) C hS hl rfl rfl ⟨dL_law_157, dL_law_158, dL_law_160, dL_law_161, dL_law_162⟩ (by decide +kernel) (by omega) ?_
  refine lw_arg (k0 := 0) (k4 := 4) (jn := 2) C hS hl rfl rfl ⟨dL_law_163, dL_law_164, dL_law_166, dL_law_167, dL_law_168⟩ (by decide +kernel) (by omega) ?_
  refine lw_arg (k0 := 0) (k4 := 4) (jn := 3) C hS hl rfl rfl ⟨dL_law_169, dL_law_170, dL_law_172, dL_law_173, dL_law_174⟩ (by decide +kernel) (by omega) ?_
  refine lv_aload_n C.1.1 C.1.2.1 dL_law_175 rfl (lv_at hl 3 rfl) ?_
  refine lw_callW C hX hM hS dL_law_176 hw zi_L_write (zm1 228 (by decide +kernel) rfl) (zm1 229 (by decide +kernel) rfl) ⟨Nat.le_of_ble_eq_true rfl, Nat.le_of_ble_eq_true rfl⟩ rfl hl.1 rfl (Nat.le_of_ble_eq_true rfl) hc (fun H1 locs1 hX hM hS => ?_)
  refine lv_istore (lv' := (5, .int _) :: lwL qX aM o b i) C.1.1 C.1.2.1 dL_law_179 hl (by decide) rfl (fun ls hl => ?_)
  refine lv_aload_n C.1.1 C.1.2.1 dL_law_181 rfl (lv_at hl 3 rfl) ?_
  refine lw_arg (k0 := 1) (k4 := 5) (jn := 1) C hS hl rfl rfl ⟨dL_law_182, dL_law_183, dL_law_185, dL_law_186, dL_law_187⟩ (by decide +kernel) (by omega) ?_
  refine lw_arg (k0 := 1) (k4 := 5) (jn := 2) C hS hl rfl rfl ⟨dL_law_188, dL_law_189, dL_law_191, dL_law_192, dL_law_193⟩ (by decide +kernel) (by omega) ?_
  refine lw_arg (k0 := 1) (k4 := 5) (jn := 3) C hS hl rfl rfl ⟨dL_law_194, dL_law_195, dL_law_197, dL_law_198, dL_law_199⟩ (by decide +kernel) (by omega) ?_
  refine lw_callM (As := [.inl (xs (i + 1)), .inl (xs (i + 2)), .inl (xs (i + 3))]) C hX hM hS dL_law_200 hkm (zm4 40 (by decide +kernel) rfl) (zm4 41 (by decide +kernel) rfl) (zm4 42 (by decide +kernel) rfl) zi_X5_write rfl ⟨Nat.le_of_ble_eq_true rfl, Nat.le_of_ble_eq_true rfl⟩ hl.1 rfl (Nat.le_of_ble_eq_true rfl) ⟨by omega, by omega⟩ (fun H1 locs1 hX hM hS => ?_)
  refine lv_istore (lv' := (6, .int _) :: (5, .int _) :: lwL qX aM o b i) C.1.1 C.1.2.1 dL_law_203 hl (by decide) rfl (fun ls hl => ?_)
  refine lw_thrown (k2 := 4) (k5 := 1) C hX hM hS hl rfl rfl ⟨dL_law_205, dL_law_206, dL_law_209, dL_law_211⟩ (zm4 36 (by decide +kernel) rfl) (zm4 37 (by decide +kernel) rfl) (zm4 38 (by decide +kernel) rfl) q1 ⟨by omega, by omega⟩ (fun H1 locs1 hX hM hS => ?_)
  exact lw_tailI (k3 := 5) (k5 := 1) (k6 := 0) C hX hl rfl rfl rfl ⟨dL_law_216, dL_law_218, dL_law_221, dL_law_222, dL_law_223, dL_law_224, dL_law_226, dL_law_227, dL_law_228, dL_law_233⟩ (by decide) (fun z => q2 z v) (K _ _ _ _ _ _ (zRI_mono hz (by omega)) hX hM hS (lv_sub hl [2, 3, 4, 5, 6] rfl))
set_option maxRecDepth 100000 in
set_option maxHeartbeats 4000000 in
theorem lc_punch (C : lwC qX aM o cL b L xs p s m meth c) {i : Nat} {n : Int} (hi : i + 3 < L) (hn : n + 1 < 2 ^ 31) (h : zRI n 0 M N) (hX : lwX qX o cL M v H) (hM : lwM qX aM N H) (hS : va_S (lA0 s) s.heap H locs) (hl : lv_has ls 7 (lwL qX aM o b i)) (hc : ce + 1 ≤ room_1.cells ∧ sl + 6 ≤ room_1.slots) (K : lwK qX aM o cL b p e s m below meth c Q i (ce + 1) (sl + 6) (n + 1)) : W p qX.1 e room_1 s m #[Value.ref b] below meth c H locs ce sl Q (F0 m 236 ls []) := by
  obtain ⟨hz, hq⟩ := r_punch (a := (xs (i + 1))) (b := (xs (i + 2))) (c := (xs (i + 3))) h
  have hw := w_punch qX C.2.2.2.2.2.2.1 o cL (xs (i + 1)) (xs (i + 2)) (xs (i + 3)) M v
  have hkm := k_X5_punch (lqM qX aM) (xs (i + 1)) (xs (i + 2)) (xs (i + 3)) N
  obtain ⟨q1, q2⟩ := qA_I cE_ne hq
  clear hq
  revert hz hw hkm q1 q2
  generalize f_X4_punch (xs (i + 1)) (xs (i + 2)) (xs (i + 3)) M = r4
  generalize f_X5_punch (xs (i + 1)) (xs (i + 2)) (xs (i + 3)) N = r5
  intro hz hw hkm q1 q2
  refine lv_aload_n C.1.1 C.1.2.1 dL_law_236 rfl (lv_at hl 1 rfl) ?_
  refine lw_arg (k0 := 0) (k4 := 4) (jn := 1) C hS hl rfl rfl ⟨dL_law_237, dL_law_238, dL_law_240, dL_law_241, dL_law_242⟩ (by decide +kernel) (by omega) ?_
  refine lw_arg (k0 := 0) (k4 := 4) (jn := 2) C hS hl rfl rfl ⟨dL_law_243, dL_law_244, dL_law_246, dL_law_247, dL_law_248⟩ (by decide +kernel) (by omega) ?_
  refine lw_arg (k0 := 0) (k4 := 4) (jn := 3) C hS hl rfl rfl ⟨dL_law_249, dL_law_250, dL_law_252, dL_law_253, dL_law_254⟩ (by decide +kernel) (by omega) ?_
  refine lv_aload_n C.1.1 C.1.2.1 dL_law_255 rfl (lv_at hl 3 rfl) ?_
  refine lw_callW C hX hM hS dL_law_256 hw zi_L_punch (zm2 91 (by decide +kernel) rfl) (zm2 92 (by decide +kernel) rfl) ⟨Nat.le_of_ble_eq_true rfl, Nat.le_of_ble_eq_true rfl⟩ rfl hl.1 rfl (Nat.le_of_ble_eq_true rfl) hc (fun H1 locs1 hX hM hS => ?_)
  refine lv_istore (lv' := (5, .int _) :: lwL qX aM o b i) C.1.1 C.1.2.1 dL_law_259 hl (by decide) rfl (fun ls hl => ?_)
  refine lv_aload_n C.1.1 C.1.2.1 dL_law_261 rfl (lv_at hl 3 rfl) ?_
  refine lw_arg (k0 := 1) (k4 := 5) (jn := 1) C hS hl rfl rfl ⟨dL_law_262, dL_law_263, dL_law_265, dL_law_266, dL_law_267⟩ (by decide +kernel) (by omega) ?_
  refine lw_arg (k0 := 1) (k4 := 5) (jn := 2) C hS hl rfl rfl ⟨dL_law_268, dL_law_269, dL_law_271, dL_law_272, dL_law_273⟩ (by decide +kernel) (by omega) ?_
  refine lw_arg (k0 := 1) (k4 := 5) (jn := 3) C hS hl rfl rfl ⟨dL_law_274, dL_law_275, dL_law_277, dL_law_278, dL_law_279⟩ (by decide +kernel) (by omega) ?_
  refine lw_callM (As := [.inl (xs (i + 1)), .inl (xs (i + 2)), .inl (xs (i + 3))]) C hX hM hS dL_law_280 hkm (zm4 58 (by decide +kernel) rfl) (zm4 59 (by decide +kernel) rfl) (zm4 60 (by decide +kernel) rfl) zi_X5_punch rfl ⟨Nat.le_of_ble_eq_true rfl, Nat.le_of_ble_eq_true rfl⟩ hl.1 rfl (Nat.le_of_ble_eq_true rfl) ⟨by omega, by omega⟩ (fun H1 locs1 hX hM hS => ?_)
  refine lv_istore (lv' := (6, .int _) :: (5, .int _) :: lwL qX aM o b i) C.1.1 C.1.2.1 dL_law_283 hl (by decide) rfl (fun ls hl => ?_)
  refine lw_thrown (k2 := 4) (k5 := 1) C hX hM hS hl rfl rfl ⟨dL_law_285, dL_law_286, dL_law_289, dL_law_291⟩ (zm4 36 (by decide +kernel) rfl) (zm4 37 (by decide +kernel) rfl) (zm4 38 (by decide +kernel) rfl) q1 ⟨by omega, by omega⟩ (fun H1 locs1 hX hM hS => ?_)
  exact lw_tailI (k3 := 5) (k5 := 1) (k6 := 0) C hX hl rfl rfl rfl ⟨dL_law_296, dL_law_298, dL_law_301, dL_law_302, dL_law_303, dL_law_304, dL_law_306, dL_law_307, dL_law_308, dL_law_313⟩ (by decide) (fun z => q2 z v) (K _ _ _ _ _ _ (zRI_mono hz (by omega)) hX hM hS (lv_sub hl [2, 3, 4, 5, 6] rfl))
set_option maxRecDepth 100000 in
set_option maxHeartbeats 4000000 in
theorem lc_setCopies (C : lwC qX aM o cL b L xs p s m meth c) {i : Nat} {n : Int} (hi : i + 3 < L) (hn : n + 1 < 2 ^ 31) (h : zRI n 0 M N) (hX : lwX qX o cL M v H) (hM : lwM qX aM N H) (hS : va_S (lA0 s) s.heap H locs) (hl : lv_has ls 7 (lwL qX aM o b i)) (hc : ce + 1 ≤ room_1.cells ∧ sl + 6 ≤ room_1.slots) (K : lwK qX aM o cL b p e s m below meth c Q i (ce + 1) (sl + 6) (n + 1)) : W p qX.1 e room_1 s m #[Value.ref b] below meth c H locs ce sl Q (F0 m 316 ls []) := by
  obtain ⟨hz, hq⟩ := r_setCopies (a := (xs (i + 1))) (v := (xs (i + 2))) h
  have hw := w_setCopies qX C.2.2.2.2.2.2.1 o cL (xs (i + 1)) (xs (i + 2)) M v
  have hkm := k_X5_setCopies (lqM qX aM) (xs (i + 1)) (xs (i + 2)) N
  obtain ⟨q1, q2⟩ := qA_I cE_ne hq
  clear hq
  revert hz hw hkm q1 q2
  generalize f_X4_setCopies (xs (i + 1)) (xs (i + 2)) M = r4
  generalize f_X5_setCopies (xs (i + 1)) (xs (i + 2)) N = r5
  intro hz hw hkm q1 q2
  refine lv_aload_n C.1.1 C.1.2.1 dL_law_316 rfl (lv_at hl 1 rfl) ?_
  refine lw_arg (k0 := 0) (k4 := 4) (jn := 1) C hS hl rfl rfl ⟨dL_law_317, dL_law_318, dL_law_320, dL_law_321, dL_law_322⟩ (by decide +kernel) (by omega) ?_
  refine lw_arg (k0 := 0) (k4 := 4) (jn := 2) C hS hl rfl rfl ⟨dL_law_323, dL_law_324, dL_law_326, dL_law_327, dL_law_328⟩ (by decide +kernel) (by omega) ?_
  refine lv_aload_n C.1.1 C.1.2.1 dL_law_329 rfl (lv_at hl 3 rfl) ?_
  refine lw_callW C hX hM hS dL_law_330 hw zi_L_setCopies (zm2 99 (by decide +kernel) rfl) (zm2 100 (by decide +kernel) rfl) ⟨Nat.le_of_ble_eq_true rfl, Nat.le_of_ble_eq_true rfl⟩ rfl hl.1 rfl (Nat.le_of_ble_eq_true rfl) hc (fun H1 locs1 hX hM hS => ?_)
  refine lv_istore (lv' := (5, .int _) :: lwL qX aM o b i) C.1.1 C.1.2.1 dL_law_333 hl (by decide) rfl (fun ls hl => ?_)
  refine lv_aload_n C.1.1 C.1.2.1 dL_law_335 rfl (lv_at hl 3 rfl) ?_
  refine lw_arg (k0 := 1) (k4 := 5) (jn := 1) C hS hl rfl rfl ⟨dL_law_336, dL_law_337, dL_law_339, dL_law_340, dL_law_341⟩ (by decide +kernel) (by omega) ?_
  refine lw_arg (k0 := 1) (k4 := 5) (jn := 2) C hS hl rfl rfl ⟨dL_law_342, dL_law_343, dL_law_345, dL_law_346, dL_law_347⟩ (by decide +kernel) (by omega) ?_
  refine lw_callM (As := [.inl (xs (i + 1)), .inl (xs (i + 2))]) C hX hM hS dL_law_348 hkm (zm4 62 (by decide +kernel) rfl) (zm4 63 (by decide +kernel) rfl) (zm4 64 (by decide +kernel) rfl) zi_X5_setCopies rfl ⟨Nat.le_of_ble_eq_true rfl, Nat.le_of_ble_eq_true rfl⟩ hl.1 rfl (Nat.le_of_ble_eq_true rfl) ⟨by omega, by omega⟩ (fun H1 locs1 hX hM hS => ?_)
  refine lv_istore (lv' := (6, .int _) :: (5, .int _) :: lwL qX aM o b i) C.1.1 C.1.2.1 dL_law_351 hl (by decide) rfl (fun ls hl => ?_)
  refine lw_thrown (k2 := 4) (k5 := 1) C hX hM hS hl rfl rfl ⟨dL_law_353, dL_law_354, dL_law_357, dL_law_359⟩ (zm4 36 (by decide +kernel) rfl) (zm4 37 (by decide +kernel) rfl) (zm4 38 (by decide +kernel) rfl) q1 ⟨by omega, by omega⟩ (fun H1 locs1 hX hM hS => ?_)
  exact lw_tailI (k3 := 5) (k5 := 1) (k6 := 0) C hX hl rfl rfl rfl ⟨dL_law_364, dL_law_366, dL_law_369, dL_law_370, dL_law_371, dL_law_372, dL_law_374, dL_law_375, dL_law_376, dL_law_381⟩ (by decide) (fun z => q2 z v) (K _ _ _ _ _ _ (zRI_mono hz (by omega)) hX hM hS (lv_sub hl [2, 3, 4, 5, 6] rfl))
set_option maxRecDepth 100000 in
set_option maxHeartbeats 4000000 in
theorem lc_read (C : lwC qX aM o cL b L xs p s m meth c) {i : Nat} {n : Int} (hi : i + 3 < L) (hn : n + 1 < 2 ^ 31) (h : zRI n 0 M N) (hX : lwX qX o cL M v H) (hM : lwM qX aM N H) (hS : va_S (lA0 s) s.heap H locs) (hl : lv_has ls 7 (lwL qX aM o b i)) (hc : ce + 1 ≤ room_1.cells ∧ sl + 6 ≤ room_1.slots) (K : lwK qX aM o cL b p e s m below meth c Q i (ce + 1) (sl + 6) (n + 1)) : W p qX.1 e room_1 s m #[Value.ref b] below meth c H locs ce sl Q (F0 m 384 ls []) := by
  obtain ⟨hz, hq⟩ := r_read (a := (xs (i + 1))) (b := (xs (i + 2))) h
  have hw := w_read qX C.2.2.2.2.2.2.1 o cL (xs (i + 1)) (xs (i + 2)) M v
  have hkm := k_X5_read (lqM qX aM) (xs (i + 1)) (xs (i + 2)) N (zRI_Pl h)
  obtain ⟨q1, q2⟩ := qA_I cE_ne hq
  clear hq
  revert hz hw hkm q1 q2
  generalize f_X4_read (xs (i + 1)) (xs (i + 2)) M = r4
  generalize f_X5_read (xs (i + 1)) (xs (i + 2)) N = r5
  intro hz hw hkm q1 q2
  refine lv_aload_n C.1.1 C.1.2.1 dL_law_384 rfl (lv_at hl 1 rfl) ?_
  refine lw_arg (k0 := 0) (k4 := 4) (jn := 1) C hS hl rfl rfl ⟨dL_law_385, dL_law_386, dL_law_388, dL_law_389, dL_law_390⟩ (by decide +kernel) (by omega) ?_
  refine lw_arg (k0 := 0) (k4 := 4) (jn := 2) C hS hl rfl rfl ⟨dL_law_391, dL_law_392, dL_law_394, dL_law_395, dL_law_396⟩ (by decide +kernel) (by omega) ?_
  refine lv_aload_n C.1.1 C.1.2.1 dL_law_397 rfl (lv_at hl 3 rfl) ?_
  refine lw_callW C hX hM hS dL_law_398 hw zi_L_read (zm2 107 (by decide +kernel) rfl) (zm2 108 (by decide +kernel) rfl) ⟨Nat.le_of_ble_eq_true rfl, Nat.le_of_ble_eq_true rfl⟩ rfl hl.1 rfl (Nat.le_of_ble_eq_true rfl) hc (fun H1 locs1 hX hM hS => ?_)
  refine lv_istore (lv' := (5, .int _) :: lwL qX aM o b i) C.1.1 C.1.2.1 dL_law_401 hl (by decide) rfl (fun ls hl => ?_)
  refine lv_aload_n C.1.1 C.1.2.1 dL_law_403 rfl (lv_at hl 3 rfl) ?_
  refine lw_arg (k0 := 1) (k4 := 5) (jn := 1) C hS hl rfl rfl ⟨dL_law_404, dL_law_405, dL_law_407, dL_law_408, dL_law_409⟩ (by decide +kernel) (by omega) ?_
  refine lw_arg (k0 := 1) (k4 := 5) (jn := 2) C hS hl rfl rfl ⟨dL_law_410, dL_law_411, dL_law_413, dL_law_414, dL_law_415⟩ (by decide +kernel) (by omega) ?_
  refine lw_callM (As := [.inl (xs (i + 1)), .inl (xs (i + 2))]) C hX hM hS dL_law_416 hkm (zm4 66 (by decide +kernel) rfl) (zm4 67 (by decide +kernel) rfl) (zm4 68 (by decide +kernel) rfl) zi_X5_read rfl ⟨Nat.le_of_ble_eq_true rfl, Nat.le_of_ble_eq_true rfl⟩ hl.1 rfl (Nat.le_of_ble_eq_true rfl) ⟨by omega, by omega⟩ (fun H1 locs1 hX hM hS => ?_)
  refine lv_istore (lv' := (6, .int _) :: (5, .int _) :: lwL qX aM o b i) C.1.1 C.1.2.1 dL_law_419 hl (by decide) rfl (fun ls hl => ?_)
  refine lw_thrown (k2 := 4) (k5 := 1) C hX hM hS hl rfl rfl ⟨dL_law_421, dL_law_422, dL_law_425, dL_law_427⟩ (zm4 36 (by decide +kernel) rfl) (zm4 37 (by decide +kernel) rfl) (zm4 38 (by decide +kernel) rfl) q1 ⟨by omega, by omega⟩ (fun H1 locs1 hX hM hS => ?_)
  exact lw_tailI (k3 := 5) (k5 := 1) (k6 := 0) C hX hl rfl rfl rfl ⟨dL_law_432, dL_law_434, dL_law_437, dL_law_438, dL_law_439, dL_law_440, dL_law_442, dL_law_443, dL_law_444, dL_law_449⟩ (by decide) (fun z => q2 z v) (K _ _ _ _ _ _ (zRI_mono hz (by omega)) hX hM hS (lv_sub hl [2, 3, 4, 5, 6] rfl))
set_option maxRecDepth 100000 in
set_option maxHeartbeats 4000000 in
theorem lc_nextData (C : lwC qX aM o cL b L xs p s m meth c) {i : Nat} {n : Int} (hi : i + 3 < L) (hn : n + 1 < 2 ^ 31) (h : zRI n 0 M N) (hX : lwX qX o cL M v H) (hM : lwM qX aM N H) (hS : va_S (lA0 s) s.heap H locs) (hl : lv_has ls 7 (lwL qX aM o b i)) (hc : ce + 1 ≤ room_1.cells ∧ sl + 6 ≤ room_1.slots) (K : lwK qX aM o cL b p e s m below meth c Q i (ce + 1) (sl + 6) (n + 1)) : W p qX.1 e room_1 s m #[Value.ref b] below meth c H locs ce sl Q (F0 m 452 ls []) := by
  obtain ⟨hz, hq⟩ := r_nextData (a := (xs (i + 1))) (b := (xs (i + 2))) h
  have hw := w_nextData qX C.2.2.2.2.2.2.1 o cL (xs (i + 1)) (xs (i + 2)) M v
  have hkm := k_X5_nextData (lqM qX aM) (xs (i + 1)) (xs (i + 2)) N
  obtain ⟨q1, q2⟩ := qA_I cE_ne hq
  clear hq
  revert hz hw hkm q1 q2
  generalize f_X4_nextData (xs (i + 1)) (xs (i + 2)) M = r4
  generalize f_X5_nextData (xs (i + 1)) (xs (i + 2)) N = r5
  intro hz hw hkm q1 q2
  refine lv_aload_n C.1.1 C.1.2.1 dL_law_452 rfl (lv_at hl 1 rfl) ?_
  refine lw_arg (k0 := 0) (k4 := 4) (jn := 1) C hS hl rfl rfl ⟨dL_law_453, dL_law_454, dL_law_456, dL_law_457, dL_law_458⟩ (by decide +kernel) (by omega) ?_
  refine lw_arg (k0 := 0) (k4 := 4) (jn := 2) C hS hl rfl rfl ⟨dL_law_459, dL_law_460, dL_law_462, dL_law_463, dL_law_464⟩ (by decide +kernel) (by omega) ?_
  refine lv_aload_n C.1.1 C.1.2.1 dL_law_465 rfl (lv_at hl 3 rfl) ?_
  refine lw_callW C hX hM hS dL_law_466 hw zi_L_nextData (zm2 140 (by decide +kernel) rfl) (zm2 141 (by decide +kernel) rfl) ⟨Nat.le_of_ble_eq_true rfl, Nat.le_of_ble_eq_true rfl⟩ rfl hl.1 rfl (Nat.le_of_ble_eq_true rfl) hc (fun H1 locs1 hX hM hS => ?_)
  refine lv_istore (lv' := (5, .int _) :: lwL qX aM o b i) C.1.1 C.1.2.1 dL_law_469 hl (by decide) rfl (fun ls hl => ?_)
  refine lv_aload_n C.1.1 C.1.2.1 dL_law_471 rfl (lv_at hl 3 rfl) ?_
  refine lw_arg (k0 := 1) (k4 := 5) (jn := 1) C hS hl rfl rfl ⟨dL_law_472, dL_law_473, dL_law_475, dL_law_476, dL_law_477⟩ (by decide +kernel) (by omega) ?_
  refine lw_arg (k0 := 1) (k4 := 5) (jn := 2) C hS hl rfl rfl ⟨dL_law_478, dL_law_479, dL_law_481, dL_law_482, dL_law_483⟩ (by decide +kernel) (by omega) ?_
  refine lw_callM (As := [.inl (xs (i + 1)), .inl (xs (i + 2))]) C hX hM hS dL_law_484 hkm (zm4 98 (by decide +kernel) rfl) (zm4 99 (by decide +kernel) rfl) (zm4 100 (by decide +kernel) rfl) zi_X5_nextData rfl ⟨Nat.le_of_ble_eq_true rfl, Nat.le_of_ble_eq_true rfl⟩ hl.1 rfl (Nat.le_of_ble_eq_true rfl) ⟨by omega, by omega⟩ (fun H1 locs1 hX hM hS => ?_)
  refine lv_istore (lv' := (6, .int _) :: (5, .int _) :: lwL qX aM o b i) C.1.1 C.1.2.1 dL_law_487 hl (by decide) rfl (fun ls hl => ?_)
  refine lw_thrown (k2 := 4) (k5 := 1) C hX hM hS hl rfl rfl ⟨dL_law_489, dL_law_490, dL_law_493, dL_law_495⟩ (zm4 36 (by decide +kernel) rfl) (zm4 37 (by decide +kernel) rfl) (zm4 38 (by decide +kernel) rfl) q1 ⟨by omega, by omega⟩ (fun H1 locs1 hX hM hS => ?_)
  exact lw_tailI (k3 := 5) (k5 := 1) (k6 := 0) C hX hl rfl rfl rfl ⟨dL_law_500, dL_law_502, dL_law_505, dL_law_506, dL_law_507, dL_law_508, dL_law_510, dL_law_511, dL_law_512, dL_law_517⟩ (by decide) (fun z => q2 z v) (K _ _ _ _ _ _ (zRI_mono hz (by omega)) hX hM hS (lv_sub hl [2, 3, 4, 5, 6] rfl))
set_option maxRecDepth 100000 in
set_option maxHeartbeats 4000000 in
theorem lc_nextHole (C : lwC qX aM o cL b L xs p s m meth c) {i : Nat} {n : Int} (hi : i + 3 < L) (hn : n + 1 < 2 ^ 31) (h : zRI n 0 M N) (hX : lwX qX o cL M v H) (hM : lwM qX aM N H) (hS : va_S (lA0 s) s.heap H locs) (hl : lv_has ls 7 (lwL qX aM o b i)) (hc : ce + 1 ≤ room_1.cells ∧ sl + 6 ≤ room_1.slots) (K : lwK qX aM o cL b p e s m below meth c Q i (ce + 1) (sl + 6) (n + 1)) : W p qX.1 e room_1 s m #[Value.ref b] below meth c H locs ce sl Q (F0 m 520 ls []) := by
  obtain ⟨hz, hq⟩ := r_nextHole (a := (xs (i + 1))) (b := (xs (i + 2))) h
  have hw := w_nextHole qX C.2.2.2.2.2.2.1 o cL (xs (i + 1)) (xs (i + 2)) M v
  have hkm := k_X5_nextHole (lqM qX aM) (xs (i + 1)) (xs (i + 2)) N
  obtain ⟨q1, q2⟩ := qA_I cE_ne hq
  clear hq
  revert hz hw hkm q1 q2
  generalize f_X4_nextHole (xs (i + 1)) (xs (i + 2)) M = r4
  generalize f_X5_nextHole (xs (i + 1)) (xs (i + 2)) N = r5
  intro hz hw hkm q1 q2
  refine lv_aload_n C.1.1 C.1.2.1 dL_law_520 rfl (lv_at hl 1 rfl) ?_
  refine lw_arg (k0 := 0) (k4 := 4) (jn := 1) C hS hl rfl rfl ⟨dL_law_521, dL_law_522, dL_law_524, dL_law_525, dL_law_526⟩ (by decide +kernel) (by omega) ?_
  refine lw_arg (k0 := 0) (k4 := 4) (jn := 2) C hS hl rfl rfl ⟨dL_law_527, dL_law_528, dL_law_530, dL_law_531, dL_law_532⟩ (by decide +kernel) (by omega) ?_
  refine lv_aload_n C.1.1 C.1.2.1 dL_law_533 rfl (lv_at hl 3 rfl) ?_
  refine lw_callW C hX hM hS dL_law_534 hw zi_L_nextHole (zm2 164 (by decide +kernel) rfl) (zm2 165 (by decide +kernel) rfl) ⟨Nat.le_of_ble_eq_true rfl, Nat.le_of_ble_eq_true rfl⟩ rfl hl.1 rfl (Nat.le_of_ble_eq_true rfl) hc (fun H1 locs1 hX hM hS => ?_)
  refine lv_istore (lv' := (5, .int _) :: lwL qX aM o b i) C.1.1 C.1.2.1 dL_law_537 hl (by decide) rfl (fun ls hl => ?_)
  refine lv_aload_n C.1.1 C.1.2.1 dL_law_539 rfl (lv_at hl 3 rfl) ?_
  refine lw_arg (k0 := 1) (k4 := 5) (jn := 1) C hS hl rfl rfl ⟨dL_law_540, dL_law_541, dL_law_543, dL_law_544, dL_law_545⟩ (by decide +kernel) (by omega) ?_
  refine lw_arg (k0 := 1) (k4 := 5) (jn := 2) C hS hl rfl rfl ⟨dL_law_546, dL_law_547, dL_law_549, dL_law_550, dL_law_551⟩ (by decide +kernel) (by omega) ?_
  refine lw_callM (As := [.inl (xs (i + 1)), .inl (xs (i + 2))]) C hX hM hS dL_law_552 hkm (zm4 102 (by decide +kernel) rfl) (zm4 103 (by decide +kernel) rfl) (zm4 104 (by decide +kernel) rfl) zi_X5_nextHole rfl ⟨Nat.le_of_ble_eq_true rfl, Nat.le_of_ble_eq_true rfl⟩ hl.1 rfl (Nat.le_of_ble_eq_true rfl) ⟨by omega, by omega⟩ (fun H1 locs1 hX hM hS => ?_)
  refine lv_istore (lv' := (6, .int _) :: (5, .int _) :: lwL qX aM o b i) C.1.1 C.1.2.1 dL_law_555 hl (by decide) rfl (fun ls hl => ?_)
  refine lw_thrown (k2 := 4) (k5 := 1) C hX hM hS hl rfl rfl ⟨dL_law_557, dL_law_558, dL_law_561, dL_law_563⟩ (zm4 36 (by decide +kernel) rfl) (zm4 37 (by decide +kernel) rfl) (zm4 38 (by decide +kernel) rfl) q1 ⟨by omega, by omega⟩ (fun H1 locs1 hX hM hS => ?_)
  exact lw_tailI (k3 := 5) (k5 := 1) (k6 := 0) C hX hl rfl rfl rfl ⟨dL_law_568, dL_law_570, dL_law_573, dL_law_574, dL_law_575, dL_law_576, dL_law_578, dL_law_579, dL_law_580, dL_law_585⟩ (by decide) (fun z => q2 z v) (K _ _ _ _ _ _ (zRI_mono hz (by omega)) hX hM hS (lv_sub hl [2, 3, 4, 5, 6] rfl))
set_option maxRecDepth 100000 in
set_option maxHeartbeats 4000000 in
theorem lc_sync (C : lwC qX aM o cL b L xs p s m meth c) {i : Nat} {n : Int} (hi : i + 3 < L) (hn : n + 1 < 2 ^ 31) (h : zRI n 0 M N) (hX : lwX qX o cL M v H) (hM : lwM qX aM N H) (hS : va_S (lA0 s) s.heap H locs) (hl : lv_has ls 7 (lwL qX aM o b i)) (hc : ce + 1 ≤ room_1.cells ∧ sl + 6 ≤ room_1.slots) (K : lwK qX aM o cL b p e s m below meth c Q i (ce + 1) (sl + 6) (n + 1)) : W p qX.1 e room_1 s m #[Value.ref b] below meth c H locs ce sl Q (F0 m 588 ls []) := by
  obtain ⟨hz, hq⟩ := r_sync h hn
  have hw := w_sync qX C.2.2.2.2.2.2.1 o cL M v
  have hkm := k_X5_sync (lqM qX aM) N (sync_Pl h)
  obtain ⟨q1, q2⟩ := qA_I c1E_ne hq
  clear hq
  revert hz hw hkm q1 q2
  generalize f_X4_sync M = r4
  generalize f_X5_sync N = r5
  intro hz hw hkm q1 q2
  refine lv_aload_n C.1.1 C.1.2.1 dL_law_588 rfl (lv_at hl 1 rfl) ?_
  refine lv_aload_n C.1.1 C.1.2.1 dL_law_589 rfl (lv_at hl 3 rfl) ?_
  refine lw_callW C hX hM hS dL_law_590 hw zi_L_sync (zm2 171 (by decide +kernel) rfl) (zm2 172 (by decide +kernel) rfl) ⟨Nat.le_of_ble_eq_true rfl, Nat.le_of_ble_eq_true rfl⟩ rfl hl.1 rfl (Nat.le_of_ble_eq_true rfl) hc (fun H1 locs1 hX hM hS => ?_)
  refine lv_istore (lv' := (5, .int _) :: lwL qX aM o b i) C.1.1 C.1.2.1 dL_law_593 hl (by decide) rfl (fun ls hl => ?_)
  refine lv_aload_n C.1.1 C.1.2.1 dL_law_595 rfl (lv_at hl 3 rfl) ?_
  refine lw_callM (As := []) C hX hM hS dL_law_596 hkm (zm4 106 (by decide +kernel) rfl) (zm4 107 (by decide +kernel) rfl) (zm4 108 (by decide +kernel) rfl) zi_X5_sync rfl ⟨Nat.le_of_ble_eq_true rfl, Nat.le_of_ble_eq_true rfl⟩ hl.1 rfl (Nat.le_of_ble_eq_true rfl) ⟨by omega, by omega⟩ (fun H1 locs1 hX hM hS => ?_)
  refine lv_istore (lv' := (6, .int _) :: (5, .int _) :: lwL qX aM o b i) C.1.1 C.1.2.1 dL_law_599 hl (by decide) rfl (fun ls hl => ?_)
  refine lw_thrown (k2 := 4) (k5 := 1) C hX hM hS hl rfl rfl ⟨dL_law_601, dL_law_602, dL_law_605, dL_law_607⟩ (zm4 36 (by decide +kernel) rfl) (zm4 37 (by decide +kernel) rfl) (zm4 38 (by decide +kernel) rfl) q1 ⟨by omega, by omega⟩ (fun H1 locs1 hX hM hS => ?_)
  exact lw_tailI (k3 := 5) (k5 := 1) (k6 := 0) C hX hl rfl rfl rfl ⟨dL_law_612, dL_law_614, dL_law_617, dL_law_618, dL_law_619, dL_law_620, dL_law_622, dL_law_623, dL_law_624, dL_law_629⟩ (by decide) (fun z => q2 z v) (K _ _ _ _ _ _ hz hX hM hS (lv_sub hl [2, 3, 4, 5, 6] rfl))
set_option maxRecDepth 100000 in
set_option maxHeartbeats 4000000 in
theorem lc_abandon (C : lwC qX aM o cL b L xs p s m meth c) {i : Nat} {n : Int} (hi : i + 3 < L) (hn : n + 1 < 2 ^ 31) (h : zRI n 0 M N) (hX : lwX qX o cL M v H) (hM : lwM qX aM N H) (hS : va_S (lA0 s) s.heap H locs) (hl : lv_has ls 7 (lwL qX aM o b i)) (hc : ce + 1 ≤ room_1.cells ∧ sl + 6 ≤ room_1.slots) (K : lwK qX aM o cL b p e s m below meth c Q i (ce + 1) (sl + 6) (n + 1)) : W p qX.1 e room_1 s m #[Value.ref b] below meth c H locs ce sl Q (F0 m 632 ls []) := by
  obtain ⟨hz, hq⟩ := r_abandon h
  have hkx := k_X4_abandon qX M
  have hkm := k_X5_abandon (lqM qX aM) N
  revert hz hq hkx hkm
  generalize f_X4_abandon M = r4
  generalize f_X5_abandon N = r5
  intro hz hq hkx hkm
  refine W.widen (k := ce + 1) (n := sl + 6) (by omega) (by omega) ?_
  refine lv_aload_n C.1.1 C.1.2.1 dL_law_632 rfl (lv_at hl 1 rfl) ?_
  refine lw_callX (As := []) C hX hM hS dL_law_633 hkx (zm1 122 (by decide +kernel) rfl) (zm1 123 (by decide +kernel) rfl) (zm1 124 (by decide +kernel) rfl) zi_X4_abandon rfl ⟨Nat.le_of_ble_eq_true rfl, Nat.le_of_ble_eq_true rfl⟩ hl.1 rfl (Nat.le_of_ble_eq_true rfl) hc (fun H1 locs1 hX hM hS => ?_)
  refine lv_aload_n C.1.1 C.1.2.1 dL_law_636 rfl (lv_at hl 2 rfl) ?_
  refine lw_callM (As := []) C hX hM hS dL_law_637 hkm (zm4 151 (by decide +kernel) rfl) (zm4 152 (by decide +kernel) rfl) (zm4 153 (by decide +kernel) rfl) zi_X5_abandon rfl ⟨Nat.le_of_ble_eq_true rfl, Nat.le_of_ble_eq_true rfl⟩ hl.1 rfl (Nat.le_of_ble_eq_true rfl) hc (fun H1 locs1 hX hM hS => ?_)
  exact lv_icmp_eq (tgt := 1540) C.1.1 C.1.2.1 dL_law_640 (by decide) (fun _ => K _ _ _ _ _ _ (zRI_mono hz (by omega)) hX hM hS hl) (fun q => absurd hq q)
set_option maxRecDepth 100000 in
set_option maxHeartbeats 4000000 in
theorem lc_group (C : lwC qX aM o cL b L xs p s m meth c) {i : Nat} {n : Int} (hi : i + 3 < L) (hn : n + 1 < 2 ^ 31) (h : zRI n 0 M N) (hX : lwX qX o cL M v H) (hM : lwM qX aM N H) (hS : va_S (lA0 s) s.heap H locs) (hl : lv_has ls 7 (lwL qX aM o b i)) (hc : ce + 1 ≤ room_1.cells ∧ sl + 6 ≤ room_1.slots) (K : lwK qX aM o cL b p e s m below meth c Q i (ce + 1) (sl + 6) (n + 1)) : W p qX.1 e room_1 s m #[Value.ref b] below meth c H locs ce sl Q (F0 m 645 ls []) := by
  obtain ⟨hz, hq⟩ := r_group h
  have hkx := k_X4_group qX M
  have hkm := k_X5_group (lqM qX aM) N
  revert hz hq hkx hkm
  generalize f_X4_group M = r4
  generalize f_X5_group N = r5
  intro hz hq hkx hkm
  refine W.widen (k := ce + 1) (n := sl + 6) (by omega) (by omega) ?_
  refine lv_aload_n C.1.1 C.1.2.1 dL_law_645 rfl (lv_at hl 1 rfl) ?_
  refine lw_callX (As := []) C hX hM hS dL_law_646 hkx (zm1 141 (by decide +kernel) rfl) (zm1 142 (by decide +kernel) rfl) (zm1 143 (by decide +kernel) rfl) zi_X4_group rfl ⟨Nat.le_of_ble_eq_true rfl, Nat.le_of_ble_eq_true rfl⟩ hl.1 rfl (Nat.le_of_ble_eq_true rfl) hc (fun H1 locs1 hX hM hS => ?_)
  refine lv_aload_n C.1.1 C.1.2.1 dL_law_649 rfl (lv_at hl 2 rfl) ?_
  refine lw_callM (As := []) C hX hM hS dL_law_650 hkm (zm4 163 (by decide +kernel) rfl) (zm4 164 (by decide +kernel) rfl) (zm4 165 (by decide +kernel) rfl) zi_X5_group rfl ⟨Nat.le_of_ble_eq_true rfl, Nat.le_of_ble_eq_true rfl⟩ hl.1 rfl (Nat.le_of_ble_eq_true rfl) hc (fun H1 locs1 hX hM hS => ?_)
  exact lv_icmp_eq (tgt := 1540) C.1.1 C.1.2.1 dL_law_653 (by decide) (fun _ => K _ _ _ _ _ _ (zRI_mono hz (by omega)) hX hM hS hl) (fun q => absurd hq q)
end
