/-! ===== by program (wip/whole/lawcase.py): the law's cases ===== -/
section
variable {qX : ZQ} {aM : Nat → Nat} {o : Nat} {cL : ClassId} {b L : Nat} {xs : Nat → Int32} {p : Program} {e : Env} {s : State} {m : MethodId} {below : List Frame} {meth : Method} {c : Code} {H : Heap} {locs : List Loc} {ce sl : Nat} {Q : State → Prop}
variable {M N : Mem} {v : Int64} {ls : Array Slot}
set_option maxRecDepth 100000 in
set_option maxHeartbeats 4000000 in
theorem lc_buffered (C : lwC qX aM o cL b L xs p s m meth c) {i : Nat} {n : Int} (hi : i + 3 < L) (hn : n + 1 < 2 ^ 31) (h : zRI n 0 M N) (hX : lwX qX o cL M v H) (hM : lwM qX aM N H) (hS : va_S (lA0 s) s.heap H locs) (hl : lv_has ls 7 (lwL qX aM o b i)) (hc : ce + 1 ≤ room_1.cells ∧ sl + 6 ≤ room_1.slots) (K : lwK qX aM o cL b p e s m below meth c Q i (ce + 1) (sl + 6) (n + 1)) : W p qX.1 e room_1 s m #[Value.ref b] below meth c H locs ce sl Q (F0 m 658 ls []) := by
  obtain ⟨hz, hq⟩ := r_buffered h
  have hkx := k_X4_buffered qX M
  have hkm := k_X5_buffered (lqM qX aM) N
  revert hz hq hkx hkm
  generalize f_X4_buffered M = r4
  generalize f_X5_buffered N = r5
  intro hz hq hkx hkm
  refine W.widen (k := ce + 1) (n := sl + 6) (by omega) (by omega) ?_
  refine lv_aload_n C.1.1 C.1.2.1 dL_law_658 rfl (lv_at hl 1 rfl) ?_
  refine lw_callX (As := []) C hX hM hS dL_law_659 hkx (zm1 145 (by decide +kernel) rfl) (zm1 146 (by decide +kernel) rfl) (zm1 147 (by decide +kernel) rfl) zi_X4_buffered rfl ⟨Nat.le_of_ble_eq_true rfl, Nat.le_of_ble_eq_true rfl⟩ hl.1 rfl (Nat.le_of_ble_eq_true rfl) hc (fun H1 locs1 hX hM hS => ?_)
  refine lv_aload_n C.1.1 C.1.2.1 dL_law_662 rfl (lv_at hl 2 rfl) ?_
  refine lw_callM (As := []) C hX hM hS dL_law_663 hkm (zm4 167 (by decide +kernel) rfl) (zm4 168 (by decide +kernel) rfl) (zm4 169 (by decide +kernel) rfl) zi_X5_buffered rfl ⟨Nat.le_of_ble_eq_true rfl, Nat.le_of_ble_eq_true rfl⟩ hl.1 rfl (Nat.le_of_ble_eq_true rfl) hc (fun H1 locs1 hX hM hS => ?_)
  exact lv_icmp_eq (tgt := 1540) C.1.1 C.1.2.1 dL_law_666 (by decide) (fun _ => K _ _ _ _ _ _ (zRI_mono hz (by omega)) hX hM hS hl) (fun q => absurd hq q)
set_option maxRecDepth 100000 in
set_option maxHeartbeats 4000000 in
theorem lc_offline (C : lwC qX aM o cL b L xs p s m meth c) {i : Nat} {n : Int} (hi : i + 3 < L) (hn : n + 1 < 2 ^ 31) (h : zRI n 0 M N) (hX : lwX qX o cL M v H) (hM : lwM qX aM N H) (hS : va_S (lA0 s) s.heap H locs) (hl : lv_has ls 7 (lwL qX aM o b i)) (hc : ce + 1 ≤ room_1.cells ∧ sl + 6 ≤ room_1.slots) (K : lwK qX aM o cL b p e s m below meth c Q i (ce + 1) (sl + 6) (n + 1)) : W p qX.1 e room_1 s m #[Value.ref b] below meth c H locs ce sl Q (F0 m 671 ls []) := by
  obtain ⟨hz, hq⟩ := r_offline (a := (xs (i + 1))) (b := (xs (i + 2))) h
  have hw := w_offline qX C.2.2.2.2.2.2.1 o cL (xs (i + 1)) (xs (i + 2)) M v
  have hkm := k_X5_offline (lqM qX aM) (xs (i + 1)) (xs (i + 2)) N
  have q1 := qA_U hq
  clear hq
  revert hz hw hkm q1
  generalize f_X4_offline (xs (i + 1)) (xs (i + 2)) M = r4
  generalize f_X5_offline (xs (i + 1)) (xs (i + 2)) N = r5
  intro hz hw hkm q1
  refine lv_aload_n C.1.1 C.1.2.1 dL_law_671 rfl (lv_at hl 1 rfl) ?_
  refine lw_arg (k0 := 0) (k4 := 4) (jn := 1) C hS hl rfl rfl ⟨dL_law_672, dL_law_673, dL_law_675, dL_law_676, dL_law_677⟩ (by decide +kernel) (by omega) ?_
  refine lw_arg (k0 := 0) (k4 := 4) (jn := 2) C hS hl rfl rfl ⟨dL_law_678, dL_law_679, dL_law_681, dL_law_682, dL_law_683⟩ (by decide +kernel) (by omega) ?_
  refine lw_callW C hX hM hS dL_law_684 hw zi_L_offline (zm3 71 (by decide +kernel) rfl) (zm3 72 (by decide +kernel) rfl) ⟨Nat.le_of_ble_eq_true rfl, Nat.le_of_ble_eq_true rfl⟩ rfl hl.1 rfl (Nat.le_of_ble_eq_true rfl) hc (fun H1 locs1 hX hM hS => ?_)
  refine lv_istore (lv' := (5, .int _) :: lwL qX aM o b i) C.1.1 C.1.2.1 dL_law_687 hl (by decide) rfl (fun ls hl => ?_)
  refine lv_aload_n C.1.1 C.1.2.1 dL_law_689 rfl (lv_at hl 3 rfl) ?_
  refine lw_arg (k0 := 1) (k4 := 5) (jn := 1) C hS hl rfl rfl ⟨dL_law_690, dL_law_691, dL_law_693, dL_law_694, dL_law_695⟩ (by decide +kernel) (by omega) ?_
  refine lw_arg (k0 := 1) (k4 := 5) (jn := 2) C hS hl rfl rfl ⟨dL_law_696, dL_law_697, dL_law_699, dL_law_700, dL_law_701⟩ (by decide +kernel) (by omega) ?_
  refine lw_callM (As := [.inl (xs (i + 1)), .inl (xs (i + 2))]) C hX hM hS dL_law_702 hkm (zm4 171 (by decide +kernel) rfl) (zm4 172 (by decide +kernel) rfl) (zm4 173 (by decide +kernel) rfl) zi_X5_offline rfl ⟨Nat.le_of_ble_eq_true rfl, Nat.le_of_ble_eq_true rfl⟩ hl.1 rfl (Nat.le_of_ble_eq_true rfl) ⟨by omega, by omega⟩ (fun H1 locs1 hX hM hS => ?_)
  refine lw_thrown (k2 := 3) (k5 := 0) C hX hM hS hl rfl rfl ⟨dL_law_705, dL_law_706, dL_law_709, dL_law_711⟩ (zm4 36 (by decide +kernel) rfl) (zm4 37 (by decide +kernel) rfl) (zm4 38 (by decide +kernel) rfl) q1 ⟨by omega, by omega⟩ (fun H1 locs1 hX hM hS => ?_)
  exact lv_goto (tgt := 1540) C.1.1 C.1.2.1 dL_law_716 (by decide) (K _ _ _ _ _ _ (zRI_mono hz (by omega)) hX hM hS (lv_sub hl [1, 2, 3, 4, 5] rfl))
set_option maxRecDepth 100000 in
set_option maxHeartbeats 4000000 in
theorem lc_online (C : lwC qX aM o cL b L xs p s m meth c) {i : Nat} {n : Int} (hi : i + 3 < L) (hn : n + 1 < 2 ^ 31) (h : zRI n 0 M N) (hX : lwX qX o cL M v H) (hM : lwM qX aM N H) (hS : va_S (lA0 s) s.heap H locs) (hl : lv_has ls 7 (lwL qX aM o b i)) (hc : ce + 1 ≤ room_1.cells ∧ sl + 6 ≤ room_1.slots) (K : lwK qX aM o cL b p e s m below meth c Q i (ce + 1) (sl + 6) (n + 1)) : W p qX.1 e room_1 s m #[Value.ref b] below meth c H locs ce sl Q (F0 m 719 ls []) := by
  obtain ⟨hz, hq⟩ := r_online (m := (xs (i + 1))) (s := (xs (i + 2))) h
  have hw := w_online qX C.2.2.2.2.2.2.1 o cL (xs (i + 1)) (xs (i + 2)) M v
  have hkm := k_X5_online (lqM qX aM) (xs (i + 1)) (xs (i + 2)) N (zRI_Pl h)
  obtain ⟨q1, q2⟩ := qA_I cE_ne hq
  clear hq
  revert hz hw hkm q1 q2
  generalize f_X4_online (xs (i + 1)) (xs (i + 2)) M = r4
  generalize f_X5_online (xs (i + 1)) (xs (i + 2)) N = r5
  intro hz hw hkm q1 q2
  refine lv_aload_n C.1.1 C.1.2.1 dL_law_719 rfl (lv_at hl 1 rfl) ?_
  refine lw_arg (k0 := 0) (k4 := 4) (jn := 1) C hS hl rfl rfl ⟨dL_law_720, dL_law_721, dL_law_723, dL_law_724, dL_law_725⟩ (by decide +kernel) (by omega) ?_
  refine lw_arg (k0 := 0) (k4 := 4) (jn := 2) C hS hl rfl rfl ⟨dL_law_726, dL_law_727, dL_law_729, dL_law_730, dL_law_731⟩ (by decide +kernel) (by omega) ?_
  refine lv_aload_n C.1.1 C.1.2.1 dL_law_732 rfl (lv_at hl 3 rfl) ?_
  refine lw_callW C hX hM hS dL_law_733 hw zi_L_online (zm3 86 (by decide +kernel) rfl) (zm3 87 (by decide +kernel) rfl) ⟨Nat.le_of_ble_eq_true rfl, Nat.le_of_ble_eq_true rfl⟩ rfl hl.1 rfl (Nat.le_of_ble_eq_true rfl) hc (fun H1 locs1 hX hM hS => ?_)
  refine lv_istore (lv' := (5, .int _) :: lwL qX aM o b i) C.1.1 C.1.2.1 dL_law_736 hl (by decide) rfl (fun ls hl => ?_)
  refine lv_aload_n C.1.1 C.1.2.1 dL_law_738 rfl (lv_at hl 3 rfl) ?_
  refine lw_arg (k0 := 1) (k4 := 5) (jn := 1) C hS hl rfl rfl ⟨dL_law_739, dL_law_740, dL_law_742, dL_law_743, dL_law_744⟩ (by decide +kernel) (by omega) ?_
  refine lw_arg (k0 := 1) (k4 := 5) (jn := 2) C hS hl rfl rfl ⟨dL_law_745, dL_law_746, dL_law_748, dL_law_749, dL_law_750⟩ (by decide +kernel) (by omega) ?_
  refine lw_callM (As := [.inl (xs (i + 1)), .inl (xs (i + 2))]) C hX hM hS dL_law_751 hkm (zm4 178 (by decide +kernel) rfl) (zm4 179 (by decide +kernel) rfl) (zm4 180 (by decide +kernel) rfl) zi_X5_online rfl ⟨Nat.le_of_ble_eq_true rfl, Nat.le_of_ble_eq_true rfl⟩ hl.1 rfl (Nat.le_of_ble_eq_true rfl) ⟨by omega, by omega⟩ (fun H1 locs1 hX hM hS => ?_)
  refine lv_istore (lv' := (6, .int _) :: (5, .int _) :: lwL qX aM o b i) C.1.1 C.1.2.1 dL_law_754 hl (by decide) rfl (fun ls hl => ?_)
  refine lw_thrown (k2 := 4) (k5 := 1) C hX hM hS hl rfl rfl ⟨dL_law_756, dL_law_757, dL_law_760, dL_law_762⟩ (zm4 36 (by decide +kernel) rfl) (zm4 37 (by decide +kernel) rfl) (zm4 38 (by decide +kernel) rfl) q1 ⟨by omega, by omega⟩ (fun H1 locs1 hX hM hS => ?_)
  exact lw_tailI (k3 := 5) (k5 := 1) (k6 := 0) C hX hl rfl rfl rfl ⟨dL_law_767, dL_law_769, dL_law_772, dL_law_773, dL_law_774, dL_law_775, dL_law_777, dL_law_778, dL_law_779, dL_law_784⟩ (by decide) (fun z => q2 z v) (K _ _ _ _ _ _ (zRI_mono hz (by omega)) hX hM hS (lv_sub hl [2, 3, 4, 5, 6] rfl))
set_option maxRecDepth 100000 in
set_option maxHeartbeats 4000000 in
theorem lc_spoil (C : lwC qX aM o cL b L xs p s m meth c) {i : Nat} {n : Int} (hi : i + 3 < L) (hn : n + 1 < 2 ^ 31) (h : zRI n 0 M N) (hX : lwX qX o cL M v H) (hM : lwM qX aM N H) (hS : va_S (lA0 s) s.heap H locs) (hl : lv_has ls 7 (lwL qX aM o b i)) (hc : ce + 1 ≤ room_1.cells ∧ sl + 6 ≤ room_1.slots) (K : lwK qX aM o cL b p e s m below meth c Q i (ce + 1) (sl + 6) (n + 1)) : W p qX.1 e room_1 s m #[Value.ref b] below meth c H locs ce sl Q (F0 m 787 ls []) := by
  obtain ⟨hz, hq⟩ := r_spoil (a := (xs (i + 1))) (s := (xs (i + 2))) (c := (xs (i + 3))) h
  have hw := w_spoil qX C.2.2.2.2.2.2.1 o cL (xs (i + 1)) (xs (i + 2)) (xs (i + 3)) M v
  have hkm := k_X5_spoil (lqM qX aM) (xs (i + 1)) (xs (i + 2)) (xs (i + 3)) N
  obtain ⟨q1, q2⟩ := qA_B cE_ne hq
  clear hq
  revert hz hw hkm q1 q2
  generalize f_X4_spoil (xs (i + 1)) (xs (i + 2)) (xs (i + 3)) M = r4
  generalize f_X5_spoil (xs (i + 1)) (xs (i + 2)) (xs (i + 3)) N = r5
  intro hz hw hkm q1 q2
  refine lv_aload_n C.1.1 C.1.2.1 dL_law_787 rfl (lv_at hl 1 rfl) ?_
  refine lw_arg (k0 := 0) (k4 := 4) (jn := 1) C hS hl rfl rfl ⟨dL_law_788, dL_law_789, dL_law_791, dL_law_792, dL_law_793⟩ (by decide +kernel) (by omega) ?_
  refine lw_arg (k0 := 0) (k4 := 4) (jn := 2) C hS hl rfl rfl ⟨dL_law_794, dL_law_795, dL_law_797, dL_law_798, dL_law_799⟩ (by decide +kernel) (by omega) ?_
  refine lw_arg (k0 := 0) (k4 := 4) (jn := 3) C hS hl rfl rfl ⟨dL_law_800, dL_law_801, dL_law_803, dL_law_804, dL_law_805⟩ (by decide +kernel) (by omega) ?_
  refine lv_aload_n C.1.1 C.1.2.1 dL_law_806 rfl (lv_at hl 3 rfl) ?_
  refine lw_callW C hX hM hS dL_law_807 hw zi_L_spoil (zm3 117 (by decide +kernel) rfl) (zm3 118 (by decide +kernel) rfl) ⟨Nat.le_of_ble_eq_true rfl, Nat.le_of_ble_eq_true rfl⟩ rfl hl.1 rfl (Nat.le_of_ble_eq_true rfl) hc (fun H1 locs1 hX hM hS => ?_)
  refine lv_istore (lv' := (5, .int _) :: lwL qX aM o b i) C.1.1 C.1.2.1 dL_law_810 hl (by decide) rfl (fun ls hl => ?_)
  refine lv_aload_n C.1.1 C.1.2.1 dL_law_812 rfl (lv_at hl 3 rfl) ?_
  refine lw_arg (k0 := 1) (k4 := 5) (jn := 1) C hS hl rfl rfl ⟨dL_law_813, dL_law_814, dL_law_816, dL_law_817, dL_law_818⟩ (by decide +kernel) (by omega) ?_
  refine lw_arg (k0 := 1) (k4 := 5) (jn := 2) C hS hl rfl rfl ⟨dL_law_819, dL_law_820, dL_law_822, dL_law_823, dL_law_824⟩ (by decide +kernel) (by omega) ?_
  refine lw_arg (k0 := 1) (k4 := 5) (jn := 3) C hS hl rfl rfl ⟨dL_law_825, dL_law_826, dL_law_828, dL_law_829, dL_law_830⟩ (by decide +kernel) (by omega) ?_
  refine lw_callM (As := [.inl (xs (i + 1)), .inl (xs (i + 2)), .inl (xs (i + 3))]) C hX hM hS dL_law_831 hkm (zm4 194 (by decide +kernel) rfl) (zm4 195 (by decide +kernel) rfl) (zm4 196 (by decide +kernel) rfl) zi_X5_spoil rfl ⟨Nat.le_of_ble_eq_true rfl, Nat.le_of_ble_eq_true rfl⟩ hl.1 rfl (Nat.le_of_ble_eq_true rfl) ⟨by omega, by omega⟩ (fun H1 locs1 hX hM hS => ?_)
  refine lv_istore (lv' := (6, .int _) :: (5, .int _) :: lwL qX aM o b i) C.1.1 C.1.2.1 dL_law_834 hl (by decide) rfl (fun ls hl => ?_)
  refine lw_thrown (k2 := 4) (k5 := 1) C hX hM hS hl rfl rfl ⟨dL_law_836, dL_law_837, dL_law_840, dL_law_842⟩ (zm4 36 (by decide +kernel) rfl) (zm4 37 (by decide +kernel) rfl) (zm4 38 (by decide +kernel) rfl) q1 ⟨by omega, by omega⟩ (fun H1 locs1 hX hM hS => ?_)
  exact lw_tailB (k3 := 5) (k5 := 1) (k6 := 0) C hX hl rfl rfl rfl ⟨dL_law_847, dL_law_849, dL_law_852, dL_law_853, dL_law_854, dL_law_855, dL_law_857, dL_law_860, dL_law_861, dL_law_864, dL_law_865, dL_law_866, dL_law_871⟩ (by decide) (fun z => q2 z v) (K _ _ _ _ _ _ (zRI_mono hz (by omega)) hX hM hS (lv_sub hl [2, 3, 4, 5, 6] rfl))
set_option maxRecDepth 100000 in
set_option maxHeartbeats 4000000 in
theorem lc_isSpoilt (C : lwC qX aM o cL b L xs p s m meth c) {i : Nat} {n : Int} (hi : i + 3 < L) (hn : n + 1 < 2 ^ 31) (h : zRI n 0 M N) (hX : lwX qX o cL M v H) (hM : lwM qX aM N H) (hS : va_S (lA0 s) s.heap H locs) (hl : lv_has ls 7 (lwL qX aM o b i)) (hc : ce + 1 ≤ room_1.cells ∧ sl + 6 ≤ room_1.slots) (K : lwK qX aM o cL b p e s m below meth c Q i (ce + 1) (sl + 6) (n + 1)) : W p qX.1 e room_1 s m #[Value.ref b] below meth c H locs ce sl Q (F0 m 874 ls []) := by
  obtain ⟨hz, hq⟩ := r_isSpoilt (a := (xs (i + 1))) (s := (xs (i + 2))) (c := (xs (i + 3))) h
  have hw := w_isSpoilt qX C.2.2.2.2.2.2.1 o cL (xs (i + 1)) (xs (i + 2)) (xs (i + 3)) M v
  have hkm := k_X5_isSpoilt (lqM qX aM) (xs (i + 1)) (xs (i + 2)) (xs (i + 3)) N
  obtain ⟨q1, q2⟩ := qA_B cE_ne hq
  clear hq
  revert hz hw hkm q1 q2
  generalize f_X4_isSpoilt (xs (i + 1)) (xs (i + 2)) (xs (i + 3)) M = r4
  generalize f_X5_isSpoilt (xs (i + 1)) (xs (i + 2)) (xs (i + 3)) N = r5
  intro hz hw hkm q1 q2
  refine lv_aload_n C.1.1 C.1.2.1 dL_law_874 rfl (lv_at hl 1 rfl) ?_
  refine lw_arg (k0 := 0) (k4 := 4) (jn := 1) C hS hl rfl rfl ⟨dL_law_875, dL_law_876, dL_law_878, dL_law_879, dL_law_880⟩ (by decide +kernel) (by omega) ?_
  refine lw_arg (k0 := 0) (k4 := 4) (jn := 2) C hS hl rfl rfl ⟨dL_law_881, dL_law_882, dL_law_884, dL_law_885, dL_law_886⟩ (by decide +kernel) (by omega) ?_
  refine lw_arg (k0 := 0) (k4 := 4) (jn := 3) C hS hl rfl rfl ⟨dL_law_887, dL_law_888, dL_law_890, dL_law_891, dL_law_892⟩ (by decide +kernel) (by omega) ?_
  refine lv_aload_n C.1.1 C.1.2.1 dL_law_893 rfl (lv_at hl 3 rfl) ?_
  refine lw_callW C hX hM hS dL_law_894 hw zi_L_isSpoilt (zm3 130 (by decide +kernel) rfl) (zm3 131 (by decide +kernel) rfl) ⟨Nat.le_of_ble_eq_true rfl, Nat.le_of_ble_eq_true rfl⟩ rfl hl.1 rfl (Nat.le_of_ble_eq_true rfl) hc (fun H1 locs1 hX hM hS => ?_)
  refine lv_istore (lv' := (5, .int _) :: lwL qX aM o b i) C.1.1 C.1.2.1 dL_law_897 hl (by decide) rfl (fun ls hl => ?_)
  refine lv_aload_n C.1.1 C.1.2.1 dL_law_899 rfl (lv_at hl 3 rfl) ?_
  refine lw_arg (k0 := 1) (k4 := 5) (jn := 1) C hS hl rfl rfl ⟨dL_law_900, dL_law_901, dL_law_903, dL_law_904, dL_law_905⟩ (by decide +kernel) (by omega) ?_
  refine lw_arg (k0 := 1) (k4 := 5) (jn := 2) C hS hl rfl rfl ⟨dL_law_906, dL_law_907, dL_law_909, dL_law_910, dL_law_911⟩ (by decide +kernel) (by omega) ?_
  refine lw_arg (k0 := 1) (k4 := 5) (jn := 3) C hS hl rfl rfl ⟨dL_law_912, dL_law_913, dL_law_915, dL_law_916, dL_law_917⟩ (by decide +kernel) (by omega) ?_
  refine lw_callM (As := [.inl (xs (i + 1)), .inl (xs (i + 2)), .inl (xs (i + 3))]) C hX hM hS dL_law_918 hkm (zm4 201 (by decide +kernel) rfl) (zm4 202 (by decide +kernel) rfl) (zm4 203 (by decide +kernel) rfl) zi_X5_isSpoilt rfl ⟨Nat.le_of_ble_eq_true rfl, Nat.le_of_ble_eq_true rfl⟩ hl.1 rfl (Nat.le_of_ble_eq_true rfl) ⟨by omega, by omega⟩ (fun H1 locs1 hX hM hS => ?_)
  refine lv_istore (lv' := (6, .int _) :: (5, .int _) :: lwL qX aM o b i) C.1.1 C.1.2.1 dL_law_921 hl (by decide) rfl (fun ls hl => ?_)
  refine lw_thrown (k2 := 4) (k5 := 1) C hX hM hS hl rfl rfl ⟨dL_law_923, dL_law_924, dL_law_927, dL_law_929⟩ (zm4 36 (by decide +kernel) rfl) (zm4 37 (by decide +kernel) rfl) (zm4 38 (by decide +kernel) rfl) q1 ⟨by omega, by omega⟩ (fun H1 locs1 hX hM hS => ?_)
  exact lw_tailB (k3 := 5) (k5 := 1) (k6 := 0) C hX hl rfl rfl rfl ⟨dL_law_934, dL_law_936, dL_law_939, dL_law_940, dL_law_941, dL_law_942, dL_law_944, dL_law_947, dL_law_948, dL_law_951, dL_law_952, dL_law_953, dL_law_958⟩ (by decide) (fun z => q2 z v) (K _ _ _ _ _ _ (zRI_mono hz (by omega)) hX hM hS (lv_sub hl [2, 3, 4, 5, 6] rfl))
set_option maxRecDepth 100000 in
set_option maxHeartbeats 4000000 in
theorem lc_isFree (C : lwC qX aM o cL b L xs p s m meth c) {i : Nat} {n : Int} (hi : i + 3 < L) (hn : n + 1 < 2 ^ 31) (h : zRI n 0 M N) (hX : lwX qX o cL M v H) (hM : lwM qX aM N H) (hS : va_S (lA0 s) s.heap H locs) (hl : lv_has ls 7 (lwL qX aM o b i)) (hc : ce + 1 ≤ room_1.cells ∧ sl + 6 ≤ room_1.slots) (K : lwK qX aM o cL b p e s m below meth c Q i (ce + 1) (sl + 6) (n + 1)) : W p qX.1 e room_1 s m #[Value.ref b] below meth c H locs ce sl Q (F0 m 961 ls []) := by
  obtain ⟨hz, hq⟩ := r_isFree (a := (xs (i + 1))) (c := (xs (i + 2))) h
  have hw := w_isFree qX C.2.2.2.2.2.2.1 o cL (xs (i + 1)) (xs (i + 2)) M v
  have hkm := k_X5_isFree (lqM qX aM) (xs (i + 1)) (xs (i + 2)) N
  obtain ⟨q1, q2⟩ := qA_B cE_ne hq
  clear hq
  revert hz hw hkm q1 q2
  generalize f_X4_isFree (xs (i + 1)) (xs (i + 2)) M = r4
  generalize f_X5_isFree (xs (i + 1)) (xs (i + 2)) N = r5
  intro hz hw hkm q1 q2
  refine lv_aload_n C.1.1 C.1.2.1 dL_law_961 rfl (lv_at hl 1 rfl) ?_
  refine lw_arg (k0 := 0) (k4 := 4) (jn := 1) C hS hl rfl rfl ⟨dL_law_962, dL_law_963, dL_law_965, dL_law_966, dL_law_967⟩ (by decide +kernel) (by omega) ?_
  refine lw_arg (k0 := 0) (k4 := 4) (jn := 2) C hS hl rfl rfl ⟨dL_law_968, dL_law_969, dL_law_971, dL_law_972, dL_law_973⟩ (by decide +kernel) (by omega) ?_
  refine lv_aload_n C.1.1 C.1.2.1 dL_law_974 rfl (lv_at hl 3 rfl) ?_
  refine lw_callW C hX hM hS dL_law_975 hw zi_L_isFree (zm3 138 (by decide +kernel) rfl) (zm3 139 (by decide +kernel) rfl) ⟨Nat.le_of_ble_eq_true rfl, Nat.le_of_ble_eq_true rfl⟩ rfl hl.1 rfl (Nat.le_of_ble_eq_true rfl) hc (fun H1 locs1 hX hM hS => ?_)
  refine lv_istore (lv' := (5, .int _) :: lwL qX aM o b i) C.1.1 C.1.2.1 dL_law_978 hl (by decide) rfl (fun ls hl => ?_)
  refine lv_aload_n C.1.1 C.1.2.1 dL_law_980 rfl (lv_at hl 3 rfl) ?_
  refine lw_arg (k0 := 1) (k4 := 5) (jn := 1) C hS hl rfl rfl ⟨dL_law_981, dL_law_982, dL_law_984, dL_law_985, dL_law_986⟩ (by decide +kernel) (by omega) ?_
  refine lw_arg (k0 := 1) (k4 := 5) (jn := 2) C hS hl rfl rfl ⟨dL_law_987, dL_law_988, dL_law_990, dL_law_991, dL_law_992⟩ (by decide +kernel) (by omega) ?_
  refine lw_callM (As := [.inl (xs (i + 1)), .inl (xs (i + 2))]) C hX hM hS dL_law_993 hkm (zm4 205 (by decide +kernel) rfl) (zm4 206 (by decide +kernel) rfl) (zm4 207 (by decide +kernel) rfl) zi_X5_isFree rfl ⟨Nat.le_of_ble_eq_true rfl, Nat.le_of_ble_eq_true rfl⟩ hl.1 rfl (Nat.le_of_ble_eq_true rfl) ⟨by omega, by omega⟩ (fun H1 locs1 hX hM hS => ?_)
  refine lv_istore (lv' := (6, .int _) :: (5, .int _) :: lwL qX aM o b i) C.1.1 C.1.2.1 dL_law_996 hl (by decide) rfl (fun ls hl => ?_)
  refine lw_thrown (k2 := 4) (k5 := 1) C hX hM hS hl rfl rfl ⟨dL_law_998, dL_law_999, dL_law_1002, dL_law_1004⟩ (zm4 36 (by decide +kernel) rfl) (zm4 37 (by decide +kernel) rfl) (zm4 38 (by decide +kernel) rfl) q1 ⟨by omega, by omega⟩ (fun H1 locs1 hX hM hS => ?_)
  exact lw_tailB (k3 := 5) (k5 := 1) (k6 := 0) C hX hl rfl rfl rfl ⟨dL_law_1009, dL_law_1011, dL_law_1014, dL_law_1015, dL_law_1016, dL_law_1017, dL_law_1019, dL_law_1022, dL_law_1023, dL_law_1026, dL_law_1027, dL_law_1028, dL_law_1033⟩ (by decide) (fun z => q2 z v) (K _ _ _ _ _ _ (zRI_mono hz (by omega)) hX hM hS (lv_sub hl [2, 3, 4, 5, 6] rfl))
set_option maxRecDepth 100000 in
set_option maxHeartbeats 4000000 in
theorem lc_free (C : lwC qX aM o cL b L xs p s m meth c) {i : Nat} {n : Int} (hi : i + 3 < L) (hn : n + 1 < 2 ^ 31) (h : zRI n 0 M N) (hX : lwX qX o cL M v H) (hM : lwM qX aM N H) (hS : va_S (lA0 s) s.heap H locs) (hl : lv_has ls 7 (lwL qX aM o b i)) (hc : ce + 1 ≤ room_1.cells ∧ sl + 6 ≤ room_1.slots) (K : lwK qX aM o cL b p e s m below meth c Q i (ce + 1) (sl + 6) (n + 1)) : W p qX.1 e room_1 s m #[Value.ref b] below meth c H locs ce sl Q (F0 m 1036 ls []) := by
  obtain ⟨hz, hq⟩ := r_free (a := (xs (i + 1))) h
  have hw := w_free qX C.2.2.2.2.2.2.1 o cL (xs (i + 1)) M v
  have hkm := k_X5_free (lqM qX aM) (xs (i + 1)) N
  obtain ⟨q1, q2⟩ := qA_I cE_ne hq
  clear hq
  revert hz hw hkm q1 q2
  generalize f_X4_free (xs (i + 1)) M = r4
  generalize f_X5_free (xs (i + 1)) N = r5
  intro hz hw hkm q1 q2
  refine lv_aload_n C.1.1 C.1.2.1 dL_law_1036 rfl (lv_at hl 1 rfl) ?_
  refine lw_arg (k0 := 0) (k4 := 4) (jn := 1) C hS hl rfl rfl ⟨dL_law_1037, dL_law_1038, dL_law_1040, dL_law_1041, dL_law_1042⟩ (by decide +kernel) (by omega) ?_
  refine lv_aload_n C.1.1 C.1.2.1 dL_law_1043 rfl (lv_at hl 3 rfl) ?_
  refine lw_callW C hX hM hS dL_law_1044 hw zi_L_free (zm3 147 (by decide +kernel) rfl) (zm3 148 (by decide +kernel) rfl) ⟨Nat.le_of_ble_eq_true rfl, Nat.le_of_ble_eq_true rfl⟩ rfl hl.1 rfl (Nat.le_of_ble_eq_true rfl) hc (fun H1 locs1 hX hM hS => ?_)
  refine lv_istore (lv' := (5, .int _) :: lwL qX aM o b i) C.1.1 C.1.2.1 dL_law_1047 hl (by decide) rfl (fun ls hl => ?_)
  refine lv_aload_n C.1.1 C.1.2.1 dL_law_1049 rfl (lv_at hl 3 rfl) ?_
  refine lw_arg (k0 := 1) (k4 := 5) (jn := 1) C hS hl rfl rfl ⟨dL_law_1050, dL_law_1051, dL_law_1053, dL_law_1054, dL_law_1055⟩ (by decide +kernel) (by omega) ?_
  refine lw_callM (As := [.inl (xs (i + 1))]) C hX hM hS dL_law_1056 hkm (zm4 209 (by decide +kernel) rfl) (zm4 210 (by decide +kernel) rfl) (zm4 211 (by decide +kernel) rfl) zi_X5_free rfl ⟨Nat.le_of_ble_eq_true rfl, Nat.le_of_ble_eq_true rfl⟩ hl.1 rfl (Nat.le_of_ble_eq_true rfl) ⟨by omega, by omega⟩ (fun H1 locs1 hX hM hS => ?_)
  refine lv_istore (lv' := (6, .int _) :: (5, .int _) :: lwL qX aM o b i) C.1.1 C.1.2.1 dL_law_1059 hl (by decide) rfl (fun ls hl => ?_)
  refine lw_thrown (k2 := 4) (k5 := 1) C hX hM hS hl rfl rfl ⟨dL_law_1061, dL_law_1062, dL_law_1065, dL_law_1067⟩ (zm4 36 (by decide +kernel) rfl) (zm4 37 (by decide +kernel) rfl) (zm4 38 (by decide +kernel) rfl) q1 ⟨by omega, by omega⟩ (fun H1 locs1 hX hM hS => ?_)
  exact lw_tailI (k3 := 5) (k5 := 1) (k6 := 0) C hX hl rfl rfl rfl ⟨dL_law_1072, dL_law_1074, dL_law_1077, dL_law_1078, dL_law_1079, dL_law_1080, dL_law_1082, dL_law_1083, dL_law_1084, dL_law_1089⟩ (by decide) (fun z => q2 z v) (K _ _ _ _ _ _ (zRI_mono hz (by omega)) hX hM hS (lv_sub hl [2, 3, 4, 5, 6] rfl))
set_option maxRecDepth 100000 in
set_option maxHeartbeats 4000000 in
theorem lc_scrub (C : lwC qX aM o cL b L xs p s m meth c) {i : Nat} {n : Int} (hi : i + 3 < L) (hn : n + 1 < 2 ^ 31) (h : zRI n 0 M N) (hX : lwX qX o cL M v H) (hM : lwM qX aM N H) (hS : va_S (lA0 s) s.heap H locs) (hl : lv_has ls 7 (lwL qX aM o b i)) (hc : ce + 1 ≤ room_1.cells ∧ sl + 6 ≤ room_1.slots) (K : lwK qX aM o cL b p e s m below meth c Q i (ce + 1) (sl + 6) (n + 1)) : W p qX.1 e room_1 s m #[Value.ref b] below meth c H locs ce sl Q (F0 m 1092 ls []) := by
  obtain ⟨hz, hq⟩ := r_scrub h
  have hkx := k_X4_scrub qX M
  have hkm := k_X5_scrub (lqM qX aM) N (zRI_Pl h)
  revert hz hq hkx hkm
  generalize f_X4_scrub M = r4
  generalize f_X5_scrub N = r5
  intro hz hq hkx hkm
  refine W.widen (k := ce + 1) (n := sl + 6) (by omega) (by omega) ?_
  refine lv_aload_n C.1.1 C.1.2.1 dL_law_1092 rfl (lv_at hl 1 rfl) ?_
  refine lw_callX (As := []) C hX hM hS dL_law_1093 hkx (zm1 149 (by decide +kernel) rfl) (zm1 150 (by decide +kernel) rfl) (zm1 151 (by decide +kernel) rfl) zi_X4_scrub rfl ⟨Nat.le_of_ble_eq_true rfl, Nat.le_of_ble_eq_true rfl⟩ hl.1 rfl (Nat.le_of_ble_eq_true rfl) hc (fun H1 locs1 hX hM hS => ?_)
  refine lv_aload_n C.1.1 C.1.2.1 dL_law_1096 rfl (lv_at hl 2 rfl) ?_
  refine lw_callM (As := []) C hX hM hS dL_law_1097 hkm (zm4 213 (by decide +kernel) rfl) (zm4 214 (by decide +kernel) rfl) (zm4 215 (by decide +kernel) rfl) zi_X5_scrub rfl ⟨Nat.le_of_ble_eq_true rfl, Nat.le_of_ble_eq_true rfl⟩ hl.1 rfl (Nat.le_of_ble_eq_true rfl) hc (fun H1 locs1 hX hM hS => ?_)
  exact lv_icmp_eq (tgt := 1540) C.1.1 C.1.2.1 dL_law_1100 (by decide) (fun _ => K _ _ _ _ _ _ (zRI_mono hz (by omega)) hX hM hS hl) (fun q => absurd hq q)
set_option maxRecDepth 100000 in
set_option maxHeartbeats 4000000 in
theorem lc_healed (C : lwC qX aM o cL b L xs p s m meth c) {i : Nat} {n : Int} (hi : i + 3 < L) (hn : n + 1 < 2 ^ 31) (h : zRI n 0 M N) (hX : lwX qX o cL M v H) (hM : lwM qX aM N H) (hS : va_S (lA0 s) s.heap H locs) (hl : lv_has ls 7 (lwL qX aM o b i)) (hc : ce + 1 ≤ room_1.cells ∧ sl + 6 ≤ room_1.slots) (K : lwK qX aM o cL b p e s m below meth c Q i (ce + 1) (sl + 6) (n + 1)) : W p qX.1 e room_1 s m #[Value.ref b] below meth c H locs ce sl Q (F0 m 1105 ls []) := by
  obtain ⟨hz, hq⟩ := r_healed h
  have hkx := k_X4_healed qX M
  have hkm := k_X5_healed (lqM qX aM) N
  revert hz hq hkx hkm
  generalize f_X4_healed M = r4
  generalize f_X5_healed N = r5
  intro hz hq hkx hkm
  refine W.widen (k := ce + 1) (n := sl + 6) (by omega) (by omega) ?_
  refine lv_aload_n C.1.1 C.1.2.1 dL_law_1105 rfl (lv_at hl 1 rfl) ?_
  refine lw_callX (As := []) C hX hM hS dL_law_1106 hkx (zm1 207 (by decide +kernel) rfl) (zm1 208 (by decide +kernel) rfl) (zm1 209 (by decide +kernel) rfl) zi_X4_healed rfl ⟨Nat.le_of_ble_eq_true rfl, Nat.le_of_ble_eq_true rfl⟩ hl.1 rfl (Nat.le_of_ble_eq_true rfl) hc (fun H1 locs1 hX hM hS => ?_)
  refine lv_aload_n C.1.1 C.1.2.1 dL_law_1109 rfl (lv_at hl 2 rfl) ?_
  refine lw_callM (As := []) C hX hM hS dL_law_1110 hkm (zm4 221 (by decide +kernel) rfl) (zm4 222 (by decide +kernel) rfl) (zm4 223 (by decide +kernel) rfl) zi_X5_healed rfl ⟨Nat.le_of_ble_eq_true rfl, Nat.le_of_ble_eq_true rfl⟩ hl.1 rfl (Nat.le_of_ble_eq_true rfl) hc (fun H1 locs1 hX hM hS => ?_)
  exact lv_icmp_eq (tgt := 1540) C.1.1 C.1.2.1 dL_law_1113 (by decide) (fun _ => K _ _ _ _ _ _ (zRI_mono hz (by omega)) hX hM hS hl) (fun q => absurd hq q)
end
