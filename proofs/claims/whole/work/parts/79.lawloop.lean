/-! ===== THE LAW: its loop ===== -/
section
variable {qX : ZQ} {aM : Nat → Nat} {o : Nat} {cL : ClassId} {b L : Nat} {xs : Nat → Int32} {p : Program} {e : Env} {s : State} {m : MethodId} {below : List Frame} {meth : Method} {c : Code}
set_option maxHeartbeats 4000000 in
set_option maxRecDepth 100000 in
theorem law_loop (C : lwC qX aM o cL b L xs p s m meth c) : ∀ (fuel i : Nat) (M N : Mem) (v : Int64) (H : Heap) (locs : List Loc) (ls : Array Slot) (ce sl : Nat), L < i + fuel → i ≤ L → zRI (1 + (i : Int)) 0 M N → lwX qX o cL M v H → lwM qX aM N H → va_S (lA0 s) s.heap H locs → lv_has ls 7 (lwL qX aM o b i) → ce ≤ 1000 + i → sl ≤ 20000 + 6 * i →
    W p qX.1 e room_1 s m #[Value.ref b] below meth c H locs ce sl (lw_Z below #[Value.ref b] s) (F0 m 23 ls []) := by
  obtain ⟨hXx, hbl, hL⟩ := C.2.2.2.2.2.1
  intro fuel
  induction fuel with
  | zero => intro i M N v H locs ls ce sl h1 h2; omega
  | succ fuel ih =>
    intro i M N v H locs ls ce sl h1 h2 h hX hM hS hl hce hsl
    have hc : ce + 1 ≤ room_1.cells ∧ sl + 6 ≤ room_1.slots := by
      constructor
      · show ce + 1 ≤ 601024; omega
      · show sl + 6 ≤ 7293034; omega
    have e4 : (Int32.ofNat L - 4).toInt = (L : Int) - 4 := by
      have e1 : (Int32.ofNat L).toInt = (L : Int) := nI_toInt (n := L) (by omega)
      rw [Int32.toInt_sub, e1, Int.bmod_eq_of_le] <;> simp <;> omega
    have ei : (nI i).toInt = (i : Int) := nI_toInt (by omega)
    refine lv_iload C.1.1 C.1.2.1 dL_law_23 (lv_at hl 4 rfl) ?_
    refine lv_aload_n C.1.1 C.1.2.1 dL_law_25 rfl (lv_at hl 0 rfl) ?_
    refine va_slen (A := lA0 s) C.1.1 C.1.2.1 hXx hbl (Nat.not_le.mpr hbl) hS dL_law_26 ?_
    refine lv_iconst (v := 4) C.1.1 C.1.2.1 dL_law_27 (by decide) ?_
    refine lv_isub C.1.1 C.1.2.1 dL_law_28 ?_
    refine lv_icmp_gt (tgt := 1546) C.1.1 C.1.2.1 dL_law_29 (by decide) (fun hg => ?_) (fun hg => ?_)
    · refine lv_iconst (v := 1) C.1.1 C.1.2.1 dL_law_1546 (by decide) ?_
      refine W.widen (k := 601024) (n := 7293034) (by omega) (by omega) ?_
      refine va_forget (fun q hq => hS.2.2 q hq) ?_
      exact lw_ret C.1.1 C.1.2.1 C.2.1.1 C.2.1.2 dL_law_1547
    · rw [Int32.lt_iff_toInt_lt, e4, ei] at hg
      have hlt : i + 3 < L := by omega
      have K : lwK qX aM o cL b p e s m below meth c (lw_Z below #[Value.ref b] s) i (ce + 1) (sl + 6) (1 + (i : Int) + 1) := by
        intro M' N' v' H' locs' ls' h' hX' hM' hS' hl'
        refine lv_iinc (v := nI (i + 4)) (lv' := [(4, .int (nI (i + 4))), (0, .ref b), (1, .ref (qX.2.2.2 0)), (2, .ref (aM 0)), (3, .ref o)]) C.1.1 C.1.2.1 dL_law_1540 hl' (k := 4) rfl (nI_add i 4) (by decide) rfl (fun ls'' hl'' => ?_)
        refine lv_goto (tgt := 23) C.1.1 C.1.2.1 dL_law_1543 (by decide) ?_
        exact ih (i + 4) M' N' v' H' locs' ls'' (ce + 1) (sl + 6) (by omega) (by omega) (zRI_mono h' (by omega)) hX' hM' hS' (lv_sub hl'' [1, 2, 3, 4, 0] rfl) (by omega) (by omega)
      refine lv_aload_n C.1.1 C.1.2.1 dL_law_32 rfl (lv_at hl 0 rfl) ?_
      refine lv_iload C.1.1 C.1.2.1 dL_law_33 (lv_at hl 4 rfl) ?_
      refine va_sld (A := lA0 s) C.1.1 C.1.2.1 hXx hbl (Nat.not_le.mpr hbl) hS (vp_in_nI (by omega) (by omega)) dL_law_35 ?_
      refine lv_bipush (v := 31) C.1.1 C.1.2.1 dL_law_36 (by decide) ?_
      refine lv_iand C.1.1 C.1.2.1 dL_law_38 ?_
      generalize xs (nI i).toNatClampNeg &&& 31 = x
      by_cases hx : x.toInt < 0 ∨ 25 < x.toInt
      · exact W.widen (k := ce + 1) (n := sl + 6) (by omega) (by omega) (lv_tableOut (tgt := 1540) C.1.1 C.1.2.1 dL_law_39 hx (by decide) (K M N v H locs ls (zRI_mono h (by omega)) hX hM hS hl))
      obtain ⟨j, hj, hj26⟩ : ∃ j : Nat, x.toInt = (j : Int) ∧ (j = 0 ∨ j = 1 ∨ j = 2 ∨ j = 3 ∨ j = 4 ∨ j = 5 ∨ j = 6 ∨ j = 7 ∨ j = 8 ∨ j = 9 ∨ j = 10 ∨ j = 11 ∨ j = 12 ∨ j = 13 ∨ j = 14 ∨ j = 15 ∨ j = 16 ∨ j = 17 ∨ j = 18 ∨ j = 19 ∨ j = 20 ∨ j = 21 ∨ j = 22 ∨ j = 23 ∨ j = 24 ∨ j = 25) := ⟨x.toInt.toNat, by omega, by omega⟩
      rcases hj26 with rfl | rfl | rfl | rfl | rfl | rfl | rfl | rfl | rfl | rfl | rfl | rfl | rfl | rfl | rfl | rfl | rfl | rfl | rfl | rfl | rfl | rfl | rfl | rfl | rfl | rfl
      · exact lv_tableIn (off := 117) (tgt := 156) C.1.1 C.1.2.1 dL_law_39 (by omega) (by omega) (by rw [hj]; rfl) (by decide) (lc_write C hlt (by omega) h hX hM hS hl hc K)
      · exact lv_tableIn (off := 197) (tgt := 236) C.1.1 C.1.2.1 dL_law_39 (by omega) (by omega) (by rw [hj]; rfl) (by decide) (lc_punch C hlt (by omega) h hX hM hS hl hc K)
      · exact lv_tableIn (off := 277) (tgt := 316) C.1.1 C.1.2.1 dL_law_39 (by omega) (by omega) (by rw [hj]; rfl) (by decide) (lc_setCopies C hlt (by omega) h hX hM hS hl hc K)
      · exact lv_tableIn (off := 345) (tgt := 384) C.1.1 C.1.2.1 dL_law_39 (by omega) (by omega) (by rw [hj]; rfl) (by decide) (lc_read C hlt (by omega) h hX hM hS hl hc K)
      · exact lv_tableIn (off := 413) (tgt := 452) C.1.1 C.1.2.1 dL_law_39 (by omega) (by omega) (by rw [hj]; rfl) (by decide) (lc_nextData C hlt (by omega) h hX hM hS hl hc K)
      · exact lv_tableIn (off := 481) (tgt := 520) C.1.1 C.1.2.1 dL_law_39 (by omega) (by omega) (by rw [hj]; rfl) (by decide) (lc_nextHole C hlt (by omega) h hX hM hS hl hc K)
      · exact lv_tableIn (off := 549) (tgt := 588) C.1.1 C.1.2.1 dL_law_39 (by omega) (by omega) (by rw [hj]; rfl) (by decide) (lc_sync C hlt (by omega) h hX hM hS hl hc K)
      · exact lv_tableIn (off := 593) (tgt := 632) C.1.1 C.1.2.1 dL_law_39 (by omega) (by omega) (by rw [hj]; rfl) (by decide) (lc_abandon C hlt (by omega) h hX hM hS hl hc K)
      · exact lv_tableIn (off := 606) (tgt := 645) C.1.1 C.1.2.1 dL_law_39 (by omega) (by omega) (by rw [hj]; rfl) (by decide) (lc_group C hlt (by omega) h hX hM hS hl hc K)
      · exact lv_tableIn (off := 619) (tgt := 658) C.1.1 C.1.2.1 dL_law_39 (by omega) (by omega) (by rw [hj]; rfl) (by decide) (lc_buffered C hlt (by omega) h hX hM hS hl hc K)
      · exact lv_tableIn (off := 632) (tgt := 671) C.1.1 C.1.2.1 dL_law_39 (by omega) (by omega) (by rw [hj]; rfl) (by decide) (lc_offline C hlt (by omega) h hX hM hS hl hc K)
      · exact lv_tableIn (off := 680) (tgt := 719) C.1.1 C.1.2.1 dL_law_39 (by omega) (by omega) (by rw [hj]; rfl) (by decide) (lc_online C hlt (by omega) h hX hM hS hl hc K)
      · exact lv_tableIn (off := 748) (tgt := 787) C.1.1 C.1.2.1 dL_law_39 (by omega) (by omega) (by rw [hj]; rfl) (by decide) (lc_spoil C hlt (by omega) h hX hM hS hl hc K)
      · exact lv_tableIn (off := 835) (tgt := 874) C.1.1 C.1.2.1 dL_law_39 (by omega) (by omega) (by rw [hj]; rfl) (by decide) (lc_isSpoilt C hlt (by omega) h hX hM hS hl hc K)
      · exact lv_tableIn (off := 922) (tgt := 961) C.1.1 C.1.2.1 dL_law_39 (by omega) (by omega) (by rw [hj]; rfl) (by decide) (lc_isFree C hlt (by omega) h hX hM hS hl hc K)
      · exact lv_tableIn (off := 997) (tgt := 1036) C.1.1 C.1.2.1 dL_law_39 (by omega) (by omega) (by rw [hj]; rfl) (by decide) (lc_free C hlt (by omega) h hX hM hS hl hc K)
      · exact lv_tableIn (off := 1053) (tgt := 1092) C.1.1 C.1.2.1 dL_law_39 (by omega) (by omega) (by rw [hj]; rfl) (by decide) (lc_scrub C hlt (by omega) h hX hM hS hl hc K)
      · exact lv_tableIn (off := 1066) (tgt := 1105) C.1.1 C.1.2.1 dL_law_39 (by omega) (by omega) (by rw [hj]; rfl) (by decide) (lc_healed C hlt (by omega) h hX hM hS hl hc K)
      · exact lv_tableIn (off := 1079) (tgt := 1118) C.1.1 C.1.2.1 dL_law_39 (by omega) (by omega) (by rw [hj]; rfl) (by decide) (lc_lost C hlt (by omega) h hX hM hS hl hc K)
      · exact lv_tableIn (off := 1092) (tgt := 1131) C.1.1 C.1.2.1 dL_law_39 (by omega) (by omega) (by rw [hj]; rfl) (by decide) (lc_places C hlt (by omega) h hX hM hS hl hc K)
      · exact lv_tableIn (off := 1160) (tgt := 1199) C.1.1 C.1.2.1 dL_law_39 (by omega) (by omega) (by rw [hj]; rfl) (by decide) (lc_place C hlt (by omega) h hX hM hS hl hc K)
      · exact lv_tableIn (off := 1240) (tgt := 1279) C.1.1 C.1.2.1 dL_law_39 (by omega) (by omega) (by rw [hj]; rfl) (by decide) (lc_nodePlace C hlt (by omega) h hX hM hS hl hc K)
      · exact lv_tableIn (off := 1308) (tgt := 1347) C.1.1 C.1.2.1 dL_law_39 (by omega) (by omega) (by rw [hj]; rfl) (by decide) (lc_rootPlace C hlt (by omega) h hX hM hS hl hc K)
      · exact lv_tableIn (off := 1364) (tgt := 1403) C.1.1 C.1.2.1 dL_law_39 (by omega) (by omega) (by rw [hj]; rfl) (by decide) (lc_birth C hlt (by omega) h hX hM hS hl hc K)
      · exact lv_tableIn (off := 1432) (tgt := 1471) C.1.1 C.1.2.1 dL_law_39 (by omega) (by omega) (by rw [hj]; rfl) (by decide) (lc_checksum C hlt (by omega) h hX hM hS hl hc K)
      · exact lv_tableIn (off := 1488) (tgt := 1527) C.1.1 C.1.2.1 dL_law_39 (by omega) (by omega) (by rw [hj]; rfl) (by decide) (lc_rootChecksum C hlt (by omega) h hX hM hS hl hc K)
end
