/-! ===== by program (wip/p29/holds.py): what holds of a pool ===== -/
section
theorem z_le0 {x : Int32} : x ≤ 0 ↔ ¬ 0 < x := by rw [Int32.le_iff_toInt_le, Int32.lt_iff_toInt_lt]; omega
theorem wv_places (q : ZQ) (hq : q.1.stackTraces = false) {f b : Nat} {P : Mem} (hf : f < 4) (hb : b < 12) : Zd (zgX q) mL_places hL_places [.inr 0, .inl (nI f), .inl (nI b)] P (nI (cpl P (12 * f + b))) P := by
  have e := w_places q hq (nI f) (nI b) P
  rw [v_places hf hb] at e
  exact e
theorem wv_birth (q : ZQ) (hq : q.1.stackTraces = false) {f b : Nat} {P : Mem} (hf : f < 4) (hb : b < 12) : Zd (zgX q) mL_birth hL_birth [.inr 0, .inl (nI f), .inl (nI b)] P (P 14 (12 * f + b)) P := by
  have e := w_birth q hq (nI f) (nI b) P
  rw [v_birth hf hb] at e
  exact e
theorem wv_place0 (q : ZQ) (hq : q.1.stackTraces = false) {f b : Nat} {P : Mem} (hf : f < 4) (hb : b < 12) (h : P 11 (12 * f + b) = -1 ∨ ∃ d : Nat, d < 120 ∧ P 11 (12 * f + b) = nI d) : Zd (zgX q) mL_place hL_place [.inr 0, .inl (nI f), .inl (nI b), .inl (nI 0)] P (plc (P 11 (12 * f + b))) P := by
  have e := w_place q hq (nI f) (nI b) (nI 0) P
  rw [v_place0 hf hb h] at e
  exact e
theorem wv_place1 (q : ZQ) (hq : q.1.stackTraces = false) {f b : Nat} {P : Mem} (hf : f < 4) (hb : b < 12) (h : P 12 (12 * f + b) = -1 ∨ ∃ d : Nat, d < 120 ∧ P 12 (12 * f + b) = nI d) : Zd (zgX q) mL_place hL_place [.inr 0, .inl (nI f), .inl (nI b), .inl (nI 1)] P (plc (P 12 (12 * f + b))) P := by
  have e := w_place q hq (nI f) (nI b) (nI 1) P
  rw [v_place1 hf hb h] at e
  exact e
theorem wv_node0 (q : ZQ) (hq : q.1.stackTraces = false) {f : Nat} {P : Mem} (hf : f < 4) (h : P 11 (48 + f) = -1 ∨ ∃ d : Nat, d < 120 ∧ P 11 (48 + f) = nI d) : Zd (zgX q) mL_nodePlace hL_nodePlace [.inr 0, .inl (nI f), .inl (nI 0)] P (plc (P 11 (48 + f))) P := by
  have e := w_nodePlace q hq (nI f) (nI 0) P
  rw [v_node0 hf h] at e
  exact e
theorem wv_node1 (q : ZQ) (hq : q.1.stackTraces = false) {f : Nat} {P : Mem} (hf : f < 4) (h : P 12 (48 + f) = -1 ∨ ∃ d : Nat, d < 120 ∧ P 12 (48 + f) = nI d) : Zd (zgX q) mL_nodePlace hL_nodePlace [.inr 0, .inl (nI f), .inl (nI 1)] P (plc (P 12 (48 + f))) P := by
  have e := w_nodePlace q hq (nI f) (nI 1) P
  rw [v_node1 hf h] at e
  exact e
theorem wv_root0 (q : ZQ) (hq : q.1.stackTraces = false) {P : Mem} (h : P 11 52 = -1 ∨ ∃ d : Nat, d < 120 ∧ P 11 52 = nI d) : Zd (zgX q) mL_rootPlace hL_rootPlace [.inr 0, .inl (nI 0)] P (plc (P 11 52)) P := by
  have e := w_rootPlace q hq (nI 0) P
  rw [v_root0 h] at e
  exact e
theorem wv_root1 (q : ZQ) (hq : q.1.stackTraces = false) {P : Mem} (h : P 12 52 = -1 ∨ ∃ d : Nat, d < 120 ∧ P 12 52 = nI d) : Zd (zgX q) mL_rootPlace hL_rootPlace [.inr 0, .inl (nI 1)] P (plc (P 12 52)) P := by
  have e := w_rootPlace q hq (nI 1) P
  rw [v_root1 h] at e
  exact e
theorem wv_free (q : ZQ) (hq : q.1.stackTraces = false) {m : Nat} {P : Mem} (hm : m < 3) : Zd (zgX q) mL_free hL_free [.inr 0, .inl (nI m)] P (nI (cn (P 6) (40 * m) 40)) P := by
  have e := w_free q hq (nI m) P
  rw [v_free hm] at e
  exact e
theorem cs_b (P : Mem) (c : Nat → Int32) {f b : Nat} (hb : b < 12) : ow (P 12 (12 * f + b)) (ow (P 11 (12 * f + b)) (cs P c (1 + 13 * f + b))) = cs P c (1 + 13 * f + (b + 1)) := by
  show _ = ow (P 12 (po (1 + 13 * f + b))) (ow (P 11 (po (1 + 13 * f + b))) (cs P c (1 + 13 * f + b)))
  rw [po_b hb]
theorem cs_f (P : Mem) (c : Nat → Int32) (f : Nat) : ow (P 12 (48 + f)) (ow (P 11 (48 + f)) (cs P c (1 + 13 * f + 12))) = cs P c (1 + 13 * (f + 1)) := by
  show _ = ow (P 12 (po (1 + 13 * f + 12))) (ow (P 11 (po (1 + 13 * f + 12))) (cs P c (1 + 13 * f + 12)))
  rw [po_f]
theorem HF_b {P : Mem} {l h : Nat → Int32} (H : HF P l h) (c : Nat → Int32) {f b : Nat} (hf : f < 4) (hb : b < 12) : pOK P (cs P c (1 + 13 * f + b)) (P 11 (12 * f + b)) ∧ pOK P (ow (P 11 (12 * f + b)) (cs P c (1 + 13 * f + b))) (P 12 (12 * f + b)) := by
  have e := H.2.2.2.2.2.1 c (1 + 13 * f + b) (by omega)
  rw [po_b hb] at e
  exact e
theorem HF_f {P : Mem} {l h : Nat → Int32} (H : HF P l h) (c : Nat → Int32) {f : Nat} (hf : f < 4) : pOK P (cs P c (1 + 13 * f + 12)) (P 11 (48 + f)) ∧ pOK P (ow (P 11 (48 + f)) (cs P c (1 + 13 * f + 12))) (P 12 (48 + f)) := by
  have e := H.2.2.2.2.2.1 c (1 + 13 * f + 12) (by omega)
  rw [po_f] at e
  exact e
theorem HF_r {P : Mem} {l h : Nat → Int32} (H : HF P l h) (c : Nat → Int32) : pOK P (cs P c 0) (P 11 52) ∧ pOK P (ow (P 11 52) (cs P c 0)) (P 12 52) := H.2.2.2.2.2.1 c 0 (by decide)
theorem xm_22 (P : Mem) (l h c c' : Nat → Int32) : mset (xm P (f3 l h c)) 22 c' = xm P (f3 l h c') := by
  funext k
  unfold mset
  by_cases e : k = 22
  · rw [if_pos e, e]; rfl
  · rw [if_neg e]
    unfold xm
    by_cases e2 : k < 20
    · rw [if_pos e2, if_pos e2]
    · rw [if_neg e2, if_neg e2]
      by_cases e3 : k = 20
      · rw [e3]; rfl
      · by_cases e4 : k = 21
        · rw [e4]; rfl
        · obtain ⟨j, hj⟩ : ∃ j, k - 20 = j + 3 := ⟨k - 23, by omega⟩
          rw [hj]; rfl
theorem zl_0 (c : Nat → Int32) : zl c 0 = c := by funext j; unfold zl; rw [if_neg (by omega)]
theorem zl_s (c : Nat → Int32) (i : Nat) : vp_updL (zbl (zl c i)) i 0 = zbl (zl c (i + 1)) := by
  funext j
  unfold vp_updL
  apply Int64.toBitVec_inj.mp
  apply BitVec.eq_of_getLsbD_eq
  intro b hb
  rw [zbl_bit _ _ hb]
  by_cases e : j = i
  · rw [if_pos e, e]
    have e2 : zl c (i + 1) (64 * i + b) = 0 := by unfold zl; rw [if_pos (by omega)]
    rw [e2]
    show (0#64).getLsbD b = _
    simp
  · rw [if_neg e, zbl_bit _ _ hb]
    congr 3
    unfold zl
    by_cases e3 : j < i
    · rw [if_pos (by omega), if_pos (by omega)]
    · rw [if_neg (by omega), if_neg (by omega)]
set_option maxRecDepth 100000 in
theorem hd_12 (q : ZQ) (P : Mem) (l h c : Nat → Int32) {k ce sl : Nat} {B : ZR} {L : List (Option SV)} (hk : k < 3) (hh : Zg (zgH q) mL_holds 520 3120 ce sl B 14 L [] (xm P (f3 l h (zl c (k + 1))))) : Zg (zgH q) mL_holds 520 3120 ce sl B 12 L [.inl (nI k), .inr 22] (xm P (f3 l h (zl c k))) := by
  intro p e s mm args below meth cc H locs ls sz C hP hD hS hL
  refine lv_lconst (v := 0) C.1 C.2.1 dL_holds_12 (by decide) ?_
  refine va_last C.1 C.2.1 C.2.2.2.2.2.2.2.2.1.1 hP hD hS 22 2 (zws_at (g := zgH q) (M := (xm P (f3 l h (zl c k)))) (k := 22) rfl) rfl (vp_in_nI hk (by decide)) dL_holds_13 (fun H1 locs1 hP1 hD1 hS1 => ?_)
  have he : (zws (zgH q) (xm P (f3 l h (zl c k)))).set 22 ((zgH q).2.2.2.1 22, .inl (q.2.2.1.2.2, 3, .inr (.inl (vp_updL (zbl (zl c k)) (nI k).toNatClampNeg 0)))) = zws (zgH q) (xm P (f3 l h (zl c (k + 1)))) := by
    have h1 := zws_set (g := zgH q) (M := (xm P (f3 l h (zl c k)))) (k := 22) (x := .inr (none, 3)) (f := zl c (k + 1)) (e := .inl (q.2.2.1.2.2, 3, .inr (.inl (vp_updL (zbl (zl c k)) (nI k).toNatClampNeg 0)))) rfl (by
      rw [nI_clamp (by omega), zl_s]; rfl)
    rw [h1, xm_22]
  have hP2 : va_P q.2.1 vwCl ((zws (zgH q) (xm P (f3 l h (zl c k)))).set 22 ((zgH q).2.2.2.1 22, .inl (q.2.2.1.2.2, 3, .inr (.inl (vp_updL (zbl (zl c k)) (nI k).toNatClampNeg 0))))) H1 := hP1
  have hD2 : va_D (zA (zgH q) sz) ((zws (zgH q) (xm P (f3 l h (zl c k)))).set 22 ((zgH q).2.2.2.1 22, .inl (q.2.2.1.2.2, 3, .inr (.inl (vp_updL (zbl (zl c k)) (nI k).toNatClampNeg 0))))) := hD1
  rw [he] at hP2 hD2
  exact hh p e s mm args below meth cc H1 locs1 ls sz C hP2 hD2 hS1 hL
theorem hd_3 (q : ZQ) (hq : q.1.stackTraces = false) (P : Mem) (l h c : Nat → Int32) (H : HF P l h) : ∀ (n k ce sl : Nat), k + n = 3 → Zg (zgH q) mL_holds 520 3120 ce sl (.inl (some 1), xm P (f3 l h (cs P c 53))) 20 [some (.inr 0), some (.inr 20), some (.inr 21), some (.inr 22), none, none, none, none, none, none, none] [] (xm P (f3 l h (cs P c 0))) → Zg (zgH q) mL_holds 520 3120 ce sl (.inl (some 1), xm P (f3 l h (cs P c 53))) 3 [some (.inr 0), some (.inr 20), some (.inr 21), some (.inr 22), some (.inl (nI k)), none, none, none, none, none, none] [] (xm P (f3 l h (zl c k))) := by
  intro n
  induction n with
  | zero =>
    intro k ce sl hk hh
    have e : k = 3 := by omega
    subst e
    refine zg_iload (x := nI 3) dL_holds_3 rfl ?_
    refine zg_iconst (v := nI 3) dL_holds_5 (by decide) ?_
    refine zg_jt2 (tgt := 20) dL_holds_6 rfl (nI_le (Nat.le_refl _) (by decide)) ?_
    refine zg_drop (L' := [some (.inr 0), some (.inr 20), some (.inr 21), some (.inr 22), none, none, none, none, none, none, none]) ⟨rfl, ⟨rfl, ⟨rfl, ⟨rfl, trivial⟩⟩⟩⟩ ?_
    exact hh
  | succ n ih =>
    intro k ce sl hk hh
    refine zg_iload (x := nI k) dL_holds_3 rfl ?_
    refine zg_iconst (v := nI 3) dL_holds_5 (by decide) ?_
    refine zg_jf2 (tgt := 20) dL_holds_6 rfl (nI_ge (by omega) (by decide)) ?_
    refine zg_aload_n (x := 22) dL_holds_9 rfl ?_
    refine zg_iload (x := nI k) dL_holds_10 rfl ?_
    refine hd_12 q P l h c (by omega) ?_
    refine zg_iincN (a := k) dL_holds_14 rfl (Nat.le_of_ble_eq_true rfl) ?_
    refine zg_st (pc' := 17) (L' := [some (.inr 0), some (.inr 20), some (.inr 21), some (.inr 22), some (.inl (nI (k + 1))), none, none, none, none, none, none]) (S' := []) (M' := (xm P (f3 l h (zl c (k + 1))))) rfl rfl rfl rfl ?_
    refine zg_goto (tgt := 3) dL_holds_17 rfl ?_
    exact ih (k + 1) ce sl (by omega) hh
theorem hd_419 (q : ZQ) (hq : q.1.stackTraces = false) (P : Mem) (l h c : Nat → Int32) (H : HF P l h) {ce sl : Nat} (hc : ce + 4 ≤ 520 ∧ sl + 24 ≤ 3120) : Zg (zgH q) mL_holds 520 3120 ce sl (.inl (some 1), xm P (f3 l h (cs P c 53))) 419 [some (.inr 0), some (.inr 20), some (.inr 21), some (.inr 22), some (.inl (nI (mn P 4))), some (.inl (nI 1)), some (.inl (nI (an P 4))), none, none, none, none] [] (xm P (f3 l h (cs P c 53))) := by
  obtain ⟨H1, H2, H3, H4, H5, H6, H7⟩ := id H
  have hpl := HF_pl H (t := 0) (by decide)
  have hal := an_le P 4
  by_cases ha : an P 4 = 0
  · have hr : P 11 52 = -1 := Decidable.byContradiction (fun z => H5.mpr z ha)
    have e7 : cn (P 6) (40 * 0) 40 + cn (P 6) (40 * 1) 40 + cn (P 6) (40 * 2) 40 = 120 - (mn P 4 + 0) := by show cn (P 6) 0 40 + cn (P 6) 40 40 + cn (P 6) 80 40 = _; omega
    refine zg_iload (x := nI (mn P 4)) dL_holds_419 rfl ?_
    refine zg_iload (x := nI (an P 4)) dL_holds_421 rfl ?_
    refine zg_jt (tgt := 430) dL_holds_423 rfl (show nI (an P 4) = 0 by rw [ha]; decide) ?_
    refine zg_iconst (v := nI 0) dL_holds_430 (by decide) ?_
    refine zg_iaddN dL_holds_431 ?_
    refine zg_istore dL_holds_432 (by decide) ?_
    refine zg_st (pc' := 434) (L' := [some (.inr 0), some (.inr 20), some (.inr 21), some (.inr 22), some (.inl (nI ((mn P 4) + 0))), some (.inl (nI 1)), some (.inl (nI (an P 4))), none, none, none, none]) (S' := []) (M' := (xm P (f3 l h (cs P c 53)))) rfl rfl rfl rfl ?_
    refine zg_iload (x := nI 1) dL_holds_434 rfl ?_
    refine zg_jf (tgt := 486) dL_holds_436 rfl (show ¬ (nI 1 = 0) by decide) ?_
    refine zg_iload (x := nI (an P 4)) dL_holds_439 rfl ?_
    refine zg_aload_n (x := 0) dL_holds_441 rfl ?_
    refine zg_iconst (v := nI 0) dL_holds_442 (by decide) ?_
    refine zg_cW (As := [.inr 0, .inl (nI 0)]) (S := [.inl (nI (an P 4))]) (k := plc (P 11 52)) (N := (xm P (f3 l h (cs P c 53)))) dL_holds_443 (XH (wv_root0 q hq hpl.1)) lk_rootPlace.1 lk_rootPlace.2 zi_L_rootPlace rfl ⟨by decide, by decide⟩ ⟨by omega, by omega⟩ rfl (Nat.le_of_ble_eq_true rfl) ?_
    refine zg_st (pc' := 446) (L' := [some (.inr 0), some (.inr 20), some (.inr 21), some (.inr 22), some (.inl (nI ((mn P 4) + 0))), some (.inl (nI 1)), some (.inl (nI (an P 4))), none, none, none, none]) (S' := [.inl (plc (P 11 52)), .inl (nI (an P 4))]) (M' := (xm P (f3 l h (cs P c 53)))) rfl rfl rfl rfl ?_
    refine zg_jt (tgt := 453) dL_holds_446 rfl ((plc_ge hpl.1).mpr hr) ?_
    refine zg_iconst (v := nI 0) dL_holds_453 (by decide) ?_
    refine zg_jf2 (tgt := 486) dL_holds_454 rfl (show ¬ ¬ (nI (an P 4) = nI 0) by rw [ha]; exact fun z => z rfl) ?_
    refine zg_aload_n (x := 0) dL_holds_457 rfl ?_
    refine zg_iconst (v := nI 0) dL_holds_458 (by decide) ?_
    refine zg_cW (As := [.inr 0, .inl (nI 0)]) (S := []) (k := nI (cn (P 6) (40 * 0) 40)) (N := (xm P (f3 l h (cs P c 53)))) dL_holds_459 (XH (wv_free q hq (by decide))) lk_free.1 lk_free.2 zi_L_free rfl ⟨by decide, by decide⟩ ⟨by omega, by omega⟩ rfl (Nat.le_of_ble_eq_true rfl) ?_
    refine zg_st (pc' := 462) (L' := [some (.inr 0), some (.inr 20), some (.inr 21), some (.inr 22), some (.inl (nI ((mn P 4) + 0))), some (.inl (nI 1)), some (.inl (nI (an P 4))), none, none, none, none]) (S' := [.inl (nI (cn (P 6) (40 * 0) 40))]) (M' := (xm P (f3 l h (cs P c 53)))) rfl rfl rfl rfl ?_
    refine zg_aload_n (x := 0) dL_holds_462 rfl ?_
    refine zg_iconst (v := nI 1) dL_holds_463 (by decide) ?_
    refine zg_cW (As := [.inr 0, .inl (nI 1)]) (S := [.inl (nI (cn (P 6) (40 * 0) 40))]) (k := nI (cn (P 6) (40 * 1) 40)) (N := (xm P (f3 l h (cs P c 53)))) dL_holds_464 (XH (wv_free q hq (by decide))) lk_free.1 lk_free.2 zi_L_free rfl ⟨by decide, by decide⟩ ⟨by omega, by omega⟩ rfl (Nat.le_of_ble_eq_true rfl) ?_
    refine zg_st (pc' := 467) (L' := [some (.inr 0), some (.inr 20), some (.inr 21), some (.inr 22), some (.inl (nI ((mn P 4) + 0))), some (.inl (nI 1)), some (.inl (nI (an P 4))), none, none, none, none]) (S' := [.inl (nI (cn (P 6) (40 * 1) 40)), .inl (nI (cn (P 6) (40 * 0) 40))]) (M' := (xm P (f3 l h (cs P c 53)))) rfl rfl rfl rfl ?_
    refine zg_iaddN dL_holds_467 ?_
    refine zg_aload_n (x := 0) dL_holds_468 rfl ?_
    refine zg_iconst (v := nI 2) dL_holds_469 (by decide) ?_
    refine zg_cW (As := [.inr 0, .inl (nI 2)]) (S := [.inl (nI ((cn (P 6) (40 * 0) 40) + (cn (P 6) (40 * 1) 40)))]) (k := nI (cn (P 6) (40 * 2) 40)) (N := (xm P (f3 l h (cs P c 53)))) dL_holds_470 (XH (wv_free q hq (by decide))) lk_free.1 lk_free.2 zi_L_free rfl ⟨by decide, by decide⟩ ⟨by omega, by omega⟩ rfl (Nat.le_of_ble_eq_true rfl) ?_
    refine zg_st (pc' := 473) (L' := [some (.inr 0), some (.inr 20), some (.inr 21), some (.inr 22), some (.inl (nI ((mn P 4) + 0))), some (.inl (nI 1)), some (.inl (nI (an P 4))), none, none, none, none]) (S' := [.inl (nI (cn (P 6) (40 * 2) 40)), .inl (nI ((cn (P 6) (40 * 0) 40) + (cn (P 6) (40 * 1) 40)))]) (M' := (xm P (f3 l h (cs P c 53)))) rfl rfl rfl rfl ?_
    refine zg_iaddN dL_holds_473 ?_
    refine zg_bipush (v := nI 120) dL_holds_474 (by decide) ?_
    refine zg_iload (x := nI ((mn P 4) + 0)) dL_holds_476 rfl ?_
    refine zg_isubN dL_holds_478 (by omega) ?_
    refine zg_jf2 (tgt := 486) dL_holds_479 rfl (fun z => z (congrArg nI e7)) ?_
    refine zg_iconst (v := nI 1) dL_holds_482 (by decide) ?_
    refine zg_goto (tgt := 487) dL_holds_483 rfl ?_
    exact zg_iret dL_holds_487 rfl rfl ⟨by omega, by omega⟩ rfl
  · have ha1 : an P 4 = 1 := by omega
    have hr : ¬ P 11 52 = -1 := H5.mp ha
    have e7 : cn (P 6) (40 * 0) 40 + cn (P 6) (40 * 1) 40 + cn (P 6) (40 * 2) 40 = 120 - (mn P 4 + 2) := by show cn (P 6) 0 40 + cn (P 6) 40 40 + cn (P 6) 80 40 = _; omega
    refine zg_iload (x := nI (mn P 4)) dL_holds_419 rfl ?_
    refine zg_iload (x := nI (an P 4)) dL_holds_421 rfl ?_
    refine zg_jf (tgt := 430) dL_holds_423 rfl (show ¬ (nI (an P 4) = 0) by rw [ha1]; decide) ?_
    refine zg_iconst (v := nI 2) dL_holds_426 (by decide) ?_
    refine zg_goto (tgt := 431) dL_holds_427 rfl ?_
    refine zg_iaddN dL_holds_431 ?_
    refine zg_istore dL_holds_432 (by decide) ?_
    refine zg_st (pc' := 434) (L' := [some (.inr 0), some (.inr 20), some (.inr 21), some (.inr 22), some (.inl (nI ((mn P 4) + 2))), some (.inl (nI 1)), some (.inl (nI (an P 4))), none, none, none, none]) (S' := []) (M' := (xm P (f3 l h (cs P c 53)))) rfl rfl rfl rfl ?_
    refine zg_iload (x := nI 1) dL_holds_434 rfl ?_
    refine zg_jf (tgt := 486) dL_holds_436 rfl (show ¬ (nI 1 = 0) by decide) ?_
    refine zg_iload (x := nI (an P 4)) dL_holds_439 rfl ?_
    refine zg_aload_n (x := 0) dL_holds_441 rfl ?_
    refine zg_iconst (v := nI 0) dL_holds_442 (by decide) ?_
    refine zg_cW (As := [.inr 0, .inl (nI 0)]) (S := [.inl (nI (an P 4))]) (k := plc (P 11 52)) (N := (xm P (f3 l h (cs P c 53)))) dL_holds_443 (XH (wv_root0 q hq hpl.1)) lk_rootPlace.1 lk_rootPlace.2 zi_L_rootPlace rfl ⟨by decide, by decide⟩ ⟨by omega, by omega⟩ rfl (Nat.le_of_ble_eq_true rfl) ?_
    refine zg_st (pc' := 446) (L' := [some (.inr 0), some (.inr 20), some (.inr 21), some (.inr 22), some (.inl (nI ((mn P 4) + 2))), some (.inl (nI 1)), some (.inl (nI (an P 4))), none, none, none, none]) (S' := [.inl (plc (P 11 52)), .inl (nI (an P 4))]) (M' := (xm P (f3 l h (cs P c 53)))) rfl rfl rfl rfl ?_
    refine zg_jf (tgt := 453) dL_holds_446 rfl (fun z => hr ((plc_ge hpl.1).mp z)) ?_
    refine zg_iconst (v := nI 1) dL_holds_449 (by decide) ?_
    refine zg_goto (tgt := 454) dL_holds_450 rfl ?_
    refine zg_jf2 (tgt := 486) dL_holds_454 rfl (show ¬ ¬ (nI (an P 4) = nI 1) by rw [ha1]; exact fun z => z rfl) ?_
    refine zg_aload_n (x := 0) dL_holds_457 rfl ?_
    refine zg_iconst (v := nI 0) dL_holds_458 (by decide) ?_
    refine zg_cW (As := [.inr 0, .inl (nI 0)]) (S := []) (k := nI (cn (P 6) (40 * 0) 40)) (N := (xm P (f3 l h (cs P c 53)))) dL_holds_459 (XH (wv_free q hq (by decide))) lk_free.1 lk_free.2 zi_L_free rfl ⟨by decide, by decide⟩ ⟨by omega, by omega⟩ rfl (Nat.le_of_ble_eq_true rfl) ?_
    refine zg_st (pc' := 462) (L' := [some (.inr 0), some (.inr 20), some (.inr 21), some (.inr 22), some (.inl (nI ((mn P 4) + 2))), some (.inl (nI 1)), some (.inl (nI (an P 4))), none, none, none, none]) (S' := [.inl (nI (cn (P 6) (40 * 0) 40))]) (M' := (xm P (f3 l h (cs P c 53)))) rfl rfl rfl rfl ?_
    refine zg_aload_n (x := 0) dL_holds_462 rfl ?_
    refine zg_iconst (v := nI 1) dL_holds_463 (by decide) ?_
    refine zg_cW (As := [.inr 0, .inl (nI 1)]) (S := [.inl (nI (cn (P 6) (40 * 0) 40))]) (k := nI (cn (P 6) (40 * 1) 40)) (N := (xm P (f3 l h (cs P c 53)))) dL_holds_464 (XH (wv_free q hq (by decide))) lk_free.1 lk_free.2 zi_L_free rfl ⟨by decide, by decide⟩ ⟨by omega, by omega⟩ rfl (Nat.le_of_ble_eq_true rfl) ?_
    refine zg_st (pc' := 467) (L' := [some (.inr 0), some (.inr 20), some (.inr 21), some (.inr 22), some (.inl (nI ((mn P 4) + 2))), some (.inl (nI 1)), some (.inl (nI (an P 4))), none, none, none, none]) (S' := [.inl (nI (cn (P 6) (40 * 1) 40)), .inl (nI (cn (P 6) (40 * 0) 40))]) (M' := (xm P (f3 l h (cs P c 53)))) rfl rfl rfl rfl ?_
    refine zg_iaddN dL_holds_467 ?_
    refine zg_aload_n (x := 0) dL_holds_468 rfl ?_
    refine zg_iconst (v := nI 2) dL_holds_469 (by decide) ?_
    refine zg_cW (As := [.inr 0, .inl (nI 2)]) (S := [.inl (nI ((cn (P 6) (40 * 0) 40) + (cn (P 6) (40 * 1) 40)))]) (k := nI (cn (P 6) (40 * 2) 40)) (N := (xm P (f3 l h (cs P c 53)))) dL_holds_470 (XH (wv_free q hq (by decide))) lk_free.1 lk_free.2 zi_L_free rfl ⟨by decide, by decide⟩ ⟨by omega, by omega⟩ rfl (Nat.le_of_ble_eq_true rfl) ?_
    refine zg_st (pc' := 473) (L' := [some (.inr 0), some (.inr 20), some (.inr 21), some (.inr 22), some (.inl (nI ((mn P 4) + 2))), some (.inl (nI 1)), some (.inl (nI (an P 4))), none, none, none, none]) (S' := [.inl (nI (cn (P 6) (40 * 2) 40)), .inl (nI ((cn (P 6) (40 * 0) 40) + (cn (P 6) (40 * 1) 40)))]) (M' := (xm P (f3 l h (cs P c 53)))) rfl rfl rfl rfl ?_
    refine zg_iaddN dL_holds_473 ?_
    refine zg_bipush (v := nI 120) dL_holds_474 (by decide) ?_
    refine zg_iload (x := nI ((mn P 4) + 2)) dL_holds_476 rfl ?_
    refine zg_isubN dL_holds_478 (by omega) ?_
    refine zg_jf2 (tgt := 486) dL_holds_479 rfl (fun z => z (congrArg nI e7)) ?_
    refine zg_iconst (v := nI 1) dL_holds_482 (by decide) ?_
    refine zg_goto (tgt := 487) dL_holds_483 rfl ?_
    exact zg_iret dL_holds_487 rfl rfl ⟨by omega, by omega⟩ rfl
theorem hi_244 (q : ZQ) (hq : q.1.stackTraces = false) (P : Mem) (l h c : Nat → Int32) (H : HF P l h) {f b : Nat} (hf : f < 4) (hb : b < 12) {ce sl ce1 sl1 : Nat} (hc : ce1 ≤ 520 ∧ sl1 ≤ 3120) (h1 : ce + 2 ≤ ce1 ∧ sl + 12 ≤ sl1) (hh : Zg (zgH q) mL_holds 520 3120 ce1 sl1 (.inl (some 1), xm P (f3 l h (cs P c 53))) 79 [some (.inr 0), some (.inr 20), some (.inr 21), some (.inr 22), some (.inl (nI (mn P f + cnt P f (b + 1)))), some (.inl (nI 1)), some (.inl (nI (an P f))), some (.inl (nI f)), some (.inl (nI (hs P f (b + 1)))), some (.inl (nI (b + 1))), none] [] (xm P (f3 l h (cs P c (1 + 13 * f + (b + 1)))))) : Zg (zgH q) mL_holds 520 3120 ce sl (.inl (some 1), xm P (f3 l h (cs P c 53))) 244 [some (.inr 0), some (.inr 20), some (.inr 21), some (.inr 22), some (.inl (nI (mn P f + cnt P f (b + 1)))), some (.inl (nI 1)), some (.inl (nI (an P f))), some (.inl (nI f)), some (.inl (nI (hs P f (b + 1)))), some (.inl (nI b)), some (.inl (nI (12 * f + b)))] [] (xm P (f3 l h (cs P c (1 + 13 * f + (b + 1))))) := by
  obtain ⟨H1, H2, H3, H4, H5, H6, H7⟩ := id H
  by_cases hl : 0 < l (12 * f + b)
  · refine zg_aload_n (x := 20) dL_holds_244 rfl ?_
    refine zg_iload (x := nI (12 * f + b)) dL_holds_245 rfl ?_
    refine zg_ialdN (n := 48) (v := (l (12 * f + b))) dL_holds_247 rfl (by omega) (by decide) rfl ?_
    refine zg_jf (tgt := 280) dL_holds_248 rfl (show ¬ (l (12 * f + b) ≤ 0) from fun z => z_le0.mp z hl) ?_
    refine zg_aload_n (x := 0) dL_holds_251 rfl ?_
    refine zg_iload (x := nI f) dL_holds_252 rfl ?_
    refine zg_iload (x := nI b) dL_holds_254 rfl ?_
    refine zg_cW (As := [.inr 0, .inl (nI f), .inl (nI b)]) (S := []) (k := eI (f_X4_nextData (nI f) (nI b) P)) (N := (xm P (f3 l h (cs P c (1 + 13 * f + (b + 1)))))) dL_holds_256 (XH (w_data q hq (nI f) (nI b) P)) lk_data.1 lk_data.2 zi_L_data rfl ⟨by decide, by decide⟩ ⟨by omega, by omega⟩ rfl (Nat.le_of_ble_eq_true rfl) ?_
    refine zg_st (pc' := 259) (L' := [some (.inr 0), some (.inr 20), some (.inr 21), some (.inr 22), some (.inl (nI (mn P f + cnt P f (b + 1)))), some (.inl (nI 1)), some (.inl (nI (an P f))), some (.inl (nI f)), some (.inl (nI (hs P f (b + 1)))), some (.inl (nI b)), some (.inl (nI (12 * f + b)))]) (S' := [.inl (eI (f_X4_nextData (nI f) (nI b) P))]) (M' := (xm P (f3 l h (cs P c (1 + 13 * f + (b + 1)))))) rfl rfl rfl rfl ?_
    refine zg_iload (x := nI b) dL_holds_259 rfl ?_
    refine zg_jf2 (tgt := 310) dL_holds_261 rfl (fun z => z ((H3 f b hf hb).1 hl).1) ?_
    refine zg_aload_n (x := 0) dL_holds_264 rfl ?_
    refine zg_iload (x := nI f) dL_holds_265 rfl ?_
    refine zg_iload (x := nI b) dL_holds_267 rfl ?_
    refine zg_cW (As := [.inr 0, .inl (nI f), .inl (nI b)]) (S := []) (k := eI (f_X4_nextHole (nI f) (nI b) P)) (N := (xm P (f3 l h (cs P c (1 + 13 * f + (b + 1)))))) dL_holds_269 (XH (w_hole q hq (nI f) (nI b) P)) lk_hole.1 lk_hole.2 zi_L_hole rfl ⟨by decide, by decide⟩ ⟨by omega, by omega⟩ rfl (Nat.le_of_ble_eq_true rfl) ?_
    refine zg_st (pc' := 272) (L' := [some (.inr 0), some (.inr 20), some (.inr 21), some (.inr 22), some (.inl (nI (mn P f + cnt P f (b + 1)))), some (.inl (nI 1)), some (.inl (nI (an P f))), some (.inl (nI f)), some (.inl (nI (hs P f (b + 1)))), some (.inl (nI b)), some (.inl (nI (12 * f + b)))]) (S' := [.inl (eI (f_X4_nextHole (nI f) (nI b) P))]) (M' := (xm P (f3 l h (cs P c (1 + 13 * f + (b + 1)))))) rfl rfl rfl rfl ?_
    refine zg_iload (x := nI b) dL_holds_272 rfl ?_
    refine zg_jf2 (tgt := 310) dL_holds_274 rfl ((H3 f b hf hb).1 hl).2 ?_
    refine zg_goto (tgt := 306) dL_holds_277 rfl ?_
    refine zg_iconst (v := nI 1) dL_holds_306 (by decide) ?_
    refine zg_goto (tgt := 311) dL_holds_307 rfl ?_
    refine zg_istore dL_holds_311 (by decide) ?_
    refine zg_st (pc' := 313) (L' := [some (.inr 0), some (.inr 20), some (.inr 21), some (.inr 22), some (.inl (nI (mn P f + cnt P f (b + 1)))), some (.inl (nI 1)), some (.inl (nI (an P f))), some (.inl (nI f)), some (.inl (nI (hs P f (b + 1)))), some (.inl (nI b)), some (.inl (nI (12 * f + b)))]) (S' := []) (M' := (xm P (f3 l h (cs P c (1 + 13 * f + (b + 1)))))) rfl rfl rfl rfl ?_
    refine zg_iincN (a := b) dL_holds_313 rfl (Nat.le_of_ble_eq_true rfl) ?_
    refine zg_st (pc' := 316) (L' := [some (.inr 0), some (.inr 20), some (.inr 21), some (.inr 22), some (.inl (nI (mn P f + cnt P f (b + 1)))), some (.inl (nI 1)), some (.inl (nI (an P f))), some (.inl (nI f)), some (.inl (nI (hs P f (b + 1)))), some (.inl (nI (b + 1))), some (.inl (nI (12 * f + b)))]) (S' := []) (M' := (xm P (f3 l h (cs P c (1 + 13 * f + (b + 1)))))) rfl rfl rfl rfl ?_
    refine zg_drop (L' := [some (.inr 0), some (.inr 20), some (.inr 21), some (.inr 22), some (.inl (nI (mn P f + cnt P f (b + 1)))), some (.inl (nI 1)), some (.inl (nI (an P f))), some (.inl (nI f)), some (.inl (nI (hs P f (b + 1)))), some (.inl (nI (b + 1))), none]) ⟨rfl, ⟨rfl, ⟨rfl, ⟨rfl, ⟨rfl, ⟨rfl, ⟨rfl, ⟨rfl, ⟨rfl, ⟨rfl, trivial⟩⟩⟩⟩⟩⟩⟩⟩⟩⟩ ?_
    refine zg_goto (tgt := 79) dL_holds_316 rfl ?_
    exact zg_more (by omega) (by omega) hh
  · refine zg_aload_n (x := 20) dL_holds_244 rfl ?_
    refine zg_iload (x := nI (12 * f + b)) dL_holds_245 rfl ?_
    refine zg_ialdN (n := 48) (v := (l (12 * f + b))) dL_holds_247 rfl (by omega) (by decide) rfl ?_
    refine zg_jt (tgt := 280) dL_holds_248 rfl (show l (12 * f + b) ≤ 0 from z_le0.mpr hl) ?_
    refine zg_aload_n (x := 0) dL_holds_280 rfl ?_
    refine zg_iload (x := nI f) dL_holds_281 rfl ?_
    refine zg_iload (x := nI b) dL_holds_283 rfl ?_
    refine zg_cW (As := [.inr 0, .inl (nI f), .inl (nI b)]) (S := []) (k := eI (f_X4_nextHole (nI f) (nI b) P)) (N := (xm P (f3 l h (cs P c (1 + 13 * f + (b + 1)))))) dL_holds_285 (XH (w_hole q hq (nI f) (nI b) P)) lk_hole.1 lk_hole.2 zi_L_hole rfl ⟨by decide, by decide⟩ ⟨by omega, by omega⟩ rfl (Nat.le_of_ble_eq_true rfl) ?_
    refine zg_st (pc' := 288) (L' := [some (.inr 0), some (.inr 20), some (.inr 21), some (.inr 22), some (.inl (nI (mn P f + cnt P f (b + 1)))), some (.inl (nI 1)), some (.inl (nI (an P f))), some (.inl (nI f)), some (.inl (nI (hs P f (b + 1)))), some (.inl (nI b)), some (.inl (nI (12 * f + b)))]) (S' := [.inl (eI (f_X4_nextHole (nI f) (nI b) P))]) (M' := (xm P (f3 l h (cs P c (1 + 13 * f + (b + 1)))))) rfl rfl rfl rfl ?_
    refine zg_iload (x := nI b) dL_holds_288 rfl ?_
    refine zg_jf2 (tgt := 310) dL_holds_290 rfl (fun z => z ((H3 f b hf hb).2 hl).1) ?_
    refine zg_aload_n (x := 0) dL_holds_293 rfl ?_
    refine zg_iload (x := nI f) dL_holds_294 rfl ?_
    refine zg_iload (x := nI b) dL_holds_296 rfl ?_
    refine zg_cW (As := [.inr 0, .inl (nI f), .inl (nI b)]) (S := []) (k := eI (f_X4_nextData (nI f) (nI b) P)) (N := (xm P (f3 l h (cs P c (1 + 13 * f + (b + 1)))))) dL_holds_298 (XH (w_data q hq (nI f) (nI b) P)) lk_data.1 lk_data.2 zi_L_data rfl ⟨by decide, by decide⟩ ⟨by omega, by omega⟩ rfl (Nat.le_of_ble_eq_true rfl) ?_
    refine zg_st (pc' := 301) (L' := [some (.inr 0), some (.inr 20), some (.inr 21), some (.inr 22), some (.inl (nI (mn P f + cnt P f (b + 1)))), some (.inl (nI 1)), some (.inl (nI (an P f))), some (.inl (nI f)), some (.inl (nI (hs P f (b + 1)))), some (.inl (nI b)), some (.inl (nI (12 * f + b)))]) (S' := [.inl (eI (f_X4_nextData (nI f) (nI b) P))]) (M' := (xm P (f3 l h (cs P c (1 + 13 * f + (b + 1)))))) rfl rfl rfl rfl ?_
    refine zg_iload (x := nI b) dL_holds_301 rfl ?_
    refine zg_jf2 (tgt := 310) dL_holds_303 rfl (fun z => ((H3 f b hf hb).2 hl).2 z) ?_
    refine zg_iconst (v := nI 1) dL_holds_306 (by decide) ?_
    refine zg_goto (tgt := 311) dL_holds_307 rfl ?_
    refine zg_istore dL_holds_311 (by decide) ?_
    refine zg_st (pc' := 313) (L' := [some (.inr 0), some (.inr 20), some (.inr 21), some (.inr 22), some (.inl (nI (mn P f + cnt P f (b + 1)))), some (.inl (nI 1)), some (.inl (nI (an P f))), some (.inl (nI f)), some (.inl (nI (hs P f (b + 1)))), some (.inl (nI b)), some (.inl (nI (12 * f + b)))]) (S' := []) (M' := (xm P (f3 l h (cs P c (1 + 13 * f + (b + 1)))))) rfl rfl rfl rfl ?_
    refine zg_iincN (a := b) dL_holds_313 rfl (Nat.le_of_ble_eq_true rfl) ?_
    refine zg_st (pc' := 316) (L' := [some (.inr 0), some (.inr 20), some (.inr 21), some (.inr 22), some (.inl (nI (mn P f + cnt P f (b + 1)))), some (.inl (nI 1)), some (.inl (nI (an P f))), some (.inl (nI f)), some (.inl (nI (hs P f (b + 1)))), some (.inl (nI (b + 1))), some (.inl (nI (12 * f + b)))]) (S' := []) (M' := (xm P (f3 l h (cs P c (1 + 13 * f + (b + 1)))))) rfl rfl rfl rfl ?_
    refine zg_drop (L' := [some (.inr 0), some (.inr 20), some (.inr 21), some (.inr 22), some (.inl (nI (mn P f + cnt P f (b + 1)))), some (.inl (nI 1)), some (.inl (nI (an P f))), some (.inl (nI f)), some (.inl (nI (hs P f (b + 1)))), some (.inl (nI (b + 1))), none]) ⟨rfl, ⟨rfl, ⟨rfl, ⟨rfl, ⟨rfl, ⟨rfl, ⟨rfl, ⟨rfl, ⟨rfl, ⟨rfl, trivial⟩⟩⟩⟩⟩⟩⟩⟩⟩⟩ ?_
    refine zg_goto (tgt := 79) dL_holds_316 rfl ?_
    exact zg_more (by omega) (by omega) hh
theorem hi_118 (q : ZQ) (hq : q.1.stackTraces = false) (P : Mem) (l h c : Nat → Int32) (H : HF P l h) {f b : Nat} (hf : f < 4) (hb : b < 12) {ce sl ce1 sl1 : Nat} (hc : ce1 ≤ 520 ∧ sl1 ≤ 3120) (h1 : ce + 10 ≤ ce1 ∧ sl + 60 ≤ sl1) (hh : Zg (zgH q) mL_holds 520 3120 ce1 sl1 (.inl (some 1), xm P (f3 l h (cs P c 53))) 79 [some (.inr 0), some (.inr 20), some (.inr 21), some (.inr 22), some (.inl (nI (mn P f + cnt P f (b + 1)))), some (.inl (nI 1)), some (.inl (nI (an P f))), some (.inl (nI f)), some (.inl (nI (hs P f (b + 1)))), some (.inl (nI (b + 1))), none] [] (xm P (f3 l h (cs P c (1 + 13 * f + (b + 1)))))) : Zg (zgH q) mL_holds 520 3120 ce sl (.inl (some 1), xm P (f3 l h (cs P c 53))) 118 [some (.inr 0), some (.inr 20), some (.inr 21), some (.inr 22), some (.inl (nI (mn P f + cnt P f b))), some (.inl (nI 1)), some (.inl (nI (an P f))), some (.inl (nI f)), some (.inl (nI (hs P f b))), some (.inl (nI b)), some (.inl (nI (12 * f + b)))] [.inl (nI (hs P f (b + 1)))] (xm P (f3 l h (cs P c (1 + 13 * f + b)))) := by
  obtain ⟨H1, H2, H3, H4, H5, H6, H7⟩ := id H
  obtain ⟨O1, O2⟩ := HF_b H c hf hb
  have ek : 12 * f + b < 48 := by omega
  have e4 : mn P f + cnt P f b + cpl P (12 * f + b) = mn P f + cnt P f (b + 1) := by show _ = mn P f + (cnt P f b + cpl P (12 * f + b)); omega
  by_cases hp : P 11 (12 * f + b) = -1
  · have hh0 : ¬ 0 < h (12 * f + b) := fun z => (H1 _ ek).mp z hp
    have hc0 : cpl P (12 * f + b) = 0 := by unfold cpl; rw [if_pos hp]
    have hb0 : ¬ 0 < P 14 (12 * f + b) := fun z => (H2 _ ek).1.mp z hp
    refine zg_istore dL_holds_118 (by decide) ?_
    refine zg_st (pc' := 120) (L' := [some (.inr 0), some (.inr 20), some (.inr 21), some (.inr 22), some (.inl (nI (mn P f + cnt P f b))), some (.inl (nI 1)), some (.inl (nI (an P f))), some (.inl (nI f)), some (.inl (nI (hs P f (b + 1)))), some (.inl (nI b)), some (.inl (nI (12 * f + b)))]) (S' := []) (M' := (xm P (f3 l h (cs P c (1 + 13 * f + b))))) rfl rfl rfl rfl ?_
    refine zg_iload (x := nI (mn P f + cnt P f b)) dL_holds_120 rfl ?_
    refine zg_aload_n (x := 0) dL_holds_122 rfl ?_
    refine zg_iload (x := nI f) dL_holds_123 rfl ?_
    refine zg_iload (x := nI b) dL_holds_125 rfl ?_
    refine zg_cW (As := [.inr 0, .inl (nI f), .inl (nI b)]) (S := [.inl (nI (mn P f + cnt P f b))]) (k := nI (cpl P (12 * f + b))) (N := (xm P (f3 l h (cs P c (1 + 13 * f + b))))) dL_holds_127 (XH (wv_places q hq hf hb)) lk_places.1 lk_places.2 zi_L_places rfl ⟨by decide, by decide⟩ ⟨by omega, by omega⟩ rfl (Nat.le_of_ble_eq_true rfl) ?_
    refine zg_st (pc' := 130) (L' := [some (.inr 0), some (.inr 20), some (.inr 21), some (.inr 22), some (.inl (nI (mn P f + cnt P f b))), some (.inl (nI 1)), some (.inl (nI (an P f))), some (.inl (nI f)), some (.inl (nI (hs P f (b + 1)))), some (.inl (nI b)), some (.inl (nI (12 * f + b)))]) (S' := [.inl (nI (cpl P (12 * f + b))), .inl (nI (mn P f + cnt P f b))]) (M' := (xm P (f3 l h (cs P c (1 + 13 * f + b))))) rfl rfl rfl rfl ?_
    refine zg_iaddN dL_holds_130 ?_
    refine zg_istore dL_holds_131 (by decide) ?_
    refine zg_st (pc' := 133) (L' := [some (.inr 0), some (.inr 20), some (.inr 21), some (.inr 22), some (.inl (nI ((mn P f + cnt P f b) + (cpl P (12 * f + b))))), some (.inl (nI 1)), some (.inl (nI (an P f))), some (.inl (nI f)), some (.inl (nI (hs P f (b + 1)))), some (.inl (nI b)), some (.inl (nI (12 * f + b)))]) (S' := []) (M' := (xm P (f3 l h (cs P c (1 + 13 * f + b))))) rfl rfl rfl rfl ?_
    rw [e4]
    refine zg_st (pc' := 133) (L' := [some (.inr 0), some (.inr 20), some (.inr 21), some (.inr 22), some (.inl (nI (mn P f + cnt P f (b + 1)))), some (.inl (nI 1)), some (.inl (nI (an P f))), some (.inl (nI f)), some (.inl (nI (hs P f (b + 1)))), some (.inl (nI b)), some (.inl (nI (12 * f + b)))]) (S' := []) (M' := (xm P (f3 l h (cs P c (1 + 13 * f + b))))) rfl rfl rfl rfl ?_
    refine zg_aload_n (x := 21) dL_holds_133 rfl ?_
    refine zg_iload (x := nI (12 * f + b)) dL_holds_134 rfl ?_
    refine zg_ialdN (n := 48) (v := (h (12 * f + b))) dL_holds_136 rfl (by omega) (by decide) rfl ?_
    refine zg_jt (tgt := 144) dL_holds_137 rfl (show h (12 * f + b) ≤ 0 from z_le0.mpr hh0) ?_
    refine zg_iconst (v := nI 0) dL_holds_144 (by decide) ?_
    refine zg_aload_n (x := 0) dL_holds_145 rfl ?_
    refine zg_iload (x := nI f) dL_holds_146 rfl ?_
    refine zg_iload (x := nI b) dL_holds_148 rfl ?_
    refine zg_cW (As := [.inr 0, .inl (nI f), .inl (nI b)]) (S := [.inl (nI 0)]) (k := nI (cpl P (12 * f + b))) (N := (xm P (f3 l h (cs P c (1 + 13 * f + b))))) dL_holds_150 (XH (wv_places q hq hf hb)) lk_places.1 lk_places.2 zi_L_places rfl ⟨by decide, by decide⟩ ⟨by omega, by omega⟩ rfl (Nat.le_of_ble_eq_true rfl) ?_
    refine zg_st (pc' := 153) (L' := [some (.inr 0), some (.inr 20), some (.inr 21), some (.inr 22), some (.inl (nI (mn P f + cnt P f (b + 1)))), some (.inl (nI 1)), some (.inl (nI (an P f))), some (.inl (nI f)), some (.inl (nI (hs P f (b + 1)))), some (.inl (nI b)), some (.inl (nI (12 * f + b)))]) (S' := [.inl (nI (cpl P (12 * f + b))), .inl (nI 0)]) (M' := (xm P (f3 l h (cs P c (1 + 13 * f + b))))) rfl rfl rfl rfl ?_
    refine zg_jt (tgt := 160) dL_holds_153 rfl (show nI (cpl P (12 * f + b)) ≤ 0 by rw [hc0]; decide) ?_
    refine zg_iconst (v := nI 0) dL_holds_160 (by decide) ?_
    refine zg_jf2 (tgt := 310) dL_holds_161 rfl (fun z => z rfl) ?_
    refine zg_aload_n (x := 21) dL_holds_164 rfl ?_
    refine zg_iload (x := nI (12 * f + b)) dL_holds_165 rfl ?_
    refine zg_ialdN (n := 48) (v := (h (12 * f + b))) dL_holds_167 rfl (by omega) (by decide) rfl ?_
    refine zg_jt (tgt := 175) dL_holds_168 rfl (show h (12 * f + b) ≤ 0 from z_le0.mpr hh0) ?_
    refine zg_iconst (v := nI 0) dL_holds_175 (by decide) ?_
    refine zg_aload_n (x := 0) dL_holds_176 rfl ?_
    refine zg_iload (x := nI f) dL_holds_177 rfl ?_
    refine zg_iload (x := nI b) dL_holds_179 rfl ?_
    refine zg_cW (As := [.inr 0, .inl (nI f), .inl (nI b)]) (S := [.inl (nI 0)]) (k := P 14 (12 * f + b)) (N := (xm P (f3 l h (cs P c (1 + 13 * f + b))))) dL_holds_181 (XH (wv_birth q hq hf hb)) lk_birth.1 lk_birth.2 zi_L_birth rfl ⟨by decide, by decide⟩ ⟨by omega, by omega⟩ rfl (Nat.le_of_ble_eq_true rfl) ?_
    refine zg_st (pc' := 184) (L' := [some (.inr 0), some (.inr 20), some (.inr 21), some (.inr 22), some (.inl (nI (mn P f + cnt P f (b + 1)))), some (.inl (nI 1)), some (.inl (nI (an P f))), some (.inl (nI f)), some (.inl (nI (hs P f (b + 1)))), some (.inl (nI b)), some (.inl (nI (12 * f + b)))]) (S' := [.inl (P 14 (12 * f + b)), .inl (nI 0)]) (M' := (xm P (f3 l h (cs P c (1 + 13 * f + b))))) rfl rfl rfl rfl ?_
    refine zg_jt (tgt := 191) dL_holds_184 rfl (show P 14 (12 * f + b) ≤ 0 from z_le0.mpr hb0) ?_
    refine zg_iconst (v := nI 0) dL_holds_191 (by decide) ?_
    refine zg_jf2 (tgt := 310) dL_holds_192 rfl (fun z => z rfl) ?_
    refine zg_aload_n (x := 0) dL_holds_195 rfl ?_
    refine zg_iload (x := nI f) dL_holds_196 rfl ?_
    refine zg_iload (x := nI b) dL_holds_198 rfl ?_
    refine zg_cW (As := [.inr 0, .inl (nI f), .inl (nI b)]) (S := []) (k := P 14 (12 * f + b)) (N := (xm P (f3 l h (cs P c (1 + 13 * f + b))))) dL_holds_200 (XH (wv_birth q hq hf hb)) lk_birth.1 lk_birth.2 zi_L_birth rfl ⟨by decide, by decide⟩ ⟨by omega, by omega⟩ rfl (Nat.le_of_ble_eq_true rfl) ?_
    refine zg_st (pc' := 203) (L' := [some (.inr 0), some (.inr 20), some (.inr 21), some (.inr 22), some (.inl (nI (mn P f + cnt P f (b + 1)))), some (.inl (nI 1)), some (.inl (nI (an P f))), some (.inl (nI f)), some (.inl (nI (hs P f (b + 1)))), some (.inl (nI b)), some (.inl (nI (12 * f + b)))]) (S' := [.inl (P 14 (12 * f + b))]) (M' := (xm P (f3 l h (cs P c (1 + 13 * f + b))))) rfl rfl rfl rfl ?_
    refine zg_aload_n (x := 0) dL_holds_203 rfl ?_
    refine zg_cV1 (As := []) (S := [.inl (P 14 (12 * f + b))]) (k := 0) (v := f_X4_group P) (N0 := (xm P (f3 l h (cs P c (1 + 13 * f + b))))) dL_holds_204 lk_group (XHc (k_X4_group q P)) rfl rfl ⟨by decide, by decide⟩ ⟨by omega, by omega⟩ rfl (Nat.le_of_ble_eq_true rfl) ?_
    refine zg_st (pc' := 207) (L' := [some (.inr 0), some (.inr 20), some (.inr 21), some (.inr 22), some (.inl (nI (mn P f + cnt P f (b + 1)))), some (.inl (nI 1)), some (.inl (nI (an P f))), some (.inl (nI f)), some (.inl (nI (hs P f (b + 1)))), some (.inl (nI b)), some (.inl (nI (12 * f + b)))]) (S' := [.inl (f_X4_group P), .inl (P 14 (12 * f + b))]) (M' := (xm P (f3 l h (cs P c (1 + 13 * f + b))))) rfl rfl rfl rfl ?_
    refine zg_jf2 (tgt := 310) dL_holds_207 rfl (H2 _ ek).2 ?_
    refine zg_aload_n (x := 0) dL_holds_210 rfl ?_
    refine zg_aload_n (x := 22) dL_holds_211 rfl ?_
    refine zg_aload_n (x := 0) dL_holds_212 rfl ?_
    refine zg_iload (x := nI f) dL_holds_213 rfl ?_
    refine zg_iload (x := nI b) dL_holds_215 rfl ?_
    refine zg_iconst (v := nI 0) dL_holds_217 (by decide) ?_
    refine zg_cW (As := [.inr 0, .inl (nI f), .inl (nI b), .inl (nI 0)]) (S := [.inr 22, .inr 0]) (k := plc (P 11 (12 * f + b))) (N := (xm P (f3 l h (cs P c (1 + 13 * f + b))))) dL_holds_218 (XH (wv_place0 q hq hf hb (pOK_d O1))) lk_place.1 lk_place.2 zi_L_place rfl ⟨by decide, by decide⟩ ⟨by omega, by omega⟩ rfl (Nat.le_of_ble_eq_true rfl) ?_
    refine zg_st (pc' := 221) (L' := [some (.inr 0), some (.inr 20), some (.inr 21), some (.inr 22), some (.inl (nI (mn P f + cnt P f (b + 1)))), some (.inl (nI 1)), some (.inl (nI (an P f))), some (.inl (nI f)), some (.inl (nI (hs P f (b + 1)))), some (.inl (nI b)), some (.inl (nI (12 * f + b)))]) (S' := [.inl (plc (P 11 (12 * f + b))), .inr 22, .inr 0]) (M' := (xm P (f3 l h (cs P c (1 + 13 * f + b))))) rfl rfl rfl rfl ?_
    refine zg_callS (As := [.inr 0, .inr 22, .inl (plc (P 11 (12 * f + b)))]) (S := []) dL_holds_221 (k_own q hq O1) lk_isOwn.1 lk_isOwn.2 zi_L_isOwn rfl ⟨by decide, by decide⟩ ⟨by omega, by omega⟩ rfl (Nat.le_of_ble_eq_true rfl) (fun E N q => by cases q) (fun r N q => ?_)
    cases q
    refine zg_st (pc' := 224) (L' := [some (.inr 0), some (.inr 20), some (.inr 21), some (.inr 22), some (.inl (nI (mn P f + cnt P f (b + 1)))), some (.inl (nI 1)), some (.inl (nI (an P f))), some (.inl (nI f)), some (.inl (nI (hs P f (b + 1)))), some (.inl (nI b)), some (.inl (nI (12 * f + b)))]) (S' := [.inl 1]) (M' := (xm P (f3 l h (ow (P 11 (12 * f + b)) (cs P c (1 + 13 * f + b)))))) rfl rfl rfl rfl ?_
    refine zg_jf (tgt := 310) dL_holds_224 rfl (show ¬ ((1 : Int32) = 0) by decide) ?_
    refine zg_aload_n (x := 0) dL_holds_227 rfl ?_
    refine zg_aload_n (x := 22) dL_holds_228 rfl ?_
    refine zg_aload_n (x := 0) dL_holds_229 rfl ?_
    refine zg_iload (x := nI f) dL_holds_230 rfl ?_
    refine zg_iload (x := nI b) dL_holds_232 rfl ?_
    refine zg_iconst (v := nI 1) dL_holds_234 (by decide) ?_
    refine zg_cW (As := [.inr 0, .inl (nI f), .inl (nI b), .inl (nI 1)]) (S := [.inr 22, .inr 0]) (k := plc (P 12 (12 * f + b))) (N := (xm P (f3 l h (ow (P 11 (12 * f + b)) (cs P c (1 + 13 * f + b)))))) dL_holds_235 (XH (wv_place1 q hq hf hb (pOK_d O2))) lk_place.1 lk_place.2 zi_L_place rfl ⟨by decide, by decide⟩ ⟨by omega, by omega⟩ rfl (Nat.le_of_ble_eq_true rfl) ?_
    refine zg_st (pc' := 238) (L' := [some (.inr 0), some (.inr 20), some (.inr 21), some (.inr 22), some (.inl (nI (mn P f + cnt P f (b + 1)))), some (.inl (nI 1)), some (.inl (nI (an P f))), some (.inl (nI f)), some (.inl (nI (hs P f (b + 1)))), some (.inl (nI b)), some (.inl (nI (12 * f + b)))]) (S' := [.inl (plc (P 12 (12 * f + b))), .inr 22, .inr 0]) (M' := (xm P (f3 l h (ow (P 11 (12 * f + b)) (cs P c (1 + 13 * f + b)))))) rfl rfl rfl rfl ?_
    refine zg_callS (As := [.inr 0, .inr 22, .inl (plc (P 12 (12 * f + b)))]) (S := []) dL_holds_238 (k_own q hq O2) lk_isOwn.1 lk_isOwn.2 zi_L_isOwn rfl ⟨by decide, by decide⟩ ⟨by omega, by omega⟩ rfl (Nat.le_of_ble_eq_true rfl) (fun E N q => by cases q) (fun r N q => ?_)
    cases q
    refine zg_st (pc' := 241) (L' := [some (.inr 0), some (.inr 20), some (.inr 21), some (.inr 22), some (.inl (nI (mn P f + cnt P f (b + 1)))), some (.inl (nI 1)), some (.inl (nI (an P f))), some (.inl (nI f)), some (.inl (nI (hs P f (b + 1)))), some (.inl (nI b)), some (.inl (nI (12 * f + b)))]) (S' := [.inl 1]) (M' := (xm P (f3 l h (ow (P 12 (12 * f + b)) (ow (P 11 (12 * f + b)) (cs P c (1 + 13 * f + b))))))) rfl rfl rfl rfl ?_
    refine zg_jf (tgt := 310) dL_holds_241 rfl (show ¬ ((1 : Int32) = 0) by decide) ?_
    rw [cs_b P c hb]
    exact hi_244 q hq P l h c H hf hb hc ⟨by omega, by omega⟩ hh
  · have hh0 : 0 < h (12 * f + b) := (H1 _ ek).mpr hp
    have hc0 : cpl P (12 * f + b) ≠ 0 := by unfold cpl; rw [if_neg hp]; split <;> omega
    have hb0 : 0 < P 14 (12 * f + b) := (H2 _ ek).1.mpr hp
    refine zg_istore dL_holds_118 (by decide) ?_
    refine zg_st (pc' := 120) (L' := [some (.inr 0), some (.inr 20), some (.inr 21), some (.inr 22), some (.inl (nI (mn P f + cnt P f b))), some (.inl (nI 1)), some (.inl (nI (an P f))), some (.inl (nI f)), some (.inl (nI (hs P f (b + 1)))), some (.inl (nI b)), some (.inl (nI (12 * f + b)))]) (S' := []) (M' := (xm P (f3 l h (cs P c (1 + 13 * f + b))))) rfl rfl rfl rfl ?_
    refine zg_iload (x := nI (mn P f + cnt P f b)) dL_holds_120 rfl ?_
    refine zg_aload_n (x := 0) dL_holds_122 rfl ?_
    refine zg_iload (x := nI f) dL_holds_123 rfl ?_
    refine zg_iload (x := nI b) dL_holds_125 rfl ?_
    refine zg_cW (As := [.inr 0, .inl (nI f), .inl (nI b)]) (S := [.inl (nI (mn P f + cnt P f b))]) (k := nI (cpl P (12 * f + b))) (N := (xm P (f3 l h (cs P c (1 + 13 * f + b))))) dL_holds_127 (XH (wv_places q hq hf hb)) lk_places.1 lk_places.2 zi_L_places rfl ⟨by decide, by decide⟩ ⟨by omega, by omega⟩ rfl (Nat.le_of_ble_eq_true rfl) ?_
    refine zg_st (pc' := 130) (L' := [some (.inr 0), some (.inr 20), some (.inr 21), some (.inr 22), some (.inl (nI (mn P f + cnt P f b))), some (.inl (nI 1)), some (.inl (nI (an P f))), some (.inl (nI f)), some (.inl (nI (hs P f (b + 1)))), some (.inl (nI b)), some (.inl (nI (12 * f + b)))]) (S' := [.inl (nI (cpl P (12 * f + b))), .inl (nI (mn P f + cnt P f b))]) (M' := (xm P (f3 l h (cs P c (1 + 13 * f + b))))) rfl rfl rfl rfl ?_
    refine zg_iaddN dL_holds_130 ?_
    refine zg_istore dL_holds_131 (by decide) ?_
    refine zg_st (pc' := 133) (L' := [some (.inr 0), some (.inr 20), some (.inr 21), some (.inr 22), some (.inl (nI ((mn P f + cnt P f b) + (cpl P (12 * f + b))))), some (.inl (nI 1)), some (.inl (nI (an P f))), some (.inl (nI f)), some (.inl (nI (hs P f (b + 1)))), some (.inl (nI b)), some (.inl (nI (12 * f + b)))]) (S' := []) (M' := (xm P (f3 l h (cs P c (1 + 13 * f + b))))) rfl rfl rfl rfl ?_
    rw [e4]
    refine zg_st (pc' := 133) (L' := [some (.inr 0), some (.inr 20), some (.inr 21), some (.inr 22), some (.inl (nI (mn P f + cnt P f (b + 1)))), some (.inl (nI 1)), some (.inl (nI (an P f))), some (.inl (nI f)), some (.inl (nI (hs P f (b + 1)))), some (.inl (nI b)), some (.inl (nI (12 * f + b)))]) (S' := []) (M' := (xm P (f3 l h (cs P c (1 + 13 * f + b))))) rfl rfl rfl rfl ?_
    refine zg_aload_n (x := 21) dL_holds_133 rfl ?_
    refine zg_iload (x := nI (12 * f + b)) dL_holds_134 rfl ?_
    refine zg_ialdN (n := 48) (v := (h (12 * f + b))) dL_holds_136 rfl (by omega) (by decide) rfl ?_
    refine zg_jf (tgt := 144) dL_holds_137 rfl (show ¬ (h (12 * f + b) ≤ 0) from fun z => z_le0.mp z hh0) ?_
    refine zg_iconst (v := nI 1) dL_holds_140 (by decide) ?_
    refine zg_goto (tgt := 145) dL_holds_141 rfl ?_
    refine zg_aload_n (x := 0) dL_holds_145 rfl ?_
    refine zg_iload (x := nI f) dL_holds_146 rfl ?_
    refine zg_iload (x := nI b) dL_holds_148 rfl ?_
    refine zg_cW (As := [.inr 0, .inl (nI f), .inl (nI b)]) (S := [.inl (nI 1)]) (k := nI (cpl P (12 * f + b))) (N := (xm P (f3 l h (cs P c (1 + 13 * f + b))))) dL_holds_150 (XH (wv_places q hq hf hb)) lk_places.1 lk_places.2 zi_L_places rfl ⟨by decide, by decide⟩ ⟨by omega, by omega⟩ rfl (Nat.le_of_ble_eq_true rfl) ?_
    refine zg_st (pc' := 153) (L' := [some (.inr 0), some (.inr 20), some (.inr 21), some (.inr 22), some (.inl (nI (mn P f + cnt P f (b + 1)))), some (.inl (nI 1)), some (.inl (nI (an P f))), some (.inl (nI f)), some (.inl (nI (hs P f (b + 1)))), some (.inl (nI b)), some (.inl (nI (12 * f + b)))]) (S' := [.inl (nI (cpl P (12 * f + b))), .inl (nI 1)]) (M' := (xm P (f3 l h (cs P c (1 + 13 * f + b))))) rfl rfl rfl rfl ?_
    refine zg_jf (tgt := 160) dL_holds_153 rfl (show ¬ (nI (cpl P (12 * f + b)) ≤ 0) from nI_nle (by omega) (by have := cpl_le P (12 * f + b); omega)) ?_
    refine zg_iconst (v := nI 1) dL_holds_156 (by decide) ?_
    refine zg_goto (tgt := 161) dL_holds_157 rfl ?_
    refine zg_jf2 (tgt := 310) dL_holds_161 rfl (fun z => z rfl) ?_
    refine zg_aload_n (x := 21) dL_holds_164 rfl ?_
    refine zg_iload (x := nI (12 * f + b)) dL_holds_165 rfl ?_
    refine zg_ialdN (n := 48) (v := (h (12 * f + b))) dL_holds_167 rfl (by omega) (by decide) rfl ?_
    refine zg_jf (tgt := 175) dL_holds_168 rfl (show ¬ (h (12 * f + b) ≤ 0) from fun z => z_le0.mp z hh0) ?_
    refine zg_iconst (v := nI 1) dL_holds_171 (by decide) ?_
    refine zg_goto (tgt := 176) dL_holds_172 rfl ?_
    refine zg_aload_n (x := 0) dL_holds_176 rfl ?_
    refine zg_iload (x := nI f) dL_holds_177 rfl ?_
    refine zg_iload (x := nI b) dL_holds_179 rfl ?_
    refine zg_cW (As := [.inr 0, .inl (nI f), .inl (nI b)]) (S := [.inl (nI 1)]) (k := P 14 (12 * f + b)) (N := (xm P (f3 l h (cs P c (1 + 13 * f + b))))) dL_holds_181 (XH (wv_birth q hq hf hb)) lk_birth.1 lk_birth.2 zi_L_birth rfl ⟨by decide, by decide⟩ ⟨by omega, by omega⟩ rfl (Nat.le_of_ble_eq_true rfl) ?_
    refine zg_st (pc' := 184) (L' := [some (.inr 0), some (.inr 20), some (.inr 21), some (.inr 22), some (.inl (nI (mn P f + cnt P f (b + 1)))), some (.inl (nI 1)), some (.inl (nI (an P f))), some (.inl (nI f)), some (.inl (nI (hs P f (b + 1)))), some (.inl (nI b)), some (.inl (nI (12 * f + b)))]) (S' := [.inl (P 14 (12 * f + b)), .inl (nI 1)]) (M' := (xm P (f3 l h (cs P c (1 + 13 * f + b))))) rfl rfl rfl rfl ?_
    refine zg_jf (tgt := 191) dL_holds_184 rfl (show ¬ (P 14 (12 * f + b) ≤ 0) from fun z => z_le0.mp z hb0) ?_
    refine zg_iconst (v := nI 1) dL_holds_187 (by decide) ?_
    refine zg_goto (tgt := 192) dL_holds_188 rfl ?_
    refine zg_jf2 (tgt := 310) dL_holds_192 rfl (fun z => z rfl) ?_
    refine zg_aload_n (x := 0) dL_holds_195 rfl ?_
    refine zg_iload (x := nI f) dL_holds_196 rfl ?_
    refine zg_iload (x := nI b) dL_holds_198 rfl ?_
    refine zg_cW (As := [.inr 0, .inl (nI f), .inl (nI b)]) (S := []) (k := P 14 (12 * f + b)) (N := (xm P (f3 l h (cs P c (1 + 13 * f + b))))) dL_holds_200 (XH (wv_birth q hq hf hb)) lk_birth.1 lk_birth.2 zi_L_birth rfl ⟨by decide, by decide⟩ ⟨by omega, by omega⟩ rfl (Nat.le_of_ble_eq_true rfl) ?_
    refine zg_st (pc' := 203) (L' := [some (.inr 0), some (.inr 20), some (.inr 21), some (.inr 22), some (.inl (nI (mn P f + cnt P f (b + 1)))), some (.inl (nI 1)), some (.inl (nI (an P f))), some (.inl (nI f)), some (.inl (nI (hs P f (b + 1)))), some (.inl (nI b)), some (.inl (nI (12 * f + b)))]) (S' := [.inl (P 14 (12 * f + b))]) (M' := (xm P (f3 l h (cs P c (1 + 13 * f + b))))) rfl rfl rfl rfl ?_
    refine zg_aload_n (x := 0) dL_holds_203 rfl ?_
    refine zg_cV1 (As := []) (S := [.inl (P 14 (12 * f + b))]) (k := 0) (v := f_X4_group P) (N0 := (xm P (f3 l h (cs P c (1 + 13 * f + b))))) dL_holds_204 lk_group (XHc (k_X4_group q P)) rfl rfl ⟨by decide, by decide⟩ ⟨by omega, by omega⟩ rfl (Nat.le_of_ble_eq_true rfl) ?_
    refine zg_st (pc' := 207) (L' := [some (.inr 0), some (.inr 20), some (.inr 21), some (.inr 22), some (.inl (nI (mn P f + cnt P f (b + 1)))), some (.inl (nI 1)), some (.inl (nI (an P f))), some (.inl (nI f)), some (.inl (nI (hs P f (b + 1)))), some (.inl (nI b)), some (.inl (nI (12 * f + b)))]) (S' := [.inl (f_X4_group P), .inl (P 14 (12 * f + b))]) (M' := (xm P (f3 l h (cs P c (1 + 13 * f + b))))) rfl rfl rfl rfl ?_
    refine zg_jf2 (tgt := 310) dL_holds_207 rfl (H2 _ ek).2 ?_
    refine zg_aload_n (x := 0) dL_holds_210 rfl ?_
    refine zg_aload_n (x := 22) dL_holds_211 rfl ?_
    refine zg_aload_n (x := 0) dL_holds_212 rfl ?_
    refine zg_iload (x := nI f) dL_holds_213 rfl ?_
    refine zg_iload (x := nI b) dL_holds_215 rfl ?_
    refine zg_iconst (v := nI 0) dL_holds_217 (by decide) ?_
    refine zg_cW (As := [.inr 0, .inl (nI f), .inl (nI b), .inl (nI 0)]) (S := [.inr 22, .inr 0]) (k := plc (P 11 (12 * f + b))) (N := (xm P (f3 l h (cs P c (1 + 13 * f + b))))) dL_holds_218 (XH (wv_place0 q hq hf hb (pOK_d O1))) lk_place.1 lk_place.2 zi_L_place rfl ⟨by decide, by decide⟩ ⟨by omega, by omega⟩ rfl (Nat.le_of_ble_eq_true rfl) ?_
    refine zg_st (pc' := 221) (L' := [some (.inr 0), some (.inr 20), some (.inr 21), some (.inr 22), some (.inl (nI (mn P f + cnt P f (b + 1)))), some (.inl (nI 1)), some (.inl (nI (an P f))), some (.inl (nI f)), some (.inl (nI (hs P f (b + 1)))), some (.inl (nI b)), some (.inl (nI (12 * f + b)))]) (S' := [.inl (plc (P 11 (12 * f + b))), .inr 22, .inr 0]) (M' := (xm P (f3 l h (cs P c (1 + 13 * f + b))))) rfl rfl rfl rfl ?_
    refine zg_callS (As := [.inr 0, .inr 22, .inl (plc (P 11 (12 * f + b)))]) (S := []) dL_holds_221 (k_own q hq O1) lk_isOwn.1 lk_isOwn.2 zi_L_isOwn rfl ⟨by decide, by decide⟩ ⟨by omega, by omega⟩ rfl (Nat.le_of_ble_eq_true rfl) (fun E N q => by cases q) (fun r N q => ?_)
    cases q
    refine zg_st (pc' := 224) (L' := [some (.inr 0), some (.inr 20), some (.inr 21), some (.inr 22), some (.inl (nI (mn P f + cnt P f (b + 1)))), some (.inl (nI 1)), some (.inl (nI (an P f))), some (.inl (nI f)), some (.inl (nI (hs P f (b + 1)))), some (.inl (nI b)), some (.inl (nI (12 * f + b)))]) (S' := [.inl 1]) (M' := (xm P (f3 l h (ow (P 11 (12 * f + b)) (cs P c (1 + 13 * f + b)))))) rfl rfl rfl rfl ?_
    refine zg_jf (tgt := 310) dL_holds_224 rfl (show ¬ ((1 : Int32) = 0) by decide) ?_
    refine zg_aload_n (x := 0) dL_holds_227 rfl ?_
    refine zg_aload_n (x := 22) dL_holds_228 rfl ?_
    refine zg_aload_n (x := 0) dL_holds_229 rfl ?_
    refine zg_iload (x := nI f) dL_holds_230 rfl ?_
    refine zg_iload (x := nI b) dL_holds_232 rfl ?_
    refine zg_iconst (v := nI 1) dL_holds_234 (by decide) ?_
    refine zg_cW (As := [.inr 0, .inl (nI f), .inl (nI b), .inl (nI 1)]) (S := [.inr 22, .inr 0]) (k := plc (P 12 (12 * f + b))) (N := (xm P (f3 l h (ow (P 11 (12 * f + b)) (cs P c (1 + 13 * f + b)))))) dL_holds_235 (XH (wv_place1 q hq hf hb (pOK_d O2))) lk_place.1 lk_place.2 zi_L_place rfl ⟨by decide, by decide⟩ ⟨by omega, by omega⟩ rfl (Nat.le_of_ble_eq_true rfl) ?_
    refine zg_st (pc' := 238) (L' := [some (.inr 0), some (.inr 20), some (.inr 21), some (.inr 22), some (.inl (nI (mn P f + cnt P f (b + 1)))), some (.inl (nI 1)), some (.inl (nI (an P f))), some (.inl (nI f)), some (.inl (nI (hs P f (b + 1)))), some (.inl (nI b)), some (.inl (nI (12 * f + b)))]) (S' := [.inl (plc (P 12 (12 * f + b))), .inr 22, .inr 0]) (M' := (xm P (f3 l h (ow (P 11 (12 * f + b)) (cs P c (1 + 13 * f + b)))))) rfl rfl rfl rfl ?_
    refine zg_callS (As := [.inr 0, .inr 22, .inl (plc (P 12 (12 * f + b)))]) (S := []) dL_holds_238 (k_own q hq O2) lk_isOwn.1 lk_isOwn.2 zi_L_isOwn rfl ⟨by decide, by decide⟩ ⟨by omega, by omega⟩ rfl (Nat.le_of_ble_eq_true rfl) (fun E N q => by cases q) (fun r N q => ?_)
    cases q
    refine zg_st (pc' := 241) (L' := [some (.inr 0), some (.inr 20), some (.inr 21), some (.inr 22), some (.inl (nI (mn P f + cnt P f (b + 1)))), some (.inl (nI 1)), some (.inl (nI (an P f))), some (.inl (nI f)), some (.inl (nI (hs P f (b + 1)))), some (.inl (nI b)), some (.inl (nI (12 * f + b)))]) (S' := [.inl 1]) (M' := (xm P (f3 l h (ow (P 12 (12 * f + b)) (ow (P 11 (12 * f + b)) (cs P c (1 + 13 * f + b))))))) rfl rfl rfl rfl ?_
    refine zg_jf (tgt := 310) dL_holds_241 rfl (show ¬ ((1 : Int32) = 0) by decide) ?_
    rw [cs_b P c hb]
    exact hi_244 q hq P l h c H hf hb hc ⟨by omega, by omega⟩ hh
theorem hi_79 (q : ZQ) (hq : q.1.stackTraces = false) (P : Mem) (l h c : Nat → Int32) (H : HF P l h) {f : Nat} (hf : f < 4) {ce1 sl1 : Nat} (hc : ce1 ≤ 520 ∧ sl1 ≤ 3120) (hh : Zg (zgH q) mL_holds 520 3120 ce1 sl1 (.inl (some 1), xm P (f3 l h (cs P c 53))) 319 [some (.inr 0), some (.inr 20), some (.inr 21), some (.inr 22), some (.inl (nI (mn P f + cnt P f 12))), some (.inl (nI 1)), some (.inl (nI (an P f))), some (.inl (nI f)), some (.inl (nI (hs P f 12))), none, none] [] (xm P (f3 l h (cs P c (1 + 13 * f + 12))))) : ∀ (n b ce sl : Nat), b + n = 12 → ce + 10 * n ≤ ce1 ∧ sl + 60 * n ≤ sl1 → Zg (zgH q) mL_holds 520 3120 ce sl (.inl (some 1), xm P (f3 l h (cs P c 53))) 79 [some (.inr 0), some (.inr 20), some (.inr 21), some (.inr 22), some (.inl (nI (mn P f + cnt P f b))), some (.inl (nI 1)), some (.inl (nI (an P f))), some (.inl (nI f)), some (.inl (nI (hs P f b))), some (.inl (nI b)), none] [] (xm P (f3 l h (cs P c (1 + 13 * f + b)))) := by
  intro n
  induction n with
  | zero =>
    intro b ce sl hk h1
    have e : b = 12 := by omega
    subst e
    refine zg_iload (x := nI 12) dL_holds_79 rfl ?_
    refine zg_bipush (v := nI 12) dL_holds_81 (by decide) ?_
    refine zg_jt2 (tgt := 319) dL_holds_83 rfl (nI_le (Nat.le_refl _) (by decide)) ?_
    refine zg_drop (L' := [some (.inr 0), some (.inr 20), some (.inr 21), some (.inr 22), some (.inl (nI (mn P f + cnt P f 12))), some (.inl (nI 1)), some (.inl (nI (an P f))), some (.inl (nI f)), some (.inl (nI (hs P f 12))), none, none]) ⟨rfl, ⟨rfl, ⟨rfl, ⟨rfl, ⟨rfl, ⟨rfl, ⟨rfl, ⟨rfl, ⟨rfl, trivial⟩⟩⟩⟩⟩⟩⟩⟩⟩ ?_
    exact zg_more (by omega) (by omega) hh
  | succ n ih =>
    intro b ce sl hk h1
    have hb : b < 12 := by omega
    obtain ⟨H1, H2, H3, H4, H5, H6, H7⟩ := id H
    have hsl := hs_le P f b
    have ek : 12 * f + b < 48 := by omega
    have nx := ih (b + 1) (ce + 10) (sl + 60) (by omega) ⟨by omega, by omega⟩
    by_cases hz : hs P f b = 0
    · refine zg_iload (x := nI b) dL_holds_79 rfl ?_
      refine zg_bipush (v := nI 12) dL_holds_81 (by decide) ?_
      refine zg_jf2 (tgt := 319) dL_holds_83 rfl (nI_ge (by omega) (by decide)) ?_
      refine zg_iload (x := nI 1) dL_holds_86 rfl ?_
      refine zg_jf (tgt := 319) dL_holds_88 rfl (show ¬ (nI 1 = 0) by decide) ?_
      refine zg_bipush (v := nI 12) dL_holds_91 (by decide) ?_
      refine zg_iload (x := nI f) dL_holds_93 rfl ?_
      refine zg_imulN dL_holds_95 ?_
      refine zg_iload (x := nI b) dL_holds_96 rfl ?_
      refine zg_iaddN dL_holds_98 ?_
      refine zg_istore dL_holds_99 (by decide) ?_
      refine zg_st (pc' := 101) (L' := [some (.inr 0), some (.inr 20), some (.inr 21), some (.inr 22), some (.inl (nI (mn P f + cnt P f b))), some (.inl (nI 1)), some (.inl (nI (an P f))), some (.inl (nI f)), some (.inl (nI (hs P f b))), some (.inl (nI b)), some (.inl (nI ((12 * f) + b)))]) (S' := []) (M' := (xm P (f3 l h (cs P c (1 + 13 * f + b))))) rfl rfl rfl rfl ?_
      refine zg_iload (x := nI (hs P f b)) dL_holds_101 rfl ?_
      refine zg_jf (tgt := 113) dL_holds_103 rfl (show ¬ ¬ (nI (hs P f b) = 0) by rw [hz]; decide) ?_
      by_cases hp : P 11 (12 * f + b) = -1
      · have hh0 : ¬ 0 < h (12 * f + b) := fun z => (H1 _ ek).mp z hp
        have e1 : hs P f (b + 1) = 0 := by show (if hs P f b = 0 ∧ P 11 (12 * f + b) = -1 then 0 else 1) = 0; rw [if_pos ⟨hz, hp⟩]
        refine zg_aload_n (x := 21) dL_holds_106 rfl ?_
        refine zg_iload (x := nI ((12 * f) + b)) dL_holds_107 rfl ?_
        refine zg_ialdN (n := 48) (v := (h (12 * f + b))) dL_holds_109 rfl (by omega) (by decide) rfl ?_
        refine zg_jt (tgt := 117) dL_holds_110 rfl (show h (12 * f + b) ≤ 0 from z_le0.mpr hh0) ?_
        refine zg_iconst (v := nI 0) dL_holds_117 (by decide) ?_
        have g := hi_118 q hq P l h c H hf hb (ce := ce) (sl := sl) (by omega) ⟨by omega, by omega⟩ nx
        rw [e1] at g
        exact g
      · have hh0 : 0 < h (12 * f + b) := (H1 _ ek).mpr hp
        have e1 : hs P f (b + 1) = 1 := by show (if hs P f b = 0 ∧ P 11 (12 * f + b) = -1 then 0 else 1) = 1; rw [if_neg (fun z => hp z.2)]
        refine zg_aload_n (x := 21) dL_holds_106 rfl ?_
        refine zg_iload (x := nI ((12 * f) + b)) dL_holds_107 rfl ?_
        refine zg_ialdN (n := 48) (v := (h (12 * f + b))) dL_holds_109 rfl (by omega) (by decide) rfl ?_
        refine zg_jf (tgt := 117) dL_holds_110 rfl (show ¬ (h (12 * f + b) ≤ 0) from fun z => z_le0.mp z hh0) ?_
        refine zg_iconst (v := nI 1) dL_holds_113 (by decide) ?_
        refine zg_goto (tgt := 118) dL_holds_114 rfl ?_
        have g := hi_118 q hq P l h c H hf hb (ce := ce) (sl := sl) (by omega) ⟨by omega, by omega⟩ nx
        rw [e1] at g
        exact g
    · refine zg_iload (x := nI b) dL_holds_79 rfl ?_
      refine zg_bipush (v := nI 12) dL_holds_81 (by decide) ?_
      refine zg_jf2 (tgt := 319) dL_holds_83 rfl (nI_ge (by omega) (by decide)) ?_
      refine zg_iload (x := nI 1) dL_holds_86 rfl ?_
      refine zg_jf (tgt := 319) dL_holds_88 rfl (show ¬ (nI 1 = 0) by decide) ?_
      refine zg_bipush (v := nI 12) dL_holds_91 (by decide) ?_
      refine zg_iload (x := nI f) dL_holds_93 rfl ?_
      refine zg_imulN dL_holds_95 ?_
      refine zg_iload (x := nI b) dL_holds_96 rfl ?_
      refine zg_iaddN dL_holds_98 ?_
      refine zg_istore dL_holds_99 (by decide) ?_
      refine zg_st (pc' := 101) (L' := [some (.inr 0), some (.inr 20), some (.inr 21), some (.inr 22), some (.inl (nI (mn P f + cnt P f b))), some (.inl (nI 1)), some (.inl (nI (an P f))), some (.inl (nI f)), some (.inl (nI (hs P f b))), some (.inl (nI b)), some (.inl (nI ((12 * f) + b)))]) (S' := []) (M' := (xm P (f3 l h (cs P c (1 + 13 * f + b))))) rfl rfl rfl rfl ?_
      refine zg_iload (x := nI (hs P f b)) dL_holds_101 rfl ?_
      refine zg_jt (tgt := 113) dL_holds_103 rfl (show ¬ (nI (hs P f b) = 0) from nI_ne0 (by omega) (by omega)) ?_
      refine zg_iconst (v := nI 1) dL_holds_113 (by decide) ?_
      refine zg_goto (tgt := 118) dL_holds_114 rfl ?_
      have e1 : hs P f (b + 1) = 1 := by show (if hs P f b = 0 ∧ P 11 (12 * f + b) = -1 then 0 else 1) = 1; rw [if_neg (fun z => hz z.1)]
      have g := hi_118 q hq P l h c H hf hb (ce := ce) (sl := sl) (by omega) ⟨by omega, by omega⟩ nx
      rw [e1] at g
      exact g
theorem ho_351 (q : ZQ) (hq : q.1.stackTraces = false) (P : Mem) (l h c : Nat → Int32) (H : HF P l h) {f : Nat} (hf : f < 4) {ce sl ce1 sl1 : Nat} (hc : ce1 ≤ 520 ∧ sl1 ≤ 3120) (h1 : ce + 5 ≤ ce1 ∧ sl + 30 ≤ sl1) (hh : Zg (zgH q) mL_holds 520 3120 ce1 sl1 (.inl (some 1), xm P (f3 l h (cs P c 53))) 62 [some (.inr 0), some (.inr 20), some (.inr 21), some (.inr 22), some (.inl (nI (mn P (f + 1)))), some (.inl (nI 1)), some (.inl (nI (an P (f + 1)))), some (.inl (nI (f + 1))), none, none, none] [] (xm P (f3 l h (cs P c (1 + 13 * (f + 1)))))) : Zg (zgH q) mL_holds 520 3120 ce sl (.inl (some 1), xm P (f3 l h (cs P c 53))) 351 [some (.inr 0), some (.inr 20), some (.inr 21), some (.inr 22), some (.inl (nI (mn P (f + 1)))), some (.inl (nI 1)), some (.inl (nI (an P (f + 1)))), some (.inl (nI f)), some (.inl (nI (hs P f 12))), none, none] [] (xm P (f3 l h (cs P c (1 + 13 * f + 12)))) := by
  obtain ⟨H1, H2, H3, H4, H5, H6, H7⟩ := id H
  obtain ⟨O1, O2⟩ := HF_f H c hf
  have hsl := hs_le P f 12
  by_cases hz : hs P f 12 = 0
  · have hr : P 12 (48 + f) = -1 := Decidable.byContradiction (fun z => (H4 f hf).mpr z hz)
    refine zg_iload (x := nI 1) dL_holds_351 rfl ?_
    refine zg_jf (tgt := 410) dL_holds_353 rfl (show ¬ (nI 1 = 0) by decide) ?_
    refine zg_iload (x := nI (hs P f 12)) dL_holds_356 rfl ?_
    refine zg_aload_n (x := 0) dL_holds_358 rfl ?_
    refine zg_iload (x := nI f) dL_holds_359 rfl ?_
    refine zg_iconst (v := nI 1) dL_holds_361 (by decide) ?_
    refine zg_cW (As := [.inr 0, .inl (nI f), .inl (nI 1)]) (S := [.inl (nI (hs P f 12))]) (k := plc (P 12 (48 + f))) (N := (xm P (f3 l h (cs P c (1 + 13 * f + 12))))) dL_holds_362 (XH (wv_node1 q hq hf (pOK_d O2))) lk_nodePlace.1 lk_nodePlace.2 zi_L_nodePlace rfl ⟨by decide, by decide⟩ ⟨by omega, by omega⟩ rfl (Nat.le_of_ble_eq_true rfl) ?_
    refine zg_st (pc' := 365) (L' := [some (.inr 0), some (.inr 20), some (.inr 21), some (.inr 22), some (.inl (nI (mn P (f + 1)))), some (.inl (nI 1)), some (.inl (nI (an P (f + 1)))), some (.inl (nI f)), some (.inl (nI (hs P f 12))), none, none]) (S' := [.inl (plc (P 12 (48 + f))), .inl (nI (hs P f 12))]) (M' := (xm P (f3 l h (cs P c (1 + 13 * f + 12))))) rfl rfl rfl rfl ?_
    refine zg_jt (tgt := 372) dL_holds_365 rfl ((plc_ge (pOK_d O2)).mpr hr) ?_
    refine zg_iconst (v := nI 0) dL_holds_372 (by decide) ?_
    refine zg_jf2 (tgt := 410) dL_holds_373 rfl (show ¬ ¬ (nI (hs P f 12) = nI 0) by rw [hz]; exact fun z => z rfl) ?_
    refine zg_aload_n (x := 0) dL_holds_376 rfl ?_
    refine zg_aload_n (x := 22) dL_holds_377 rfl ?_
    refine zg_aload_n (x := 0) dL_holds_378 rfl ?_
    refine zg_iload (x := nI f) dL_holds_379 rfl ?_
    refine zg_iconst (v := nI 0) dL_holds_381 (by decide) ?_
    refine zg_cW (As := [.inr 0, .inl (nI f), .inl (nI 0)]) (S := [.inr 22, .inr 0]) (k := plc (P 11 (48 + f))) (N := (xm P (f3 l h (cs P c (1 + 13 * f + 12))))) dL_holds_382 (XH (wv_node0 q hq hf (pOK_d O1))) lk_nodePlace.1 lk_nodePlace.2 zi_L_nodePlace rfl ⟨by decide, by decide⟩ ⟨by omega, by omega⟩ rfl (Nat.le_of_ble_eq_true rfl) ?_
    refine zg_st (pc' := 385) (L' := [some (.inr 0), some (.inr 20), some (.inr 21), some (.inr 22), some (.inl (nI (mn P (f + 1)))), some (.inl (nI 1)), some (.inl (nI (an P (f + 1)))), some (.inl (nI f)), some (.inl (nI (hs P f 12))), none, none]) (S' := [.inl (plc (P 11 (48 + f))), .inr 22, .inr 0]) (M' := (xm P (f3 l h (cs P c (1 + 13 * f + 12))))) rfl rfl rfl rfl ?_
    refine zg_callS (As := [.inr 0, .inr 22, .inl (plc (P 11 (48 + f)))]) (S := []) dL_holds_385 (k_own q hq O1) lk_isOwn.1 lk_isOwn.2 zi_L_isOwn rfl ⟨by decide, by decide⟩ ⟨by omega, by omega⟩ rfl (Nat.le_of_ble_eq_true rfl) (fun E N q => by cases q) (fun r N q => ?_)
    cases q
    refine zg_st (pc' := 388) (L' := [some (.inr 0), some (.inr 20), some (.inr 21), some (.inr 22), some (.inl (nI (mn P (f + 1)))), some (.inl (nI 1)), some (.inl (nI (an P (f + 1)))), some (.inl (nI f)), some (.inl (nI (hs P f 12))), none, none]) (S' := [.inl 1]) (M' := (xm P (f3 l h (ow (P 11 (48 + f)) (cs P c (1 + 13 * f + 12)))))) rfl rfl rfl rfl ?_
    refine zg_jf (tgt := 410) dL_holds_388 rfl (show ¬ ((1 : Int32) = 0) by decide) ?_
    refine zg_aload_n (x := 0) dL_holds_391 rfl ?_
    refine zg_aload_n (x := 22) dL_holds_392 rfl ?_
    refine zg_aload_n (x := 0) dL_holds_393 rfl ?_
    refine zg_iload (x := nI f) dL_holds_394 rfl ?_
    refine zg_iconst (v := nI 1) dL_holds_396 (by decide) ?_
    refine zg_cW (As := [.inr 0, .inl (nI f), .inl (nI 1)]) (S := [.inr 22, .inr 0]) (k := plc (P 12 (48 + f))) (N := (xm P (f3 l h (ow (P 11 (48 + f)) (cs P c (1 + 13 * f + 12)))))) dL_holds_397 (XH (wv_node1 q hq hf (pOK_d O2))) lk_nodePlace.1 lk_nodePlace.2 zi_L_nodePlace rfl ⟨by decide, by decide⟩ ⟨by omega, by omega⟩ rfl (Nat.le_of_ble_eq_true rfl) ?_
    refine zg_st (pc' := 400) (L' := [some (.inr 0), some (.inr 20), some (.inr 21), some (.inr 22), some (.inl (nI (mn P (f + 1)))), some (.inl (nI 1)), some (.inl (nI (an P (f + 1)))), some (.inl (nI f)), some (.inl (nI (hs P f 12))), none, none]) (S' := [.inl (plc (P 12 (48 + f))), .inr 22, .inr 0]) (M' := (xm P (f3 l h (ow (P 11 (48 + f)) (cs P c (1 + 13 * f + 12)))))) rfl rfl rfl rfl ?_
    refine zg_callS (As := [.inr 0, .inr 22, .inl (plc (P 12 (48 + f)))]) (S := []) dL_holds_400 (k_own q hq O2) lk_isOwn.1 lk_isOwn.2 zi_L_isOwn rfl ⟨by decide, by decide⟩ ⟨by omega, by omega⟩ rfl (Nat.le_of_ble_eq_true rfl) (fun E N q => by cases q) (fun r N q => ?_)
    cases q
    refine zg_st (pc' := 403) (L' := [some (.inr 0), some (.inr 20), some (.inr 21), some (.inr 22), some (.inl (nI (mn P (f + 1)))), some (.inl (nI 1)), some (.inl (nI (an P (f + 1)))), some (.inl (nI f)), some (.inl (nI (hs P f 12))), none, none]) (S' := [.inl 1]) (M' := (xm P (f3 l h (ow (P 12 (48 + f)) (ow (P 11 (48 + f)) (cs P c (1 + 13 * f + 12))))))) rfl rfl rfl rfl ?_
    refine zg_jf (tgt := 410) dL_holds_403 rfl (show ¬ ((1 : Int32) = 0) by decide) ?_
    refine zg_iconst (v := nI 1) dL_holds_406 (by decide) ?_
    refine zg_goto (tgt := 411) dL_holds_407 rfl ?_
    refine zg_istore dL_holds_411 (by decide) ?_
    refine zg_st (pc' := 413) (L' := [some (.inr 0), some (.inr 20), some (.inr 21), some (.inr 22), some (.inl (nI (mn P (f + 1)))), some (.inl (nI 1)), some (.inl (nI (an P (f + 1)))), some (.inl (nI f)), some (.inl (nI (hs P f 12))), none, none]) (S' := []) (M' := (xm P (f3 l h (ow (P 12 (48 + f)) (ow (P 11 (48 + f)) (cs P c (1 + 13 * f + 12))))))) rfl rfl rfl rfl ?_
    refine zg_iincN (a := f) dL_holds_413 rfl (Nat.le_of_ble_eq_true rfl) ?_
    refine zg_st (pc' := 416) (L' := [some (.inr 0), some (.inr 20), some (.inr 21), some (.inr 22), some (.inl (nI (mn P (f + 1)))), some (.inl (nI 1)), some (.inl (nI (an P (f + 1)))), some (.inl (nI (f + 1))), some (.inl (nI (hs P f 12))), none, none]) (S' := []) (M' := (xm P (f3 l h (ow (P 12 (48 + f)) (ow (P 11 (48 + f)) (cs P c (1 + 13 * f + 12))))))) rfl rfl rfl rfl ?_
    refine zg_drop (L' := [some (.inr 0), some (.inr 20), some (.inr 21), some (.inr 22), some (.inl (nI (mn P (f + 1)))), some (.inl (nI 1)), some (.inl (nI (an P (f + 1)))), some (.inl (nI (f + 1))), none, none, none]) ⟨rfl, ⟨rfl, ⟨rfl, ⟨rfl, ⟨rfl, ⟨rfl, ⟨rfl, ⟨rfl, trivial⟩⟩⟩⟩⟩⟩⟩⟩ ?_
    refine zg_goto (tgt := 62) dL_holds_416 rfl ?_
    rw [cs_f P c f]
    exact zg_more (by omega) (by omega) hh
  · have hr : ¬ P 12 (48 + f) = -1 := (H4 f hf).mp hz
    have hz1 : hs P f 12 = 1 := by omega
    refine zg_iload (x := nI 1) dL_holds_351 rfl ?_
    refine zg_jf (tgt := 410) dL_holds_353 rfl (show ¬ (nI 1 = 0) by decide) ?_
    refine zg_iload (x := nI (hs P f 12)) dL_holds_356 rfl ?_
    refine zg_aload_n (x := 0) dL_holds_358 rfl ?_
    refine zg_iload (x := nI f) dL_holds_359 rfl ?_
    refine zg_iconst (v := nI 1) dL_holds_361 (by decide) ?_
    refine zg_cW (As := [.inr 0, .inl (nI f), .inl (nI 1)]) (S := [.inl (nI (hs P f 12))]) (k := plc (P 12 (48 + f))) (N := (xm P (f3 l h (cs P c (1 + 13 * f + 12))))) dL_holds_362 (XH (wv_node1 q hq hf (pOK_d O2))) lk_nodePlace.1 lk_nodePlace.2 zi_L_nodePlace rfl ⟨by decide, by decide⟩ ⟨by omega, by omega⟩ rfl (Nat.le_of_ble_eq_true rfl) ?_
    refine zg_st (pc' := 365) (L' := [some (.inr 0), some (.inr 20), some (.inr 21), some (.inr 22), some (.inl (nI (mn P (f + 1)))), some (.inl (nI 1)), some (.inl (nI (an P (f + 1)))), some (.inl (nI f)), some (.inl (nI (hs P f 12))), none, none]) (S' := [.inl (plc (P 12 (48 + f))), .inl (nI (hs P f 12))]) (M' := (xm P (f3 l h (cs P c (1 + 13 * f + 12))))) rfl rfl rfl rfl ?_
    refine zg_jf (tgt := 372) dL_holds_365 rfl (fun z => hr ((plc_ge (pOK_d O2)).mp z)) ?_
    refine zg_iconst (v := nI 1) dL_holds_368 (by decide) ?_
    refine zg_goto (tgt := 373) dL_holds_369 rfl ?_
    refine zg_jf2 (tgt := 410) dL_holds_373 rfl (show ¬ ¬ (nI (hs P f 12) = nI 1) by rw [hz1]; exact fun z => z rfl) ?_
    refine zg_aload_n (x := 0) dL_holds_376 rfl ?_
    refine zg_aload_n (x := 22) dL_holds_377 rfl ?_
    refine zg_aload_n (x := 0) dL_holds_378 rfl ?_
    refine zg_iload (x := nI f) dL_holds_379 rfl ?_
    refine zg_iconst (v := nI 0) dL_holds_381 (by decide) ?_
    refine zg_cW (As := [.inr 0, .inl (nI f), .inl (nI 0)]) (S := [.inr 22, .inr 0]) (k := plc (P 11 (48 + f))) (N := (xm P (f3 l h (cs P c (1 + 13 * f + 12))))) dL_holds_382 (XH (wv_node0 q hq hf (pOK_d O1))) lk_nodePlace.1 lk_nodePlace.2 zi_L_nodePlace rfl ⟨by decide, by decide⟩ ⟨by omega, by omega⟩ rfl (Nat.le_of_ble_eq_true rfl) ?_
    refine zg_st (pc' := 385) (L' := [some (.inr 0), some (.inr 20), some (.inr 21), some (.inr 22), some (.inl (nI (mn P (f + 1)))), some (.inl (nI 1)), some (.inl (nI (an P (f + 1)))), some (.inl (nI f)), some (.inl (nI (hs P f 12))), none, none]) (S' := [.inl (plc (P 11 (48 + f))), .inr 22, .inr 0]) (M' := (xm P (f3 l h (cs P c (1 + 13 * f + 12))))) rfl rfl rfl rfl ?_
    refine zg_callS (As := [.inr 0, .inr 22, .inl (plc (P 11 (48 + f)))]) (S := []) dL_holds_385 (k_own q hq O1) lk_isOwn.1 lk_isOwn.2 zi_L_isOwn rfl ⟨by decide, by decide⟩ ⟨by omega, by omega⟩ rfl (Nat.le_of_ble_eq_true rfl) (fun E N q => by cases q) (fun r N q => ?_)
    cases q
    refine zg_st (pc' := 388) (L' := [some (.inr 0), some (.inr 20), some (.inr 21), some (.inr 22), some (.inl (nI (mn P (f + 1)))), some (.inl (nI 1)), some (.inl (nI (an P (f + 1)))), some (.inl (nI f)), some (.inl (nI (hs P f 12))), none, none]) (S' := [.inl 1]) (M' := (xm P (f3 l h (ow (P 11 (48 + f)) (cs P c (1 + 13 * f + 12)))))) rfl rfl rfl rfl ?_
    refine zg_jf (tgt := 410) dL_holds_388 rfl (show ¬ ((1 : Int32) = 0) by decide) ?_
    refine zg_aload_n (x := 0) dL_holds_391 rfl ?_
    refine zg_aload_n (x := 22) dL_holds_392 rfl ?_
    refine zg_aload_n (x := 0) dL_holds_393 rfl ?_
    refine zg_iload (x := nI f) dL_holds_394 rfl ?_
    refine zg_iconst (v := nI 1) dL_holds_396 (by decide) ?_
    refine zg_cW (As := [.inr 0, .inl (nI f), .inl (nI 1)]) (S := [.inr 22, .inr 0]) (k := plc (P 12 (48 + f))) (N := (xm P (f3 l h (ow (P 11 (48 + f)) (cs P c (1 + 13 * f + 12)))))) dL_holds_397 (XH (wv_node1 q hq hf (pOK_d O2))) lk_nodePlace.1 lk_nodePlace.2 zi_L_nodePlace rfl ⟨by decide, by decide⟩ ⟨by omega, by omega⟩ rfl (Nat.le_of_ble_eq_true rfl) ?_
    refine zg_st (pc' := 400) (L' := [some (.inr 0), some (.inr 20), some (.inr 21), some (.inr 22), some (.inl (nI (mn P (f + 1)))), some (.inl (nI 1)), some (.inl (nI (an P (f + 1)))), some (.inl (nI f)), some (.inl (nI (hs P f 12))), none, none]) (S' := [.inl (plc (P 12 (48 + f))), .inr 22, .inr 0]) (M' := (xm P (f3 l h (ow (P 11 (48 + f)) (cs P c (1 + 13 * f + 12)))))) rfl rfl rfl rfl ?_
    refine zg_callS (As := [.inr 0, .inr 22, .inl (plc (P 12 (48 + f)))]) (S := []) dL_holds_400 (k_own q hq O2) lk_isOwn.1 lk_isOwn.2 zi_L_isOwn rfl ⟨by decide, by decide⟩ ⟨by omega, by omega⟩ rfl (Nat.le_of_ble_eq_true rfl) (fun E N q => by cases q) (fun r N q => ?_)
    cases q
    refine zg_st (pc' := 403) (L' := [some (.inr 0), some (.inr 20), some (.inr 21), some (.inr 22), some (.inl (nI (mn P (f + 1)))), some (.inl (nI 1)), some (.inl (nI (an P (f + 1)))), some (.inl (nI f)), some (.inl (nI (hs P f 12))), none, none]) (S' := [.inl 1]) (M' := (xm P (f3 l h (ow (P 12 (48 + f)) (ow (P 11 (48 + f)) (cs P c (1 + 13 * f + 12))))))) rfl rfl rfl rfl ?_
    refine zg_jf (tgt := 410) dL_holds_403 rfl (show ¬ ((1 : Int32) = 0) by decide) ?_
    refine zg_iconst (v := nI 1) dL_holds_406 (by decide) ?_
    refine zg_goto (tgt := 411) dL_holds_407 rfl ?_
    refine zg_istore dL_holds_411 (by decide) ?_
    refine zg_st (pc' := 413) (L' := [some (.inr 0), some (.inr 20), some (.inr 21), some (.inr 22), some (.inl (nI (mn P (f + 1)))), some (.inl (nI 1)), some (.inl (nI (an P (f + 1)))), some (.inl (nI f)), some (.inl (nI (hs P f 12))), none, none]) (S' := []) (M' := (xm P (f3 l h (ow (P 12 (48 + f)) (ow (P 11 (48 + f)) (cs P c (1 + 13 * f + 12))))))) rfl rfl rfl rfl ?_
    refine zg_iincN (a := f) dL_holds_413 rfl (Nat.le_of_ble_eq_true rfl) ?_
    refine zg_st (pc' := 416) (L' := [some (.inr 0), some (.inr 20), some (.inr 21), some (.inr 22), some (.inl (nI (mn P (f + 1)))), some (.inl (nI 1)), some (.inl (nI (an P (f + 1)))), some (.inl (nI (f + 1))), some (.inl (nI (hs P f 12))), none, none]) (S' := []) (M' := (xm P (f3 l h (ow (P 12 (48 + f)) (ow (P 11 (48 + f)) (cs P c (1 + 13 * f + 12))))))) rfl rfl rfl rfl ?_
    refine zg_drop (L' := [some (.inr 0), some (.inr 20), some (.inr 21), some (.inr 22), some (.inl (nI (mn P (f + 1)))), some (.inl (nI 1)), some (.inl (nI (an P (f + 1)))), some (.inl (nI (f + 1))), none, none, none]) ⟨rfl, ⟨rfl, ⟨rfl, ⟨rfl, ⟨rfl, ⟨rfl, ⟨rfl, ⟨rfl, trivial⟩⟩⟩⟩⟩⟩⟩⟩ ?_
    refine zg_goto (tgt := 62) dL_holds_416 rfl ?_
    rw [cs_f P c f]
    exact zg_more (by omega) (by omega) hh
theorem ho_319 (q : ZQ) (hq : q.1.stackTraces = false) (P : Mem) (l h c : Nat → Int32) (H : HF P l h) {f : Nat} (hf : f < 4) {ce sl ce1 sl1 : Nat} (hc : ce1 ≤ 520 ∧ sl1 ≤ 3120) (h1 : ce + 5 ≤ ce1 ∧ sl + 30 ≤ sl1) (hh : Zg (zgH q) mL_holds 520 3120 ce1 sl1 (.inl (some 1), xm P (f3 l h (cs P c 53))) 62 [some (.inr 0), some (.inr 20), some (.inr 21), some (.inr 22), some (.inl (nI (mn P (f + 1)))), some (.inl (nI 1)), some (.inl (nI (an P (f + 1)))), some (.inl (nI (f + 1))), none, none, none] [] (xm P (f3 l h (cs P c (1 + 13 * (f + 1)))))) : Zg (zgH q) mL_holds 520 3120 ce sl (.inl (some 1), xm P (f3 l h (cs P c 53))) 319 [some (.inr 0), some (.inr 20), some (.inr 21), some (.inr 22), some (.inl (nI (mn P f + cnt P f 12))), some (.inl (nI 1)), some (.inl (nI (an P f))), some (.inl (nI f)), some (.inl (nI (hs P f 12))), none, none] [] (xm P (f3 l h (cs P c (1 + 13 * f + 12)))) := by
  have hsl := hs_le P f 12
  have hal := an_le P f
  have g := ho_351 q hq P l h c H hf (ce := ce) (sl := sl) hc h1 hh
  by_cases hz : hs P f 12 = 0
  · have e4 : mn P (f + 1) = mn P f + cnt P f 12 + 0 := by show mn P f + cnt P f 12 + 2 * hs P f 12 = _; omega
    by_cases ha : an P f = 0
    · have e6 : an P (f + 1) = 0 := by show (if an P f = 0 ∧ hs P f 12 = 0 then 0 else 1) = _; rw [if_pos ⟨ha, hz⟩]
      rw [e4, e6] at g
      refine zg_iload (x := nI (an P f)) dL_holds_319 rfl ?_
      refine zg_jf (tgt := 329) dL_holds_321 rfl (show ¬ ¬ (nI (an P f) = 0) by rw [ha]; decide) ?_
      refine zg_iload (x := nI (hs P f 12)) dL_holds_324 rfl ?_
      refine zg_jt (tgt := 333) dL_holds_326 rfl (show nI (hs P f 12) = 0 by rw [hz]; decide) ?_
      refine zg_iconst (v := nI 0) dL_holds_333 (by decide) ?_
      refine zg_istore dL_holds_334 (by decide) ?_
      refine zg_st (pc' := 336) (L' := [some (.inr 0), some (.inr 20), some (.inr 21), some (.inr 22), some (.inl (nI (mn P f + cnt P f 12))), some (.inl (nI 1)), some (.inl (nI 0)), some (.inl (nI f)), some (.inl (nI (hs P f 12))), none, none]) (S' := []) (M' := (xm P (f3 l h (cs P c (1 + 13 * f + 12))))) rfl rfl rfl rfl ?_
      refine zg_iload (x := nI (mn P f + cnt P f 12)) dL_holds_336 rfl ?_
      refine zg_iload (x := nI (hs P f 12)) dL_holds_338 rfl ?_
      refine zg_jt (tgt := 347) dL_holds_340 rfl (show nI (hs P f 12) = 0 by rw [hz]; decide) ?_
      refine zg_iconst (v := nI 0) dL_holds_347 (by decide) ?_
      refine zg_iaddN dL_holds_348 ?_
      refine zg_istore dL_holds_349 (by decide) ?_
      refine zg_st (pc' := 351) (L' := [some (.inr 0), some (.inr 20), some (.inr 21), some (.inr 22), some (.inl (nI ((mn P f + cnt P f 12) + 0))), some (.inl (nI 1)), some (.inl (nI 0)), some (.inl (nI f)), some (.inl (nI (hs P f 12))), none, none]) (S' := []) (M' := (xm P (f3 l h (cs P c (1 + 13 * f + 12))))) rfl rfl rfl rfl ?_
      exact g
    · have e6 : an P (f + 1) = 1 := by show (if an P f = 0 ∧ hs P f 12 = 0 then 0 else 1) = _; rw [if_neg (fun z => ha z.1)]
      rw [e4, e6] at g
      refine zg_iload (x := nI (an P f)) dL_holds_319 rfl ?_
      refine zg_jt (tgt := 329) dL_holds_321 rfl (show ¬ (nI (an P f) = 0) from nI_ne0 (by omega) (by omega)) ?_
      refine zg_iconst (v := nI 1) dL_holds_329 (by decide) ?_
      refine zg_goto (tgt := 334) dL_holds_330 rfl ?_
      refine zg_istore dL_holds_334 (by decide) ?_
      refine zg_st (pc' := 336) (L' := [some (.inr 0), some (.inr 20), some (.inr 21), some (.inr 22), some (.inl (nI (mn P f + cnt P f 12))), some (.inl (nI 1)), some (.inl (nI 1)), some (.inl (nI f)), some (.inl (nI (hs P f 12))), none, none]) (S' := []) (M' := (xm P (f3 l h (cs P c (1 + 13 * f + 12))))) rfl rfl rfl rfl ?_
      refine zg_iload (x := nI (mn P f + cnt P f 12)) dL_holds_336 rfl ?_
      refine zg_iload (x := nI (hs P f 12)) dL_holds_338 rfl ?_
      refine zg_jt (tgt := 347) dL_holds_340 rfl (show nI (hs P f 12) = 0 by rw [hz]; decide) ?_
      refine zg_iconst (v := nI 0) dL_holds_347 (by decide) ?_
      refine zg_iaddN dL_holds_348 ?_
      refine zg_istore dL_holds_349 (by decide) ?_
      refine zg_st (pc' := 351) (L' := [some (.inr 0), some (.inr 20), some (.inr 21), some (.inr 22), some (.inl (nI ((mn P f + cnt P f 12) + 0))), some (.inl (nI 1)), some (.inl (nI 1)), some (.inl (nI f)), some (.inl (nI (hs P f 12))), none, none]) (S' := []) (M' := (xm P (f3 l h (cs P c (1 + 13 * f + 12))))) rfl rfl rfl rfl ?_
      exact g
  · have hz1 : hs P f 12 = 1 := by omega
    have e4 : mn P (f + 1) = mn P f + cnt P f 12 + 2 := by show mn P f + cnt P f 12 + 2 * hs P f 12 = _; omega
    have e6 : an P (f + 1) = 1 := by show (if an P f = 0 ∧ hs P f 12 = 0 then 0 else 1) = _; rw [if_neg (fun z => hz z.2)]
    rw [e4, e6] at g
    by_cases ha : an P f = 0
    · refine zg_iload (x := nI (an P f)) dL_holds_319 rfl ?_
      refine zg_jf (tgt := 329) dL_holds_321 rfl (show ¬ ¬ (nI (an P f) = 0) by rw [ha]; decide) ?_
      refine zg_iload (x := nI (hs P f 12)) dL_holds_324 rfl ?_
      refine zg_jf (tgt := 333) dL_holds_326 rfl (show ¬ (nI (hs P f 12) = 0) from nI_ne0 (by omega) (by omega)) ?_
      refine zg_iconst (v := nI 1) dL_holds_329 (by decide) ?_
      refine zg_goto (tgt := 334) dL_holds_330 rfl ?_
      refine zg_istore dL_holds_334 (by decide) ?_
      refine zg_st (pc' := 336) (L' := [some (.inr 0), some (.inr 20), some (.inr 21), some (.inr 22), some (.inl (nI (mn P f + cnt P f 12))), some (.inl (nI 1)), some (.inl (nI 1)), some (.inl (nI f)), some (.inl (nI (hs P f 12))), none, none]) (S' := []) (M' := (xm P (f3 l h (cs P c (1 + 13 * f + 12))))) rfl rfl rfl rfl ?_
      refine zg_iload (x := nI (mn P f + cnt P f 12)) dL_holds_336 rfl ?_
      refine zg_iload (x := nI (hs P f 12)) dL_holds_338 rfl ?_
      refine zg_jf (tgt := 347) dL_holds_340 rfl (show ¬ (nI (hs P f 12) = 0) from nI_ne0 (by omega) (by omega)) ?_
      refine zg_iconst (v := nI 2) dL_holds_343 (by decide) ?_
      refine zg_goto (tgt := 348) dL_holds_344 rfl ?_
      refine zg_iaddN dL_holds_348 ?_
      refine zg_istore dL_holds_349 (by decide) ?_
      refine zg_st (pc' := 351) (L' := [some (.inr 0), some (.inr 20), some (.inr 21), some (.inr 22), some (.inl (nI ((mn P f + cnt P f 12) + 2))), some (.inl (nI 1)), some (.inl (nI 1)), some (.inl (nI f)), some (.inl (nI (hs P f 12))), none, none]) (S' := []) (M' := (xm P (f3 l h (cs P c (1 + 13 * f + 12))))) rfl rfl rfl rfl ?_
      exact g
    · refine zg_iload (x := nI (an P f)) dL_holds_319 rfl ?_
      refine zg_jt (tgt := 329) dL_holds_321 rfl (show ¬ (nI (an P f) = 0) from nI_ne0 (by omega) (by omega)) ?_
      refine zg_iconst (v := nI 1) dL_holds_329 (by decide) ?_
      refine zg_goto (tgt := 334) dL_holds_330 rfl ?_
      refine zg_istore dL_holds_334 (by decide) ?_
      refine zg_st (pc' := 336) (L' := [some (.inr 0), some (.inr 20), some (.inr 21), some (.inr 22), some (.inl (nI (mn P f + cnt P f 12))), some (.inl (nI 1)), some (.inl (nI 1)), some (.inl (nI f)), some (.inl (nI (hs P f 12))), none, none]) (S' := []) (M' := (xm P (f3 l h (cs P c (1 + 13 * f + 12))))) rfl rfl rfl rfl ?_
      refine zg_iload (x := nI (mn P f + cnt P f 12)) dL_holds_336 rfl ?_
      refine zg_iload (x := nI (hs P f 12)) dL_holds_338 rfl ?_
      refine zg_jf (tgt := 347) dL_holds_340 rfl (show ¬ (nI (hs P f 12) = 0) from nI_ne0 (by omega) (by omega)) ?_
      refine zg_iconst (v := nI 2) dL_holds_343 (by decide) ?_
      refine zg_goto (tgt := 348) dL_holds_344 rfl ?_
      refine zg_iaddN dL_holds_348 ?_
      refine zg_istore dL_holds_349 (by decide) ?_
      refine zg_st (pc' := 351) (L' := [some (.inr 0), some (.inr 20), some (.inr 21), some (.inr 22), some (.inl (nI ((mn P f + cnt P f 12) + 2))), some (.inl (nI 1)), some (.inl (nI 1)), some (.inl (nI f)), some (.inl (nI (hs P f 12))), none, none]) (S' := []) (M' := (xm P (f3 l h (cs P c (1 + 13 * f + 12))))) rfl rfl rfl rfl ?_
      exact g
theorem ho_62 (q : ZQ) (hq : q.1.stackTraces = false) (P : Mem) (l h c : Nat → Int32) (H : HF P l h) : ∀ (n f ce sl : Nat), f + n = 4 → ce + (125 * n + 4) ≤ 520 ∧ sl + (750 * n + 24) ≤ 3120 → Zg (zgH q) mL_holds 520 3120 ce sl (.inl (some 1), xm P (f3 l h (cs P c 53))) 62 [some (.inr 0), some (.inr 20), some (.inr 21), some (.inr 22), some (.inl (nI (mn P f))), some (.inl (nI 1)), some (.inl (nI (an P f))), some (.inl (nI f)), none, none, none] [] (xm P (f3 l h (cs P c (1 + 13 * f)))) := by
  intro n
  induction n with
  | zero =>
    intro f ce sl hk h1
    have e : f = 4 := by omega
    subst e
    refine zg_iload (x := nI 4) dL_holds_62 rfl ?_
    refine zg_iconst (v := nI 4) dL_holds_64 (by decide) ?_
    refine zg_jt2 (tgt := 419) dL_holds_65 rfl (nI_le (Nat.le_refl _) (by decide)) ?_
    refine zg_drop (L' := [some (.inr 0), some (.inr 20), some (.inr 21), some (.inr 22), some (.inl (nI (mn P 4))), some (.inl (nI 1)), some (.inl (nI (an P 4))), none, none, none, none]) ⟨rfl, ⟨rfl, ⟨rfl, ⟨rfl, ⟨rfl, ⟨rfl, ⟨rfl, trivial⟩⟩⟩⟩⟩⟩⟩ ?_
    exact hd_419 q hq P l h c H ⟨by omega, by omega⟩
  | succ n ih =>
    intro f ce sl hk h1
    have hf : f < 4 := by omega
    have nx := ih (f + 1) (ce + 125) (sl + 750) (by omega) ⟨by omega, by omega⟩
    have n2 := ho_319 q hq P l h c H hf (ce := ce + 120) (sl := sl + 720) (ce1 := ce + 125) (sl1 := sl + 750) ⟨by omega, by omega⟩ ⟨by omega, by omega⟩ nx
    refine zg_iload (x := nI f) dL_holds_62 rfl ?_
    refine zg_iconst (v := nI 4) dL_holds_64 (by decide) ?_
    refine zg_jf2 (tgt := 419) dL_holds_65 rfl (nI_ge (by omega) (by decide)) ?_
    refine zg_iload (x := nI 1) dL_holds_68 rfl ?_
    refine zg_jf (tgt := 419) dL_holds_70 rfl (show ¬ (nI 1 = 0) by decide) ?_
    refine zg_iconst (v := nI 0) dL_holds_73 (by decide) ?_
    refine zg_istore dL_holds_74 (by decide) ?_
    refine zg_st (pc' := 76) (L' := [some (.inr 0), some (.inr 20), some (.inr 21), some (.inr 22), some (.inl (nI (mn P f))), some (.inl (nI 1)), some (.inl (nI (an P f))), some (.inl (nI f)), some (.inl (nI 0)), none, none]) (S' := []) (M' := (xm P (f3 l h (cs P c (1 + 13 * f))))) rfl rfl rfl rfl ?_
    refine zg_iconst (v := nI 0) dL_holds_76 (by decide) ?_
    refine zg_istore dL_holds_77 (by decide) ?_
    refine zg_st (pc' := 79) (L' := [some (.inr 0), some (.inr 20), some (.inr 21), some (.inr 22), some (.inl (nI (mn P f))), some (.inl (nI 1)), some (.inl (nI (an P f))), some (.inl (nI f)), some (.inl (nI 0)), some (.inl (nI 0)), none]) (S' := []) (M' := (xm P (f3 l h (cs P c (1 + 13 * f))))) rfl rfl rfl rfl ?_
    exact hi_79 q hq P l h c H hf (ce1 := ce + 120) (sl1 := sl + 720) ⟨by omega, by omega⟩ n2 12 0 ce sl (by omega) ⟨by omega, by omega⟩
set_option maxRecDepth 100000 in
theorem k_holds (q : ZQ) (hq : q.1.stackTraces = false) (P : Mem) (l h c : Nat → Int32) (H : HF P l h) : Zc (zgH q) mL_holds 520 3120 [.inr 0, .inr 20, .inr 21, .inr 22] (xm P (f3 l h c)) (.inl (some 1), xm P (f3 l h (cs P c 53))) := by
  have hpl := HF_pl H (t := 0) (by decide)
  obtain ⟨O1, O2⟩ := HF_r H c
  refine Zc.of (by decide) zi_L_holds.1 (Nat.le_of_ble_eq_true rfl) rfl ?_
  refine zg_iconst (v := nI 0) dL_holds_0 (by decide) ?_
  refine zg_istore dL_holds_1 (by decide) ?_
  refine zg_st (pc' := 3) (L' := [some (.inr 0), some (.inr 20), some (.inr 21), some (.inr 22), some (.inl (nI 0)), none, none, none, none, none, none]) (S' := []) (M' := (xm P (f3 l h c))) rfl rfl rfl rfl ?_
  have e0 : (xm P (f3 l h c)) = (xm P (f3 l h (zl c 0))) := by rw [zl_0]
  rw [e0]
  refine hd_3 q hq P l h c H 3 0 0 0 (by omega) ?_
  refine zg_iconst (v := nI 0) dL_holds_20 (by decide) ?_
  refine zg_istore dL_holds_21 (by decide) ?_
  refine zg_st (pc' := 23) (L' := [some (.inr 0), some (.inr 20), some (.inr 21), some (.inr 22), some (.inl (nI 0)), none, none, none, none, none, none]) (S' := []) (M' := (xm P (f3 l h (cs P c 0)))) rfl rfl rfl rfl ?_
  refine zg_aload_n (x := 0) dL_holds_23 rfl ?_
  refine zg_aload_n (x := 22) dL_holds_24 rfl ?_
  refine zg_aload_n (x := 0) dL_holds_25 rfl ?_
  refine zg_iconst (v := nI 0) dL_holds_26 (by decide) ?_
  refine zg_cW (As := [.inr 0, .inl (nI 0)]) (S := [.inr 22, .inr 0]) (k := plc (P 11 52)) (N := (xm P (f3 l h (cs P c 0)))) dL_holds_27 (XH (wv_root0 q hq hpl.1)) lk_rootPlace.1 lk_rootPlace.2 zi_L_rootPlace rfl ⟨by decide, by decide⟩ ⟨by omega, by omega⟩ rfl (Nat.le_of_ble_eq_true rfl) ?_
  refine zg_st (pc' := 30) (L' := [some (.inr 0), some (.inr 20), some (.inr 21), some (.inr 22), some (.inl (nI 0)), none, none, none, none, none, none]) (S' := [.inl (plc (P 11 52)), .inr 22, .inr 0]) (M' := (xm P (f3 l h (cs P c 0)))) rfl rfl rfl rfl ?_
  refine zg_callS (As := [.inr 0, .inr 22, .inl (plc (P 11 52))]) (S := []) dL_holds_30 (k_own q hq O1) lk_isOwn.1 lk_isOwn.2 zi_L_isOwn rfl ⟨by decide, by decide⟩ ⟨by omega, by omega⟩ rfl (Nat.le_of_ble_eq_true rfl) (fun E N q => by cases q) (fun r N q => ?_)
  cases q
  refine zg_st (pc' := 33) (L' := [some (.inr 0), some (.inr 20), some (.inr 21), some (.inr 22), some (.inl (nI 0)), none, none, none, none, none, none]) (S' := [.inl 1]) (M' := (xm P (f3 l h (ow (P 11 52) (cs P c 0))))) rfl rfl rfl rfl ?_
  refine zg_jf (tgt := 53) dL_holds_33 rfl (show ¬ ((1 : Int32) = 0) by decide) ?_
  refine zg_aload_n (x := 0) dL_holds_36 rfl ?_
  refine zg_aload_n (x := 22) dL_holds_37 rfl ?_
  refine zg_aload_n (x := 0) dL_holds_38 rfl ?_
  refine zg_iconst (v := nI 1) dL_holds_39 (by decide) ?_
  refine zg_cW (As := [.inr 0, .inl (nI 1)]) (S := [.inr 22, .inr 0]) (k := plc (P 12 52)) (N := (xm P (f3 l h (ow (P 11 52) (cs P c 0))))) dL_holds_40 (XH (wv_root1 q hq hpl.2)) lk_rootPlace.1 lk_rootPlace.2 zi_L_rootPlace rfl ⟨by decide, by decide⟩ ⟨by omega, by omega⟩ rfl (Nat.le_of_ble_eq_true rfl) ?_
  refine zg_st (pc' := 43) (L' := [some (.inr 0), some (.inr 20), some (.inr 21), some (.inr 22), some (.inl (nI 0)), none, none, none, none, none, none]) (S' := [.inl (plc (P 12 52)), .inr 22, .inr 0]) (M' := (xm P (f3 l h (ow (P 11 52) (cs P c 0))))) rfl rfl rfl rfl ?_
  refine zg_callS (As := [.inr 0, .inr 22, .inl (plc (P 12 52))]) (S := []) dL_holds_43 (k_own q hq O2) lk_isOwn.1 lk_isOwn.2 zi_L_isOwn rfl ⟨by decide, by decide⟩ ⟨by omega, by omega⟩ rfl (Nat.le_of_ble_eq_true rfl) (fun E N q => by cases q) (fun r N q => ?_)
  cases q
  refine zg_st (pc' := 46) (L' := [some (.inr 0), some (.inr 20), some (.inr 21), some (.inr 22), some (.inl (nI 0)), none, none, none, none, none, none]) (S' := [.inl 1]) (M' := (xm P (f3 l h (ow (P 12 52) (ow (P 11 52) (cs P c 0)))))) rfl rfl rfl rfl ?_
  refine zg_jf (tgt := 53) dL_holds_46 rfl (show ¬ ((1 : Int32) = 0) by decide) ?_
  refine zg_iconst (v := nI 1) dL_holds_49 (by decide) ?_
  refine zg_goto (tgt := 54) dL_holds_50 rfl ?_
  refine zg_istore dL_holds_54 (by decide) ?_
  refine zg_st (pc' := 56) (L' := [some (.inr 0), some (.inr 20), some (.inr 21), some (.inr 22), some (.inl (nI 0)), some (.inl (nI 1)), none, none, none, none, none]) (S' := []) (M' := (xm P (f3 l h (ow (P 12 52) (ow (P 11 52) (cs P c 0)))))) rfl rfl rfl rfl ?_
  refine zg_iconst (v := nI 0) dL_holds_56 (by decide) ?_
  refine zg_istore dL_holds_57 (by decide) ?_
  refine zg_st (pc' := 59) (L' := [some (.inr 0), some (.inr 20), some (.inr 21), some (.inr 22), some (.inl (nI 0)), some (.inl (nI 1)), some (.inl (nI 0)), none, none, none, none]) (S' := []) (M' := (xm P (f3 l h (ow (P 12 52) (ow (P 11 52) (cs P c 0)))))) rfl rfl rfl rfl ?_
  refine zg_iconst (v := nI 0) dL_holds_59 (by decide) ?_
  refine zg_istore dL_holds_60 (by decide) ?_
  refine zg_st (pc' := 62) (L' := [some (.inr 0), some (.inr 20), some (.inr 21), some (.inr 22), some (.inl (nI 0)), some (.inl (nI 1)), some (.inl (nI 0)), some (.inl (nI 0)), none, none, none]) (S' := []) (M' := (xm P (f3 l h (ow (P 12 52) (ow (P 11 52) (cs P c 0)))))) rfl rfl rfl rfl ?_
  exact ho_62 q hq P l h c H 4 0 _ _ (by omega) ⟨by omega, by omega⟩
end
