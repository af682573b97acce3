/-! ===== THE LAW: what follows the two calls ===== -/
section
def lwThr (pc : Nat) : Prop := decode code pc = .ok (.aload_n 2, 1) ∧ decode code (pc + 1) = .ok (.invokevirtual 89, 3) ∧ decode code (pc + 4) = .ok (.iload 5, 2) ∧ decode code (pc + 6) = .ok (.if_icmp .eq 5, 3)
def lwTI (pc : Nat) (off : Int) : Prop := decode code pc = .ok (.iload 5, 2) ∧ decode code (pc + 2) = .ok (.ifCond .ne 15, 3) ∧ decode code (pc + 5) = .ok (.aload_n 3, 1) ∧ decode code (pc + 6) = .ok (.iconst 0, 1) ∧ decode code (pc + 7) = .ok (.laload, 1) ∧ decode code (pc + 8) = .ok (.iload 6, 2) ∧ decode code (pc + 10) = .ok (.i2l, 1) ∧ decode code (pc + 11) = .ok (.lcmp, 1) ∧ decode code (pc + 12) = .ok (.ifCond .eq 5, 3) ∧ decode code (pc + 17) = .ok (.goto off, 3)
def lwTB (pc : Nat) (off : Int) : Prop := decode code pc = .ok (.iload 5, 2) ∧ decode code (pc + 2) = .ok (.ifCond .ne 22, 3) ∧ decode code (pc + 5) = .ok (.aload_n 3, 1) ∧ decode code (pc + 6) = .ok (.iconst 0, 1) ∧ decode code (pc + 7) = .ok (.laload, 1) ∧ decode code (pc + 8) = .ok (.iload 6, 2) ∧ decode code (pc + 10) = .ok (.ifCond .eq 7, 3) ∧ decode code (pc + 13) = .ok (.lconst 1, 1) ∧ decode code (pc + 14) = .ok (.goto 4, 3) ∧ decode code (pc + 17) = .ok (.lconst 0, 1) ∧ decode code (pc + 18) = .ok (.lcmp, 1) ∧ decode code (pc + 19) = .ok (.ifCond .eq 5, 3) ∧ decode code (pc + 24) = .ok (.goto off, 3)
abbrev lwL (qX : ZQ) (aM : Nat → Nat) (o b : Nat) (i : Nat) : List (Nat × Value) := [(0, .ref b), (1, .ref (qX.2.2.2 0)), (2, .ref (aM 0)), (3, .ref o), (4, .int (nI i))]
theorem zRI_mono {n m : Int} {d : Int32} {M N : Mem} (h : zRI n d M N) (hm : n ≤ m) : zRI m d M N := ⟨h.1, zI_mono h.2 hm⟩
section LW
variable {qX : ZQ} {aM : Nat → Nat} {o : Nat} {cL : ClassId} {b L : Nat} {xs : Nat → Int32} {p : Program} {e : Env} {s : State} {m : MethodId} {below : List Frame} {meth : Method} {c : Code} {H : Heap} {locs : List Loc} {ce sl : Nat} {Q : State → Prop}
variable {n idx pc : Nat} {M N : Mem} {v : Int64} {kr : Int32} {rest : List Value} {ls : Array Slot} {lv : List (Nat × Value)} {off : Int} {k2 k3 k5 k6 : Nat}
theorem lw_thrown (C : lwC qX aM o cL b L xs p s m meth c) (hX : lwX qX o cL M v H) (hM : lwM qX aM N H) (hS : va_S (lA0 s) s.heap H locs) (hl : lv_has ls 7 lv) (h2 : lv[k2]? = some (2, .ref (aM 0))) (h5 : lv[k5]? = some (5, .int kr)) (hd : lwThr pc)
    (hlk : Cond.methodLink RL 89 yX5_thrown ∈ zTB) (hs : Cond.instanceMethod yX5_thrown ∈ zTB) (hse : Cond.selects RX5 yX5_thrown yX5_thrown ∈ zTB) (hk : N 0 0 = kr) (hc : ce ≤ room_1.cells ∧ sl ≤ room_1.slots)
    (kk : ∀ (H1 : Heap) (locs1 : List Loc), lwX qX o cL M v H1 → lwM qX aM N H1 → va_S (lA0 s) s.heap H1 locs1 → W p qX.1 e room_1 s m #[Value.ref b] below meth c H1 locs1 ce sl Q (F0 m (pc + 11) ls [])) : W p qX.1 e room_1 s m #[Value.ref b] below meth c H locs ce sl Q (F0 m pc ls []) := by
  obtain ⟨d0, d1, d2, d3⟩ := hd
  refine lv_aload_n C.1.1 C.1.2.1 d0 rfl (lv_at hl k2 h2) ?_
  refine lw_callM (As := []) C hX hM hS d1 (k_X5_thrown (lqM qX aM) N) hlk hs hse zi_X5_thrown rfl ⟨Nat.le_of_ble_eq_true rfl, Nat.le_of_ble_eq_true rfl⟩ hl.1 rfl (Nat.le_of_ble_eq_true rfl) hc (fun H1 locs1 hX1 hM1 hS1 => ?_)
  refine lv_iload C.1.1 C.1.2.1 d2 (lv_at hl k5 h5) ?_
  refine lv_icmp_eq (tgt := pc + 11) C.1.1 C.1.2.1 d3 (by omega) (fun _ => kk H1 locs1 hX1 hM1 hS1) (fun q => absurd hk q)
theorem lw_tailI {r6 : Int32} (C : lwC qX aM o cL b L xs p s m meth c) (hX : lwX qX o cL M v H) (hl : lv_has ls 7 lv) (h3 : lv[k3]? = some (3, .ref o)) (h5 : lv[k5]? = some (5, .int kr)) (h6 : lv[k6]? = some (6, .int r6)) (hd : lwTI pc off) (ht : ((pc + 17 : Nat) : Int) + off = 1540) (hv : kr = 0 → v = r6.toInt64)
    (kk : W p qX.1 e room_1 s m #[Value.ref b] below meth c H locs ce sl Q (F0 m 1540 ls [])) : W p qX.1 e room_1 s m #[Value.ref b] below meth c H locs ce sl Q (F0 m pc ls []) := by
  obtain ⟨d0, d1, d2, d3, d4, d5, d6, d7, d8, d9⟩ := hd
  have hend : W p qX.1 e room_1 s m #[Value.ref b] below meth c H locs ce sl Q (F0 m (pc + 17) ls []) := lv_goto (tgt := 1540) C.1.1 C.1.2.1 d9 ht kk
  refine lv_iload C.1.1 C.1.2.1 d0 (lv_at hl k5 h5) ?_
  refine lv_if_ne (tgt := pc + 17) C.1.1 C.1.2.1 d1 (by omega) (fun _ => hend) (fun q => ?_)
  refine lv_aload_n C.1.1 C.1.2.1 d2 rfl (lv_at hl k3 h3) ?_
  refine lv_iconst (v := 0) C.1.1 C.1.2.1 d3 (by decide) ?_
  refine va_lald C.1.1 C.1.2.1 C.2.2.2.1 hX (zws (zgX qX) M).length 0 (zL_snoc _ _) rfl (show vp_in 0 1 from vp_in_nI (n := 0) (by decide) (by decide)) d4 ?_
  refine lv_iload C.1.1 C.1.2.1 d5 (lv_at hl k6 h6) ?_
  refine lv_i2l C.1.1 C.1.2.1 d6 rfl ?_
  refine W.lcmp C.1.1 C.1.2.1 d7 ?_
  exact lv_if_eq (tgt := pc + 17) C.1.1 C.1.2.1 d8 (by omega) (fun _ => hend) (fun z => absurd ((lg_cmp_eq _ _).mpr (hv q)) z)
theorem lw_tailB {r6 : Bool} (C : lwC qX aM o cL b L xs p s m meth c) (hX : lwX qX o cL M v H) (hl : lv_has ls 7 lv) (h3 : lv[k3]? = some (3, .ref o)) (h5 : lv[k5]? = some (5, .int kr)) (h6 : lv[k6]? = some (6, .int (bI r6))) (hd : lwTB pc off) (ht : ((pc + 24 : Nat) : Int) + off = 1540) (hv : kr = 0 → v = bL r6)
    (kk : W p qX.1 e room_1 s m #[Value.ref b] below meth c H locs ce sl Q (F0 m 1540 ls [])) : W p qX.1 e room_1 s m #[Value.ref b] below meth c H locs ce sl Q (F0 m pc ls []) := by
  obtain ⟨d0, d1, d2, d3, d4, d5, d6, d7, d8, d9, d10, d11, d12⟩ := hd
  have hend : W p qX.1 e room_1 s m #[Value.ref b] below meth c H locs ce sl Q (F0 m (pc + 24) ls []) := lv_goto (tgt := 1540) C.1.1 C.1.2.1 d12 ht kk
  refine lv_iload C.1.1 C.1.2.1 d0 (lv_at hl k5 h5) ?_
  refine lv_if_ne (tgt := pc + 24) C.1.1 C.1.2.1 d1 (by omega) (fun _ => hend) (fun q => ?_)
  refine lv_aload_n C.1.1 C.1.2.1 d2 rfl (lv_at hl k3 h3) ?_
  refine lv_iconst (v := 0) C.1.1 C.1.2.1 d3 (by decide) ?_
  refine va_lald C.1.1 C.1.2.1 C.2.2.2.1 hX (zws (zgX qX) M).length 0 (zL_snoc _ _) rfl (show vp_in 0 1 from vp_in_nI (n := 0) (by decide) (by decide)) d4 ?_
  refine lv_iload C.1.1 C.1.2.1 d5 (lv_at hl k6 h6) ?_
  have hv := hv q
  cases r6 with
  | true =>
    refine lv_if_eq (tgt := pc + 17) C.1.1 C.1.2.1 d6 (by omega) (fun z => absurd z (by decide)) (fun _ => ?_)
    refine lv_lconst (v := 1) C.1.1 C.1.2.1 d7 (by decide) ?_
    refine lv_goto (tgt := pc + 18) C.1.1 C.1.2.1 d8 (by omega) ?_
    refine W.lcmp C.1.1 C.1.2.1 d10 ?_
    exact lv_if_eq (tgt := pc + 24) C.1.1 C.1.2.1 d11 (by omega) (fun _ => hend) (fun z => absurd ((lg_cmp_eq _ _).mpr hv) z)
  | false =>
    refine lv_if_eq (tgt := pc + 17) C.1.1 C.1.2.1 d6 (by omega) (fun _ => ?_) (fun z => absurd (show (0 : Int32) = 0 from rfl) z)
    refine lv_lconst (v := 0) C.1.1 C.1.2.1 d9 (by decide) ?_
    refine W.lcmp C.1.1 C.1.2.1 d10 ?_
    exact lv_if_eq (tgt := pc + 24) C.1.1 C.1.2.1 d11 (by omega) (fun _ => hend) (fun z => absurd ((lg_cmp_eq _ _).mpr hv) z)
/-- how the law goes on after a call -/
def lwK (qX : ZQ) (aM : Nat → Nat) (o : Nat) (cL : ClassId) (b : Nat) (p : Program) (e : Env) (s : State) (m : MethodId) (below : List Frame) (meth : Method) (c : Code) (Q : State → Prop) (i ce sl : Nat) (n : Int) : Prop :=
  ∀ (M N : Mem) (v : Int64) (H : Heap) (locs : List Loc) (ls : Array Slot), zRI n 0 M N → lwX qX o cL M v H → lwM qX aM N H → va_S (lA0 s) s.heap H locs → lv_has ls 7 (lwL qX aM o b i) → W p qX.1 e room_1 s m #[Value.ref b] below meth c H locs ce sl Q (F0 m 1540 ls [])
end LW
end
