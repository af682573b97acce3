/-! ===== THE LAW: what the calls of the reference need; answers compared ===== -/
section
theorem zRI_Pl {n : Int} {d : Int32} {M N : Mem} (h : zRI n d M N) : PlM N := by
  obtain ⟨⟨_, _, h3, h4, _⟩, h1⟩ := h
  have u : ∀ c : Int32, cU M c → -1 ≤ c.toInt ∧ c.toInt < 120 := by
    rintro c (rfl | ⟨q, _⟩)
    · decide
    · omega
  exact ⟨fun k hk => by rw [← h3 k hk]; exact u _ (h1.1 k hk).1, fun k hk => by rw [← h4 k hk]; exact u _ (h1.1 k hk).2⟩
theorem sync_Pl {n : Int} {M N : Mem} (h : zRI n 0 M N) : PlM N ∧ PlM (f_X5_tries N).2 ∧ zPl ((f_X5_tries N).2 14) ∧ zPl ((f_X5_tries N).2 15) := by
  have hF : FN N (f_X5_tries N).2 := by
    by_cases hc : ∃ f : Nat, f < 4 ∧ ch M f
    · exact (r_tries1 h hc).2.2.1
    · obtain ⟨_, M', hT⟩ := r_tries0 h hc
      exact hT.2.1
  have hP := zRI_Pl h
  refine ⟨hP, ⟨?_, ?_⟩, hF.2.2.1, hF.2.2.2⟩
  · rw [hF.1 4 (by decide) (by decide) (by decide) (by decide) (by decide)]; exact hP.1
  · rw [hF.1 5 (by decide) (by decide) (by decide) (by decide) (by decide)]; exact hP.2
theorem cE_ne (e : String) : cE e ≠ 0 := by
  unfold cE; split <;> decide
theorem c1E_ne (e : String) : c1E e ≠ 0 := by
  unfold c1E; decide
theorem qA_I {E : String → Int32} {a : Int32 ⊕ String} {b : Int32 × Mem} (hE : ∀ e, E e ≠ 0) (h : qA E id a b) : b.2 0 0 = wk E a ∧ (wk E a = 0 → ∀ v, wv Int32.toInt64 v a = b.1.toInt64) := by
  cases a with
  | inl x =>
    obtain ⟨h1, h2⟩ := h
    exact ⟨h2, fun _ v => by show x.toInt64 = b.1.toInt64; rw [h1]; rfl⟩
  | inr e => exact ⟨h, fun q => absurd q (hE e)⟩
theorem qA_B {E : String → Int32} {a : Bool ⊕ String} {b : Bool × Mem} (hE : ∀ e, E e ≠ 0) (h : qA E id a b) : b.2 0 0 = wk E a ∧ (wk E a = 0 → ∀ v, wv bL v a = bL b.1) := by
  cases a with
  | inl x =>
    obtain ⟨h1, h2⟩ := h
    exact ⟨h2, fun _ v => by show bL x = bL b.1; rw [h1]; rfl⟩
  | inr e => exact ⟨h, fun q => absurd q (hE e)⟩
theorem qA_U {E : String → Int32} {a : Unit ⊕ String} {b : Unit × Mem} (h : qA E id a b) : b.2 0 0 = wk E a := by
  cases a with
  | inl x => exact h.2
  | inr e => exact h
/-! ===== THE LAW: its walk's pieces ===== -/
abbrev lqM (qX : ZQ) (aM : Nat → Nat) : ZQ := (qX.1, qX.2.1, qX.2.2.1, aM)
abbrev lA0 (s : State) : Nat → Prop := fun q => s.heap.size ≤ q
abbrev lwX (qX : ZQ) (o : Nat) (cL : ClassId) (M : Mem) (v : Int64) (H : Heap) : Prop := va_P qX.2.1 vwCl (zws (zgX qX) M ++ [zlo o cL v]) H
abbrev lwM (qX : ZQ) (aM : Nat → Nat) (N : Mem) (H : Heap) : Prop := va_P qX.2.1 vwCl (zws (zgM (lqM qX aM)) N) H
/-- what stands during the whole law: its start, the addresses of both worlds and of the long array -/
def lwC (qX : ZQ) (aM : Nat → Nat) (o : Nat) (cL : ClassId) (b L : Nat) (xs : Nat → Int32) (p : Program) (s : State) (m : MethodId) (meth : Method) (c : Code) : Prop :=
  CallFix p m c code 7 s #[Value.ref b] zTB RL ∧ (meth.sig.returnType = ret ∧ meth.locks = false) ∧ zS (zgX qX) (lA0 s) s ∧ va_K qX.2.1 vwCl [(cL, .long)] s ∧ zNc s ∧ (va_X b L xs s s.heap ∧ b < s.heap.size ∧ L ≤ 2048) ∧ qX.1.stackTraces = false ∧
  ∀ (M N : Mem) (v : Int64), va_D (lA0 s) ((zws (zgX qX) M ++ [zlo o cL v]) ++ zws (zgM (lqM qX aM)) N)
theorem zD_swap {A : Nat → Prop} {w1 w2 : va_W} (h : va_D A (w1 ++ w2)) : va_D A (w2 ++ w1) := va_D.app (zD_r h) (zD_l h) (fun i j p q hp hq e => zD_x h j i q p hq hp e.symm)
def lwArg (pc : Nat) (j : Int) : Prop := decode code pc = .ok (.aload_n 0, 1) ∧ decode code (pc + 1) = .ok (.iload 4, 2) ∧ decode code (pc + 3) = .ok (.iconst j, 1) ∧ decode code (pc + 4) = .ok (.iadd, 1) ∧ decode code (pc + 5) = .ok (.iaload, 1)
section LW
variable {qX : ZQ} {aM : Nat → Nat} {o : Nat} {cL : ClassId} {b L : Nat} {xs : Nat → Int32} {p : Program} {e : Env} {s : State} {m : MethodId} {below : List Frame} {meth : Method} {c : Code} {H : Heap} {locs : List Loc} {ce sl : Nat} {Q : State → Prop}
variable {μ ν : MI} {hh : List (Nat × Nat × Nat × Nat)} {n idx pc : Nat} {M N M' N' : Mem} {v v' : Int64} {kr : Int32} {As : List SV} {av rest : List Value} {ls : Array Slot} {st0 : List Value} {lv : List (Nat × Value)}
theorem lw_callW (C : lwC qX aM o cL b L xs p s m meth c) (hX : lwX qX o cL M v H) (hM : lwM qX aM N H) (hS : va_S (lA0 s) s.heap H locs) (d : decode code pc = .ok (.invokestatic idx, 3)) (hm : Zh (zgX qX) μ hh o cL av M v kr M' v') (hi : zinH μ hh n) (hl : Cond.methodLink RL idx μ.1 ∈ zTB) (hs : Cond.static μ.1 ∈ zTB)
    (hf : μ.2.2.2.2.1 + 1 ≤ room_1.frames ∧ 8 + (μ.2.2.1 + 11) + μ.2.2.2.2.2 ≤ room_1.locals) (hn : av.length = n) (hls : ls.size = 7) (hst : st0 = av.reverse ++ rest) (hW : (rest.map fun v => v.category).sum ≤ 8) (hc : ce + 1 ≤ room_1.cells ∧ sl + 6 ≤ room_1.slots)
    (kk : ∀ (H1 : Heap) (locs1 : List Loc), lwX qX o cL M' v' H1 → lwM qX aM N H1 → va_S (lA0 s) s.heap H1 locs1 → W p qX.1 e room_1 s m #[Value.ref b] below meth c H1 locs1 (ce + 1) (sl + 6) Q (F0 m (pc + 3) ls (.int kr :: rest))) :
    W p qX.1 e room_1 s m #[Value.ref b] below meth c H locs ce sl Q (F0 m pc ls st0) := by
  obtain ⟨S, -, h0, hKL, hNc, -, -, dD⟩ := C
  refine zh_callW (g := zgX qX) S h0 hKL hNc hX (zD_l (dD M N v)) hS d hm hi hl hs hf hn hls hst hW hc (fun H1 locs1 hP1 hk1 hS1 => kk H1 locs1 hP1 ?_ hS1)
  refine hM.kept (fun k q hq => hk1 q.1 (hM k q hq).lt ?_)
  rintro ((⟨j, x, hx, e⟩ | h) | h)
  · have hj : j < (zws (zgX qX) M).length := (List.getElem?_eq_some_iff.mp (zws_at (g := zgX qX) (M := M) hx)).1
    exact zD_x (dD M N v) j k _ q (by rw [List.getElem?_append_left hj]; exact zws_at (g := zgX qX) (M := M) hx) hq e.symm
  · exact absurd (hM k q hq).lt (by omega)
  · exact zD_x (dD M N v) (zws (zgX qX) M).length k (zlo o cL v) q (zL_snoc _ _) hq h.symm
theorem lw_callM {r : Option Int32} (C : lwC qX aM o cL b L xs p s m meth c) (hX : lwX qX o cL M v H) (hM : lwM qX aM N H) (hS : va_S (lA0 s) s.heap H locs) (d : decode code pc = .ok (.invokevirtual idx, 3)) (hm : Zc (zgM (lqM qX aM)) ν 0 0 (.inr 0 :: As) N (.inl r, N')) (hl : Cond.methodLink RL idx ν.1 ∈ zTB) (hs : Cond.instanceMethod ν.1 ∈ zTB) (hse : Cond.selects RX5 ν.1 ν.1 ∈ zTB) (hi : zin ν n) (hn : As.length = n)
    (hf : ν.2.2.2.2.1 + 1 ≤ room_1.frames ∧ 8 + (ν.2.2.1 + 11) + ν.2.2.2.2.2 ≤ room_1.locals) (hls : ls.size = 7) (hst : st0 = (As.map (zv (zgM (lqM qX aM)))).reverse ++ Value.ref (aM 0) :: rest) (hW : (rest.map fun v => v.category).sum ≤ 8) (hc : ce ≤ room_1.cells ∧ sl ≤ room_1.slots)
    (kk : ∀ (H1 : Heap) (locs1 : List Loc), lwX qX o cL M v H1 → lwM qX aM N' H1 → va_S (lA0 s) s.heap H1 locs1 → W p qX.1 e room_1 s m #[Value.ref b] below meth c H1 locs1 ce sl Q (F0 m (pc + 3) ls ((r.map Value.int).toList ++ rest))) :
    W p qX.1 e room_1 s m #[Value.ref b] below meth c H locs ce sl Q (F0 m pc ls st0) := by
  obtain ⟨S, -, h0, hKL, hNc, -, -, dD⟩ := C
  have h0' : zS (zgM (lqM qX aM)) (lA0 s) s := ⟨h0.1, h0.2.1, h0.2.2⟩
  refine zh_callV (g := zgM (lqM qX aM)) (q := (RX5, TX5, 20)) S h0' hM (zD_r (dD M N v)) hS d hm hl hs hse rfl rfl hi hn hf hls hst hW hc (fun E N2 q9 c9 H1 locs1 hB _ _ _ _ _ _ => by cases hB) (fun r' N2 H1 locs1 hB hP1 hk1 hS1 => ?_)
  cases hB
  exact kk H1 locs1 (zP_keep (g := zgM (lqM qX aM)) (M := N) (zD_swap (dD M N v)) hX hk1) hP1 hS1
theorem lw_callX {r : Option Int32} (C : lwC qX aM o cL b L xs p s m meth c) (hX : lwX qX o cL M v H) (hM : lwM qX aM N H) (hS : va_S (lA0 s) s.heap H locs) (d : decode code pc = .ok (.invokevirtual idx, 3)) (hm : Zc (zgX qX) ν 0 0 (.inr 0 :: As) M (.inl r, M')) (hl : Cond.methodLink RL idx ν.1 ∈ zTB) (hs : Cond.instanceMethod ν.1 ∈ zTB) (hse : Cond.selects RX4 ν.1 ν.1 ∈ zTB) (hi : zin ν n) (hn : As.length = n)
    (hf : ν.2.2.2.2.1 + 1 ≤ room_1.frames ∧ 8 + (ν.2.2.1 + 11) + ν.2.2.2.2.2 ≤ room_1.locals) (hls : ls.size = 7) (hst : st0 = (As.map (zv (zgX qX))).reverse ++ Value.ref (qX.2.2.2 0) :: rest) (hW : (rest.map fun v => v.category).sum ≤ 8) (hc : ce ≤ room_1.cells ∧ sl ≤ room_1.slots)
    (kk : ∀ (H1 : Heap) (locs1 : List Loc), lwX qX o cL M' v H1 → lwM qX aM N H1 → va_S (lA0 s) s.heap H1 locs1 → W p qX.1 e room_1 s m #[Value.ref b] below meth c H1 locs1 ce sl Q (F0 m (pc + 3) ls ((r.map Value.int).toList ++ rest))) :
    W p qX.1 e room_1 s m #[Value.ref b] below meth c H locs ce sl Q (F0 m pc ls st0) := by
  obtain ⟨S, -, h0, hKL, hNc, -, -, dD⟩ := C
  have dD' : va_D (lA0 s) (zws (zgX qX) M ++ ([zlo o cL v] ++ zws (zgM (lqM qX aM)) N)) := by rw [← List.append_assoc]; exact dD M N v
  refine zh_callV (g := zgX qX) (q := (RX4, TX4, 6)) S h0 (zP_l hX) (zD_l dD') hS d hm hl hs hse rfl rfl hi hn hf hls hst hW hc (fun E N2 q9 c9 H1 locs1 hB _ _ _ _ _ _ => by cases hB) (fun r' N2 H1 locs1 hB hP1 hk1 hS1 => ?_)
  cases hB
  have hR := zP_keep (g := zgX qX) (M := M) dD' (va_P.app (zP_r hX) hM) hk1
  exact kk H1 locs1 (va_P.app hP1 (zP_l hR)) (zP_r hR) hS1
/-- a number of the script -/
theorem lw_arg {j : Int} {jn i k0 k4 : Nat} (C : lwC qX aM o cL b L xs p s m meth c) (hS : va_S (lA0 s) s.heap H locs) (hl : lv_has ls 7 lv) (h0 : lv[k0]? = some (0, .ref b)) (h4 : lv[k4]? = some (4, .int (nI i))) (hd : lwArg pc j) (hj : Int32.ofInt j = nI jn) (hlt : i + jn < L)
    (kk : W p qX.1 e room_1 s m #[Value.ref b] below meth c H locs ce sl Q (F0 m (pc + 6) ls (.int (xs (i + jn)) :: rest))) : W p qX.1 e room_1 s m #[Value.ref b] below meth c H locs ce sl Q (F0 m pc ls rest) := by
  obtain ⟨S, -, h0', -, -, ⟨hXx, hbl, hL⟩, -, -⟩ := C
  obtain ⟨d0, d1, d2, d3, d4⟩ := hd
  refine lv_aload_n S.1 S.2.1 d0 rfl (lv_at hl k0 h0) ?_
  refine lv_iload S.1 S.2.1 d1 (lv_at hl k4 h4) ?_
  refine lv_iconst (v := nI jn) S.1 S.2.1 d2 hj ?_
  refine lv_iadd S.1 S.2.1 d3 ?_
  rw [nI_add]
  refine va_sld (A := lA0 s) S.1 S.2.1 hXx hbl (Nat.not_le.mpr hbl) hS (vp_in_nI hlt (by omega)) d4 ?_
  rw [nI_clamp (by omega)]
  exact kk
end LW
end
