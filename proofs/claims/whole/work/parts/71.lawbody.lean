/-! ===== THE LAW'S METHODS: what is around the call ===== -/
section
theorem zlo_eq {D : va_G} {cl : List vw_C} {o : Nat} {cL : ClassId} {f : Nat → Int64} {v : Int64} {H : Heap} (h : va_at D cl (o, .inl (cL, 1, .inr (.inl f))) H) (hf : f 0 = v) : va_at D cl (zlo o cL v) H := by
  have e : (fun j : Fin 1 => Value.long (f j.val)) = fun _ => Value.long v := by
    funext j
    have : j.val = 0 := by omega
    rw [this, hf]
  have h1 : H[o]? = some (arrV cL 1 (fun j => .long (f j))) := h
  show H[o]? = some (arrV cL 1 (fun _ => .long v))
  rw [h1]
  unfold arrV
  rw [e]
theorem zP_put {D : va_G} {cl : List vw_C} {w : va_W} {x y : Nat × va_E} {H : Heap} (h : va_P D cl (w ++ [x]) H) (hy : va_at D cl y H) : va_P D cl (w ++ [y]) H :=
  va_P.app (zP_l h) (fun k q hq => by
    have hk : k < 1 := (List.getElem?_eq_some_iff.mp hq).1
    have : k = 0 := by omega
    subst this
    cases hq
    exact hy)
theorem zD_lo {g : ZG} {A : Nat → Prop} {M N : Mem} {o : Nat} {cL : ClassId} {v w : Int64} (h : va_D A (zws g M ++ [zlo o cL v])) : va_D A (zws g N ++ [zlo o cL w]) := by
  refine va_D.app (zD_any (zD_l h)) ⟨fun i j p q hp hq e => ?_, fun k q hq => ?_⟩ (fun i j p q hp hq => ?_)
  · have h1 : i < 1 := (List.getElem?_eq_some_iff.mp hp).1
    have h2 : j < 1 := (List.getElem?_eq_some_iff.mp hq).1
    omega
  · have hk : k < 1 := (List.getElem?_eq_some_iff.mp hq).1
    have : k = 0 := by omega
    subst this
    cases hq
    exact (zD_r h).2 0 (zlo o cL v) rfl
  · obtain ⟨x, hx, rfl⟩ := zws_inv hp
    have hk : j < 1 := (List.getElem?_eq_some_iff.mp hq).1
    have : j = 0 := by omega
    subst this
    cases hq
    have h9 := zD_x h i 0 _ (zlo o cL v) (zws_at (M := M) hx) rfl
    exact h9
theorem zL_snoc {α : Type} (w : List α) (x : α) : (w ++ [x])[w.length]? = some x := by simp
theorem zL_set {α : Type} (w : List α) (x y : α) : (w ++ [x]).set w.length y = w ++ [y] := by simp
/-- which row of the table takes E, thrown at pI; h: its handler -/
def zcatch (hh : List (Nat × Nat × Nat × Nat)) (E : String) (pI h : Nat) : Prop := ∃ (pre suf : List (Nat × Nat × Nat × Nat)) (a b ct : Nat), hh = pre ++ (a, b, h, ct) :: suf ∧ (a ≤ pI ∧ pI < b) ∧ ct ≠ 0 ∧ Cond.classLink RL ct E ∈ zTB ∧ Cond.castable E E ∈ zCW ∧
  (∀ z ∈ pre, z.2.2.2 ≠ 0 ∧ Cond.classLink RL z.2.2.2 "java/lang/IllegalArgumentException" ∈ zTB ∧ (E = "java/lang/IllegalStateException" ∨ E = "java/util/NoSuchElementException"))
/-- a handler that answers k -/
def zhnd (cc : ByteArray) (nL h : Nat) (k : Int32) : Prop := ∃ nn : Int, Int32.ofInt nn = k ∧ ((∃ i, i < nL ∧ decode cc h = .ok (.astore i, 2) ∧ decode cc (h + 2) = .ok (.iconst nn, 1) ∧ decode cc (h + 3) = .ok (.ireturn, 1)) ∨
  (∃ i : Fin 4, (i : Nat) < nL ∧ decode cc h = .ok (.astore_n i, 1) ∧ decode cc (h + 1) = .ok (.iconst nn, 1) ∧ decode cc (h + 2) = .ok (.ireturn, 1)))
/-- a method of the law, at its start -/
def zhC (g : ZG) (μ : MI) (hh : List (Nat × Nat × Nat × Nat)) (o : Nat) (cL : ClassId) (p : Program) (s : State) (m : MethodId) (args : Array Value) (meth : Method) (c : Code) : Prop :=
  CallFix p m c μ.2.1 μ.2.2.1 s args zTB RL ∧ meth.sig.returnType = some .int ∧ meth.locks = false ∧ c.exceptionTable.toList = tableOf hh ∧ zS g (zhA g o s.heap.size) s ∧ va_K g.2.1 vwCl [(cL, .long)] s ∧ zNc s
section ZHB
variable {p : Program} {e : Env} {R : Room} {s : State} {m : MethodId} {args : Array Value} {below : List Frame} {meth : Method} {c : Code} {H : Heap} {locs : List Loc} {ce sl : Nat} {Q : State → Prop}
variable {g : ZG} {μ ν : MI} {hh : List (Nat × Nat × Nat × Nat)} {o : Nat} {cL : ClassId} {nL n idx k ci pc : Nat} {M N : Mem} {v v' : Int64} {kr : Int32} {B' : ZR} {As : List SV} {rest : List Value} {ls : Array Slot} {st0 : List Value} {lv : List (Nat × Value)}
theorem zh_ret {nn : Int} (C : zhC g μ hh o cL p s m args meth c) (hP : va_P g.2.1 vwCl (zws g N ++ [zlo o cL v']) H) (hS : va_S (zhA g o s.heap.size) s.heap H locs) (d0 : decode μ.2.1 pc = .ok (.iconst nn, 1)) (hk : Int32.ofInt nn = kr) (d1 : decode μ.2.1 (pc + 1) = .ok (.ireturn, 1)) (hc : ce ≤ 1 ∧ sl ≤ 6) :
    W p g.1 e R s m args below meth c H locs ce sl (vx_MQ below (zhQ g o cL (zhA g o s.heap.size) kr N v') zhX args s 1 6 (zhA g o s.heap.size)) (F0 m pc ls []) := by
  obtain ⟨S, hr, hlk, -⟩ := C
  refine lv_iconst (v := kr) S.1 S.2.1 d0 hk ?_
  refine W.widen (k := 1) (n := 6) hc.1 hc.2 (vx_ret ?_)
  exact W.zret (v := kr) S.1 S.2.1 hr rfl (fun t ht hW => ⟨⟨rfl, by rw [ht]; exact hP⟩, hS.F ht⟩) hS.2.2 d1 hlk
theorem zh_hnd {h : Nat} {q9 : Addr} (C : zhC g μ hh o cL p s m args meth c) (hP : va_P g.2.1 vwCl (zws g N ++ [zlo o cL v']) H) (hS : va_S (zhA g o s.heap.size) s.heap H locs) (hl : lv_has ls μ.2.2.1 lv) (hH : zhnd μ.2.1 μ.2.2.1 h kr) (hc : ce ≤ 1 ∧ sl ≤ 6) :
    W p g.1 e R s m args below meth c H locs ce sl (vx_MQ below (zhQ g o cL (zhA g o s.heap.size) kr N v') zhX args s 1 6 (zhA g o s.heap.size)) (F0 m h ls [.ref q9]) := by
  obtain ⟨nn, hk, ⟨i, hi, d0, d1, d2⟩ | ⟨i, hi, d0, d1, d2⟩⟩ := hH
  · exact lv_astore C.1.1 C.1.2.1 d0 hl hi rfl (fun ls' _ => zh_ret C hP hS d1 hk d2 hc)
  · exact lv_astore_n C.1.1 C.1.2.1 d0 rfl hl hi rfl (fun ls' _ => zh_ret C hP hS d1 hk d2 hc)
theorem zh_catch {E : String} {pI h : Nat} {q9 : Addr} {c9 : Cell} (C : zhC g μ hh o cL p s m args meth c) (hz : zcatch hh E pI h) (hcell : H[q9]? = some c9) (hv : c9.vm = .none) (hcl : s.vm.findClass E = some c9.cls)
    (kk : W p g.1 e R s m args below meth c H locs ce sl Q (F0 m h ls [.ref q9])) : vx_W p g.1 e R s m args below meth c H locs ce sl Q (F0 m pI ls rest) q9 := by
  obtain ⟨S, -, -, htab, ⟨hK, -⟩, -, hNc⟩ := C
  obtain ⟨pre, suf, a, b, ct, rfl, hr, h0, hlk, hca, hpre⟩ := hz
  refine vx_catch (own := RL) (name := E) S.2.2.2.1 (tableOf pre) ⟨a, b, h, ct⟩ (tableOf suf) (by rw [htab]; simp [tableOf]) ?_ (by simp [covers, hr]) h0 (S.2.2.2.2 _ hlk) (zCW_use (fun w hw => hK.2.2.1 w hw) _ hca) hcell hv hcl kk
  intro z hz
  obtain ⟨y, hy, rfl⟩ := List.mem_map.mp hz
  obtain ⟨g1, g2, g3⟩ := hpre y hy
  exact Or.inr ⟨g1, _, S.2.2.2.2 _ g2, g3.elim (fun q => by rw [q]; exact hNc.1) (fun q => by rw [q]; exact hNc.2)⟩
/-- the call: caught, or on with the answer -/
theorem zh_run {fs : List (Option Nat)} {q : vw_C} (C : zhC g μ hh o cL p s m args meth c) (hP : va_P g.2.1 vwCl (zws g M ++ [zlo o cL v]) s.heap) (hD : va_D (zhA g o s.heap.size) (zws g M ++ [zlo o cL v]))
    (d : decode μ.2.1 pc = .ok (.invokevirtual idx, 3)) (hm : Zc g ν 1 6 (.inr k :: As) M B') (hlk : Cond.methodLink RL idx ν.1 ∈ zTB) (hs : Cond.instanceMethod ν.1 ∈ zTB) (hse : Cond.selects q.1 ν.1 ν.1 ∈ zTB) (hk : g.2.2.2.2[k]? = some (.inl (ci, fs))) (hq0 : vwCl[ci]? = some q) (hi : zin ν n) (hn : As.length = n)
    (hf : ν.2.2.2.2.1 + 1 ≤ R.frames ∧ 8 + (ν.2.2.1 + 11) + ν.2.2.2.2.2 ≤ R.locals) (hl : lv_has ls μ.2.2.1 lv) (hst : st0 = (As.map (zv g)).reverse ++ Value.ref (g.2.2.2.1 k) :: rest) (hW : (rest.map fun v => v.category).sum ≤ 8) (hc : 0 + 1 ≤ R.cells ∧ 0 + 6 ≤ R.slots)
    (hx : ∀ (E : String) (N' : Mem), B' = (.inr E, N') → (∃ h, zcatch hh E pc h ∧ zhnd μ.2.1 μ.2.2.1 h kr) ∧ N' = N ∧ v' = v)
    (kk : ∀ (r : Option Int32) (N' : Mem) (H1 : Heap) (locs1 : List Loc), B' = (.inl r, N') → va_P g.2.1 vwCl (zws g N' ++ [zlo o cL v]) H1 → va_S (zhA g o s.heap.size) s.heap H1 locs1 → W p g.1 e R s m args below meth c H1 locs1 1 6 (vx_MQ below (zhQ g o cL (zhA g o s.heap.size) kr N v') zhX args s 1 6 (zhA g o s.heap.size)) (F0 m (pc + 3) ls ((r.map Value.int).toList ++ rest))) :
    W p g.1 e R s m args below meth c s.heap [] 0 0 (vx_MQ below (zhQ g o cL (zhA g o s.heap.size) kr N v') zhX args s 1 6 (zhA g o s.heap.size)) (F0 m pc ls st0) := by
  refine zh_callV C.1 C.2.2.2.2.1 (zP_l hP) (zD_l hD) va_S.rf d hm hlk hs hse hk hq0 hi hn hf hl.1 hst hW hc (fun E N' q9 c9 H1 locs1 hB hP1 hk1 hS1 hcell hv hcl => ?_) (fun r N' H1 locs1 hB hP1 hk1 hS1 => ?_)
  · obtain ⟨⟨h, hz, hh'⟩, rfl, rfl⟩ := hx E N' hB
    have hP2 := va_P.app hP1 (zP_keep (M := M) hD (zP_r hP) hk1)
    exact zh_catch C hz hcell hv hcl (zh_hnd C hP2 hS1 hl hh' ⟨by omega, by omega⟩)
  · exact kk r N' H1 locs1 hB (va_P.app hP1 (zP_keep (M := M) hD (zP_r hP) hk1)) hS1
/-- the answer goes into the long array; 0 is answered -/
theorem zh_store {off nn : Int} {pE : Nat} {x : Int64} (C : zhC g μ hh o cL p s m args meth c) (hP : va_P g.2.1 vwCl (zws g N ++ [zlo o cL v]) H) (hD : va_D (zhA g o s.heap.size) (zws g M ++ [zlo o cL v])) (hS : va_S (zhA g o s.heap.size) s.heap H locs)
    (d : decode μ.2.1 pc = .ok (.lastore, 1)) (d1 : decode μ.2.1 (pc + 1) = .ok (.goto off, 3)) (ht : ((pc + 1 : Nat) : Int) + off = (pE : Int)) (d2 : decode μ.2.1 pE = .ok (.iconst nn, 1)) (hk : Int32.ofInt nn = kr) (d3 : decode μ.2.1 (pE + 1) = .ok (.ireturn, 1)) (hx : x = v') (hc : ce ≤ 1 ∧ sl ≤ 6) :
    W p g.1 e R s m args below meth c H locs ce sl (vx_MQ below (zhQ g o cL (zhA g o s.heap.size) kr N v') zhX args s 1 6 (zhA g o s.heap.size)) (F0 m pc ls [.long x, .int 0, .ref o]) := by
  refine va_last C.1.1 C.1.2.1 C.2.2.2.2.2.1 hP (zD_lo (N := N) (w := v) hD) hS (zws g N).length 0 (zL_snoc _ _) rfl (show vp_in 0 1 from vp_in_nI (n := 0) (by decide) (by decide)) d (fun H1 locs1 hP1 hD1 hS1 => ?_)
  rw [zL_set] at hP1
  have hP2 : va_P g.2.1 vwCl (zws g N ++ [zlo o cL v']) H1 := zP_put hP1 (zlo_eq (hP1 _ _ (zL_snoc _ _)) (by rw [← hx]; simp [vp_updL]))
  exact lv_goto C.1.1 C.1.2.1 d1 ht (zh_ret C hP2 hS1 d2 hk d3 hc)
/-- from the entry -/
theorem Zh.of {av : List Value} (hy : plainName μ.1.cls = true) (hR : μ.1.cls = RL) (hin : zinH μ hh n) (hr : μ.2.2.2.1 = some .int) (hn : (lg_sl av).length ≤ μ.2.2.1)
    (h : ∀ (p : Program) (e : Env) (s : State) (m : MethodId) (below : List Frame) (meth : Method) (c : Code) (ls : Array Slot), zhC g μ hh o cL p s m av.toArray meth c → va_P g.2.1 vwCl (zws g M ++ [zlo o cL v]) s.heap → va_D (zhA g o s.heap.size) (zws g M ++ [zlo o cL v]) → lv_has ls μ.2.2.1 (lv_args 0 av) →
      W p g.1 e (zRm μ 1 6) s m av.toArray below meth c s.heap [] 0 0 (vx_MQ below (zhQ g o cL (zhA g o s.heap.size) kr N v') zhX av.toArray s 1 6 (zhA g o s.heap.size)) (F0 m 0 ls [])) : Zh g μ hh o cL av M v kr N v' := by
  intro sz
  refine vx_ofWH (cc := μ.2.1) (maxL := μ.2.2.1) (ret := μ.2.2.2.1) (hh := hh) hy rfl ?_
  intro p e s m args' below meth c s₁ Bd hml hv
  obtain ⟨rfl, hsz, hP, hD, hK, hKL, hNc, hE⟩ := hv
  have hts := atoms_spec (ws := zhw μ hh) Bd.pre
  have htab := vx_table (x := μ.1) Bd (hts _ List.mem_cons_self)
  subst hsz
  have hl := lv_entry av (n := μ.2.2.1) hn
  rw [lg_entry_eq]
  generalize (lg_sl av ++ List.replicate (μ.2.2.1 - (lg_sl av).length) Slot.unset).toArray = ls at hl ⊢
  have hown : s.vm.findClass μ.1.cls = some m.cls := findClass_of_methodNamed Bd.named
  have hD2 : va_D (zhA g o s.heap.size) (zws g M ++ [zlo o cL v]) := by
    refine ⟨hD.1, fun k q hq => ?_⟩
    by_cases hk : k < (zws g M).length
    · rw [List.getElem?_append_left hk] at hq
      obtain ⟨x, hx, rfl⟩ := zws_inv hq
      exact Or.inl (Or.inl ⟨k, x, hx, rfl⟩)
    · rw [List.getElem?_append_right (by omega)] at hq
      have hk1 : k - (zws g M).length < 1 := (List.getElem?_eq_some_iff.mp hq).1
      have e0 : k - (zws g M).length = 0 := by omega
      rw [e0] at hq
      cases hq
      exact Or.inr rfl
  exact h p e s m below meth c ls ⟨⟨Bd.exec, Bd.bytes, hml, by rw [← hR]; exact hown, fun w hw => hts w (List.mem_cons_of_mem _ hw)⟩, by rw [← hr]; exact Bd.returns, Bd.notSynchronized, htab, ⟨hK, hE, fun q hq => Or.inl (Or.inr hq)⟩, hKL, hNc⟩ hP hD2 hl
end ZHB
end
