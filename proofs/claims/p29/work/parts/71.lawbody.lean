/-! ===== THE LAW'S METHODS THAT CATCH: over the class's world; what is around the call ===== -/
section
/-- what a method of the law has at its start: the world's kinds, statics that nobody writes; fresh addresses may be written -/
def zS (g : ZG) (A0 : Nat → Prop) (s : State) : Prop := zK g s ∧ zE A0 s s.heap ∧ ∀ q, s.heap.size ≤ q → A0 q
def zhX : String → State → State → Prop := fun _ _ _ => False
def zhw (μ : MI) (hh : List (Nat × Nat × Nat × Nat)) : List Cond := Cond.codeWith μ.1 μ.2.1 μ.2.2.1 μ.2.2.2.1 hh :: zTB
/-- a method that catches all that is thrown under it: its answer and the memory that it leaves -/
def Zd (g : ZG) (μ : MI) (hh : List (Nat × Nat × Nat × Nat)) (args : List SV) (M : Mem) (k : Int32) (N : Mem) : Prop :=
  ∀ sz : Nat, vx_Met g.1 μ.1 (zhw μ hh) (zRm μ 1 6) (va_Pc (args.map (zv g)) (zPre g M sz)) (zQ g (zA g sz) (.inl (some k), N)) zhX 1 6 (zA g sz)
def zinH (μ : MI) (hh : List (Nat × Nat × Nat × Nat)) (n : Nat) : Prop := Cond.codeWith μ.1 μ.2.1 μ.2.2.1 μ.2.2.2.1 hh ∈ zTB ∧ Cond.initialized μ.1.cls ∈ zTB ∧ (μ.1.cls ≠ "java/lang/invoke/MethodHandle" ∧ μ.1.cls ≠ "java/lang/invoke/VarHandle") ∧ (parseMethodDescriptor μ.1.desc).map (fun d => d.parameters.length) = some n
theorem Zd.emb {l : Launch} {D : va_G} {ids : ClassId × ClassId × ClassId} {A : Nat → Nat} {sh1 sh2 : List ShE} {em : Nat → Nat} {μ : MI} {hh : List (Nat × Nat × Nat × Nat)} {args : List SV} {m n M N : Mem} {k : Int32} (h : Zd (l, D, ids, fun k => A (em k), sh1) μ hh args m k n)
    (h1 : zEm em sh1 sh2 m M) (h2 : zEm em sh1 sh2 n N) (ho : ∀ j, (∀ (k : Nat) (x : ShE), sh1[k]? = some x → em k ≠ j) → N j = M j) : Zd (l, D, ids, A, sh2) μ hh (args.map (svm em)) M k N := by
  intro sz
  have h0 := vx_conseq (XC' := zX (l, D, ids, fun k => A (em k), sh1) (zA (l, D, ids, fun k => A (em k), sh1) sz) (.inl (some k), n)) (h sz) (fun _ _ h => h) (fun _ _ _ _ _ h => h) (fun _ _ _ _ _ h => h.elim) (fun _ h => h)
  exact vx_conseq (em_met h0 h1 h2 ho) (fun _ _ h => h) (fun _ _ _ _ _ h => h) (fun _ _ _ _ _ h => by obtain ⟨⟨N', hB, -⟩, -⟩ := h; cases hB) (fun _ h => h)
section ZGD
variable {g : ZG} {μ ν : MI} {mc ms ce sl : Nat} {B : ZR} {pc : Nat} {L : List (Option SV)} {S S0 As : List SV} {M : Mem}
/-- a call of such a method -/
theorem zg_cW {n idx : Nat} {hh : List (Nat × Nat × Nat × Nat)} {k : Int32} {N : Mem} (d : decode μ.2.1 pc = .ok (.invokestatic idx, 3)) (hm : Zd g ν hh As M k N) (hl : Cond.methodLink μ.1.cls idx ν.1 ∈ zTB) (hs : Cond.static ν.1 ∈ zTB) (hi : zinH ν hh n) (hn : As.length = n) (hf : zfit μ ν) (hc : ce + 1 ≤ mc ∧ sl + 6 ≤ ms) (hS0 : As.reverse ++ S = S0) (hw : S.length ≤ 8)
    (kk : Zg g μ mc ms (ce + 1) (sl + 6) B (pc + 3) L (.inl k :: S) N) : Zg g μ mc ms ce sl B pc L S0 M := by
  subst hS0
  intro p e s m args below meth c H locs ls sz C hP hD hS hL
  have hq := zg_pre C.2.2.2.2.2.2.2.2.1 C.2.2.2.2.2.2.2.2.2.1 C.2.2.2.2.2.2.2.2.2.2.1 hP hD hS (As.map (zv g))
  have hm' : vx_Met g.1 ν.1 (zhw ν hh) (zRm ν 1 6) (va_Pc (As.map (zv g)) (zPre g M H.size)) (zQ g (zA g H.size) (.inl (some k), N)) (zX g (zA g H.size) (.inl (some k), N)) 1 6 (zA g H.size) :=
    vx_conseq (hm H.size) (fun _ _ h => h) (fun _ _ _ _ _ h => h) (fun _ _ _ _ _ h => h.elim) (fun _ h => h)
  have hcw : vx_CSW (zRm μ mc ms) s args μ.1.cls idx ν.1 ν.2.1 ν.2.2.1 ν.2.2.2.1 hh (zhw ν hh) (zRm ν 1 6) 1 6 n :=
    ⟨⟨rfl, rfl, hf.1, hf.2, pay_in C.2.2.2.2.2.1 (fun w hw => (List.mem_cons.mp hw).elim (fun e => by rw [e]; exact zTB_good _ hi.1) (fun h => zTB_good w h)), List.mem_cons_self⟩, C.2.2.2.2.2.1 _ hi.1, C.2.2.2.2.2.1 _ hi.2.1, hi.2.2.1, zg_lenOf hi.2.2.2, C.2.2.2.2.2.1 _ hl, C.2.2.2.2.2.1 _ hs⟩
  exact zg_after C hD hS hL (vx_runSX (As := As.map (zv g)) (rest := S.map (zv g)) (zg_fix C) hm' hcw hq rfl (by simpa using hn) hL.1 (zrev g As S) (by rw [zsum]; show 2 * 0 + _ ≤ 8; omega) d hc) hc (fun E N' h => by cases h) (fun r N' h => by cases h; exact kk)
/-- more room taken than need be -/
theorem zg_more {ce' sl' : Nat} (h1 : ce ≤ ce') (h2 : sl ≤ sl') (h : Zg g μ mc ms ce' sl' B pc L S M) : Zg g μ mc ms ce sl B pc L S M :=
  fun p e s m args below meth c H locs ls sz C hP hD hS hL => W.widen h1 h2 (h p e s m args below meth c H locs ls sz C hP hD hS hL)
end ZGD
/-- which row of the table takes E, thrown at pI; h: its handler -/
def zcatch (hh : List (Nat × Nat × Nat × Nat)) (E : String) (pI h : Nat) : Prop := ∃ (pre suf : List (Nat × Nat × Nat × Nat)) (a b ct : Nat), hh = pre ++ (a, b, h, ct) :: suf ∧ (a ≤ pI ∧ pI < b) ∧ ct ≠ 0 ∧ Cond.classLink RL ct E ∈ zTB ∧ Cond.castable E E ∈ zCW ∧
  (∀ z ∈ pre, z.2.2.2 ≠ 0 ∧ Cond.classLink RL z.2.2.2 "java/lang/IllegalArgumentException" ∈ zTB ∧ (E = "java/lang/IllegalStateException" ∨ E = "java/util/NoSuchElementException"))
/-- a handler that answers k -/
def zhnd (cc : ByteArray) (nL h : Nat) (k : Int32) : Prop := ∃ ix : Nat, Cond.constant RL ix k ∈ zTB ∧ ((∃ i, i < nL ∧ decode cc h = .ok (.astore i, 2) ∧ decode cc (h + 2) = .ok (.ldc ix, 2) ∧ decode cc (h + 4) = .ok (.ireturn, 1)) ∨
  (∃ i : Fin 4, (i : Nat) < nL ∧ decode cc h = .ok (.astore_n i, 1) ∧ decode cc (h + 1) = .ok (.ldc ix, 2) ∧ decode cc (h + 3) = .ok (.ireturn, 1)))
/-- a method of the law, at its start -/
def zhC (g : ZG) (μ : MI) (hh : List (Nat × Nat × Nat × Nat)) (p : Program) (s : State) (m : MethodId) (args : Array Value) (meth : Method) (c : Code) : Prop :=
  CallFix p m c μ.2.1 μ.2.2.1 s args zTB RL ∧ meth.sig.returnType = some .int ∧ meth.locks = false ∧ c.exceptionTable.toList = tableOf hh ∧ zS g (zA g s.heap.size) s
theorem zA_in {g : ZG} {M : Mem} {A0 : Nat → Prop} {H0 H : Heap} {locs : List Loc} (hA : ∀ q, H0.size ≤ q → A0 q) (hD : va_D A0 (zws g M)) (hS : va_S A0 H0 H locs) : ∀ q, zA g H.size q → A0 q := by
  rintro q (⟨k, x, hx, rfl⟩ | hq)
  · exact hD.2 k _ (zws_at (M := M) hx)
  · exact hA q (Nat.le_trans hS.1 hq)
section ZH
variable {p : Program} {e : Env} {R : Room} {s : State} {m : MethodId} {args : Array Value} {below : List Frame} {meth : Method} {c : Code} {H : Heap} {locs : List Loc} {ce sl : Nat} {Q : State → Prop}
variable {g : ZG} {μ ν : MI} {A0 : Nat → Prop} {cc : ByteArray} {nL n idx k ci mc' ms' pc : Nat} {M N : Mem} {B' : ZR} {As : List SV} {rest : List Value} {ls : Array Slot} {st0 : List Value} {hh : List (Nat × Nat × Nat × Nat)} {kr : Int32} {lv : List (Nat × Value)}
theorem zh_pre (h0 : zS g A0 s) (hP : va_P g.2.1 vwCl (zws g M) H) (hD : va_D A0 (zws g M)) (hS : va_S A0 s.heap H locs) (av : List Value) :
    FrameBlind (va_Pc av (zPre g M H.size)) ∧ ∀ U : State, U.heap = H → s.WarmedH U.vm → va_Pc av (zPre g M H.size) av.toArray U := by
  obtain ⟨hK, hE, hA⟩ := h0
  refine ⟨fun a U gf mk q => ⟨q.1, q.2.1, q.2.2.1, q.2.2.2.1, zK.same (s := U) (U := U.calling gf mk a) rfl q.2.2.2.2.1, zE.warm (s := U) (U := U.calling gf mk a) (State.WarmedH.refl U) q.2.2.2.2.2⟩, fun U hU hW => ⟨rfl, by rw [hU], by rw [hU]; exact hP, ⟨hD.1, fun _ _ _ => trivial⟩, zK.warm hW hK, ?_⟩⟩
  have h1 : zE A0 s H := hE.kept hS.2.1
  have h2 : zE (zA g H.size) s H := h1.narrow (zA_in hA hD hS)
  rw [hU]
  exact zE.warm hW h2
theorem zh_callB (S : CallFix p m c cc nL s args zTB RL) (hi : zin ν n) (hf : ν.2.2.2.2.1 + 1 ≤ R.frames ∧ 8 + (ν.2.2.1 + 11) + ν.2.2.2.2.2 ≤ R.locals) (hl : Cond.methodLink RL idx ν.1 ∈ zTB) :
    CallB R s args RL idx ν.1 ν.2.1 ν.2.2.1 ν.2.2.2.1 (zwm ν) (zRm ν mc' ms') mc' ms' n :=
  ⟨rfl, rfl, hf.1, hf.2, pay_in S.2.2.2.2 (fun w hw => (List.mem_cons.mp hw).elim (fun e => by rw [e]; exact zTB_good _ hi.1) (fun h => zTB_good w h)), List.mem_cons_self, S.2.2.2.2 _ hi.1, S.2.2.2.2 _ hi.2.1, hi.2.2.1, zg_lenOf hi.2.2.2, S.2.2.2.2 _ hl⟩
/-- a call of a method of the class, which returns or throws -/
theorem zh_callV {fs : List (Option Nat)} {q : vw_C} (S : CallFix p m c cc nL s args zTB RL) (h0 : zS g A0 s) (hP : va_P g.2.1 vwCl (zws g M) H) (hD : va_D A0 (zws g M)) (hS : va_S A0 s.heap H locs)
    (d : decode cc pc = .ok (.invokevirtual idx, 3)) (hm : Zc g ν mc' ms' (.inr k :: As) M B') (hl : Cond.methodLink RL idx ν.1 ∈ zTB) (hs : Cond.instanceMethod ν.1 ∈ zTB) (hse : Cond.selects q.1 ν.1 ν.1 ∈ zTB) (hk : g.2.2.2.2[k]? = some (.inl (ci, fs))) (hq0 : vwCl[ci]? = some q) (hi : zin ν n) (hn : As.length = n)
    (hf : ν.2.2.2.2.1 + 1 ≤ R.frames ∧ 8 + (ν.2.2.1 + 11) + ν.2.2.2.2.2 ≤ R.locals) (hls : ls.size = nL) (hst : st0 = (As.map (zv g)).reverse ++ Value.ref (g.2.2.2.1 k) :: rest) (hW : (rest.map fun v => v.category).sum ≤ 8) (hc : ce + mc' ≤ R.cells ∧ sl + ms' ≤ R.slots)
    (kx : ∀ (E : String) (N : Mem) (q9 : Addr) (c9 : Cell) (H1 : Heap) (locs1 : List Loc), B' = (.inr E, N) → va_P g.2.1 vwCl (zws g N) H1 → (∀ q : Nat, q < H.size → ¬ zA g H.size q → H1[q]? = H[q]?) → va_S A0 s.heap H1 locs1 → H1[q9]? = some c9 → c9.vm = .none → s.vm.findClass E = some c9.cls → vx_W p g.1 e R s m args below meth c H1 locs1 (ce + mc') (sl + ms') Q (F0 m pc ls rest) q9)
    (kk : ∀ (r : Option Int32) (N : Mem) (H1 : Heap) (locs1 : List Loc), B' = (.inl r, N) → va_P g.2.1 vwCl (zws g N) H1 → (∀ q : Nat, q < H.size → ¬ zA g H.size q → H1[q]? = H[q]?) → va_S A0 s.heap H1 locs1 → W p g.1 e R s m args below meth c H1 locs1 (ce + mc') (sl + ms') Q (F0 m (pc + 3) ls ((r.map Value.int).toList ++ rest))) :
    W p g.1 e R s m args below meth c H locs ce sl Q (F0 m pc ls st0) := by
  have hq := zh_pre h0 hP hD hS ((.inr k :: As).map (zv g))
  have hA : ∀ q, zA g H.size q → A0 q := zA_in h0.2.2 hD hS
  have hr := vx_runV (e := e) (below := below) (meth := meth) (locs := locs) (cells := ce) (slots := sl) (g := F0 m pc ls st0) (C := q.1) (b := g.2.2.2.1 k) (As := As.map (zv g)) (rest := rest) S (hm H.size) ⟨zh_callB S hi hf hl, S.2.2.2.2 _ hs, S.2.2.2.2 _ hse⟩ ⟨hq.1, va_recv h0.1.1 hP hq0 (zws_at hk), hq.2⟩ rfl (by simpa using hn) hls hst (by show 2 * 0 + _ ≤ 8; omega) d hc
  intro T hT X
  rcases hr T hT X with ⟨v, st₀, t, T', L', h0', X', hL', e1, e2, ⟨⟨r, N, hB, hv, hP1⟩, hF⟩, st⟩ | ⟨q9, st₀, t, T', L', E, c9, h0', X', hL', e1, e2, ⟨⟨N, hB, hP1⟩, hF⟩, hce, hcv, hcl, st⟩
  · cases hv
    obtain ⟨k1, k2, k3⟩ := vx_keep h0' e1 hS (fun q _ h => hA q h) hA hL' hF
    obtain ⟨t2, a1, b1⟩ := kk r N T'.heap (locs ++ L') hB (by rw [e1]; exact hP1) k2 k3 T' rfl X'
    exact ⟨t2, st t2 a1, b1⟩
  · obtain ⟨k1, k2, k3⟩ := vx_keep h0' e1 hS (fun q _ h => hA q h) hA hL' hF
    obtain ⟨t2, a1, b1⟩ := kx E N q9 c9 T'.heap (locs ++ L') hB (by rw [e1]; exact hP1) k2 k3 (by rw [e1]; exact hce) hcv hcl T' rfl X'
    exact ⟨t2, st.trans a1, b1⟩
theorem zh_ret0 (C : zhC g μ hh p s m args meth c) (hP : va_P g.2.1 vwCl (zws g N) H) (hS : va_S (zA g s.heap.size) s.heap H locs) (d1 : decode μ.2.1 pc = .ok (.ireturn, 1)) (hc : ce ≤ 1 ∧ sl ≤ 6) :
    W p g.1 e R s m args below meth c H locs ce sl (vx_MQ below (zQ g (zA g s.heap.size) (.inl (some kr), N)) zhX args s 1 6 (zA g s.heap.size)) (F0 m pc ls [.int kr]) := by
  obtain ⟨S, hr, hlk, -⟩ := C
  refine W.widen (k := 1) (n := 6) hc.1 hc.2 (vx_ret ?_)
  exact W.zret (v := kr) S.1 S.2.1 hr rfl (fun t ht hW => ⟨⟨some kr, N, rfl, rfl, by rw [ht]; exact hP⟩, hS.F ht⟩) hS.2.2 d1 hlk
theorem zh_ret {nn : Int} (C : zhC g μ hh p s m args meth c) (hP : va_P g.2.1 vwCl (zws g N) H) (hS : va_S (zA g s.heap.size) s.heap H locs) (d0 : decode μ.2.1 pc = .ok (.iconst nn, 1)) (hk : Int32.ofInt nn = kr) (d1 : decode μ.2.1 (pc + 1) = .ok (.ireturn, 1)) (hc : ce ≤ 1 ∧ sl ≤ 6) :
    W p g.1 e R s m args below meth c H locs ce sl (vx_MQ below (zQ g (zA g s.heap.size) (.inl (some kr), N)) zhX args s 1 6 (zA g s.heap.size)) (F0 m pc ls []) :=
  lv_iconst (v := kr) C.1.1 C.1.2.1 d0 hk (zh_ret0 C hP hS d1 hc)
theorem zh_retK {ix : Nat} (C : zhC g μ hh p s m args meth c) (hP : va_P g.2.1 vwCl (zws g N) H) (hS : va_S (zA g s.heap.size) s.heap H locs) (hk : Cond.constant RL ix kr ∈ zTB) (d0 : decode μ.2.1 pc = .ok (.ldc ix, 2)) (d1 : decode μ.2.1 (pc + 2) = .ok (.ireturn, 1)) (hc : ce ≤ 1 ∧ sl ≤ 6) :
    W p g.1 e R s m args below meth c H locs ce sl (vx_MQ below (zQ g (zA g s.heap.size) (.inl (some kr), N)) zhX args s 1 6 (zA g s.heap.size)) (F0 m pc ls []) :=
  lv_ldc C.1.1 C.1.2.1 C.1.2.2.2.1 (C.1.2.2.2.2 _ hk) d0 (zh_ret0 C hP hS d1 hc)
theorem zh_hnd {h : Nat} {q9 : Addr} (C : zhC g μ hh p s m args meth c) (hP : va_P g.2.1 vwCl (zws g N) H) (hS : va_S (zA g s.heap.size) s.heap H locs) (hl : lv_has ls μ.2.2.1 lv) (hH : zhnd μ.2.1 μ.2.2.1 h kr) (hc : ce ≤ 1 ∧ sl ≤ 6) :
    W p g.1 e R s m args below meth c H locs ce sl (vx_MQ below (zQ g (zA g s.heap.size) (.inl (some kr), N)) zhX args s 1 6 (zA g s.heap.size)) (F0 m h ls [.ref q9]) := by
  obtain ⟨ix, hk, ⟨i, hi, d0, d1, d2⟩ | ⟨i, hi, d0, d1, d2⟩⟩ := hH
  · exact lv_astore C.1.1 C.1.2.1 d0 hl hi rfl (fun ls' _ => zh_retK C hP hS hk d1 d2 hc)
  · exact lv_astore_n C.1.1 C.1.2.1 d0 rfl hl hi rfl (fun ls' _ => zh_retK C hP hS hk d1 d2 hc)
theorem zh_catch {E : String} {pI h : Nat} {q9 : Addr} {c9 : Cell} (C : zhC g μ hh p s m args meth c) (hz : zcatch hh E pI h) (hcell : H[q9]? = some c9) (hv : c9.vm = .none) (hcl : s.vm.findClass E = some c9.cls)
    (kk : W p g.1 e R s m args below meth c H locs ce sl Q (F0 m h ls [.ref q9])) : vx_W p g.1 e R s m args below meth c H locs ce sl Q (F0 m pI ls rest) q9 := by
  obtain ⟨S, -, -, htab, ⟨hK, -⟩⟩ := C
  obtain ⟨pre, suf, a, b, ct, rfl, hr, h0, hlk, hca, hpre⟩ := hz
  refine vx_catch (own := RL) (name := E) S.2.2.2.1 (tableOf pre) ⟨a, b, h, ct⟩ (tableOf suf) (by rw [htab]; simp [tableOf]) ?_ (by simp [covers, hr]) h0 (S.2.2.2.2 _ hlk) (zCW_use (fun w hw => hK.2.2.1 w hw) _ hca) hcell hv hcl kk
  intro z hz
  obtain ⟨y, hy, rfl⟩ := List.mem_map.mp hz
  obtain ⟨g1, g2, g3⟩ := hpre y hy
  exact Or.inr ⟨g1, _, S.2.2.2.2 _ g2, g3.elim (fun q => by rw [q]; exact hK.2.2.2.1.1) (fun q => by rw [q]; exact hK.2.2.2.1.2)⟩
/-- the call: caught, or on with the answer -/
theorem zh_run {fs : List (Option Nat)} {q : vw_C} (C : zhC g μ hh p s m args meth c) (hP : va_P g.2.1 vwCl (zws g M) s.heap) (hD : va_D (zA g s.heap.size) (zws g M))
    (d : decode μ.2.1 pc = .ok (.invokevirtual idx, 3)) (hm : Zc g ν 1 6 (.inr k :: As) M B') (hlk : Cond.methodLink RL idx ν.1 ∈ zTB) (hs : Cond.instanceMethod ν.1 ∈ zTB) (hse : Cond.selects q.1 ν.1 ν.1 ∈ zTB) (hk : g.2.2.2.2[k]? = some (.inl (ci, fs))) (hq0 : vwCl[ci]? = some q) (hi : zin ν n) (hn : As.length = n)
    (hf : ν.2.2.2.2.1 + 1 ≤ R.frames ∧ 8 + (ν.2.2.1 + 11) + ν.2.2.2.2.2 ≤ R.locals) (hl : lv_has ls μ.2.2.1 lv) (hst : st0 = (As.map (zv g)).reverse ++ Value.ref (g.2.2.2.1 k) :: rest) (hW : (rest.map fun v => v.category).sum ≤ 8) (hc : 0 + 1 ≤ R.cells ∧ 0 + 6 ≤ R.slots)
    (hx : ∀ (E : String) (N' : Mem), B' = (.inr E, N') → (∃ h, zcatch hh E pc h ∧ zhnd μ.2.1 μ.2.2.1 h kr) ∧ N' = N)
    (kk : ∀ (r : Option Int32) (N' : Mem) (H1 : Heap) (locs1 : List Loc), B' = (.inl r, N') → va_P g.2.1 vwCl (zws g N') H1 → va_S (zA g s.heap.size) s.heap H1 locs1 → W p g.1 e R s m args below meth c H1 locs1 1 6 (vx_MQ below (zQ g (zA g s.heap.size) (.inl (some kr), N)) zhX args s 1 6 (zA g s.heap.size)) (F0 m (pc + 3) ls ((r.map Value.int).toList ++ rest))) :
    W p g.1 e R s m args below meth c s.heap [] 0 0 (vx_MQ below (zQ g (zA g s.heap.size) (.inl (some kr), N)) zhX args s 1 6 (zA g s.heap.size)) (F0 m pc ls st0) := by
  refine zh_callV C.1 C.2.2.2.2 hP hD va_S.rf d hm hlk hs hse hk hq0 hi hn hf hl.1 hst hW hc (fun E N' q9 c9 H1 locs1 hB hP1 hk1 hS1 hcell hv hcl => ?_) (fun r N' H1 locs1 hB hP1 hk1 hS1 => ?_)
  · obtain ⟨⟨h, hz, hh'⟩, rfl⟩ := hx E N' hB
    exact zh_catch C hz hcell hv hcl (zh_hnd C hP1 hS1 hl hh' ⟨by omega, by omega⟩)
  · exact kk r N' H1 locs1 hB hP1 hS1
/-- from the entry -/
theorem Zd.of {as : List SV} (hy : plainName μ.1.cls = true) (hR : μ.1.cls = RL) (hin : zinH μ hh n) (hr : μ.2.2.2.1 = some .int) (hn : (lg_sl (as.map (zv g))).length ≤ μ.2.2.1)
    (h : ∀ (p : Program) (e : Env) (s : State) (m : MethodId) (below : List Frame) (meth : Method) (c : Code) (ls : Array Slot), zhC g μ hh p s m (as.map (zv g)).toArray meth c → va_P g.2.1 vwCl (zws g M) s.heap → va_D (zA g s.heap.size) (zws g M) → lv_has ls μ.2.2.1 (lv_args 0 (as.map (zv g))) →
      W p g.1 e (zRm μ 1 6) s m (as.map (zv g)).toArray below meth c s.heap [] 0 0 (vx_MQ below (zQ g (zA g s.heap.size) (.inl (some kr), N)) zhX (as.map (zv g)).toArray s 1 6 (zA g s.heap.size)) (F0 m 0 ls [])) : Zd g μ hh as M kr N := by
  intro sz
  refine vx_ofWH (cc := μ.2.1) (maxL := μ.2.2.1) (ret := μ.2.2.2.1) (hh := hh) hy rfl ?_
  intro p e s m args' below meth c s₁ Bd hml hv
  obtain ⟨rfl, hsz, hP, hD, hK, hE⟩ := hv
  have hts := atoms_spec (ws := zhw μ hh) Bd.pre
  have htab := vx_table (x := μ.1) Bd (hts _ List.mem_cons_self)
  subst hsz
  have hl := lv_entry (as.map (zv g)) (n := μ.2.2.1) hn
  rw [lg_entry_eq]
  generalize (lg_sl (as.map (zv g)) ++ List.replicate (μ.2.2.1 - (lg_sl (as.map (zv g))).length) Slot.unset).toArray = ls at hl ⊢
  have hown : s.vm.findClass μ.1.cls = some m.cls := findClass_of_methodNamed Bd.named
  exact h p e s m below meth c ls ⟨⟨Bd.exec, Bd.bytes, hml, by rw [← hR]; exact hown, fun w hw => hts w (List.mem_cons_of_mem _ hw)⟩, by rw [← hr]; exact Bd.returns, Bd.notSynchronized, htab, ⟨hK, hE, fun q hq => Or.inr hq⟩⟩ hP (zD_self hD) hl
end ZH
/-- the codes -/
def eK (e : String) : Int32 := if e = "java/lang/IllegalArgumentException" then -9999002 else if e = "java/lang/IllegalStateException" then -9999003 else -9999004
def eI (r : Int32 ⊕ String) : Int32 := Sum.elim id eK r
def eB (r : Bool ⊕ String) : Int32 := Sum.elim bI eK r
def eV (r : Unit ⊕ String) : Int32 := Sum.elim (fun _ => 0) eK r
end
