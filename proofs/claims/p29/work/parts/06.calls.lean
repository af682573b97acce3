/-! ===== CALLS AND THROWS ===== -/
def zin (μ : MI) (n : Nat) : Prop := Cond.code μ.1 μ.2.1 μ.2.2.1 μ.2.2.2.1 ∈ zTB ∧ Cond.initialized μ.1.cls ∈ zTB ∧ (μ.1.cls ≠ "java/lang/invoke/MethodHandle" ∧ μ.1.cls ≠ "java/lang/invoke/VarHandle") ∧ (parseMethodDescriptor μ.1.desc).map (fun d => d.parameters.length) = some n
def zfit (μ ν : MI) : Prop := ν.2.2.2.2.1 + 1 ≤ μ.2.2.2.2.1 ∧ 8 + (ν.2.2.1 + 11) + ν.2.2.2.2.2 ≤ μ.2.2.2.2.2
theorem zsum (g : ZG) (S : List SV) : ((S.map (zv g)).map fun v => v.category).sum = S.length := by
  induction S with
  | nil => rfl
  | cons v r ih => simp only [List.map_cons, List.sum_cons, zcat, List.length_cons] at ih ⊢; omega
theorem zrev (g : ZG) (As S : List SV) : (As.reverse ++ S).map (zv g) = (As.map (zv g)).reverse ++ S.map (zv g) := by simp
section ZGC
variable {g : ZG} {μ ν : MI} {mc ms ce sl mc' ms' : Nat} {B B' : ZR} {pc : Nat} {L : List (Option SV)} {S S0 As : List SV} {M : Mem}
theorem zg_pre {s : State} {H : Heap} {locs : List Loc} {sz : Nat} (hK : zK g s) (hsz : s.heap.size = sz) (hE : zE (zA g sz) s s.heap) (hP : va_P g.2.1 vwCl (zws g M) H) (hD : va_D (zA g sz) (zws g M)) (hS : va_S (zA g sz) s.heap H locs) (av : List Value) :
    FrameBlind (va_Pc av (zPre g M H.size)) ∧ ∀ U : State, U.heap = H → s.WarmedH U.vm → va_Pc av (zPre g M H.size) av.toArray U := by
  refine ⟨fun a U gf mk q => ⟨q.1, q.2.1, q.2.2.1, q.2.2.2.1, zK.same (s := U) (U := U.calling gf mk a) rfl q.2.2.2.2.1, zE.warm (s := U) (U := U.calling gf mk a) (State.WarmedH.refl U) q.2.2.2.2.2⟩, fun U hU hW => ⟨rfl, by rw [hU], by rw [hU]; exact hP, ⟨hD.1, fun _ _ _ => trivial⟩, zK.warm hW hK, ?_⟩⟩
  have h1 : zE (zA g sz) s H := hE.kept hS.2.1
  have h2 : zE (zA g H.size) s H := h1.narrow (zA_mono (by rw [← hsz]; exact hS.1))
  rw [hU]
  exact zE.warm hW h2
theorem zg_after {p : Program} {e : Env} {s : State} {m : MethodId} {args : Array Value} {below : List Frame} {meth : Method} {c : Code} {H : Heap} {locs : List Loc} {ls : Array Slot} {sz : Nat} {st0 : List Value} {a : Array Value}
    (C : zCx g μ p s m args meth c sz) (hD : va_D (zA g sz) (zws g M)) (hS : va_S (zA g sz) s.heap H locs) (hL : zL g ls μ.2.2.1 L)
    (hr : vx_Run p g.1 e (zRm μ mc ms) s m args below meth c H locs ce sl mc' ms' (F0 m pc ls st0) (S.map (zv g)) (zQ g (zA g H.size) B' a) (zX g (zA g H.size) B') (zA g H.size))
    (hc : ce + mc' ≤ mc ∧ sl + ms' ≤ ms) (kx : ∀ (E : String) (N : Mem), B' = (.inr E, N) → B = (.inr E, N))
    (kk : ∀ (r : Option Int32) (N : Mem), B' = (.inl r, N) → Zg g μ mc ms (ce + mc') (sl + ms') B (pc + 3) L (r.toList.map Sum.inl ++ S) N) :
    W p g.1 e (zRm μ mc ms) s m args below meth c H locs ce sl (vx_MQ below (zQ g (zA g sz) B) (zX g (zA g sz) B) args s mc ms (zA g sz)) (F0 m pc ls st0) := by
  intro T hT X
  have hA : ∀ q, zA g H.size q → zA g sz q := zA_mono (by rw [← C.2.2.2.2.2.2.2.2.2.1]; exact hS.1)
  rcases hr T hT X with ⟨v, st₀, t, T', L', h0, X', hL', e1, e2, ⟨⟨r, N, hB, hv, hP1⟩, hF⟩, st⟩ | ⟨q, st₀, t, T', L', E, ce', h0, X', hL', e1, e2, ⟨⟨N, hB, hP1⟩, hF⟩, hce, hcv, hcl, st⟩
  · cases hv
    obtain ⟨k1, k2, k3⟩ := vx_keep h0 e1 hS (fun q _ h => hA q h) hA hL' hF
    have hP2 : va_P g.2.1 vwCl (zws g N) T'.heap := by rw [e1]; exact hP1
    obtain ⟨t2, a1, b1⟩ := kk r N hB p e s m args below meth c T'.heap (locs ++ L') ls sz C hP2 (zD_any hD) k3 hL T' rfl X'
    refine ⟨t2, st t2 ?_, b1⟩
    cases r <;> exact a1
  · obtain ⟨k1, k2, k3⟩ := vx_keep h0 e1 hS (fun q _ h => hA q h) hA hL' hF
    have hP2 : va_P g.2.1 vwCl (zws g N) T'.heap := by rw [e1]; exact hP1
    have ho : vx_W p g.1 e (zRm μ mc ms) s m args below meth c T'.heap (locs ++ L') (ce + mc') (sl + ms') (vx_MQ below (zQ g (zA g sz) B) (zX g (zA g sz) B) args s mc ms (zA g sz)) (F0 m pc ls (S.map (zv g))) q :=
      vx_out (ce := ce') (E := E) (fun x hx => (C.2.2.2.2.2.2.2.1 x hx).elim) C.2.2.2.2.2.2.1 (by rw [e1]; exact hce) hcv hcl (fun t' ht' _ => ⟨⟨N, kx E N hB, by rw [ht']; exact hP2⟩, va_S.F k3 ht'⟩) k3.2.2 hc.1 hc.2
    obtain ⟨t2, a1, b1⟩ := ho T' rfl X'
    exact ⟨t2, st.trans a1, b1⟩
theorem zg_fix {p : Program} {s : State} {m : MethodId} {args : Array Value} {meth : Method} {c : Code} {sz : Nat} (C : zCx g μ p s m args meth c sz) : CallFix p m c μ.2.1 μ.2.2.1 s args zTB μ.1.cls := ⟨C.1, C.2.1, C.2.2.2.1, C.2.2.2.2.1, C.2.2.2.2.2.1⟩
theorem zg_pay {p : Program} {s : State} {m : MethodId} {args : Array Value} {meth : Method} {c : Code} {sz n : Nat} (C : zCx g μ p s m args meth c sz) (hi : zin ν n) : ∀ w ∈ zwm ν, ∀ (a' : Array Value) (U : State), s.WarmedH U.vm → w.before a' U = true :=
  pay_in C.2.2.2.2.2.1 (fun w hw => (List.mem_cons.mp hw).elim (fun e => by rw [e]; exact zTB_good _ hi.1) (fun h => zTB_good w h))
theorem zg_lenOf {n : Nat} {y : MethodName} (h : (parseMethodDescriptor y.desc).map (fun d => d.parameters.length) = some n) : ∀ sig, parseMethodDescriptor y.desc = some sig → n = sig.parameters.length := by
  intro sig hs
  rw [hs] at h
  exact (Option.some.inj h).symm
theorem zg_callB {p : Program} {s : State} {m : MethodId} {args : Array Value} {meth : Method} {c : Code} {sz n idx : Nat} (C : zCx g μ p s m args meth c sz) (hi : zin ν n) (hf : zfit μ ν) (hl : Cond.methodLink μ.1.cls idx ν.1 ∈ zTB) :
    CallB (zRm μ mc ms) s args μ.1.cls idx ν.1 ν.2.1 ν.2.2.1 ν.2.2.2.1 (zwm ν) (zRm ν mc' ms') mc' ms' n :=
  ⟨rfl, rfl, hf.1, hf.2, zg_pay C hi, List.mem_cons_self, C.2.2.2.2.2.1 _ hi.1, C.2.2.2.2.2.1 _ hi.2.1, hi.2.2.1, zg_lenOf hi.2.2.2, C.2.2.2.2.2.1 _ hl⟩
theorem zg_callN {p : Program} {s : State} {m : MethodId} {args : Array Value} {meth : Method} {c : Code} {sz n idx : Nat} {host : String} (C : zCx g μ p s m args meth c sz) (hi : zin ν n) (hf : zfit μ ν) (hl : Cond.methodLinkNest μ.1.cls idx ν.1 host ∈ zNW) :
    va_CN (zRm μ mc ms) s args μ.1.cls idx ν.1 host ν.2.1 ν.2.2.1 ν.2.2.2.1 (zwm ν) (zRm ν mc' ms') mc' ms' n :=
  ⟨⟨rfl, rfl, hf.1, hf.2, zg_pay C hi, List.mem_cons_self⟩, C.2.2.2.2.2.1 _ hi.1, C.2.2.2.2.2.1 _ hi.2.1, hi.2.2.1, zg_lenOf hi.2.2.2, va_Nw.use rfl (C.2.2.2.2.2.2.2.2.1.2.1 _ hl)⟩
theorem zg_callS {n idx : Nat} (d : decode μ.2.1 pc = .ok (.invokestatic idx, 3)) (hm : Zc g ν mc' ms' As M B') (hl : Cond.methodLink μ.1.cls idx ν.1 ∈ zTB) (hs : Cond.static ν.1 ∈ zTB) (hi : zin ν n) (hn : As.length = n) (hf : zfit μ ν) (hc : ce + mc' ≤ mc ∧ sl + ms' ≤ ms) (hS0 : As.reverse ++ S = S0) (hw : S.length ≤ 8)
    (kx : ∀ (E : String) (N : Mem), B' = (.inr E, N) → B = (.inr E, N)) (kk : ∀ (r : Option Int32) (N : Mem), B' = (.inl r, N) → Zg g μ mc ms (ce + mc') (sl + ms') B (pc + 3) L (r.toList.map Sum.inl ++ S) N) : Zg g μ mc ms ce sl B pc L S0 M := by
  subst hS0
  intro p e s m args below meth c H locs ls sz C hP hD hS hL
  have hq := zg_pre C.2.2.2.2.2.2.2.2.1 C.2.2.2.2.2.2.2.2.2.1 C.2.2.2.2.2.2.2.2.2.2.1 hP hD hS (As.map (zv g))
  exact zg_after C hD hS hL (vx_runS (As := As.map (zv g)) (rest := S.map (zv g)) (zg_fix C) (hm H.size) ⟨zg_callB C hi hf hl, C.2.2.2.2.2.1 _ hs⟩ hq rfl (by simpa using hn) hL.1 (zrev g As S) (by rw [zsum]; show 2 * 0 + _ ≤ 8; omega) d hc) hc kx kk
theorem zg_callSN {n idx : Nat} {host : String} (d : decode μ.2.1 pc = .ok (.invokestatic idx, 3)) (hm : Zc g ν mc' ms' As M B') (hl : Cond.methodLinkNest μ.1.cls idx ν.1 host ∈ zNW) (hs : Cond.static ν.1 ∈ zTB) (hi : zin ν n) (hn : As.length = n) (hf : zfit μ ν) (hc : ce + mc' ≤ mc ∧ sl + ms' ≤ ms) (hS0 : As.reverse ++ S = S0) (hw : S.length ≤ 8)
    (kx : ∀ (E : String) (N : Mem), B' = (.inr E, N) → B = (.inr E, N)) (kk : ∀ (r : Option Int32) (N : Mem), B' = (.inl r, N) → Zg g μ mc ms (ce + mc') (sl + ms') B (pc + 3) L (r.toList.map Sum.inl ++ S) N) : Zg g μ mc ms ce sl B pc L S0 M := by
  subst hS0
  intro p e s m args below meth c H locs ls sz C hP hD hS hL
  have hq := zg_pre C.2.2.2.2.2.2.2.2.1 C.2.2.2.2.2.2.2.2.2.1 C.2.2.2.2.2.2.2.2.2.2.1 hP hD hS (As.map (zv g))
  exact zg_after C hD hS hL (vx_runSN (As := As.map (zv g)) (rest := S.map (zv g)) (zg_fix C) (hm H.size) ⟨zg_callN C hi hf hl, C.2.2.2.2.2.1 _ hs, trivial⟩ hq rfl (by simpa using hn) hL.1 (zrev g As S) (by rw [zsum]; show 2 * 0 + _ ≤ 8; omega) d hc) hc kx kk
theorem zg_callV {n idx k ci : Nat} {fs : List (Option Nat)} {q : vw_C} (d : decode μ.2.1 pc = .ok (.invokevirtual idx, 3)) (hm : Zc g ν mc' ms' (.inr k :: As) M B') (hl : Cond.methodLink μ.1.cls idx ν.1 ∈ zTB) (hs : Cond.instanceMethod ν.1 ∈ zTB) (hse : Cond.selects q.1 ν.1 ν.1 ∈ zTB) (hk : g.2.2.2.2[k]? = some (.inl (ci, fs))) (hq0 : vwCl[ci]? = some q) (hi : zin ν n) (hn : As.length = n) (hf : zfit μ ν) (hc : ce + mc' ≤ mc ∧ sl + ms' ≤ ms) (hS0 : As.reverse ++ .inr k :: S = S0) (hw : S.length ≤ 8)
    (kx : ∀ (E : String) (N : Mem), B' = (.inr E, N) → B = (.inr E, N)) (kk : ∀ (r : Option Int32) (N : Mem), B' = (.inl r, N) → Zg g μ mc ms (ce + mc') (sl + ms') B (pc + 3) L (r.toList.map Sum.inl ++ S) N) : Zg g μ mc ms ce sl B pc L S0 M := by
  subst hS0
  intro p e s m args below meth c H locs ls sz C hP hD hS hL
  have hq := zg_pre C.2.2.2.2.2.2.2.2.1 C.2.2.2.2.2.2.2.2.2.1 C.2.2.2.2.2.2.2.2.2.2.1 hP hD hS ((.inr k :: As).map (zv g))
  exact zg_after C hD hS hL (vx_runV (C := q.1) (b := g.2.2.2.1 k) (As := As.map (zv g)) (rest := S.map (zv g)) (zg_fix C) (hm H.size) ⟨zg_callB C hi hf hl, C.2.2.2.2.2.1 _ hs, C.2.2.2.2.2.1 _ hse⟩ ⟨hq.1, va_recv C.2.2.2.2.2.2.2.2.1.1 hP hq0 (zws_at hk), hq.2⟩ rfl (by simpa using hn) hL.1 (by rw [zrev]; rfl) (by rw [zsum]; show 2 * 0 + _ ≤ 8; omega) d hc) hc kx kk
/-- what a throw of a class needs of the tables -/
def zth (own : String) (ik ic : Nat) (cls : String) (names : List String) : Prop := Bundle.fit cls = true ∧ (∀ n ∈ names, Bundle.fit n = true) ∧ Cond.classLink own ik cls ∈ zTB ∧ Cond.initialized cls ∈ zTB ∧ (∀ w ∈ (vx_atS own ic cls names).filter goodWord, w ∈ zTB) ∧ (∀ w ∈ (vx_atS own ic cls names).filter (fun w => !goodWord w), w ∈ zCW) ∧ (∀ w ∈ Cond.classLink own ik cls :: Cond.initialized cls :: vx_atS own ic cls names, vx_ot w = true)
theorem zCW_use {args : Array Value} {s : State} (h : ∀ w ∈ zCW, va_Nw w s) : ∀ w ∈ zCW, w.before args s = true := by
  unfold zCW at h ⊢
  simp only [List.forall_mem_cons, List.not_mem_nil, false_imp_iff, implies_true, and_true] at h ⊢
  exact ⟨va_Nw.use rfl h.1, va_Nw.use rfl h.2.1, va_Nw.use rfl h.2.2.1, va_Nw.use rfl h.2.2.2.1, va_Nw.use rfl h.2.2.2.2.1, va_Nw.use rfl h.2.2.2.2.2⟩
theorem zg_throw {ik is ic : Nat} {cls text : String} {names : List String} (hl : g.1.stackTraces = false) (h : zth RX4 ik ic cls names) (ho : μ.1.cls = RX4) (hst : (is, text) ∈ zST)
    (d0 : decode μ.2.1 pc = .ok (.new ik, 3)) (d3 : decode μ.2.1 (pc + 3) = .ok (.dup, 1)) (d4 : decode μ.2.1 (pc + 4) = .ok (.ldc is, 2)) (d6 : decode μ.2.1 (pc + 6) = .ok (.invokespecial ic, 3)) (d9 : decode μ.2.1 (pc + 9) = .ok (.athrow, 1))
    (hR : names.length + 3 < μ.2.2.2.2.1) (hRl : S.length + (13 * (names.length + 1) + 43) ≤ μ.2.2.2.2.2) (hc : ce + 1 ≤ mc) (hs : sl + 6 ≤ ms) (hB : B = (.inr cls, M)) : Zg g μ mc ms ce sl B pc L S M := by
  intro p e s m args below meth c H locs ls sz C hP hD hS hL
  obtain ⟨h1, h2, h3, h4, h5, h6, h7⟩ := h
  obtain ⟨sa, hsa⟩ := C.2.2.2.2.2.2.2.2.1.2.2.2.2 _ hst
  have hat := vx_hat (fun w hw => C.2.2.2.2.2.1 _ (h5 w hw)) h6 (zCW_use (args := args) C.2.2.2.2.2.2.2.2.1.2.2.1)
  have hE := C.2.2.2.2.2.2.2.2.2.2.1
  have hsz := C.2.2.2.2.2.2.2.2.2.1
  exact vx_throwS (sa := sa) C.1 C.2.1 hl (by rw [← ho]; exact C.2.2.2.2.1) h1 h2 (C.2.2.2.2.2.1 _ h3) (C.2.2.2.2.2.1 _ h4) hsa hat h7 hE.1 hE.2 hS (by rw [hL.1]; exact C.2.2.2.1.symm) d0 d3 d4 d6 d9 (fun x hx => (C.2.2.2.2.2.2.2.1 x hx).elim) hR (by rw [zsum]; exact hRl) hc hs C.2.2.2.2.2.2.1
    (fun t _ hz hk => ⟨⟨M, hB, hP.kept (fun k q hq => hk q.1 (hP k q hq).lt)⟩, Nat.le_trans hS.1 hz, fun q q1 q2 => by rw [hk q (Nat.lt_of_lt_of_le q1 hS.1)]; exact hS.2.1 q q1 q2⟩) hS.2.2 hc hs
theorem zN_good : ∀ w ∈ (zN_at.filter vx_no).filter goodWord, w ∈ zTB := fun w hw => zTB_of ((by decide +kernel : ∀ w ∈ (zN_at.filter vx_no).filter goodWord, w ∈ lw_tbl) w hw) (List.mem_filter.mp hw).2
theorem zN_rest : ∀ w ∈ (zN_at.filter vx_no).filter (fun w => !goodWord w), w ∈ zCW := by decide +kernel
theorem zN_ot : ∀ w ∈ Cond.classLink RX4 110 zN_X :: Cond.initialized zN_X :: zN_at.filter vx_no, vx_ot w = true := by decide +kernel
theorem zN_w1 : Cond.classLink RX4 110 zN_X ∈ zTB := zm2 124 (by decide +kernel) rfl
theorem zN_w2 : Cond.initialized zN_X ∈ zTB := zm1 12 (by decide +kernel) rfl
/-- the same of NoSuchElementException, whose constructor passes on by the entry 13 -/
theorem zg_throwN {is : Nat} {text : String} (hl : g.1.stackTraces = false) (ho : μ.1.cls = RX4) (hst : (is, text) ∈ zST)
    (d0 : decode μ.2.1 pc = .ok (.new 110, 3)) (d3 : decode μ.2.1 (pc + 3) = .ok (.dup, 1)) (d4 : decode μ.2.1 (pc + 4) = .ok (.ldc is, 2)) (d6 : decode μ.2.1 (pc + 6) = .ok (.invokespecial 114, 3)) (d9 : decode μ.2.1 (pc + 9) = .ok (.athrow, 1))
    (hR : 5 < μ.2.2.2.2.1) (hRl : S.length + 82 ≤ μ.2.2.2.2.2) (hc : ce + 1 ≤ mc) (hs : sl + 6 ≤ ms) (hB : B = (.inr "java/util/NoSuchElementException", M)) : Zg g μ mc ms ce sl B pc L S M := by
  intro p e s m args below meth c H locs ls sz C hP hD hS hL
  obtain ⟨sa, hsa⟩ := C.2.2.2.2.2.2.2.2.1.2.2.2.2 _ hst
  have hat := vx_hat (L := zN_at.filter vx_no) (fun w hw => C.2.2.2.2.2.1 _ (zN_good w hw)) zN_rest (zCW_use (args := args) C.2.2.2.2.2.2.2.2.1.2.2.1)
  have hE := C.2.2.2.2.2.2.2.2.2.2.1
  exact zN_throw (sa := sa) C.1 C.2.1 hl (by rw [← ho]; exact C.2.2.2.2.1) (C.2.2.2.2.2.1 _ zN_w1) (C.2.2.2.2.2.1 _ zN_w2) hsa hat zN_ot hE.1 hE.2 hS (by rw [hL.1]; exact C.2.2.2.1.symm) d0 d3 d4 d6 d9 (fun x hx => (C.2.2.2.2.2.2.2.1 x hx).elim) hR (by rw [zsum]; exact hRl) hc hs C.2.2.2.2.2.2.1
    (fun t _ hz hk => ⟨⟨M, hB, hP.kept (fun k q hq => hk q.1 (hP k q hq).lt)⟩, Nat.le_trans hS.1 hz, fun q q1 q2 => by rw [hk q (Nat.lt_of_lt_of_le q1 hS.1)]; exact hS.2.1 q q1 q2⟩) hS.2.2 hc hs
end ZGC
