/-! ===== THE LAW'S METHODS: what they stand on, calls out of them ===== -/
section
/-- what a method of the law has at its start: the world's kinds, statics that nobody writes; fresh addresses may be written -/
def zS (g : ZG) (A0 : Nat → Prop) (s : State) : Prop := zK g s ∧ zE A0 s s.heap ∧ ∀ q, s.heap.size ≤ q → A0 q
def zNc (U : State) : Prop := va_Nc "java/lang/IllegalStateException" "java/lang/IllegalArgumentException" U ∧ va_Nc "java/util/NoSuchElementException" "java/lang/IllegalArgumentException" U
/-- the law's long array of one place, at o -/
def zlo (o : Nat) (cL : ClassId) (v : Int64) : Nat × va_E := (o, .inl (cL, 1, .inr (.inl (fun _ => v))))
def zhA (g : ZG) (o sz : Nat) : Nat → Prop := fun q => zA g sz q ∨ q = o
def zhPre (g : ZG) (o : Nat) (cL : ClassId) (M : Mem) (v : Int64) (sz : Nat) (U : State) : Prop := U.heap.size = sz ∧ va_P g.2.1 vwCl (zws g M ++ [zlo o cL v]) U.heap ∧ va_D (fun _ => True) (zws g M ++ [zlo o cL v]) ∧ zK g U ∧ va_K g.2.1 vwCl [(cL, .long)] U ∧ zNc U ∧ zE (zhA g o sz) U U.heap
def zhQ (g : ZG) (o : Nat) (cL : ClassId) (A : Nat → Prop) (k : Int32) (N : Mem) (v' : Int64) : Array Value → State → Outcome → State → Prop := fun _ st oc t => (oc = .returned (some (.int k)) ∧ va_P g.2.1 vwCl (zws g N ++ [zlo o cL v']) t.heap) ∧ va_F A st t
def zhX : String → State → State → Prop := fun _ _ _ => False
def zhw (μ : MI) (hh : List (Nat × Nat × Nat × Nat)) : List Cond := Cond.codeWith μ.1 μ.2.1 μ.2.2.1 μ.2.2.2.1 hh :: zTB
/-- a method of the law over the class's world and the long array -/
def Zh (g : ZG) (μ : MI) (hh : List (Nat × Nat × Nat × Nat)) (o : Nat) (cL : ClassId) (av : List Value) (M : Mem) (v : Int64) (k : Int32) (N : Mem) (v' : Int64) : Prop :=
  ∀ sz : Nat, vx_Met g.1 μ.1 (zhw μ hh) (zRm μ 1 6) (va_Pc av (zhPre g o cL M v sz)) (zhQ g o cL (zhA g o sz) k N v') zhX 1 6 (zhA g o sz)
def zinH (μ : MI) (hh : List (Nat × Nat × Nat × Nat)) (n : Nat) : Prop := Cond.codeWith μ.1 μ.2.1 μ.2.2.1 μ.2.2.2.1 hh ∈ zTB ∧ Cond.initialized μ.1.cls ∈ zTB ∧ (μ.1.cls ≠ "java/lang/invoke/MethodHandle" ∧ μ.1.cls ≠ "java/lang/invoke/VarHandle") ∧ (parseMethodDescriptor μ.1.desc).map (fun d => d.parameters.length) = some n
theorem zA_in {g : ZG} {M : Mem} {A0 : Nat → Prop} {H0 H : Heap} {locs : List Loc} (hA : ∀ q, H0.size ≤ q → A0 q) (hD : va_D A0 (zws g M)) (hS : va_S A0 H0 H locs) : ∀ q, zA g H.size q → A0 q := by
  rintro q (⟨k, x, hx, rfl⟩ | hq)
  · exact hD.2 k _ (zws_at (M := M) hx)
  · exact hA q (Nat.le_trans hS.1 hq)
theorem zP_l {D : va_G} {cl : List vw_C} {w1 w2 : va_W} {H : Heap} (h : va_P D cl (w1 ++ w2) H) : va_P D cl w1 H := by
  intro k q hk
  have hl : k < w1.length := (List.getElem?_eq_some_iff.mp hk).1
  exact h k q (by rw [List.getElem?_append_left hl]; exact hk)
theorem zP_r {D : va_G} {cl : List vw_C} {w1 w2 : va_W} {H : Heap} (h : va_P D cl (w1 ++ w2) H) : va_P D cl w2 H := by
  intro k q hk
  exact h (w1.length + k) q (by rw [List.getElem?_append_right (by omega)]; simpa using hk)
theorem zD_l {A : Nat → Prop} {w1 w2 : va_W} (h : va_D A (w1 ++ w2)) : va_D A w1 := by
  have g : ∀ (k : Nat) (q : Nat × va_E), w1[k]? = some q → (w1 ++ w2)[k]? = some q := by
    intro k q hk
    have hl : k < w1.length := (List.getElem?_eq_some_iff.mp hk).1
    rw [List.getElem?_append_left hl]; exact hk
  exact ⟨fun i j p q hp hq e => h.1 i j p q (g i p hp) (g j q hq) e, fun k q hk => h.2 k q (g k q hk)⟩
theorem zD_r {A : Nat → Prop} {w1 w2 : va_W} (h : va_D A (w1 ++ w2)) : va_D A w2 := by
  have g : ∀ (k : Nat) (q : Nat × va_E), w2[k]? = some q → (w1 ++ w2)[w1.length + k]? = some q := by
    intro k q hk
    rw [List.getElem?_append_right (by omega)]; simpa using hk
  exact ⟨fun i j p q hp hq e => by have := h.1 _ _ p q (g i p hp) (g j q hq) e; omega, fun k q hk => h.2 _ q (g k q hk)⟩
theorem zD_x {A : Nat → Prop} {w1 w2 : va_W} (h : va_D A (w1 ++ w2)) : ∀ (i j : Nat) (p q : Nat × va_E), w1[i]? = some p → w2[j]? = some q → p.1 ≠ q.1 := by
  intro i j p q hp hq e
  have hl : i < w1.length := (List.getElem?_eq_some_iff.mp hp).1
  have := h.1 i (w1.length + j) p q (by rw [List.getElem?_append_left hl]; exact hp) (by rw [List.getElem?_append_right (by omega)]; simpa using hq) e
  omega
/-- what lies beside a world is kept by what writes only there -/
theorem zP_keep {g : ZG} {M : Mem} {A0 : Nat → Prop} {R : va_W} {H H1 : Heap} (hD : va_D A0 (zws g M ++ R)) (hR : va_P g.2.1 vwCl R H) (hk : ∀ q : Nat, q < H.size → ¬ zA g H.size q → H1[q]? = H[q]?) : va_P g.2.1 vwCl R H1 := by
  refine hR.kept (fun k q hq => hk q.1 (hR k q hq).lt ?_)
  rintro (⟨j, x, hx, e⟩ | h)
  · exact zD_x hD j k _ q (zws_at (M := M) hx) hq e.symm
  · exact absurd (hR k q hq).lt (by omega)
section ZH
variable {p : Program} {e : Env} {R : Room} {s : State} {m : MethodId} {args : Array Value} {below : List Frame} {meth : Method} {c : Code} {H : Heap} {locs : List Loc} {ce sl : Nat} {Q : State → Prop}
variable {g : ZG} {μ ν : MI} {A0 : Nat → Prop} {cc : ByteArray} {nL n idx k ci mc' ms' pc : Nat} {M : Mem} {B' : ZR} {As : List SV} {rest : List Value} {ls : Array Slot} {st0 : List Value}
theorem zh_pre (h0 : zS g A0 s) (hP : va_P g.2.1 vwCl (zws g M) H) (hD : va_D A0 (zws g M)) (hS : va_S A0 s.heap H locs) (av : List Value) :
    FrameBlind (va_Pc av (zPre g M H.size)) ∧ ∀ U : State, U.heap = H → s.WarmedH U.vm → va_Pc av (zPre g M H.size) av.toArray U := by
  obtain ⟨hK, hE, hA⟩ := h0
  refine ⟨fun a U gf mk q => ⟨q.1, q.2.1, q.2.2.1, q.2.2.2.1, zK.same (s := U) (U := U.calling gf mk a) rfl q.2.2.2.2.1, zE.warm (s := U) (U := U.calling gf mk a) (State.WarmedH.refl U) q.2.2.2.2.2⟩, fun U hU hW => ⟨rfl, by rw [hU], by rw [hU]; exact hP, ⟨hD.1, fun _ _ _ => trivial⟩, zK.warm hW hK, ?_⟩⟩
  have h1 : zE A0 s H := hE.kept hS.2.1
  have h2 : zE (zA g H.size) s H := h1.narrow (zA_in hA hD hS)
  rw [hU]
  exact zE.warm hW h2
theorem zh_callB (S : CallFix p m c cc nL s args zTB RL) (hi : zin ν n) (hf : ν.2.2.2.2.1 + 1 ≤ R.frames ∧ 8 + (ν.2.2.1 + 11) + ν.2.2.2.2.2 ≤ R.locals) (hl : Cond.methodLink RL idx ν.1 ∈ zTB) :
    CallB R s args RL idx ν.1 ν.2.1 ν.2.2.1 ν.2.2.2.1 (zwm ν) (zRm ν mc' ms') mc' ms' n :=
  ⟨rfl, rfl, hf.1, hf.2, pay_in S.2.2.2.2 (fun w hw => (List.mem_cons.mp hw).elim (fun e => by rw [e]; exact zTB_good _ hi.1) (fun h => zTB_good w h)), List.mem_cons_self, S.2.2.2.2 _ hi.1, S.2.2.2.2 _ hi.2.1, hi.2.2.1, zg_lenOf hi.2.2.2, S.2.2.2.2 _ hl⟩
/-- a call of a method of the class or the reference, which returns or throws -/
theorem zh_callV {fs : List (Option Nat)} {q : vw_C} (S : CallFix p m c cc nL s args zTB RL) (h0 : zS g A0 s) (hP : va_P g.2.1 vwCl (zws g M) H) (hD : va_D A0 (zws g M)) (hS : va_S A0 s.heap H locs)
    (d : decode cc pc = .ok (.invokevirtual idx, 3)) (hm : Zc g ν mc' ms' (.inr k :: As) M B') (hl : Cond.methodLink RL idx ν.1 ∈ zTB) (hs : Cond.instanceMethod ν.1 ∈ zTB) (hse : Cond.selects q.1 ν.1 ν.1 ∈ zTB) (hk : g.2.2.2.2[k]? = some (.inl (ci, fs))) (hq0 : vwCl[ci]? = some q) (hi : zin ν n) (hn : As.length = n)
    (hf : ν.2.2.2.2.1 + 1 ≤ R.frames ∧ 8 + (ν.2.2.1 + 11) + ν.2.2.2.2.2 ≤ R.locals) (hls : ls.size = nL) (hst : st0 = (As.map (zv g)).reverse ++ Value.ref (g.2.2.2.1 k) :: rest) (hW : (rest.map fun v => v.category).sum ≤ 8) (hc : ce + mc' ≤ R.cells ∧ sl + ms' ≤ R.slots)
    (kx : ∀ (E : String) (N : Mem) (q9 : Addr) (c9 : Cell) (H1 : Heap) (locs1 : List Loc), B' = (.inr E, N) → va_P g.2.1 vwCl (zws g N) H1 → (∀ q : Nat, q < H.size → ¬ zA g H.size q → H1[q]? = H[q]?) → va_S A0 s.heap H1 locs1 → H1[q9]? = some c9 → c9.vm = .none → s.vm.findClass E = some c9.cls → vx_W p g.1 e R s m args below meth c H1 locs1 (ce + mc') (sl + ms') Q (F0 m pc ls rest) q9)
    (kk : ∀ (r : Option Int32) (N : Mem) (H1 : Heap) (locs1 : List Loc), B' = (.inl r, N) → va_P g.2.1 vwCl (zws g N) H1 → (∀ q : Nat, q < H.size → ¬ zA g H.size q → H1[q]? = H[q]?) → va_S A0 s.heap H1 locs1 → W p g.1 e R s m args below meth c H1 locs1 (ce + mc') (sl + ms') Q (F0 m (pc + 3) ls ((r.map Value.int).toList ++ rest))) :
    W p g.1 e R s m args below meth c H locs ce sl Q (F0 m pc ls st0) := by
  have hq := zh_pre h0 hP hD hS ((.inr k :: As).map (zv g))
  have hA : ∀ q, zA g H.size q → A0 q := zA_in h0.2.2 hD hS
  have hr := vx_runV (e := e) (below := below) (meth := meth) (locs := locs) (cells := ce) (slots := sl) (g := F0 m pc ls st0) (C := q.1) (b := g.2.2.2.1 k) (As := As.map (zv g)) (rest := rest) S (hm H.size) ⟨zh_callB S hi hf hl, S.2.2.2.2 _ hs, S.2.2.2.2 _ hse⟩ ⟨hq.1, va_recv h0.1.1 hP hq0 (zws_at hk), hq.2⟩ rfl (by simpa using hn) hls hst (by show 2 * 0 + _ ≤ 8; omega) d hc
  intro T hT X
  rcases hr T hT X with ⟨v, st₀, t, T', L', h0', X', hL', e1, e2, ⟨⟨r, N, hB, hv, hP1⟩, hF⟩, st⟩ | ⟨q9, st₀, t, T', L', E, c9, h0', X', hL', e1, e2, ⟨⟨N, hB, hP1⟩, hF⟩, hce, hcv, hcl, st⟩
  · cases hv
    obtain ⟨k1, k2, k3⟩ := vx_keep h0' e1 hS (fun q _ h => hA q h) hA hL' hF
    obtain ⟨t2, a1, b1⟩ := kk r N T'.heap (locs ++ L') hB (by rw [e1]; exact hP1) k2 k3 T' rfl X'
    exact ⟨t2, st t2 a1, b1⟩
  · obtain ⟨k1, k2, k3⟩ := vx_keep h0' e1 hS (fun q _ h => hA q h) hA hL' hF
    obtain ⟨t2, a1, b1⟩ := kx E N q9 c9 T'.heap (locs ++ L') hB (by rw [e1]; exact hP1) k2 k3 (by rw [e1]; exact hce) hcv hcl T' rfl X'
    exact ⟨t2, st.trans a1, b1⟩
/-- the law's call of one of its methods -/
theorem zh_callW {hh : List (Nat × Nat × Nat × Nat)} {o : Nat} {cL : ClassId} {v v' : Int64} {kr : Int32} {N : Mem} {av : List Value} (S : CallFix p m c cc nL s args zTB RL) (h0 : zS g A0 s) (hKL : va_K g.2.1 vwCl [(cL, .long)] s) (hNc : zNc s)
    (hP : va_P g.2.1 vwCl (zws g M ++ [zlo o cL v]) H) (hD : va_D A0 (zws g M ++ [zlo o cL v])) (hS : va_S A0 s.heap H locs) (d : decode cc pc = .ok (.invokestatic idx, 3)) (hm : Zh g μ hh o cL av M v kr N v')
    (hi : zinH μ hh n) (hl : Cond.methodLink RL idx μ.1 ∈ zTB) (hs : Cond.static μ.1 ∈ zTB) (hf : μ.2.2.2.2.1 + 1 ≤ R.frames ∧ 8 + (μ.2.2.1 + 11) + μ.2.2.2.2.2 ≤ R.locals) (hn : av.length = n) (hls : ls.size = nL) (hst : st0 = av.reverse ++ rest) (hW : (rest.map fun v => v.category).sum ≤ 8) (hc : ce + 1 ≤ R.cells ∧ sl + 6 ≤ R.slots)
    (kk : ∀ (H1 : Heap) (locs1 : List Loc), va_P g.2.1 vwCl (zws g N ++ [zlo o cL v']) H1 → (∀ q : Nat, q < H.size → ¬ zhA g o H.size q → H1[q]? = H[q]?) → va_S A0 s.heap H1 locs1 → W p g.1 e R s m args below meth c H1 locs1 (ce + 1) (sl + 6) Q (F0 m (pc + 3) ls (.int kr :: rest))) :
    W p g.1 e R s m args below meth c H locs ce sl Q (F0 m pc ls st0) := by
  have hA : ∀ q, zhA g o H.size q → A0 q := by
    rintro q (h | rfl)
    · exact zA_in h0.2.2 (zD_l hD) hS q h
    · exact (zD_r hD).2 0 (zlo q cL v) rfl
  have hq : FrameBlind (va_Pc av (zhPre g o cL M v H.size)) ∧ ∀ U : State, U.heap = H → s.WarmedH U.vm → va_Pc av (zhPre g o cL M v H.size) av.toArray U := by
    refine ⟨fun a U gf mk q => ?_, fun U hU hw => ⟨rfl, by rw [hU], by rw [hU]; exact hP, ⟨hD.1, fun _ _ _ => trivial⟩, zK.warm hw h0.1, va_K.moved hw.alike hKL, ⟨va_Nc.moved hw.alike hNc.1, va_Nc.moved hw.alike hNc.2⟩, ?_⟩⟩
    · obtain ⟨q1, q2, q3, q4, q5, q6, q7, q8⟩ := q
      exact ⟨q1, q2, q3, q4, zK.same (s := U) (U := U.calling gf mk a) rfl q5, va_K.moved (u := U) (U := U.calling gf mk a) (Vm.Alike.refl U.vm) q6, ⟨va_Nc.moved (u := U) (U := U.calling gf mk a) (Vm.Alike.refl U.vm) q7.1, va_Nc.moved (u := U) (U := U.calling gf mk a) (Vm.Alike.refl U.vm) q7.2⟩, zE.warm (s := U) (U := U.calling gf mk a) (State.WarmedH.refl U) q8⟩
    · have h1 : zE A0 s H := h0.2.1.kept hS.2.1
      have h2 : zE (zhA g o H.size) s H := h1.narrow hA
      rw [hU]
      exact zE.warm hw h2
  have hcw : vx_CSW R s args RL idx μ.1 μ.2.1 μ.2.2.1 μ.2.2.2.1 hh (zhw μ hh) (zRm μ 1 6) 1 6 n :=
    ⟨⟨rfl, rfl, hf.1, hf.2, pay_in S.2.2.2.2 (fun w hw => (List.mem_cons.mp hw).elim (fun e => by rw [e]; exact zTB_good _ hi.1) (fun h => zTB_good w h)), List.mem_cons_self⟩, S.2.2.2.2 _ hi.1, S.2.2.2.2 _ hi.2.1, hi.2.2.1, zg_lenOf hi.2.2.2, S.2.2.2.2 _ hl, S.2.2.2.2 _ hs⟩
  have hr := vx_runSX (e := e) (below := below) (meth := meth) (locs := locs) (cells := ce) (slots := sl) (g := F0 m pc ls st0) (As := av) (rest := rest) S (hm H.size) hcw hq rfl hn hls hst (by show 2 * 0 + _ ≤ 8; omega) d hc
  intro T hT X
  rcases hr T hT X with ⟨v, st₀, t, T', L', h0', X', hL', e1, e2, ⟨⟨hv, hP1⟩, hF⟩, st⟩ | ⟨q9, st₀, t, T', L', E, c9, h0', X', hL', e1, e2, hfalse, hce, hcv, hcl, st⟩
  · cases hv
    obtain ⟨k1, k2, k3⟩ := vx_keep h0' e1 hS (fun q _ h => hA q h) hA hL' hF
    obtain ⟨t2, a1, b1⟩ := kk T'.heap (locs ++ L') (by rw [e1]; exact hP1) k2 k3 T' rfl X'
    exact ⟨t2, st t2 a1, b1⟩
  · exact False.elim hfalse
end ZH
end
