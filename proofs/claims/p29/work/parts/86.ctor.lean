/-! ===== CONSTRUCTORS: a world that grows; a rule an instruction ===== -/
section
theorem zP_l {D : va_G} {cl : List vw_C} {w1 w2 : va_W} {H : Heap} (h : va_P D cl (w1 ++ w2) H) : va_P D cl w1 H := by
  intro k q hk
  have hl : k < w1.length := (List.getElem?_eq_some_iff.mp hk).1
  exact h k q (by rw [List.getElem?_append_left hl]; exact hk)
theorem zP_r {D : va_G} {cl : List vw_C} {w1 w2 : va_W} {H : Heap} (h : va_P D cl (w1 ++ w2) H) : va_P D cl w2 H := by
  intro k q hk
  exact h (w1.length + k) q (by rw [List.getElem?_append_right (by omega)]; simpa using hk)
theorem zD_l {A : Nat → Prop} {w1 w2 : va_W} (h : va_D A (w1 ++ w2)) : va_D A w1 := by
  have g : ∀ (k : Nat) (q : Nat × va_E), w1[k]? = some q → (w1 ++ w2)[k]? = some q := by
    intro k q hk
    have hl : k < w1.length := (List.getElem?_eq_some_iff.mp hk).1
    rw [List.getElem?_append_left hl]; exact hk
  exact ⟨fun i j p q hp hq e => h.1 i j p q (g i p hp) (g j q hq) e, fun k q hk => h.2 k q (g k q hk)⟩
theorem zD_r {A : Nat → Prop} {w1 w2 : va_W} (h : va_D A (w1 ++ w2)) : va_D A w2 := by
  have g : ∀ (k : Nat) (q : Nat × va_E), w2[k]? = some q → (w1 ++ w2)[w1.length + k]? = some q := by
    intro k q hk
    rw [List.getElem?_append_right (by omega)]; simpa using hk
  exact ⟨fun i j p q hp hq e => by have := h.1 _ _ p q (g i p hp) (g j q hq) e; omega, fun k q hk => h.2 _ q (g k q hk)⟩
theorem zD_x {A : Nat → Prop} {w1 w2 : va_W} (h : va_D A (w1 ++ w2)) : ∀ (i j : Nat) (p q : Nat × va_E), w1[i]? = some p → w2[j]? = some q → p.1 ≠ q.1 := by
  intro i j p q hp hq e
  have hl : i < w1.length := (List.getElem?_eq_some_iff.mp hp).1
  have := h.1 i (w1.length + j) p q (by rw [List.getElem?_append_left hl]; exact hp) (by rw [List.getElem?_append_right (by omega)]; simpa using hq) e
  omega
/-- what lies beside a world is kept by what writes only there -/
theorem zP_keep {g : ZG} {M : Mem} {A0 : Nat → Prop} {R : va_W} {H H1 : Heap} (hD : va_D A0 (zws g M ++ R)) (hR : va_P g.2.1 vwCl R H) (hk : ∀ q : Nat, q < H.size → ¬ zA g H.size q → H1[q]? = H[q]?) : va_P g.2.1 vwCl R H1 := by
  refine hR.kept (fun k q hq => hk q.1 (hR k q hq).lt ?_)
  rintro (⟨j, x, hx, e⟩ | h)
  · exact zD_x hD j k _ q (zws_at (M := M) hx) hq e.symm
  · exact absurd (hR k q hq).lt (by omega)
abbrev KQ : Type := Launch × va_G × (ClassId × ClassId × ClassId)
abbrev kg0 (q : KQ) : ZG := (q.1, q.2.1, q.2.2, fun _ => 0, [])
def kA (h0 sz : Nat) : Nat → Prop := fun a => a = h0 ∨ sz ≤ a
def kCx (q : KQ) (μ : MI) (h0 sz : Nat) (p : Program) (s : State) (m : MethodId) (args : Array Value) (meth : Method) (c : Code) : Prop :=
  CallFix p m c μ.2.1 μ.2.2.1 s args zTB μ.1.cls ∧ meth.sig.returnType = none ∧ meth.locks = false ∧ meth.name = "<init>" ∧ zK (kg0 q) s ∧ s.heap.size = sz ∧ zE (kA h0 sz) s s.heap
def kQ (q : KQ) (h0 sz : Nat) (Post : va_W → Prop) : Array Value → State → Outcome → State → Prop := fun _ st oc t => (oc = .returned none ∧ ∃ ws, Post ws ∧ va_P q.2.1 vwCl ws t.heap ∧ va_D (kA h0 sz) ws) ∧ va_F (kA h0 sz) st t
def kPre (q : KQ) (h0 : Nat) (x : va_E) (sz : Nat) (U : State) : Prop := U.heap.size = sz ∧ va_P q.2.1 vwCl [(h0, x)] U.heap ∧ zK (kg0 q) U ∧ zE (kA h0 sz) U U.heap
/-- a constructor: from an object x that was just made to a world that Post tells of -/
def Kc (q : KQ) (μ : MI) (mc ms : Nat) (x : va_E) (Post : Nat → va_W → Prop) : Prop := ∀ h0 sz : Nat, Met q.1 μ.1 (zwm μ) (zRm μ mc ms) (va_Pc [.ref h0] (kPre q h0 x sz)) (kQ q h0 sz (Post h0)) mc ms (kA h0 sz)
def Kg (q : KQ) (μ : MI) (h0 mc ms : Nat) (Post : va_W → Prop) (ce sl pc : Nat) (lv : List (Nat × Value)) (S : List Value) (ws : va_W) : Prop :=
  ∀ (p : Program) (e : Env) (s : State) (m : MethodId) (args : Array Value) (below : List Frame) (meth : Method) (c : Code) (H : Heap) (locs : List Loc) (ls : Array Slot) (sz : Nat),
    kCx q μ h0 sz p s m args meth c → va_P q.2.1 vwCl ws H → va_D (kA h0 sz) ws → va_S (kA h0 sz) s.heap H locs → lv_has ls μ.2.2.1 lv →
    W p q.1 e (zRm μ mc ms) s m args below meth c H locs ce sl (MQ below (kQ q h0 sz Post) args s mc ms (kA h0 sz)) (F0 m pc ls S)
/-- a field written: class, place -/
def zkp (own : String) (idx ci k : Nat) (ty : FieldType) : Prop := ∃ (C : String) (T : u_T) (N : Nat) (tyf : Nat → FieldType), vwCl[ci]? = some (C, T, N) ∧ (∀ w ∈ u_ws C T N, w ∈ zTB) ∧ k < N ∧ Cond.fieldLink own idx (T k).1 (T k).2.1 (T k).2.2.1 ∈ zTB ∧ (∀ k, k < N → parseFieldDescriptor (T k).2.2.1 = some (tyf k)) ∧ (∀ a, a < N → ∀ b, b < N → a ≠ b → (T a).2.1 ≠ (T b).2.1) ∧
  ((T k).2.2.2 = false ∨ ((T k).2.2.2 = true ∧ (T k).1 = own)) ∧ parseFieldDescriptor (T k).2.2.1 = some ty
/-- a class of which an object is made -/
def zkn (own : String) (idx ci : Nat) (fs : List Value) : Prop := ∃ (C : String) (T : u_T) (ty : Nat → FieldType), vwCl[ci]? = some (C, T, fs.length) ∧ (∀ w ∈ u_ws C T fs.length, w ∈ zTB) ∧ (∀ k, k < fs.length → parseFieldDescriptor (T k).2.2.1 = some (ty k)) ∧ Cond.classLink own idx C ∈ zTB ∧ Cond.instantiable C fs.length ∈ zTB ∧ Cond.initialized C ∈ zTB ∧ (∀ j, j < fs.length → defaultValue (ty j) = vp_V fs j)
theorem kP_set {D : va_G} {cl : List vw_C} {ws : va_W} {H1 : Heap} {j : Nat} {y : Nat × va_E} (h1 : ∀ (k : Nat) (q : Nat × va_E), k ≠ j → ws[k]? = some q → va_at D cl q H1) (h2 : va_at D cl y H1) : va_P D cl (ws.set j y) H1 := by
  intro k q hk
  rw [List.getElem?_set] at hk
  by_cases e : j = k
  · rw [if_pos e] at hk
    split at hk
    · cases hk; exact h2
    · cases hk
  · rw [if_neg e] at hk
    exact h1 k q (fun z => e z.symm) hk
section KW
variable {p : Program} {e : Env} {R : Room} {s : State} {m : MethodId} {args : Array Value} {below : List Frame} {meth : Method} {c : Code} {H : Heap} {locs : List Loc} {ce sl : Nat} {Q : State → Prop}
variable {q : KQ} {A0 : Nat → Prop} {cc : ByteArray} {nL n idx pc mc' ms' : Nat} {own : String} {rest : List Value} {ls : Array Slot}
/-- a constructor's call: the object is the last cell of the world -/
theorem kw_init {y : MethodName} {cb : ByteArray} {mL fr lo b : Nat} {x : va_E} {w0 : va_W} {PostI : Nat → va_W → Prop} (S : CallFix p m c cc nL s args zTB own) (hK0 : zK (kg0 q) s) (hE : zE A0 s s.heap) (hA : ∀ a, s.heap.size ≤ a → A0 a)
    (hP : va_P q.2.1 vwCl (w0 ++ [(b, x)]) H) (hD : va_D A0 (w0 ++ [(b, x)])) (hS : va_S A0 s.heap H locs) (d : decode cc pc = .ok (.invokespecial idx, 3)) (hm : Kc q (y, cb, mL, none, fr, lo) mc' ms' x PostI) (hl : Cond.methodLink own idx y ∈ zTB) (hi : zin (y, cb, mL, none, fr, lo) 0) (hin : Cond.instanceMethod y ∈ zTB) (hy1 : y.name = "<init>")
    (hf : fr + 1 ≤ R.frames ∧ 8 + (mL + 11) + lo ≤ R.locals) (hls : ls.size = nL) (hW : (rest.map fun v => v.category).sum ≤ 8) (hc : ce + mc' ≤ R.cells ∧ sl + ms' ≤ R.slots)
    (kk : ∀ (w1 : va_W) (H1 : Heap) (locs1 : List Loc), PostI b w1 → va_P q.2.1 vwCl (w0 ++ w1) H1 → va_D A0 (w0 ++ w1) → va_S A0 s.heap H1 locs1 → W p q.1 e R s m args below meth c H1 locs1 (ce + mc') (sl + ms') Q (F0 m (pc + 3) ls rest)) :
    W p q.1 e R s m args below meth c H locs ce sl Q (F0 m pc ls (.ref b :: rest)) := by
  have hb : A0 b := (zD_r hD).2 0 (b, x) rfl
  have hAb : ∀ a, kA b H.size a → A0 a := by
    rintro a (rfl | h)
    · exact hb
    · exact hA a (Nat.le_trans hS.1 h)
  have hpre : PreS s H (va_Pc [.ref b] (kPre q b x H.size)) [.ref b] := by
    refine ⟨fun a U gf mk z => ?_, fun U hU hw => ⟨rfl, by rw [hU], by rw [hU]; exact zP_r hP, zK.warm hw hK0, ?_⟩⟩
    · obtain ⟨z1, z2, z3, z4, z5⟩ := z
      exact ⟨z1, z2, z3, zK.same (s := U) (U := U.calling gf mk a) rfl z4, zE.warm (s := U) (U := U.calling gf mk a) (State.WarmedH.refl U) z5⟩
    · have h1 : zE A0 s H := hE.kept hS.2.1
      have h2 : zE (kA b H.size) s H := h1.narrow hAb
      rw [hU]
      exact zE.warm hw h2
  have hcb : CallB R s args own idx y cb mL none (zwm (y, cb, mL, none, fr, lo)) (zRm (y, cb, mL, none, fr, lo) mc' ms') mc' ms' 0 :=
    ⟨rfl, rfl, hf.1, hf.2, pay_in S.2.2.2.2 (fun w hw => (List.mem_cons.mp hw).elim (fun e => by rw [e]; exact zTB_good _ hi.1) (fun h => zTB_good w h)), List.mem_cons_self, S.2.2.2.2 _ hi.1, S.2.2.2.2 _ hi.2.1, hi.2.2.1, zg_lenOf hi.2.2.2, S.2.2.2.2 _ hl⟩
  have hr := va_runI (e := e) (below := below) (meth := meth) (locs := locs) (cells := ce) (slots := sl) (g := F0 m pc ls (.ref b :: rest)) (b := b) (As := []) (rest := rest) S (hm b H.size) ⟨hcb, hy1, S.2.2.2.2 _ hin⟩ hpre rfl rfl hls rfl (by show 2 * 0 + _ ≤ 8; omega) d hc
  intro T hT X
  obtain ⟨v, st₀, t, T', L', h0', X', hL', e1, e2, ⟨⟨hv, w1, hp1, hP1, hD1⟩, hF⟩, st⟩ := hr T hT X
  cases hv
  obtain ⟨k1, k2, k3⟩ := vx_keep h0' e1 hS (fun a _ h => hAb a h) hAb hL' hF
  have hne : ∀ (k : Nat) (z : Nat × va_E), w0[k]? = some z → z.1 < H.size ∧ z.1 ≠ b := fun k z hz => ⟨(zP_l hP k z hz).lt, zD_x hD k 0 z (b, x) hz rfl⟩
  have hP2 : va_P q.2.1 vwCl (w0 ++ w1) T'.heap := by
    refine va_P.app ((zP_l hP).kept (fun k z hz => k2 z.1 (hne k z hz).1 ?_)) (by rw [e1]; exact hP1)
    rintro (h | h)
    · exact (hne k z hz).2 h
    · exact absurd (hne k z hz).1 (by omega)
  have hD2 : va_D A0 (w0 ++ w1) := by
    refine va_D.app (zD_l hD) (hD1.weaken (fun _ z _ h => hAb z.1 h)) (fun i j z w hz hw ez => ?_)
    rcases hD1.2 j w hw with h | h
    · exact (hne i z hz).2 (ez.trans h)
    · exact absurd (hne i z hz).1 (by omega)
  obtain ⟨t2, a1, b1⟩ := kk w1 T'.heap (locs ++ L') hp1 hP2 hD2 k3 T' rfl X'
  exact ⟨t2, st t2 a1, b1⟩
end KW
section KG
variable {q : KQ} {μ : MI} {h0 mc ms : Nat} {Post : va_W → Prop} {ce sl pc n idx : Nat} {lv : List (Nat × Value)} {S : List Value} {ws : va_W}
theorem kg_aload {k : Fin 4} {i j x : Nat} (d : decode μ.2.1 pc = .ok (.aload_n k, 1)) (hi : (k : Nat) = i) (hj : lv[j]? = some (i, .ref x)) (h : Kg q μ h0 mc ms Post ce sl (pc + 1) lv (.ref x :: S) ws) : Kg q μ h0 mc ms Post ce sl pc lv S ws :=
  fun p e s m args below meth c H locs ls sz C hP hD hS hl => lv_aload_n C.1.1 C.1.2.1 d hi (lv_at hl j hj) (h p e s m args below meth c H locs ls sz C hP hD hS hl)
theorem kg_iload {k : Fin 4} {i j : Nat} {x : Int32} (d : decode μ.2.1 pc = .ok (.iload_n k, 1)) (hi : (k : Nat) = i) (hj : lv[j]? = some (i, .int x)) (h : Kg q μ h0 mc ms Post ce sl (pc + 1) lv (.int x :: S) ws) : Kg q μ h0 mc ms Post ce sl pc lv S ws :=
  fun p e s m args below meth c H locs ls sz C hP hD hS hl => lv_iload_n C.1.1 C.1.2.1 d hi (lv_at hl j hj) (h p e s m args below meth c H locs ls sz C hP hD hS hl)
theorem kg_iconst {k : Int} {v : Int32} (d : decode μ.2.1 pc = .ok (.iconst k, 1)) (hv : Int32.ofInt k = v) (h : Kg q μ h0 mc ms Post ce sl (pc + 1) lv (.int v :: S) ws) : Kg q μ h0 mc ms Post ce sl pc lv S ws :=
  fun p e s m args below meth c H locs ls sz C hP hD hS hl => lv_iconst C.1.1 C.1.2.1 d hv (h p e s m args below meth c H locs ls sz C hP hD hS hl)
theorem kg_bipush {k : Int} {v : Int32} (d : decode μ.2.1 pc = .ok (.bipush k, 2)) (hv : (Int8.ofInt k).toInt32 = v) (h : Kg q μ h0 mc ms Post ce sl (pc + 2) lv (.int v :: S) ws) : Kg q μ h0 mc ms Post ce sl pc lv S ws :=
  fun p e s m args below meth c H locs ls sz C hP hD hS hl => lv_bipush C.1.1 C.1.2.1 d hv (h p e s m args below meth c H locs ls sz C hP hD hS hl)
theorem kg_sipush {k : Int} {v : Int32} (d : decode μ.2.1 pc = .ok (.sipush k, 3)) (hv : (Int16.ofInt k).toInt32 = v) (h : Kg q μ h0 mc ms Post ce sl (pc + 3) lv (.int v :: S) ws) : Kg q μ h0 mc ms Post ce sl pc lv S ws :=
  fun p e s m args below meth c H locs ls sz C hP hD hS hl => lv_sipush C.1.1 C.1.2.1 d hv (h p e s m args below meth c H locs ls sz C hP hD hS hl)
theorem kg_dup {a : Nat} (d : decode μ.2.1 pc = .ok (.dup, 1)) (h : Kg q μ h0 mc ms Post ce sl (pc + 1) lv (.ref a :: .ref a :: S) ws) : Kg q μ h0 mc ms Post ce sl pc lv (.ref a :: S) ws :=
  fun p e s m args below meth c H locs ls sz C hP hD hS hl => lv_dup C.1.1 C.1.2.1 d rfl (h p e s m args below meth c H locs ls sz C hP hD hS hl)
theorem kg_goto {off : Int} {tgt : Nat} (d : decode μ.2.1 pc = .ok (.goto off, 3)) (ht : (pc : Int) + off = (tgt : Int)) (h : Kg q μ h0 mc ms Post ce sl tgt lv S ws) : Kg q μ h0 mc ms Post ce sl pc lv S ws :=
  fun p e s m args below meth c H locs ls sz C hP hD hS hl => lv_goto C.1.1 C.1.2.1 d ht (h p e s m args below meth c H locs ls sz C hP hD hS hl)
theorem kg_icmpge {x y : Int32} {off : Int} {tgt : Nat} (d : decode μ.2.1 pc = .ok (.if_icmp .ge off, 3)) (ht : (pc : Int) + off = (tgt : Int)) (h1 : y ≤ x → Kg q μ h0 mc ms Post ce sl tgt lv S ws) (h2 : ¬ y ≤ x → Kg q μ h0 mc ms Post ce sl (pc + 3) lv S ws) : Kg q μ h0 mc ms Post ce sl pc lv (.int y :: .int x :: S) ws :=
  fun p e s m args below meth c H locs ls sz C hP hD hS hl => lv_icmp_ge C.1.1 C.1.2.1 d ht (fun z => h1 z p e s m args below meth c H locs ls sz C hP hD hS hl) (fun z => h2 z p e s m args below meth c H locs ls sz C hP hD hS hl)
theorem kg_istore {k : Fin 4} {i : Nat} {x : Int32} {lv' : List (Nat × Value)} (d : decode μ.2.1 pc = .ok (.istore_n k, 1)) (hi : (k : Nat) = i) (hn : i < μ.2.2.1) (hl' : (i, Value.int x) :: lv.filter (fun q => !(q.1 == i) && !(q.1 + 1 == i && q.2.category == 2)) = lv') (h : Kg q μ h0 mc ms Post ce sl (pc + 1) lv' S ws) : Kg q μ h0 mc ms Post ce sl pc lv (.int x :: S) ws :=
  fun p e s m args below meth c H locs ls sz C hP hD hS hl => lv_istore_n C.1.1 C.1.2.1 d hi hl hn hl' (fun ls' hl2 => h p e s m args below meth c H locs ls' sz C hP hD hS hl2)
theorem kg_iinc {i k : Nat} {r : Int} {x v : Int32} {lv' : List (Nat × Value)} (d : decode μ.2.1 pc = .ok (.iinc i r, 3)) (hk : lv[k]? = some (i, .int x)) (hv : x + Int32.ofInt r = v) (hn : i < μ.2.2.1) (hl' : (i, Value.int v) :: lv.filter (fun q => !(q.1 == i) && !(q.1 + 1 == i && q.2.category == 2)) = lv') (h : Kg q μ h0 mc ms Post ce sl (pc + 3) lv' S ws) : Kg q μ h0 mc ms Post ce sl pc lv S ws :=
  fun p e s m args below meth c H locs ls sz C hP hD hS hl => lv_iinc C.1.1 C.1.2.1 d hl hk hv hn hl' (fun ls' hl2 => h p e s m args below meth c H locs ls' sz C hP hD hS hl2)
theorem kg_lv {lv' : List (Nat × Value)} (ks : List Nat) (hl' : lv_pick lv ks = lv') (h : Kg q μ h0 mc ms Post ce sl pc lv' S ws) : Kg q μ h0 mc ms Post ce sl pc lv S ws :=
  fun p e s m args below meth c H locs ls sz C hP hD hS hl => h p e s m args below meth c H locs ls sz C hP hD hS (lv_sub hl ks hl')
theorem kg_obj {a : Nat} (d : decode μ.2.1 pc = .ok (.invokespecial idx, 3)) (hl : Cond.methodLink μ.1.cls idx Lib.objectInit ∈ zTB) (hi : Cond.instanceMethod Lib.objectInit ∈ zTB) (hcd : Cond.code Lib.objectInit ⟨#[0xb1]⟩ 1 none ∈ zTB) (hf : 1 ≤ μ.2.2.2.2.1 ∧ 12 ≤ μ.2.2.2.2.2) (h : Kg q μ h0 mc ms Post ce sl (pc + 3) lv [] ws) : Kg q μ h0 mc ms Post ce sl pc lv [.ref a] ws := by
  intro p e s m args below meth c H locs ls sz C hP hD hS hlv
  obtain ⟨S, -⟩ := id C
  exact W.objInit (g := F0 m pc ls [.ref a]) S.1 S.2.1 S.2.2.2.1 (S.2.2.2.2 _ hl) (S.2.2.2.2 _ hi) (S.2.2.2.2 _ hcd) rfl (by rw [S.2.2.1]; exact hlv.1) rfl d hf.1 hf.2 (h p e s m args below meth c H locs ls sz C hP hD hS hlv)
theorem kg_newI {x : Int32} {N : Nat} (d : decode μ.2.1 pc = .ok (.newarray .int, 2)) (hw : Cond.arrayClass .int ∈ zTB) (hn : ¬ x < 0) (hN : x.toNatClampNeg = N) (hby : N * componentBytes .int ≤ 536870912) (hc : ce + 1 ≤ mc) (hs : sl + N ≤ ms)
    (h : ∀ a : Nat, Kg q μ h0 mc ms Post (ce + 1) (sl + N) (pc + 2) lv (.ref a :: S) (ws ++ [(a, .inl (q.2.2.1, N, .inl (fun _ => 0)))])) : Kg q μ h0 mc ms Post ce sl pc lv (.int x :: S) ws := by
  intro p e s m args below meth c H locs ls sz C hP hD hS hlv
  obtain ⟨S, -, -, -, hK, hsz, -⟩ := id C
  refine va_newa (atype := .int) (ty := .int) S.1 S.2.1 (S.2.2.2.2 _ hw) rfl hK.1 hP hD hS (fun a ha => Or.inr (by rw [← hsz]; exact ha)) (a0 := (N, .inl (fun _ => 0))) (fun _ => rfl) hn hN hby hc hs d (fun a cA H1 hK1 hP1 hD1 hS1 => ?_)
  have e1 : s.vm.findClass ("[" ++ FieldType.int.toString) = some cA := (hK1.2 3 (cA, .int) rfl).2
  have e2 : s.vm.findClass ("[" ++ FieldType.int.toString) = some q.2.2.1 := (hK.1.2 0 (q.2.2.1, .int) rfl).2
  cases Option.some.inj (e1.symm.trans e2)
  exact h a p e s m args below meth c H1 locs ls sz C hP1 hD1 hS1 hlv
theorem kg_newB {x : Int32} {N : Nat} (d : decode μ.2.1 pc = .ok (.newarray .boolean, 2)) (hw : Cond.arrayClass .boolean ∈ zTB) (hn : ¬ x < 0) (hN : x.toNatClampNeg = N) (hby : N * componentBytes .boolean ≤ 536870912) (hc : ce + 1 ≤ mc) (hs : sl + N ≤ ms)
    (h : ∀ a : Nat, Kg q μ h0 mc ms Post (ce + 1) (sl + N) (pc + 2) lv (.ref a :: S) (ws ++ [(a, .inl (q.2.2.2.1, N, .inl (fun _ => 0)))])) : Kg q μ h0 mc ms Post ce sl pc lv (.int x :: S) ws := by
  intro p e s m args below meth c H locs ls sz C hP hD hS hlv
  obtain ⟨S, -, -, -, hK, hsz, -⟩ := id C
  refine va_newa (atype := .boolean) (ty := .boolean) S.1 S.2.1 (S.2.2.2.2 _ hw) rfl hK.1 hP hD hS (fun a ha => Or.inr (by rw [← hsz]; exact ha)) (a0 := (N, .inl (fun _ => 0))) (fun _ => rfl) hn hN hby hc hs d (fun a cA H1 hK1 hP1 hD1 hS1 => ?_)
  have e1 : s.vm.findClass ("[" ++ FieldType.boolean.toString) = some cA := (hK1.2 3 (cA, .boolean) rfl).2
  have e2 : s.vm.findClass ("[" ++ FieldType.boolean.toString) = some q.2.2.2.1 := (hK.1.2 1 (q.2.2.2.1, .boolean) rfl).2
  cases Option.some.inj (e1.symm.trans e2)
  exact h a p e s m args below meth c H1 locs ls sz C hP1 hD1 hS1 hlv
theorem kg_put {ci k j a : Nat} {ty : FieldType} {v : Value} {fs : List Value} (d : decode μ.2.1 pc = .ok (.putfield idx, 3)) (hf : zkp μ.1.cls idx ci k ty) (hj : ws[j]? = some (a, .inr (ci, fs))) (hk : k < fs.length) (hn : narrow ty v = v) (hfit : fits ty v = true)
    (h : Kg q μ h0 mc ms Post ce sl (pc + 3) lv S (ws.set j (a, .inr (ci, fs.set k v)))) : Kg q μ h0 mc ms Post ce sl pc lv (v :: .ref a :: S) ws := by
  intro p e s m args below meth c H locs ls sz C hP hD hS hlv
  obtain ⟨S, -, -, hname, hK, hsz, -⟩ := id C
  obtain ⟨Cn, T, N, tyf, h1, h2, h3, h4, h5, h6, h7, h8⟩ := hf
  rcases h7 with h7 | ⟨h7, h9⟩
  · exact va_put S.1 S.2.1 S.2.2.2.2 h2 tyf h5 h6 S.2.2.2.1 hK.1 hP hD hS j hj h1 k h3 (S.2.2.2.2 _ h4) (fun _ z => z) h7 h8 hn hfit hk d (fun H1 locs1 hP1 hD1 hS1 => h p e s m args below meth c H1 locs1 ls sz C hP1 hD1 hS1 hlv)
  · exact va_putF S.1 S.2.1 S.2.2.2.2 h2 tyf h5 h6 S.2.2.2.1 hK.1 hP hD hS j hj h1 k h3 (S.2.2.2.2 _ h4) (fun _ z => z) h7 hname h9 h8 hn hfit hk d (fun H1 locs1 hP1 hD1 hS1 => h p e s m args below meth c H1 locs1 ls sz C hP1 hD1 hS1 hlv)
theorem kg_get {ci k j a : Nat} {ty : FieldType} {v : Value} {fs : List Value} (d : decode μ.2.1 pc = .ok (.getfield idx, 3)) (hf : zkp μ.1.cls idx ci k ty) (hj : ws[j]? = some (a, .inr (ci, fs))) (hk : fs[k]? = some v) (h : Kg q μ h0 mc ms Post ce sl (pc + 3) lv (v :: S) ws) : Kg q μ h0 mc ms Post ce sl pc lv (.ref a :: S) ws := by
  intro p e s m args below meth c H locs ls sz C hP hD hS hlv
  obtain ⟨S, -, -, hname, hK, hsz, -⟩ := id C
  obtain ⟨Cn, T, N, tyf, h1, h2, h3, h4, h5, h6, h7, h8⟩ := hf
  exact va_get S.1 S.2.1 S.2.2.2.2 h2 S.2.2.2.1 hK.1 hP j hj h1 k h3 (S.2.2.2.2 _ h4) (fun _ z => z) hk d (h p e s m args below meth c H locs ls sz C hP hD hS hlv)
theorem kg_iast {j a N : Nat} {f : Nat → Int32} {i x : Int32} (d : decode μ.2.1 pc = .ok (.iastore, 1)) (hj : ws[j]? = some (a, .inl (q.2.2.1, N, .inl f))) (hin : vp_in i N) (h : Kg q μ h0 mc ms Post ce sl (pc + 1) lv S (ws.set j (a, .inl (q.2.2.1, N, .inl (upd f i.toNatClampNeg x))))) : Kg q μ h0 mc ms Post ce sl pc lv (.int x :: .int i :: .ref a :: S) ws := by
  intro p e s m args below meth c H locs ls sz C hP hD hS hlv
  obtain ⟨S, -, -, hname, hK, hsz, -⟩ := id C
  exact va_iast S.1 S.2.1 hK.1 hP hD hS j 0 hj rfl hin d (fun H1 locs1 hP1 hD1 hS1 => h p e s m args below meth c H1 locs1 ls sz C hP1 hD1 hS1 hlv)
theorem kg_new {ci : Nat} {fs : List Value} (d : decode μ.2.1 pc = .ok (.new idx, 3)) (hn : zkn μ.1.cls idx ci fs) (hc : ce + 1 ≤ mc) (hs : sl + fs.length ≤ ms) (h : ∀ a : Nat, Kg q μ h0 mc ms Post (ce + 1) (sl + fs.length) (pc + 3) lv (.ref a :: S) (ws ++ [(a, .inr (ci, fs))])) : Kg q μ h0 mc ms Post ce sl pc lv S ws := by
  intro p e s m args below meth c H locs ls sz C hP hD hS hlv
  obtain ⟨S, -, -, hname, hK, hsz, -⟩ := id C
  obtain ⟨Cn, T, ty, h1, h2, h3, h4, h5, h6, h7⟩ := hn
  exact va_new S.1 S.2.1 S.2.2.2.2 h2 ty h3 S.2.2.2.1 (S.2.2.2.2 _ h4) (S.2.2.2.2 _ h5) (S.2.2.2.2 _ h6) hK.1 hP hD hS (fun a ha => Or.inr (by rw [← hsz]; exact ha)) h1 h7 hc hs d (fun a H1 hP1 hD1 hS1 => h a p e s m args below meth c H1 locs ls sz C hP1 hD1 hS1 hlv)
theorem kg_init {y : MethodName} {cb : ByteArray} {mL fr lo b mc' ms' : Nat} {x : va_E} {PostI : Nat → va_W → Prop} (d : decode μ.2.1 pc = .ok (.invokespecial idx, 3)) (hm : Kc q (y, cb, mL, none, fr, lo) mc' ms' x PostI) (hl : Cond.methodLink μ.1.cls idx y ∈ zTB) (hi : zin (y, cb, mL, none, fr, lo) 0) (hin : Cond.instanceMethod y ∈ zTB) (hy1 : y.name = "<init>")
    (hf : fr + 1 ≤ μ.2.2.2.2.1 ∧ 8 + (mL + 11) + lo ≤ μ.2.2.2.2.2) (hW : (S.map fun v => v.category).sum ≤ 8) (hc : ce + mc' ≤ mc ∧ sl + ms' ≤ ms) (h : ∀ w1 : va_W, PostI b w1 → Kg q μ h0 mc ms Post (ce + mc') (sl + ms') (pc + 3) lv S (ws ++ w1)) : Kg q μ h0 mc ms Post ce sl pc lv (.ref b :: S) (ws ++ [(b, x)]) := by
  intro p e s m args below meth c H locs ls sz C hP hD hS hlv
  obtain ⟨S, -, -, hname, hK, hsz, hE⟩ := id C
  exact kw_init (R := zRm μ mc ms) S hK hE (fun a ha => Or.inr (by rw [← hsz]; exact ha)) hP hD hS d hm hl hi hin hy1 hf hlv.1 hW hc (fun w1 H1 locs1 hp1 hP1 hD1 hS1 => h w1 hp1 p e s m args below meth c H1 locs1 ls sz C hP1 hD1 hS1 hlv)
/-- Arrays.fill -/
theorem kg_fill {j a nn : Nat} {f : Nat → Int32} {x : Int32} (d : decode μ.2.1 pc = .ok (.invokestatic idx, 3)) (hl : Cond.methodLink μ.1.cls idx yJ7_fill_53178 ∈ zTB) (hs : Cond.static yJ7_fill_53178 ∈ zTB) (hj : ws[j]? = some (a, .inl (q.2.2.1, nn, .inl f))) (hnn : nn < 2 ^ 30) (hf : 2 ≤ μ.2.2.2.2.1 ∧ 23 ≤ μ.2.2.2.2.2) (hc : ce ≤ mc ∧ sl ≤ ms)
    (h : ∀ f' : Nat → Int32, (∀ k, k < nn → f' k = x) → Kg q μ h0 mc ms Post ce sl (pc + 3) lv [] (ws.set j (a, .inl (q.2.2.1, nn, .inl f')))) : Kg q μ h0 mc ms Post ce sl pc lv [.int x, .ref a] ws := by
  intro p e s m args below meth c H locs ls sz C hP hD hS hlv
  obtain ⟨S, -, -, hname, hK, hsz, hE⟩ := id C
  have hA : ∀ a, s.heap.size ≤ a → kA h0 sz a := fun a ha => Or.inr (by rw [← hsz]; exact ha)
  let M : Mem := fun _ => f
  let g : ZG := zg1 (q.1, q.2.1, q.2.2, fun _ => a) nn
  have hwe : zws g M = [(a, .inl (q.2.2.1, nn, .inl f))] := rfl
  have hP1 : va_P g.2.1 vwCl (zws g M) H := by
    rw [hwe]
    intro k z hz
    have hk : k < 1 := (List.getElem?_eq_some_iff.mp hz).1
    have : k = 0 := by omega
    subst this
    cases hz
    exact hP j _ hj
  have hD1 : va_D (kA h0 sz) (zws g M) := by
    rw [hwe]
    refine ⟨fun i k z w hz hw _ => ?_, fun k z hz => ?_⟩
    · have h1 : i < 1 := (List.getElem?_eq_some_iff.mp hz).1
      have h2 : k < 1 := (List.getElem?_eq_some_iff.mp hw).1
      omega
    · have hk : k < 1 := (List.getElem?_eq_some_iff.mp hz).1
      have : k = 0 := by omega
      subst this
      cases hz
      exact hD.2 j _ hj
  have h0' : zS g (kA h0 sz) s := ⟨hK, hE, hA⟩
  have hAg : ∀ z, zA g H.size z → kA h0 sz z := zA_in h0'.2.2 hD1 hS
  have hpre := zh_pre h0' hP1 hD1 hS [Value.ref a, .int x]
  have hi : zin mJ7_fill_53178 2 := zi_J7_fill_53178
  have hcb : CallB (zRm μ mc ms) s args μ.1.cls idx yJ7_fill_53178 cJ7_fill_53178 4 none (zwm mJ7_fill_53178) (zRm mJ7_fill_53178 0 0) 0 0 2 :=
    ⟨rfl, rfl, hf.1, hf.2, pay_in S.2.2.2.2 (fun w hw => (List.mem_cons.mp hw).elim (fun e => by rw [e]; exact zTB_good _ hi.1) (fun h => zTB_good w h)), List.mem_cons_self, S.2.2.2.2 _ hi.1, S.2.2.2.2 _ hi.2.1, hi.2.2.1, zg_lenOf hi.2.2.2, S.2.2.2.2 _ hl⟩
  have hm := k_F (q.1, q.2.1, q.2.2, fun _ => a) nn hnn x M
  have hr := vx_runS (e := e) (below := below) (meth := meth) (locs := locs) (cells := ce) (slots := sl) (g := F0 m pc ls [.int x, .ref a]) (As := [Value.ref a, .int x]) (rest := []) S (hm H.size) ⟨hcb, S.2.2.2.2 _ hs⟩ hpre rfl rfl hlv.1 rfl (by show 2 * 0 + 0 ≤ 8; omega) d ⟨hc.1, hc.2⟩
  intro T hT X
  rcases hr T hT X with ⟨v, st₀, t, T', L', hz0, X', hL', e1, e2, ⟨⟨r, N, hB, hv, hPn⟩, hF⟩, st⟩ | ⟨q9, st₀, t, T', L', E, c9, hz0, X', hL', e1, e2, ⟨⟨N, hB, hPn⟩, hF⟩, hce, hcv, hcl, st⟩
  · cases hv
    cases hB
    obtain ⟨k1, k2, k3⟩ := vx_keep hz0 e1 hS (fun a _ h => hAg a h) hAg hL' hF
    have hat : va_at q.2.1 vwCl (a, .inl (q.2.2.1, nn, .inl ((l_F x (nI nn) (nn + 1) 0 M).2 0))) T'.heap := by rw [e1]; exact hPn 0 _ rfl
    have hP2 := kP_set (ws := ws) (j := j) (D := q.2.1) (cl := vwCl) (H1 := T'.heap) (fun k z hk hz => (hP k z hz).kept (k2 z.1 (hP k z hz).lt (by
      rintro (⟨i, w, hw, ew⟩ | h)
      · exact hk (hD.1 k j z _ hz hj ew)
      · exact absurd (hP k z hz).lt (by omega)))) hat
    have hv : ∀ k, k < nn → (l_F x (nI nn) (nn + 1) 0 M).2 0 k = x := by
      intro k hk
      have e5 : (nI nn).toInt = (nn : Int) := nI_toInt (by omega)
      exact u_F x (nI nn) (nn + 1) 0 M (by decide) (by rw [e5]; simp only [Int32.reduceToInt]; omega) k (Nat.zero_le k) (by rw [e5]; omega)
    obtain ⟨t2, a1, b1⟩ := h _ hv p e s m args below meth c T'.heap (locs ++ L') ls sz C hP2 (hD.set hj) k3 hlv T' rfl X'
    exact ⟨t2, st t2 a1, b1⟩
  · cases hB
theorem kg_ret {ws' : va_W} (d : decode μ.2.1 pc = .ok (.return_, 1)) (is : List Nat) (hn : va_nd is = true) (h1 : is.map (fun i => ws[i]?) = ws'.map some) (h2 : is.filterMap (fun i => ws[i]?) = ws') (hp : Post ws') (hc : ce ≤ mc ∧ sl ≤ ms) : Kg q μ h0 mc ms Post ce sl pc lv [] ws := by
  intro p e s m args below meth c H locs ls sz C hP hD hS hlv
  obtain ⟨S, hr, hlk, -, -, hsz, -⟩ := id C
  refine W.widen (k := mc) (n := ms) hc.1 hc.2 ?_
  exact W.vret S.1 S.2.1 hr (fun t ht hW => ⟨⟨rfl, ws', hp, by rw [ht]; exact hP.sub is h2, hD.sub is hn h1⟩, hS.F ht⟩) hS.2.2 d hlk
theorem Kc.of {x : va_E} {PostI : Nat → va_W → Prop} (hy : plainName μ.1.cls = true) (hret : μ.2.2.2.1 = none) (hname : μ.1.name = "<init>") (hml : 1 ≤ μ.2.2.1) (h : ∀ h0 : Nat, Kg q μ h0 mc ms (PostI h0) 0 0 0 [(0, .ref h0)] [] [(h0, x)]) : Kc q μ mc ms x PostI := by
  intro h0 sz
  refine Met.ofW (cc := μ.2.1) (maxL := μ.2.2.1) (ret := μ.2.2.2.1) hy rfl ?_
  intro p e s m args' below meth c s₁ Bd hml2 hv
  obtain ⟨rfl, hsz, hP, hK, hE⟩ := hv
  have hts := atoms_spec (ws := zwm μ) Bd.pre
  have hl := lv_entry [Value.ref h0] (n := μ.2.2.1) hml
  rw [lg_entry_eq]
  generalize (lg_sl [Value.ref h0] ++ List.replicate (μ.2.2.1 - (lg_sl [Value.ref h0]).length) Slot.unset).toArray = ls at hl ⊢
  have hD : va_D (kA h0 sz) [(h0, x)] := by
    refine ⟨fun i k z w hz hw _ => ?_, fun k z hz => ?_⟩
    · have h1 : i < 1 := (List.getElem?_eq_some_iff.mp hz).1
      have h2 : k < 1 := (List.getElem?_eq_some_iff.mp hw).1
      omega
    · have hk : k < 1 := (List.getElem?_eq_some_iff.mp hz).1
      have : k = 0 := by omega
      subst this
      cases hz
      exact Or.inl rfl
  exact h h0 p e s m _ below meth c s.heap [] ls sz ⟨⟨Bd.exec, Bd.bytes, hml2, findClass_of_methodNamed Bd.named, fun w hw => hts w (List.mem_cons_of_mem _ hw)⟩, by rw [← hret]; exact Bd.returns, Bd.notSynchronized, by rw [← hname]; exact (name_of_methodNamed Bd.named Bd.method).1, hK, hsz, hE⟩ hP hD va_S.rf hl
end KG
end
