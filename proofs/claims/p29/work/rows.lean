section
-- ===== PART A: goes FIRST, ahead of the names: the tables' words, and 'selects' of the private methods out of them =====
/-- a private method of a class that the tables say can be made, by its rows of tables_1 -/
def lw_okq (q : MethodName × Nat) : Prop := (q.1.cls ≠ "java/lang/invoke/MethodHandle" ∧ q.1.cls ≠ "java/lang/invoke/VarHandle") ∧ Cond.instantiable q.1.cls q.2 ∈ tables_1 ∧ Cond.privateMethod q.1 ∈ tables_1 ∧ Cond.instanceMethod q.1 ∈ tables_1
theorem lw_p0 : lw_okq (⟨"Zfsmill", "canFetch", "(I)Z"⟩, 6) := ⟨⟨by decide +kernel, by decide +kernel⟩, List.mem_of_getElem? (i := 14) (by decide +kernel), List.mem_of_getElem? (i := 126) (by decide +kernel), List.mem_of_getElem? (i := 127) (by decide +kernel)⟩
theorem lw_p1 : lw_okq (⟨"Zfsmill", "healEveryCell", "(I)I"⟩, 6) := ⟨⟨by decide +kernel, by decide +kernel⟩, List.mem_of_getElem? (i := 14) (by decide +kernel), List.mem_of_getElem? (i := 147) (by decide +kernel), List.mem_of_getElem? (i := 148) (by decide +kernel)⟩
theorem lw_p2 : lw_okq (⟨"Zfsmill", "scrubFile", "(I)I"⟩, 6) := ⟨⟨by decide +kernel, by decide +kernel⟩, List.mem_of_getElem? (i := 14) (by decide +kernel), List.mem_of_getElem? (i := 170) (by decide +kernel), List.mem_of_getElem? (i := 171) (by decide +kernel)⟩
theorem lw_p3 : lw_okq (⟨"java/lang/Throwable", "fillInStackTrace", "(I)Ljava/lang/Throwable;"⟩, 6) := ⟨⟨by decide +kernel, by decide +kernel⟩, List.mem_of_getElem? (i := 252) (by decide +kernel), List.mem_of_getElem? (i := 250) (by decide +kernel), List.mem_of_getElem? (i := 251) (by decide +kernel)⟩
theorem lw_p4 : lw_okq (⟨"Zfsmill", "valueNow", "(II)I"⟩, 6) := ⟨⟨by decide +kernel, by decide +kernel⟩, List.mem_of_getElem? (i := 14) (by decide +kernel), List.mem_of_getElem? (i := 282) (by decide +kernel), List.mem_of_getElem? (i := 283) (by decide +kernel)⟩
theorem lw_p5 : lw_okq (⟨"Zfsmill", "isUnreadable", "(I)Z"⟩, 6) := ⟨⟨by decide +kernel, by decide +kernel⟩, List.mem_of_getElem? (i := 14) (by decide +kernel), List.mem_of_getElem? (i := 332) (by decide +kernel), List.mem_of_getElem? (i := 333) (by decide +kernel)⟩
theorem lw_p6 : lw_okq (⟨"Zfsmill", "healUpToGoodCell", "(I)I"⟩, 6) := ⟨⟨by decide +kernel, by decide +kernel⟩, List.mem_of_getElem? (i := 14) (by decide +kernel), List.mem_of_getElem? (i := 352) (by decide +kernel), List.mem_of_getElem? (i := 353) (by decide +kernel)⟩
theorem lw_p7 : lw_okq (⟨"Zfsmill", "resilver", "(II)I"⟩, 6) := ⟨⟨by decide +kernel, by decide +kernel⟩, List.mem_of_getElem? (i := 14) (by decide +kernel), List.mem_of_getElem? (i := 412) (by decide +kernel), List.mem_of_getElem? (i := 413) (by decide +kernel)⟩
theorem lw_p8 : lw_okq (⟨"Zfsmill", "copyToSide", "(III)I"⟩, 6) := ⟨⟨by decide +kernel, by decide +kernel⟩, List.mem_of_getElem? (i := 14) (by decide +kernel), List.mem_of_getElem? (i := 424) (by decide +kernel), List.mem_of_getElem? (i := 425) (by decide +kernel)⟩
theorem lw_p9 : lw_okq (⟨"Zfsmill", "resilverFile", "(III)I"⟩, 6) := ⟨⟨by decide +kernel, by decide +kernel⟩, List.mem_of_getElem? (i := 14) (by decide +kernel), List.mem_of_getElem? (i := 430) (by decide +kernel), List.mem_of_getElem? (i := 431) (by decide +kernel)⟩
theorem lw_p10 : lw_okq (⟨"Zfsmill", "choosePlaces", "()Z"⟩, 6) := ⟨⟨by decide +kernel, by decide +kernel⟩, List.mem_of_getElem? (i := 14) (by decide +kernel), List.mem_of_getElem? (i := 566) (by decide +kernel), List.mem_of_getElem? (i := 567) (by decide +kernel)⟩
theorem lw_p11 : lw_okq (⟨"Zfsmill", "chooseForFile", "(I)Z"⟩, 6) := ⟨⟨by decide +kernel, by decide +kernel⟩, List.mem_of_getElem? (i := 14) (by decide +kernel), List.mem_of_getElem? (i := 581) (by decide +kernel), List.mem_of_getElem? (i := 582) (by decide +kernel)⟩
theorem lw_p12 : lw_okq (⟨"Zfsmill$Choice", "takeBeside", "(LZfsmill$Cells;I)I"⟩, 4) := ⟨⟨by decide +kernel, by decide +kernel⟩, List.mem_of_getElem? (i := 83) (by decide +kernel), List.mem_of_getElem? (i := 590) (by decide +kernel), List.mem_of_getElem? (i := 591) (by decide +kernel)⟩
theorem lw_p13 : lw_okq (⟨"Zfsmill$Choice", "roomiestBeside", "(I)I"⟩, 4) := ⟨⟨by decide +kernel, by decide +kernel⟩, List.mem_of_getElem? (i := 83) (by decide +kernel), List.mem_of_getElem? (i := 594) (by decide +kernel), List.mem_of_getElem? (i := 595) (by decide +kernel)⟩
theorem lw_p14 : lw_okq (⟨"Zfsmill", "hasData", "(I)Z"⟩, 6) := ⟨⟨by decide +kernel, by decide +kernel⟩, List.mem_of_getElem? (i := 14) (by decide +kernel), List.mem_of_getElem? (i := 603) (by decide +kernel), List.mem_of_getElem? (i := 604) (by decide +kernel)⟩
theorem lw_p15 : lw_okq (⟨"Zfsmill", "hasDataAnywhere", "()Z"⟩, 6) := ⟨⟨by decide +kernel, by decide +kernel⟩, List.mem_of_getElem? (i := 14) (by decide +kernel), List.mem_of_getElem? (i := 607) (by decide +kernel), List.mem_of_getElem? (i := 608) (by decide +kernel)⟩
def lw_privs_1 : List (MethodName × Nat) := [(⟨"Zfsmill", "canFetch", "(I)Z"⟩, 6), (⟨"Zfsmill", "healEveryCell", "(I)I"⟩, 6), (⟨"Zfsmill", "scrubFile", "(I)I"⟩, 6), (⟨"java/lang/Throwable", "fillInStackTrace", "(I)Ljava/lang/Throwable;"⟩, 6), (⟨"Zfsmill", "valueNow", "(II)I"⟩, 6), (⟨"Zfsmill", "isUnreadable", "(I)Z"⟩, 6), (⟨"Zfsmill", "healUpToGoodCell", "(I)I"⟩, 6), (⟨"Zfsmill", "resilver", "(II)I"⟩, 6), (⟨"Zfsmill", "copyToSide", "(III)I"⟩, 6), (⟨"Zfsmill", "resilverFile", "(III)I"⟩, 6), (⟨"Zfsmill", "choosePlaces", "()Z"⟩, 6), (⟨"Zfsmill", "chooseForFile", "(I)Z"⟩, 6), (⟨"Zfsmill$Choice", "takeBeside", "(LZfsmill$Cells;I)I"⟩, 4), (⟨"Zfsmill$Choice", "roomiestBeside", "(I)I"⟩, 4), (⟨"Zfsmill", "hasData", "(I)Z"⟩, 6), (⟨"Zfsmill", "hasDataAnywhere", "()Z"⟩, 6)]
theorem lw_r1 : ∀ q ∈ lw_privs_1, lw_okq q := List.forall_mem_cons.mpr ⟨lw_p0, List.forall_mem_cons.mpr ⟨lw_p1, List.forall_mem_cons.mpr ⟨lw_p2, List.forall_mem_cons.mpr ⟨lw_p3, List.forall_mem_cons.mpr ⟨lw_p4, List.forall_mem_cons.mpr ⟨lw_p5, List.forall_mem_cons.mpr ⟨lw_p6, List.forall_mem_cons.mpr ⟨lw_p7, List.forall_mem_cons.mpr ⟨lw_p8, List.forall_mem_cons.mpr ⟨lw_p9, List.forall_mem_cons.mpr ⟨lw_p10, List.forall_mem_cons.mpr ⟨lw_p11, List.forall_mem_cons.mpr ⟨lw_p12, List.forall_mem_cons.mpr ⟨lw_p13, List.forall_mem_cons.mpr ⟨lw_p14, List.forall_mem_cons.mpr ⟨lw_p15, fun _ h => absurd h List.not_mem_nil⟩⟩⟩⟩⟩⟩⟩⟩⟩⟩⟩⟩⟩⟩⟩⟩
theorem lw_p16 : lw_okq (⟨"Zfsmill", "writeChanges", "()I"⟩, 6) := ⟨⟨by decide +kernel, by decide +kernel⟩, List.mem_of_getElem? (i := 14) (by decide +kernel), List.mem_of_getElem? (i := 612) (by decide +kernel), List.mem_of_getElem? (i := 613) (by decide +kernel)⟩
theorem lw_p17 : lw_okq (⟨"Zfsmill", "writeFile", "(I)I"⟩, 6) := ⟨⟨by decide +kernel, by decide +kernel⟩, List.mem_of_getElem? (i := 14) (by decide +kernel), List.mem_of_getElem? (i := 616) (by decide +kernel), List.mem_of_getElem? (i := 617) (by decide +kernel)⟩
theorem lw_p18 : lw_okq (⟨"Zfsmill", "repoint", "(II)I"⟩, 6) := ⟨⟨by decide +kernel, by decide +kernel⟩, List.mem_of_getElem? (i := 14) (by decide +kernel), List.mem_of_getElem? (i := 625) (by decide +kernel), List.mem_of_getElem? (i := 626) (by decide +kernel)⟩
theorem lw_p19 : lw_okq (⟨"Zfsmill", "freeWhatIsNotPointedTo", "()V"⟩, 6) := ⟨⟨by decide +kernel, by decide +kernel⟩, List.mem_of_getElem? (i := 14) (by decide +kernel), List.mem_of_getElem? (i := 662) (by decide +kernel), List.mem_of_getElem? (i := 663) (by decide +kernel)⟩
def lw_privs_2 : List (MethodName × Nat) := [(⟨"Zfsmill", "writeChanges", "()I"⟩, 6), (⟨"Zfsmill", "writeFile", "(I)I"⟩, 6), (⟨"Zfsmill", "repoint", "(II)I"⟩, 6), (⟨"Zfsmill", "freeWhatIsNotPointedTo", "()V"⟩, 6)]
theorem lw_r2 : ∀ q ∈ lw_privs_2, lw_okq q := List.forall_mem_cons.mpr ⟨lw_p16, List.forall_mem_cons.mpr ⟨lw_p17, List.forall_mem_cons.mpr ⟨lw_p18, List.forall_mem_cons.mpr ⟨lw_p19, fun _ h => absurd h List.not_mem_nil⟩⟩⟩⟩
def lw_privs : List (MethodName × Nat) := lw_privs_1 ++ (lw_privs_2)
def lw_tbl : List Cond := k2_sels lw_privs ++ tables_1
theorem lw_privs_ok : ∀ q ∈ lw_privs, lw_okq q := by
  show ∀ q ∈ lw_privs_1 ++ (lw_privs_2), lw_okq q
  exact List.forall_mem_append.mpr ⟨lw_r1, lw_r2⟩
-- ===== end of PART A; then your names; then what follows =====
end
section
/-! ===== BEGIN words of one list among another's, by their places ===== -/
theorem goodIn_r {big : List Cond} (ws : List Cond) (ps : List Nat) (hp : ws = ps.filterMap (fun i => big[i]?)) (h : ws.all goodWord = true) : GoodIn big ws := by
  intro w hw
  have h1 := List.all_eq_true.mp h w hw
  rw [hp] at hw
  obtain ⟨i, -, hi⟩ := List.mem_filterMap.mp hw
  have hm : w ∈ big := by first | exact List.mem_of_getElem? hi | exact List.getElem?_mem hi
  exact ⟨hm, good_of_word h1⟩
theorem goodIn_app {big a b : List Cond} (ha : GoodIn big a) (hb : GoodIn big b) : GoodIn big (a ++ b) := fun w h => (List.mem_append.mp h).elim (ha w) (hb w)
theorem goodIn_ca {big a b : List Cond} {c : Cond} (ha : GoodIn big (c :: a)) (hb : GoodIn big b) : GoodIn big (c :: (a ++ b)) := fun w h => (List.mem_cons.mp h).elim (fun e => ha w (List.mem_cons.mpr (Or.inl e))) (fun h => (List.mem_append.mp h).elim (fun h => ha w (List.mem_cons.mpr (Or.inr h))) (hb w))
theorem goodIn_sub {big ws : List Cond} (hm : ∀ w ∈ ws, w ∈ big) (h : ws.all goodWord = true) : GoodIn big ws := fun w hw => ⟨hm w hw, good_of_word (List.all_eq_true.mp h w hw)⟩
/-! ===== END ===== -/

/-! ===== BEGIN exceptions that leave a method, and their catching by the caller (launches without stack traces) ===== -/
section VXA
/-! The laws vx_back, vx_callV, vx_callS, vx_callSW, vx_throw0, vx_throwS follow proofs of the library, with one case more: JvmDerived/Free/Laws.lean (Back.of_free), Shelf42/LK1.lean (callV, callS), Shelf/KitTraced.lean (throwNew0V, throwNewS). -/
/-- where a method has thrown q: the class by its name, the cell, what was written, the world -/
def vx_T (XC : String → State → State → Prop) (st : State) (q : Addr) (t : State) (mc ms : Nat) (free : Addr → Prop) : Prop :=
  ∃ (E : String) (ce : Cell) (L : List Loc), XC E st t ∧ t.heap[q]? = some ce ∧ ce.vm = .none ∧ st.vm.findClass E = some ce.cls ∧ st.WarmedH t.vm ∧ st.sameButNew ({ t with vm := st.vm } : State) L mc ms ∧ ∀ z ∈ L, free z.base
def vx_Q (Qc : Array Value → State → Outcome → State → Prop) (XC : String → State → State → Prop) (mc ms : Nat) (free : Addr → Prop) : Array Value → State → Outcome → State → Prop := fun a st o t =>
  (Qc a st o t ∧ ∃ L, FrameEnd st o t L mc ms ∧ ∀ q ∈ L, free q.base) ∨ ∃ q, o = .threw q ∧ vx_T XC st q t mc ms free
/-- a callee that returns or throws -/
def vx_Met (l : Launch) (y : MethodName) (ws : List Cond) (rm : Room) (Pc : Array Value → State → Prop) (Qc : Array Value → State → Outcome → State → Prop) (XC : String → State → State → Prop) (mc ms : Nat) (free : Addr → Prop) : Prop :=
  MetFree l y (headSpec ws rm) Pc (fun _ _ _ _ _ => True) (vx_Q Qc XC mc ms free)
def vx_Post (XC : String → State → State → Prop) (mc ms : Nat) (free : Addr → Prop) : Pt → Array Value → Addr → Pt → Prop := fun A a q B =>
  ∃ (g : JFrame) (mk : MethodId) (t : State) (L : List Loc) (E : String) (ce : Cell), B.U.heap = t.heap ∧ B.U.vm = t.vm ∧ XC E (A.U.calling g mk a) t ∧ t.heap[q]? = some ce ∧ ce.vm = .none ∧ A.U.vm.findClass E = some ce.cls ∧ B.locs = A.locs ++ L ∧ (∀ z ∈ L, free z.base) ∧ B.cells = A.cells + mc ∧ B.slots = A.slots + ms
def vx_Back (l : Launch) (R : Room) (p : Program) (e : Env) (below : List Frame) (s : State) (sargs : Array Value) (y : MethodName) (len W9 : Nat)
    (Pre : Pt → Array Value → Prop) (Post : Pt → Array Value → Option Value → Pt → Prop) (PostX : Pt → Array Value → Addr → Pt → Prop) : Prop :=
  ∀ (m : MethodId) (meth : Method) (c : Code) (A : Pt) (g : JFrame) (ig : Instr) (mk : MethodId) (a : Array Value),
    Stand p l e R s m sargs below meth c A.U A.locs A.cells A.slots → g.method = m → g.locals.size = c.maxLocals → decode c.code g.pc = .ok (ig, len) →
    2 * g.monitorRoom + (g.stack.map fun v => v.category).sum ≤ W9 → A.U.methodNamed? y = some mk → Pre A a →
    (∃ (v : Option Value) (B : Pt), Stand p l e R s m sargs below meth c B.U B.locs B.cells B.slots ∧ Post A a v B ∧
      Steps p.tables e below (doInvoke e (A.U.setTop g) [] mk a).1 (B.U.setTop { g with pc := g.pc + len, stack := v.toList ++ g.stack })) ∨
    (∃ (q : Addr) (B : Pt), Stand p l e R s m sargs below meth c B.U B.locs B.cells B.slots ∧ PostX A a q B ∧
      Steps p.tables e below (doInvoke e (A.U.setTop g) [] mk a).1 ((B.U.setTop g).pushFrame (.throwing q)))
section Payer
variable {l : Launch} {R : Room} {p : Program} {e : Env} {below : List Frame} {s : State} {sargs : Array Value} {y : MethodName} {len W9 : Nat}
theorem vx_back {ws : List Cond} {rm : Room} {Pc : Array Value → State → Prop} {Qc : Array Value → State → Outcome → State → Prop} {XC : String → State → State → Prop} {mc ms : Nat} {free : Addr → Prop} {bytes : ByteArray} {maxL : Nat} {ret : Option FieldType}
    (hM : vx_Met l y ws rm Pc Qc XC mc ms free) (hblind : FrameBlind Pc) (hrc : rm.cells = mc) (hrs : rm.slots = ms)
    (hframes : rm.frames + 1 ≤ R.frames) (hlocals : W9 + (maxL + 11) + rm.locals ≤ R.locals)
    (hws : ∀ w ∈ ws, ∀ a' U, s.WarmedH U.vm → w.before a' U = true) (hcode : Cond.code y bytes maxL ret ∈ ws) (hinit : ∀ a' U, s.WarmedH U.vm → (Cond.initialized y.cls).before a' U = true) :
    vx_Back l R p e below s sargs y len W9 (PreOf R mc ms Pc) (PostOf Qc mc ms free) (vx_Post XC mc ms free) := by
  intro m meth c A g ig mk a X hg hsize hdg hW hn hp
  have h1 : (headSpec ws rm).pre.before a A.U = true := atoms_intro fun w hw => hws w hw _ _ X.warmed
  have h2 : (Cond.code y bytes maxL ret).before a A.U = true := hws _ hcode _ _ X.warmed
  have h3 : (Cond.initialized y.cls).before a A.U = true := hinit _ _ X.warmed
  have h4 : A.cells + (headSpec ws rm).room.cells ≤ R.cells := by rw [show (headSpec ws rm).room.cells = mc from hrc]; exact hp.1
  have h5 : A.slots + (headSpec ws rm).room.slots ≤ R.slots := by rw [show (headSpec ws rm).room.slots = ms from hrs]; exact hp.2.1
  have hPc : Pc a (A.U.calling g mk a) := hblind _ _ _ _ hp.2.2
  obtain ⟨U, Ls, c0, s0⟩ := A
  dsimp only [Pt.U, Pt.locs, Pt.cells, Pt.slots] at h1 h2 h3 h4 h5 X hn hPc ⊢
  obtain ⟨methY, cY, hmY, hcY, -, hlY, -, -, -, -⟩ := Cond.code_spec hn h2
  obtain ⟨kY, hkY, -⟩ := className_of_methodNamed hn
  have hinitY : kY.init = .initialized := Cond.initialized_spec (findClass_of_methodNamed hn) hkY h3
  have h : At U g.method c below := by rw [hg]; exact X.here
  have hlocals9 : W9 + (maxL + 11) + (headSpec ws rm).room.locals ≤ R.locals := hlocals
  have happ : (headSpec ws rm).appliesLoose y e.platform (U.calling g mk a) = true :=
    Spec.appliesLoose_calling (g := g) h hdg hn hkY hinitY
      (X.room_calling (g := g) (R' := (headSpec ws rm).room) hsize hmY hcY hframes (by rw [hlY]; omega) h4 h5) h1
  obtain ⟨mid, hmid⟩ := h.above
  have hfr : (U.setTop g).frames = (.java g :: mid) ++ below := by rw [State.frames_setTop' g h.top, hmid]; rfl
  obtain ⟨o, s₂, hsteps, -, hend, hq⟩ := Steps.callFree hM p X.admits X.cas X.clock (acts := []) hfr happ hPc trivial
  have hq' : vx_Q Qc XC mc ms free a (U.calling g mk a) o s₂ := hq
  rw [State.frames_setTop' g h.top] at hend
  obtain ⟨g₀, hg0⟩ := Option.isSome_iff_exists.mp h.top
  obtain ⟨r, hr⟩ := State.topJava?_eq_some.mp hg0
  have hr' : (({ U with heap := s₂.heap, slotsUsed := s₂.slotsUsed } : State).setVm s₂.vm).frames = .java g₀ :: r := hr
  rcases hq' with ⟨hqc, L, hfe, hL⟩ | ⟨q, rfl, E, ce, L, hx, hce, hcv, hcl, hW₂, hsm, hL⟩
  · obtain ⟨⟨v, rfl⟩, hW₂, e2, q2, q3, q4, q5, q6⟩ := id hfe
    have e3 : s₂ = ({ (U.calling g mk a).setFrames s₂.frames with heap := s₂.heap, slotsUsed := s₂.slotsUsed } : State).setVm s₂.vm := by
      have : s₂ = ({ s₂ with vm := (U.calling g mk a).vm } : State).setVm s₂.vm := rfl
      rw [e2] at this
      exact this
    obtain ⟨c₂, i₂, len₂, hc₂, hd₂, hf₂⟩ := hend
    have hW' : U.WarmedH s₂.vm := hW₂
    have hcc : c₂ = c := by
      have h1 : s₂.code? g.method = U.code? g.method := by
        rw [State.code?_eq, State.code?_eq, hW'.alike.method?]
      exact Option.some.inj (hc₂.symm.trans (h1.trans h.code))
    subst hcc
    have hlen : len₂ = len := by rw [hdg] at hd₂; cases hd₂; rfl
    subst hlen
    have hs₂ : s₂ = (({ U with heap := s₂.heap, slotsUsed := s₂.slotsUsed } : State).setVm s₂.vm).setTop { g with pc := g.pc + len₂, stack := v.toList ++ g.stack } := by
      refine e3.trans ?_
      rw [hf₂, State.calling_eq h.top, State.setFrames_setFrames, State.setTop_of_frames _ hr', hr]
      rfl
    have hsame : U.sameButNew ({ U with heap := s₂.heap, slotsUsed := s₂.slotsUsed } : State) L mc ms := by
      refine ⟨?_, q2, q3, q4, q5, q6⟩
      obtain ⟨t, ht, -⟩ := State.frames_cons hr
      show ({ U with heap := s₂.heap, slotsUsed := s₂.slotsUsed } : State) = { U.setFrames U.frames with heap := s₂.heap, slotsUsed := s₂.slotsUsed }
      rw [State.setFrames_self ht]
    subst hg
    refine Or.inl ⟨v, ⟨(({ U with heap := s₂.heap, slotsUsed := s₂.slotsUsed } : State).setVm s₂.vm), Ls ++ L, c0 + mc, s0 + ms⟩,
      ⟨X.admits, X.cas, X.clock, X.frames, X.room, X.hears, X.method, X.code, (X.here.setHeapUsed s₂.heap s₂.slotsUsed).setVm hW'.alike, X.tail, State.WarmedH.trans X.warmed hW', X.limits, X.bytes, X.same.trans (hsame.setVm s.vm)⟩,
      ⟨g, mk, s₂, L, rfl, rfl, hqc, rfl, hL, rfl, rfl⟩, ?_⟩
    show Steps p.tables e below _ ((({ U with heap := s₂.heap, slotsUsed := s₂.slotsUsed } : State).setVm s₂.vm).setTop { g with pc := g.pc + len₂, stack := v.toList ++ g.stack })
    rw [← hs₂]
    exact hsteps
  · obtain ⟨e2, q2, q3, q4, q5, q6⟩ := id hsm
    have e3 : s₂ = ({ (U.calling g mk a).setFrames s₂.frames with heap := s₂.heap, slotsUsed := s₂.slotsUsed } : State).setVm s₂.vm := by
      have : s₂ = ({ s₂ with vm := (U.calling g mk a).vm } : State).setVm s₂.vm := rfl
      rw [e2] at this
      exact this
    have hf₂ : s₂.frames = .throwing q :: .java g :: U.frames.tail := hend
    have hW' : U.WarmedH s₂.vm := hW₂
    have hs₂ : s₂ = ((({ U with heap := s₂.heap, slotsUsed := s₂.slotsUsed } : State).setVm s₂.vm).setTop g).pushFrame (.throwing q) := by
      refine e3.trans ?_
      rw [hf₂, State.calling_eq h.top, State.setFrames_setFrames, State.pushFrame, State.frames_setTop _ hr', State.setTop_of_frames _ hr', State.setFrames_setFrames, hr]
      rfl
    have hsame : U.sameButNew ({ U with heap := s₂.heap, slotsUsed := s₂.slotsUsed } : State) L mc ms := by
      refine ⟨?_, q2, q3, q4, q5, q6⟩
      obtain ⟨t, ht, -⟩ := State.frames_cons hr
      show ({ U with heap := s₂.heap, slotsUsed := s₂.slotsUsed } : State) = { U.setFrames U.frames with heap := s₂.heap, slotsUsed := s₂.slotsUsed }
      rw [State.setFrames_self ht]
    subst hg
    refine Or.inr ⟨q, ⟨(({ U with heap := s₂.heap, slotsUsed := s₂.slotsUsed } : State).setVm s₂.vm), Ls ++ L, c0 + mc, s0 + ms⟩,
      ⟨X.admits, X.cas, X.clock, X.frames, X.room, X.hears, X.method, X.code, (X.here.setHeapUsed s₂.heap s₂.slotsUsed).setVm hW'.alike, X.tail, State.WarmedH.trans X.warmed hW', X.limits, X.bytes, X.same.trans (hsame.setVm s.vm)⟩,
      ⟨g, mk, s₂, L, E, ce, rfl, rfl, hx, hce, hcv, hcl, rfl, hL, rfl, rfl⟩, ?_⟩
    show Steps p.tables e below _ (((({ U with heap := s₂.heap, slotsUsed := s₂.slotsUsed } : State).setVm s₂.vm).setTop g).pushFrame (.throwing q))
    rw [← hs₂]
    exact hsteps
end Payer
section Calls
variable {p : Program} {l : Launch} {e : Env} {R : Room} {s : State} {m : MethodId} {args : Array Value} {below : List Frame} {meth : Method} {c : Code} {T : State} {locs : List Loc} {cells slots : Nat}
theorem vx_callV (X : Stand p l e R s m args below meth c T locs cells slots) (hexec : p.tables.exec = Jvm.exec) {own C : String} {index : Nat} {y : MethodName} {bytes : ByteArray} {maxL : Nat} {ret : Option FieldType}
    (hown : s.vm.findClass own = some m.cls) (hlink : (Cond.methodLink own index y).before args s = true) (hinst : (Cond.instanceMethod y).before args s = true) (hsel : (Cond.selects C y y).before args s = true)
    (hcode : (Cond.code y bytes maxL ret).before args s = true) (hy : y.cls ≠ "java/lang/invoke/MethodHandle" ∧ y.cls ≠ "java/lang/invoke/VarHandle")
    {W9 : Nat} {Pre : Pt → Array Value → Prop} {Post : Pt → Array Value → Option Value → Pt → Prop} {PostX : Pt → Array Value → Addr → Pt → Prop} (hK : vx_Back l R p e below s args y 3 W9 Pre Post PostX)
    {b : Addr} {cellB : Cell} (hcell : T.heap[b]? = some cellB) (hobj : cellB.vm.isStatics = false) (hcls : s.vm.findClass C = some cellB.cls)
    {g : JFrame} (hg : g.method = m) (hsize : g.locals.size = c.maxLocals) {argsL rest : List Value} (hlen : ∀ sig, parseMethodDescriptor y.desc = some sig → argsL.length = sig.parameters.length)
    (hstack : g.stack = argsL.reverse ++ .ref b :: rest) (hW : 2 * g.monitorRoom + (rest.map fun v => v.category).sum ≤ W9) (hdg : decode c.code g.pc = .ok (.invokevirtual index, 3))
    (hpre : ∀ vm₁, s.WarmedH vm₁ → Pre ⟨T.setVm vm₁, locs, cells, slots⟩ (Value.ref b :: argsL).toArray) :
    (∃ (v : Option Value) (vm₁ : Vm) (B : Pt), s.WarmedH vm₁ ∧ Stand p l e R s m args below meth c B.U B.locs B.cells B.slots ∧ Post ⟨T.setVm vm₁, locs, cells, slots⟩ (Value.ref b :: argsL).toArray v B ∧
      ∀ target, Steps p.tables e below (B.U.setTop { g with pc := g.pc + 3, stack := v.toList ++ rest }) target → Steps p.tables e below (T.setTop g) target) ∨
    (∃ (q : Addr) (vm₁ : Vm) (B : Pt), s.WarmedH vm₁ ∧ Stand p l e R s m args below meth c B.U B.locs B.cells B.slots ∧ PostX ⟨T.setVm vm₁, locs, cells, slots⟩ (Value.ref b :: argsL).toArray q B ∧
      Steps p.tables e below (T.setTop g) ((B.U.setTop { g with stack := rest }).pushFrame (.throwing q))) := by
  obtain ⟨mk, methM, hnamed, hmethM, hstM, habM⟩ := Cond.instanceMethod_spec hinst
  obtain ⟨methM', cM, hmethM', -, -, -, -, -, -, hsigM⟩ := Cond.code_spec hnamed hcode
  cases hmethM.symm.trans hmethM'
  obtain ⟨c2, r2, m2, q1, q2, q3, q4, kP, hkP, hkPi⟩ := Cond.selects_spec hsel
  cases hcls.symm.trans q1
  cases (State.methodFound?_of_named hnamed hy).symm.trans q2
  cases hnamed.symm.trans q3
  have hselP : selectMethod e.platform s.vm cellB.cls mk = .method mk := by rw [Launch.admits_selectMethod X.admits]; exact q4
  obtain ⟨vm₁, X₁, hstep₁⟩ := X.invokevirtual hexec hown hlink hnamed hmethM hstM hkP hkPi hy (a := b) (cell := cellB) hcell
    (fun z h => by rw [h] at hobj; cases hobj) hselP hmethM habM hkP hkPi (g := g) hg (argsL := argsL) (rest := rest) (hlen _ hsigM) hstack hdg
  rcases hK m meth c ⟨T.setVm vm₁, locs, cells, slots⟩ { g with stack := rest } (.invokevirtual index) mk (Value.ref b :: argsL).toArray X₁ hg hsize hdg hW (X₁.named hnamed) (hpre vm₁ X₁.warmed) with ⟨v, B, X', hpost, hsteps⟩ | ⟨q, B, X', hpost, hsteps⟩
  · exact Or.inl ⟨v, vm₁, B, X₁.warmed, X', hpost, fun target h => hstep₁ _ fun acts => by rw [doInvoke_state]; exact hsteps.trans h⟩
  · exact Or.inr ⟨q, vm₁, B, X₁.warmed, X', hpost, hstep₁ _ fun acts => by rw [doInvoke_state]; exact hsteps⟩
theorem vx_callS (X : Stand p l e R s m args below meth c T locs cells slots) (hexec : p.tables.exec = Jvm.exec) {own : String} {index : Nat} {y : MethodName} {bytes : ByteArray} {maxL : Nat} {ret : Option FieldType}
    (hown : s.vm.findClass own = some m.cls) (hlink : (Cond.methodLink own index y).before args s = true) (hstat : (Cond.static y).before args s = true) (hinit : (Cond.initialized y.cls).before args s = true)
    (hcode : (Cond.code y bytes maxL ret).before args s = true) (hy : y.cls ≠ "java/lang/invoke/MethodHandle" ∧ y.cls ≠ "java/lang/invoke/VarHandle")
    {W9 : Nat} {Pre : Pt → Array Value → Prop} {Post : Pt → Array Value → Option Value → Pt → Prop} {PostX : Pt → Array Value → Addr → Pt → Prop} (hK : vx_Back l R p e below s args y 3 W9 Pre Post PostX)
    {g : JFrame} (hg : g.method = m) (hsize : g.locals.size = c.maxLocals) {argsL rest : List Value} (hlen : ∀ sig, parseMethodDescriptor y.desc = some sig → argsL.length = sig.parameters.length)
    (hstack : g.stack = argsL.reverse ++ rest) (hW : 2 * g.monitorRoom + (rest.map fun v => v.category).sum ≤ W9) (hdg : decode c.code g.pc = .ok (.invokestatic index, 3))
    (hpre : ∀ vm₁, s.WarmedH vm₁ → Pre ⟨T.setVm vm₁, locs, cells, slots⟩ argsL.toArray) :
    (∃ (v : Option Value) (vm₁ : Vm) (B : Pt), s.WarmedH vm₁ ∧ Stand p l e R s m args below meth c B.U B.locs B.cells B.slots ∧ Post ⟨T.setVm vm₁, locs, cells, slots⟩ argsL.toArray v B ∧
      ∀ target, Steps p.tables e below (B.U.setTop { g with pc := g.pc + 3, stack := v.toList ++ rest }) target → Steps p.tables e below (T.setTop g) target) ∨
    (∃ (q : Addr) (vm₁ : Vm) (B : Pt), s.WarmedH vm₁ ∧ Stand p l e R s m args below meth c B.U B.locs B.cells B.slots ∧ PostX ⟨T.setVm vm₁, locs, cells, slots⟩ argsL.toArray q B ∧
      Steps p.tables e below (T.setTop g) ((B.U.setTop { g with stack := rest }).pushFrame (.throwing q))) := by
  obtain ⟨mk, hnamed⟩ := Cond.code_named hcode
  obtain ⟨methM, cM, hmethM, -, -, -, -, -, -, hsigM⟩ := Cond.code_spec hnamed hcode
  have hstatic : methM.isStatic = true := Cond.static_spec hnamed hmethM hstat
  obtain ⟨kP, hkP, -⟩ := className_of_methodNamed hnamed
  have hinitP : kP.init = .initialized := Cond.initialized_spec (findClass_of_methodNamed hnamed) hkP hinit
  obtain ⟨vm₁, X₁, hstep₁⟩ := X.invokestatic hexec hown hlink hnamed hmethM hstatic hkP hinitP hy (g := g) hg (argsL := argsL) (rest := rest) (hlen _ hsigM) hstack hdg
  rcases hK m meth c ⟨T.setVm vm₁, locs, cells, slots⟩ { g with stack := rest } (.invokestatic index) mk argsL.toArray X₁ hg hsize hdg hW (X₁.named hnamed) (hpre vm₁ X₁.warmed) with ⟨v, B, X', hpost, hsteps⟩ | ⟨q, B, X', hpost, hsteps⟩
  · exact Or.inl ⟨v, vm₁, B, X₁.warmed, X', hpost, fun target h => hstep₁ _ fun acts => by rw [doInvoke_state]; exact hsteps.trans h⟩
  · exact Or.inr ⟨q, vm₁, B, X₁.warmed, X', hpost, hstep₁ _ fun acts => by rw [doInvoke_state]; exact hsteps⟩
end Calls
theorem vx_cls {s : State} {T : State} {vm₁ : Vm} {E : String} {k : ClassId} (hW : s.WarmedH vm₁) (h : (T.setVm vm₁).vm.findClass E = some k) : s.vm.findClass E = some k := by
  have h1 : vm₁.findClass E = some k := h
  rw [hW.alike.findClass] at h1
  exact h1
/-- the method's frame g, with q thrown over it -/
def vx_W (p : Program) (l : Launch) (e : Env) (R : Room) (s : State) (m : MethodId) (args : Array Value) (below : List Frame) (meth : Method) (c : Code) (H : Heap) (locs : List Loc) (cells slots : Nat) (Q : State → Prop) (g : JFrame) (q : Addr) : Prop :=
  ∀ T : State, T.heap = H → Stand p l e R s m args below meth c T locs cells slots → ∃ t, Steps p.tables e below ((T.setTop g).pushFrame (.throwing q)) t ∧ Q t
def vx_Run (p : Program) (l : Launch) (e : Env) (R : Room) (s : State) (m : MethodId) (args : Array Value) (below : List Frame) (meth : Method) (c : Code) (H : Heap) (locs : List Loc) (cells slots mc ms : Nat) (g : JFrame) (rest : List Value) (Qa : State → Outcome → State → Prop) (XC : String → State → State → Prop) (free : Addr → Prop) : Prop :=
  ∀ T : State, T.heap = H → Stand p l e R s m args below meth c T locs cells slots →
    (∃ (v : Option Value) (st₀ t T' : State) (L : List Loc), st₀.heap = H ∧ Stand p l e R s m args below meth c T' (locs ++ L) (cells + mc) (slots + ms) ∧ (∀ q ∈ L, free q.base) ∧ T'.heap = t.heap ∧ T'.vm = t.vm ∧ Qa st₀ (.returned v) t ∧
      Goes p e below T g T' { g with pc := g.pc + 3, stack := v.toList ++ rest }) ∨
    (∃ (q : Addr) (st₀ t T' : State) (L : List Loc) (E : String) (ce : Cell), st₀.heap = H ∧ Stand p l e R s m args below meth c T' (locs ++ L) (cells + mc) (slots + ms) ∧ (∀ z ∈ L, free z.base) ∧ T'.heap = t.heap ∧ T'.vm = t.vm ∧ XC E st₀ t ∧ t.heap[q]? = some ce ∧ ce.vm = .none ∧ s.vm.findClass E = some ce.cls ∧
      Steps p.tables e below (T.setTop g) ((T'.setTop { g with stack := rest }).pushFrame (.throwing q)))
def vx_X {S : Type} (px : S → Prop) (B : String → S → State → Prop) (A : Nat → Prop) : String → State → State → Prop := fun E st t => ∃ u : S, px u ∧ B E u t ∧ va_F A st t
section Runs
variable {p : Program} {l : Launch} {e : Env} {R : Room} {s : State} {m : MethodId} {args : Array Value} {below : List Frame} {meth : Method} {c : Code} {H : Heap} {locs : List Loc} {cells slots : Nat}
variable {y : MethodName} {bytes cc : ByteArray} {maxL nL mc ms n index : Nat} {ret : Option FieldType} {ws : List Cond} {rm : Room} {Pc : Array Value → State → Prop} {Qc : Array Value → State → Outcome → State → Prop} {XC : String → State → State → Prop} {free : Addr → Prop} {Ts : List Cond} {own C : String} {b : Addr} {As rest : List Value} {g : JFrame}
theorem vx_callBack (cb : CallB R s args own index y bytes maxL ret ws rm mc ms n) (hM : vx_Met l y ws rm Pc Qc XC mc ms free) (hbl : FrameBlind Pc) : vx_Back l R p e below s args y 3 8 (PreOf R mc ms Pc) (PostOf Qc mc ms free) (vx_Post XC mc ms free) := by
  obtain ⟨hrc, hrs, hfr, hlo, hws, hcw, -, hini, -⟩ := cb
  exact vx_back (bytes := bytes) (maxL := maxL) (ret := ret) hM hbl hrc hrs hfr hlo hws hcw (fun a' U hW => word_at hW (Or.inl (by first | rfl | simp [Cond.onTables, Cond.keeps, Cond.steady])) hini)
theorem vx_runV (S : CallFix p m c cc nL s args Ts own) (hM : vx_Met l y ws rm Pc Qc XC mc ms free) (cw : CallW R s args own C index y bytes maxL ret ws rm mc ms n) (hp : PreV s H C b Pc As)
    (hg : g.method = m) (hn : As.length = n) (hsize : g.locals.size = nL) (hstack : g.stack = As.reverse ++ .ref b :: rest) (hW : 2 * g.monitorRoom + (rest.map fun v => v.category).sum ≤ 8) (hdg : decode cc g.pc = .ok (.invokevirtual index, 3)) (hf : cells + mc ≤ R.cells ∧ slots + ms ≤ R.slots) :
    vx_Run p l e R s m args below meth c H locs cells slots mc ms g rest (Qc (Value.ref b :: As).toArray) XC free := by
  have hK : vx_Back l R p e below s args y 3 8 (PreOf R mc ms Pc) (PostOf Qc mc ms free) (vx_Post XC mc ms free) := vx_callBack cw.1 hM hp.1
  obtain ⟨⟨-, -, -, -, -, -, hcode, -, hy, hlen, hl⟩, hin, hse⟩ := cw
  obtain ⟨hx, hb, hml, ho, -⟩ := S
  obtain ⟨-, ⟨cellB, hcB, hoB, hclB⟩, hPc⟩ := hp
  intro T hT X
  rcases vx_callV X hx (C := C) (bytes := bytes) (maxL := maxL) (ret := ret) ho hl hin hse hcode hy hK (by rw [hT]; exact hcB) hoB hclB hg (hsize.trans hml.symm) (argsL := As) (rest := rest) (fun sig h => hn.trans (hlen sig h)) hstack hW (by rw [hb]; exact hdg)
    (fun vm₁ hW₁ => ⟨hf.1, hf.2, hPc (T.setVm vm₁) hT hW₁⟩) with ⟨v, vm₁, ⟨U', l2, c2, s2⟩, hW₁, X', ⟨g', mk, t, L, e1, e2, hq, h1, hL, h2, h3⟩, st⟩ | ⟨q, vm₁, ⟨U', l2, c2, s2⟩, hW₁, X', ⟨g', mk, t, L, E, ce, e1, e2, hq, hce, hcv, hcl, h1, hL, h2, h3⟩, st⟩
  · dsimp only [Pt.U, Pt.locs, Pt.cells, Pt.slots] at X' e1 e2 h1 h2 h3 st
    subst h1; subst h2; subst h3
    exact Or.inl ⟨v, (T.setVm vm₁).calling g' mk (Value.ref b :: As).toArray, t, U', L, hT, X', hL, e1, e2, hq, st⟩
  · dsimp only [Pt.U, Pt.locs, Pt.cells, Pt.slots] at X' e1 e2 h1 h2 h3 st hcl
    subst h1; subst h2; subst h3
    exact Or.inr ⟨q, (T.setVm vm₁).calling g' mk (Value.ref b :: As).toArray, t, U', L, E, ce, hT, X', hL, e1, e2, hq, hce, hcv, vx_cls hW₁ hcl, st⟩
theorem vx_runS (S : CallFix p m c cc nL s args Ts own) (hM : vx_Met l y ws rm Pc Qc XC mc ms free) (cw : CallB R s args own index y bytes maxL ret ws rm mc ms n ∧ (Cond.static y).before args s = true) (hp : PreS s H Pc As)
    (hg : g.method = m) (hn : As.length = n) (hsize : g.locals.size = nL) (hstack : g.stack = As.reverse ++ rest) (hW : 2 * g.monitorRoom + (rest.map fun v => v.category).sum ≤ 8) (hdg : decode cc g.pc = .ok (.invokestatic index, 3)) (hf : cells + mc ≤ R.cells ∧ slots + ms ≤ R.slots) :
    vx_Run p l e R s m args below meth c H locs cells slots mc ms g rest (Qc As.toArray) XC free := by
  have hK : vx_Back l R p e below s args y 3 8 (PreOf R mc ms Pc) (PostOf Qc mc ms free) (vx_Post XC mc ms free) := vx_callBack cw.1 hM hp.1
  obtain ⟨⟨-, -, -, -, -, -, hcode, hini, hy, hlen, hl⟩, hstt⟩ := cw
  obtain ⟨hx, hb, hml, ho, -⟩ := S
  intro T hT X
  rcases vx_callS X hx (bytes := bytes) (maxL := maxL) (ret := ret) ho hl hstt hini hcode hy hK hg (hsize.trans hml.symm) (argsL := As) (rest := rest) (fun sig h => hn.trans (hlen sig h)) hstack hW (by rw [hb]; exact hdg)
    (fun vm₁ hW₁ => ⟨hf.1, hf.2, hp.2 (T.setVm vm₁) hT hW₁⟩) with ⟨v, vm₁, ⟨U', l2, c2, s2⟩, hW₁, X', ⟨g', mk, t, L, e1, e2, hq, h1, hL, h2, h3⟩, st⟩ | ⟨q, vm₁, ⟨U', l2, c2, s2⟩, hW₁, X', ⟨g', mk, t, L, E, ce, e1, e2, hq, hce, hcv, hcl, h1, hL, h2, h3⟩, st⟩
  · dsimp only [Pt.U, Pt.locs, Pt.cells, Pt.slots] at X' e1 e2 h1 h2 h3 st
    subst h1; subst h2; subst h3
    exact Or.inl ⟨v, (T.setVm vm₁).calling g' mk As.toArray, t, U', L, hT, X', hL, e1, e2, hq, st⟩
  · dsimp only [Pt.U, Pt.locs, Pt.cells, Pt.slots] at X' e1 e2 h1 h2 h3 st hcl
    subst h1; subst h2; subst h3
    exact Or.inr ⟨q, (T.setVm vm₁).calling g' mk As.toArray, t, U', L, E, ce, hT, X', hL, e1, e2, hq, hce, hcv, vx_cls hW₁ hcl, st⟩
end Runs
section Rows
variable {p : Program} {l : Launch} {e : Env} {R : Room} {s : State} {m : MethodId} {args : Array Value} {below : List Frame} {meth : Method} {c : Code} {H : Heap} {locs : List Loc} {cells slots : Nat} {Q : State → Prop}
variable {mc ms : Nat} {free : Addr → Prop} {A0 A1 : Nat → Prop} {H0 : Heap} {a : Array Value} {pc : Nat} {ls : Array Slot} {st0 rest : List Value}
theorem vx_keep {st₀ t T' : State} {L : List Loc} (h0 : st₀.heap = H) (e1 : T'.heap = t.heap) (hS : va_S A0 H0 H locs) (hA : ∀ q, q < H.size → A1 q → A0 q) (hf : ∀ q, free q → A0 q) (hL : ∀ q ∈ L, free q.base) (hF : va_F A1 st₀ t) :
    H.size ≤ T'.heap.size ∧ (∀ q : Nat, q < H.size → ¬ A1 q → T'.heap[q]? = H[q]?) ∧ va_S A0 H0 T'.heap (locs ++ L) := by
  obtain ⟨hz, hk⟩ := hF
  rw [h0] at hz hk
  exact ⟨by rw [e1]; exact hz, fun q h1 h2 => by rw [e1]; exact hk q h1 h2,
    ⟨Nat.le_trans hS.1 (by rw [e1]; exact hz), fun q h1 h2 => by rw [e1, hk q (Nat.lt_of_lt_of_le h1 hS.1) (fun z => h2 (hA q (Nat.lt_of_lt_of_le h1 hS.1) z))]; exact hS.2.1 q h1 h2, fun q hq => by
      rcases List.mem_append.mp hq with h | h
      · exact hS.2.2 q h
      · exact hf _ (hL q h)⟩⟩
theorem vx_calli {S SX : Type} {post : Int32 → S → Prop} {px : SX → Prop} {B : S → State → Prop} {BX : String → SX → State → Prop} {AX : Nat → Prop} (hr : vx_Run p l e R s m args below meth c H locs cells slots mc ms (F0 m pc ls st0) rest (va_Qi post B A1 a) (vx_X px BX AX) free) (hS : va_S A0 H0 H locs) (hA : ∀ q, q < H.size → A1 q → A0 q) (hf : ∀ q, free q → A0 q) (hAX : ∀ q, q < H.size → AX q → A0 q)
    (kx : ∀ (E : String) (ce : Cell) (q9 : Addr) (u : SX) (t : State) (H1 : Heap) (locs1 : List Loc), t.heap = H1 → s.vm.Alike t.vm → px u → BX E u t → H.size ≤ H1.size → (∀ q : Nat, q < H.size → ¬ AX q → H1[q]? = H[q]?) → va_S A0 H0 H1 locs1 → H1[q9]? = some ce → ce.vm = .none → s.vm.findClass E = some ce.cls → vx_W p l e R s m args below meth c H1 locs1 (cells + mc) (slots + ms) Q (F0 m pc ls rest) q9)
    (kk : ∀ (r : Int32) (u : S) (t : State) (H1 : Heap) (locs1 : List Loc), t.heap = H1 → s.vm.Alike t.vm → post r u → B u t → H.size ≤ H1.size → (∀ q : Nat, q < H.size → ¬ A1 q → H1[q]? = H[q]?) → va_S A0 H0 H1 locs1 → W p l e R s m args below meth c H1 locs1 (cells + mc) (slots + ms) Q (F0 m (pc + 3) ls (.int r :: rest))) : W p l e R s m args below meth c H locs cells slots Q (F0 m pc ls st0) := by
  intro T hT X
  rcases hr T hT X with ⟨v, st₀, t, T', L, h0, X', hL, e1, e2, ⟨⟨r, u, hv, hp, hb⟩, hF⟩, st⟩ | ⟨q, st₀, t, T', L, E, ce, h0, X', hL, e1, e2, ⟨u, hp, hb, hF⟩, hce, hcv, hcl, st⟩
  · cases hv
    obtain ⟨k1, k2, k3⟩ := vx_keep h0 e1 hS hA hf hL hF
    obtain ⟨t2, a1, b1⟩ := kk r u t T'.heap (locs ++ L) e1.symm (by rw [← e2]; exact X'.warmed.alike) hp hb k1 k2 k3 T' rfl X'
    exact ⟨t2, st t2 a1, b1⟩
  · obtain ⟨k1, k2, k3⟩ := vx_keep h0 e1 hS hAX hf hL hF
    obtain ⟨t2, a1, b1⟩ := kx E ce q u t T'.heap (locs ++ L) e1.symm (by rw [← e2]; exact X'.warmed.alike) hp hb k1 k2 k3 (by rw [e1]; exact hce) hcv hcl T' rfl X'
    exact ⟨t2, st.trans a1, b1⟩
theorem vx_calll {S SX : Type} {post : Int64 → S → Prop} {px : SX → Prop} {B : S → State → Prop} {BX : String → SX → State → Prop} {AX : Nat → Prop} (hr : vx_Run p l e R s m args below meth c H locs cells slots mc ms (F0 m pc ls st0) rest (va_Ql post B A1 a) (vx_X px BX AX) free) (hS : va_S A0 H0 H locs) (hA : ∀ q, q < H.size → A1 q → A0 q) (hf : ∀ q, free q → A0 q) (hAX : ∀ q, q < H.size → AX q → A0 q)
    (kx : ∀ (E : String) (ce : Cell) (q9 : Addr) (u : SX) (t : State) (H1 : Heap) (locs1 : List Loc), t.heap = H1 → s.vm.Alike t.vm → px u → BX E u t → H.size ≤ H1.size → (∀ q : Nat, q < H.size → ¬ AX q → H1[q]? = H[q]?) → va_S A0 H0 H1 locs1 → H1[q9]? = some ce → ce.vm = .none → s.vm.findClass E = some ce.cls → vx_W p l e R s m args below meth c H1 locs1 (cells + mc) (slots + ms) Q (F0 m pc ls rest) q9)
    (kk : ∀ (r : Int64) (u : S) (t : State) (H1 : Heap) (locs1 : List Loc), t.heap = H1 → s.vm.Alike t.vm → post r u → B u t → H.size ≤ H1.size → (∀ q : Nat, q < H.size → ¬ A1 q → H1[q]? = H[q]?) → va_S A0 H0 H1 locs1 → W p l e R s m args below meth c H1 locs1 (cells + mc) (slots + ms) Q (F0 m (pc + 3) ls (.long r :: rest))) : W p l e R s m args below meth c H locs cells slots Q (F0 m pc ls st0) := by
  intro T hT X
  rcases hr T hT X with ⟨v, st₀, t, T', L, h0, X', hL, e1, e2, ⟨⟨r, u, hv, hp, hb⟩, hF⟩, st⟩ | ⟨q, st₀, t, T', L, E, ce, h0, X', hL, e1, e2, ⟨u, hp, hb, hF⟩, hce, hcv, hcl, st⟩
  · cases hv
    obtain ⟨k1, k2, k3⟩ := vx_keep h0 e1 hS hA hf hL hF
    obtain ⟨t2, a1, b1⟩ := kk r u t T'.heap (locs ++ L) e1.symm (by rw [← e2]; exact X'.warmed.alike) hp hb k1 k2 k3 T' rfl X'
    exact ⟨t2, st t2 a1, b1⟩
  · obtain ⟨k1, k2, k3⟩ := vx_keep h0 e1 hS hAX hf hL hF
    obtain ⟨t2, a1, b1⟩ := kx E ce q u t T'.heap (locs ++ L) e1.symm (by rw [← e2]; exact X'.warmed.alike) hp hb k1 k2 k3 (by rw [e1]; exact hce) hcv hcl T' rfl X'
    exact ⟨t2, st.trans a1, b1⟩
theorem vx_callf {S SX : Type} {post : UInt32 → S → Prop} {px : SX → Prop} {B : S → State → Prop} {BX : String → SX → State → Prop} {AX : Nat → Prop} (hr : vx_Run p l e R s m args below meth c H locs cells slots mc ms (F0 m pc ls st0) rest (va_Qf post B A1 a) (vx_X px BX AX) free) (hS : va_S A0 H0 H locs) (hA : ∀ q, q < H.size → A1 q → A0 q) (hf : ∀ q, free q → A0 q) (hAX : ∀ q, q < H.size → AX q → A0 q)
    (kx : ∀ (E : String) (ce : Cell) (q9 : Addr) (u : SX) (t : State) (H1 : Heap) (locs1 : List Loc), t.heap = H1 → s.vm.Alike t.vm → px u → BX E u t → H.size ≤ H1.size → (∀ q : Nat, q < H.size → ¬ AX q → H1[q]? = H[q]?) → va_S A0 H0 H1 locs1 → H1[q9]? = some ce → ce.vm = .none → s.vm.findClass E = some ce.cls → vx_W p l e R s m args below meth c H1 locs1 (cells + mc) (slots + ms) Q (F0 m pc ls rest) q9)
    (kk : ∀ (r : UInt32) (u : S) (t : State) (H1 : Heap) (locs1 : List Loc), t.heap = H1 → s.vm.Alike t.vm → post r u → B u t → H.size ≤ H1.size → (∀ q : Nat, q < H.size → ¬ A1 q → H1[q]? = H[q]?) → va_S A0 H0 H1 locs1 → W p l e R s m args below meth c H1 locs1 (cells + mc) (slots + ms) Q (F0 m (pc + 3) ls (.float r :: rest))) : W p l e R s m args below meth c H locs cells slots Q (F0 m pc ls st0) := by
  intro T hT X
  rcases hr T hT X with ⟨v, st₀, t, T', L, h0, X', hL, e1, e2, ⟨⟨r, u, hv, hp, hb⟩, hF⟩, st⟩ | ⟨q, st₀, t, T', L, E, ce, h0, X', hL, e1, e2, ⟨u, hp, hb, hF⟩, hce, hcv, hcl, st⟩
  · cases hv
    obtain ⟨k1, k2, k3⟩ := vx_keep h0 e1 hS hA hf hL hF
    obtain ⟨t2, a1, b1⟩ := kk r u t T'.heap (locs ++ L) e1.symm (by rw [← e2]; exact X'.warmed.alike) hp hb k1 k2 k3 T' rfl X'
    exact ⟨t2, st t2 a1, b1⟩
  · obtain ⟨k1, k2, k3⟩ := vx_keep h0 e1 hS hAX hf hL hF
    obtain ⟨t2, a1, b1⟩ := kx E ce q u t T'.heap (locs ++ L) e1.symm (by rw [← e2]; exact X'.warmed.alike) hp hb k1 k2 k3 (by rw [e1]; exact hce) hcv hcl T' rfl X'
    exact ⟨t2, st.trans a1, b1⟩
theorem vx_calld {S SX : Type} {post : UInt64 → S → Prop} {px : SX → Prop} {B : S → State → Prop} {BX : String → SX → State → Prop} {AX : Nat → Prop} (hr : vx_Run p l e R s m args below meth c H locs cells slots mc ms (F0 m pc ls st0) rest (va_Qd post B A1 a) (vx_X px BX AX) free) (hS : va_S A0 H0 H locs) (hA : ∀ q, q < H.size → A1 q → A0 q) (hf : ∀ q, free q → A0 q) (hAX : ∀ q, q < H.size → AX q → A0 q)
    (kx : ∀ (E : String) (ce : Cell) (q9 : Addr) (u : SX) (t : State) (H1 : Heap) (locs1 : List Loc), t.heap = H1 → s.vm.Alike t.vm → px u → BX E u t → H.size ≤ H1.size → (∀ q : Nat, q < H.size → ¬ AX q → H1[q]? = H[q]?) → va_S A0 H0 H1 locs1 → H1[q9]? = some ce → ce.vm = .none → s.vm.findClass E = some ce.cls → vx_W p l e R s m args below meth c H1 locs1 (cells + mc) (slots + ms) Q (F0 m pc ls rest) q9)
    (kk : ∀ (r : UInt64) (u : S) (t : State) (H1 : Heap) (locs1 : List Loc), t.heap = H1 → s.vm.Alike t.vm → post r u → B u t → H.size ≤ H1.size → (∀ q : Nat, q < H.size → ¬ A1 q → H1[q]? = H[q]?) → va_S A0 H0 H1 locs1 → W p l e R s m args below meth c H1 locs1 (cells + mc) (slots + ms) Q (F0 m (pc + 3) ls (.double r :: rest))) : W p l e R s m args below meth c H locs cells slots Q (F0 m pc ls st0) := by
  intro T hT X
  rcases hr T hT X with ⟨v, st₀, t, T', L, h0, X', hL, e1, e2, ⟨⟨r, u, hv, hp, hb⟩, hF⟩, st⟩ | ⟨q, st₀, t, T', L, E, ce, h0, X', hL, e1, e2, ⟨u, hp, hb, hF⟩, hce, hcv, hcl, st⟩
  · cases hv
    obtain ⟨k1, k2, k3⟩ := vx_keep h0 e1 hS hA hf hL hF
    obtain ⟨t2, a1, b1⟩ := kk r u t T'.heap (locs ++ L) e1.symm (by rw [← e2]; exact X'.warmed.alike) hp hb k1 k2 k3 T' rfl X'
    exact ⟨t2, st t2 a1, b1⟩
  · obtain ⟨k1, k2, k3⟩ := vx_keep h0 e1 hS hAX hf hL hF
    obtain ⟨t2, a1, b1⟩ := kx E ce q u t T'.heap (locs ++ L) e1.symm (by rw [← e2]; exact X'.warmed.alike) hp hb k1 k2 k3 (by rw [e1]; exact hce) hcv hcl T' rfl X'
    exact ⟨t2, st.trans a1, b1⟩
theorem vx_callv {S SX : Type} {post : S → Prop} {px : SX → Prop} {B : S → State → Prop} {BX : String → SX → State → Prop} {AX : Nat → Prop} (hr : vx_Run p l e R s m args below meth c H locs cells slots mc ms (F0 m pc ls st0) rest (va_Qv post B A1 a) (vx_X px BX AX) free) (hS : va_S A0 H0 H locs) (hA : ∀ q, q < H.size → A1 q → A0 q) (hf : ∀ q, free q → A0 q) (hAX : ∀ q, q < H.size → AX q → A0 q)
    (kx : ∀ (E : String) (ce : Cell) (q9 : Addr) (u : SX) (t : State) (H1 : Heap) (locs1 : List Loc), t.heap = H1 → s.vm.Alike t.vm → px u → BX E u t → H.size ≤ H1.size → (∀ q : Nat, q < H.size → ¬ AX q → H1[q]? = H[q]?) → va_S A0 H0 H1 locs1 → H1[q9]? = some ce → ce.vm = .none → s.vm.findClass E = some ce.cls → vx_W p l e R s m args below meth c H1 locs1 (cells + mc) (slots + ms) Q (F0 m pc ls rest) q9)
    (kk : ∀ (u : S) (t : State) (H1 : Heap) (locs1 : List Loc), t.heap = H1 → s.vm.Alike t.vm → post u → B u t → H.size ≤ H1.size → (∀ q : Nat, q < H.size → ¬ A1 q → H1[q]? = H[q]?) → va_S A0 H0 H1 locs1 → W p l e R s m args below meth c H1 locs1 (cells + mc) (slots + ms) Q (F0 m (pc + 3) ls (rest))) : W p l e R s m args below meth c H locs cells slots Q (F0 m pc ls st0) := by
  intro T hT X
  rcases hr T hT X with ⟨v, st₀, t, T', L, h0, X', hL, e1, e2, ⟨⟨u, hv, hp, hb⟩, hF⟩, st⟩ | ⟨q, st₀, t, T', L, E, ce, h0, X', hL, e1, e2, ⟨u, hp, hb, hF⟩, hce, hcv, hcl, st⟩
  · cases hv
    obtain ⟨k1, k2, k3⟩ := vx_keep h0 e1 hS hA hf hL hF
    obtain ⟨t2, a1, b1⟩ := kk u t T'.heap (locs ++ L) e1.symm (by rw [← e2]; exact X'.warmed.alike) hp hb k1 k2 k3 T' rfl X'
    exact ⟨t2, st t2 a1, b1⟩
  · obtain ⟨k1, k2, k3⟩ := vx_keep h0 e1 hS hAX hf hL hF
    obtain ⟨t2, a1, b1⟩ := kx E ce q u t T'.heap (locs ++ L) e1.symm (by rw [← e2]; exact X'.warmed.alike) hp hb k1 k2 k3 (by rw [e1]; exact hce) hcv hcl T' rfl X'
    exact ⟨t2, st.trans a1, b1⟩
/-- caught by the row x of this method's table; the rows ahead don't take it -/
theorem vx_catch {own name : String} {E : String} {ce : Cell} {q : Addr} (hown : s.vm.findClass own = some m.cls) (pre : List ExceptionTableEntry) (x : ExceptionTableEntry) (suf : List ExceptionTableEntry) (hsplit : c.exceptionTable.toList = pre ++ x :: suf)
    (hpass : ∀ z ∈ pre, covers z pc = false ∨ (z.catchType ≠ 0 ∧ ∃ nm : String, (Cond.classLink own z.catchType nm).before args s = true ∧ va_Nc E nm s)) (hx : covers x pc = true) (h0 : x.catchType ≠ 0)
    (hlink : (Cond.classLink own x.catchType name).before args s = true) (hcast : (Cond.castable E name).before args s = true) (hcell : H[q]? = some ce) (hv : ce.vm = .none) (hcl : s.vm.findClass E = some ce.cls)
    (kk : W p l e R s m args below meth c H locs cells slots Q (F0 m x.handlerPc ls [.ref q])) : vx_W p l e R s m args below meth c H locs cells slots Q (F0 m pc ls rest) q := by
  intro T hT X
  have hpl : e.platform.magicAccessors = ({} : Platform).magicAccessors := by rw [X.admits.platform]
  obtain ⟨c3, c4, hc3, hc4, hasg⟩ := Cond.castable_spec hcast
  cases Option.some.inj (hc3.symm.trans hcl)
  obtain ⟨c5, hc5, hcl5⟩ := Cond.classLink_spec hown hlink e.platform hpl
  cases Option.some.inj (hc4.symm.trans hc5)
  obtain ⟨vm', X', st⟩ := X.thenCaughtThrough q (g := F0 m pc ls rest) rfl (Steps.refl _) (by rw [hT]; exact hcell) (by rw [hv]; rfl) (by obtain ⟨k9, h9, -⟩ := Vm.findClass_spec hcl; exact ⟨k9, h9⟩) pre x suf hsplit
    (fun z hz => by
      rcases hpass z hz with h | ⟨hz0, nm, hl1, hn1⟩
      · exact Or.inl h
      · obtain ⟨c6, hc6, hcl6⟩ := Cond.classLink_spec hown hl1 e.platform hpl
        obtain ⟨a8, b8, h1, h2, h3⟩ := hn1
        cases Option.some.inj (h1.symm.trans hcl)
        cases Option.some.inj (h2.symm.trans hc6)
        exact Or.inr ⟨hz0, _, hcl6, h3⟩) hx (Or.inr ⟨h0, c4, hcl5, hasg⟩)
  obtain ⟨t, a1, b1⟩ := kk (T.setVm vm') hT X'
  exact ⟨t, st.trans a1, b1⟩
end Rows
section Ends
variable {p : Program} {l : Launch} {e : Env} {R : Room} {s : State} {m : MethodId} {args : Array Value} {below : List Frame} {meth : Method} {c : Code} {H : Heap} {locs : List Loc} {cells slots : Nat} {Q : State → Prop}
variable {mc ms : Nat} {free : Addr → Prop} {A0 A1 : Nat → Prop} {H0 : Heap} {a : Array Value} {ls : Array Slot} {st0 rest : List Value}
variable {Qc : Array Value → State → Outcome → State → Prop} {XC : String → State → State → Prop}
/-- what a body that may throw owes at its end -/
def vx_MQ (below : List Frame) (Qc : Array Value → State → Outcome → State → Prop) (XC : String → State → State → Prop) (a : Array Value) (s : State) (mc ms : Nat) (free : Addr → Prop) : State → Prop := fun t =>
  ∃ o, t.status = .running ∧ Ended t below o ∧ vx_Q Qc XC mc ms free a s o t
theorem vx_ret {g : JFrame} {mc ms : Nat} (k : W p l e R s m args below meth c H locs cells slots (MQ below Qc args s mc ms free) g) : W p l e R s m args below meth c H locs cells slots (vx_MQ below Qc XC args s mc ms free) g := by
  intro T hT X
  obtain ⟨t, a1, o, b1, b2, b3, b4⟩ := k T hT X
  exact ⟨t, a1, o, b1, b2, Or.inl ⟨b3, b4⟩⟩
/-- not caught here: it goes on to the caller -/
theorem vx_widen {g : JFrame} {q : Addr} {k n : Nat} (h1 : cells ≤ k) (h2 : slots ≤ n) (kk : vx_W p l e R s m args below meth c H locs k n Q g q) : vx_W p l e R s m args below meth c H locs cells slots Q g q := fun T hT X => kk T hT (stand_widen X h1 h2)
theorem vx_out {pc : Nat} {E : String} {ce : Cell} {q : Addr} {mc ms : Nat} (hout : ∀ x ∈ c.exceptionTable.toList, covers x pc = false) (hlocks : meth.locks = false) (hcell : H[q]? = some ce) (hv : ce.vm = .none) (hcl : s.vm.findClass E = some ce.cls)
    (hx : ∀ t : State, t.heap = H → s.vm.Alike t.vm → XC E s t) (hf : ∀ z ∈ locs, free z.base) (hc : cells ≤ mc) (hs : slots ≤ ms) :
    vx_W p l e R s m args below meth c H locs cells slots (vx_MQ below Qc XC args s mc ms free) (F0 m pc ls rest) q := by
  intro T hT X
  obtain ⟨st1, hrun, hend, hW, hsm⟩ := X.leaveThrown q (g := F0 m pc ls rest) rfl rfl rfl hout hlocks
  have hcell9 : (T.setFrames (.throwing q :: below)).heap[q]? = some ce := by
    show T.heap[q]? = some ce
    rw [hT]; exact hcell
  exact ⟨_, st1, .threw q, hrun, hend, Or.inr ⟨q, rfl, E, ce, locs, hx _ hT hW.alike, hcell9, hv, hcl, hW, hsm.mono hc hs, hf⟩⟩
theorem vx_frame {U : State} {k n : Nat} (h : s.sameButNew ({ U with vm := s.vm } : State) locs k n) : s.heap.size ≤ U.heap.size ∧ ∀ q : Nat, q < s.heap.size → (∀ z ∈ locs, z.base ≠ q) → U.heap[q]? = s.heap[q]? := by
  obtain ⟨-, h2, -, -, -, h6⟩ := h
  refine ⟨h2, fun q hq hz => ?_⟩
  obtain ⟨c9, e1, e2, e3, e4⟩ := h6 q _ (Array.getElem?_eq_getElem hq)
  have hs : c9.slots = (s.heap[q]).slots := Array.ext_getElem? fun i => e4 i fun hm => hz _ hm rfl
  have h9 : c9 = s.heap[q] := by
    rw [hs] at e2
    exact e2
  have e5 : U.heap[q]? = some c9 := e1
  rw [e5, h9, Array.getElem?_eq_getElem hq]
/-- the words of a throw but the four that speak of the heap -/
def vx_no (w : Cond) : Bool := decide (w ≠ .isRef (.static Bundle.tN "UNASSIGNED_STACK" Bundle.steD)) && decide (w ≠ .isRef (.static Bundle.tN "SUPPRESSED_SENTINEL" Bundle.listD)) && decide (w ≠ .laysStatic Bundle.tN "UNASSIGNED_STACK" Bundle.steD) && decide (w ≠ .laysStatic Bundle.tN "SUPPRESSED_SENTINEL" Bundle.listD)
def vx_at0 (own : String) (ic : Nat) (X : String) (names : List String) : List Cond := (Bundle.ownAtoms0 own ic X names).filter vx_no
def vx_atS (own : String) (ic : Nat) (X : String) (names : List String) : List Cond := (Bundle.ownAtoms own ic X names).filter vx_no
/-- a word that the tables alone decide, or a good one -/
def vx_ot (w : Cond) : Bool := w.onTables || goodWord w
theorem vx_ot_at {args a' : Array Value} {s U : State} {w : Cond} (hW : s.WarmedH U.vm) (hvm : s.vm = U.vm) (hg : vx_ot w = true) (h : w.before args s = true) : w.before a' U = true := by
  simp only [vx_ot, Bool.or_eq_true] at hg
  rcases hg with hg | hg
  · exact va_tabs hg hvm h
  · exact word_at hW (good_of_word hg) h
/-- a list's words: the good ones out of the method's own list, the others by premises of their own -/
theorem vx_hat {args : Array Value} {s : State} {L B : List Cond} (h1 : ∀ w ∈ L.filter goodWord, w.before args s = true) (h2 : ∀ w ∈ L.filter (fun w => !goodWord w), w ∈ B) (h3 : ∀ w ∈ B, w.before args s = true) : ∀ w ∈ L, w.before args s = true := by
  intro w hw
  by_cases g : goodWord w = true
  · exact h1 w (List.mem_filter.mpr ⟨hw, g⟩)
  · refine h3 w (h2 w (List.mem_filter.mpr ⟨hw, ?_⟩))
    show (!goodWord w) = true
    cases hgw : goodWord w
    · rfl
    · exact absurd hgw g
theorem vx_c {args : Array Value} {s : State} {w : Cond} {B : List Cond} (h : w.before args s = true) (t : ∀ w ∈ B, w.before args s = true) : ∀ w' ∈ w :: B, w'.before args s = true := fun w' h' => (List.mem_cons.mp h').elim (fun e => by rw [e]; exact h) (t w')
theorem vx_n {args : Array Value} {s : State} : ∀ w ∈ ([] : List Cond), w.before args s = true := fun _ h => nomatch h
theorem vx_own {args : Array Value} {s : State} {L : List Cond} (h1 : ∀ w ∈ L.filter vx_no, w.before args s = true)
    (hU : (Cond.isRef (.static Bundle.tN "UNASSIGNED_STACK" Bundle.steD)).before args s = true) (hN : (Cond.isRef (.static Bundle.tN "SUPPRESSED_SENTINEL" Bundle.listD)).before args s = true)
    (lU : (Cond.laysStatic Bundle.tN "UNASSIGNED_STACK" Bundle.steD).before args s = true) (lN : (Cond.laysStatic Bundle.tN "SUPPRESSED_SENTINEL" Bundle.listD).before args s = true) : ∀ w ∈ L, w.before args s = true := by
  intro w hw
  by_cases e1 : w = .isRef (.static Bundle.tN "UNASSIGNED_STACK" Bundle.steD)
  · rw [e1]; exact hU
  · by_cases e2 : w = .isRef (.static Bundle.tN "SUPPRESSED_SENTINEL" Bundle.listD)
    · rw [e2]; exact hN
    · by_cases e3 : w = .laysStatic Bundle.tN "UNASSIGNED_STACK" Bundle.steD
      · rw [e3]; exact lU
      · by_cases e4 : w = .laysStatic Bundle.tN "SUPPRESSED_SENTINEL" Bundle.listD
        · rw [e4]; exact lN
        · exact h1 w (List.mem_filter.mpr ⟨hw, by unfold vx_no; rw [decide_eq_true e1, decide_eq_true e2, decide_eq_true e3, decide_eq_true e4]; rfl⟩)
/-- where a static field lies, its class's statics cell in H -/
def vx_L (C n d : String) (A : Nat → Prop) (U : State) (H : Heap) : Prop := ∃ (c : ClassId) (k : Class) (i : Nat) (f : Field) (a : Nat) (cell : Cell), U.vm.findClass C = some c ∧ U.fieldFound? C n d = some (c, k, i, f) ∧ f.isStatic = true ∧ k.statics = some a ∧ H[a]? = some cell ∧ cell.vm.isStatics = true ∧ cell.cls = c ∧ f.slot < cell.slots.size ∧ k.staticTypes[f.slot]? = some f.type ∧ ¬ A a
theorem vx_L.moved {C n d : String} {A : Nat → Prop} {u U : State} {H : Heap} (hvm : u.vm.Alike U.vm) (h : vx_L C n d A u H) : vx_L C n d A U H := by
  obtain ⟨c, k, i, f, a, cell, h1, h2, h3, h4, h5, h6, h7, h8, h9, h10⟩ := h
  obtain ⟨k', hi', he⟩ := State.fieldFound?_setVm hvm h2
  exact ⟨c, k', i, f, a, cell, by rw [hvm.findClass]; exact h1, hi', h3, by rw [he]; exact h4, h5, h6, h7, h8, by rw [he]; exact h9, h10⟩
theorem vx_L.kept {C n d : String} {A : Nat → Prop} {U : State} {H H1 : Heap} (h : vx_L C n d A U H) (hq : ∀ a : Nat, a < H.size → ¬ A a → H1[a]? = H[a]?) : vx_L C n d A U H1 := by
  obtain ⟨c, k, i, f, a, cell, h1, h2, h3, h4, h5, h6, h7, h8, h9, h10⟩ := h
  exact ⟨c, k, i, f, a, cell, h1, h2, h3, h4, by rw [hq a (Array.getElem?_eq_some_iff.mp h5).1 h10]; exact h5, h6, h7, h8, h9, h10⟩
theorem vx_L.narrow {C n d : String} {A B : Nat → Prop} {U : State} {H : Heap} (h : vx_L C n d A U H) (hAB : ∀ q, B q → A q) : vx_L C n d B U H := by
  obtain ⟨c, k, i, f, a, cell, h1, h2, h3, h4, h5, h6, h7, h8, h9, h10⟩ := h
  exact ⟨c, k, i, f, a, cell, h1, h2, h3, h4, h5, h6, h7, h8, h9, fun z => h10 (hAB _ z)⟩
theorem vx_L.word {C n d : String} {A : Nat → Prop} {s : State} {args : Array Value} (h : vx_L C n d A s s.heap) : (Cond.laysStatic C n d).before args s = true := by
  obtain ⟨c, k, i, f, a, cell, h1, h2, h3, h4, h5, h6, h7, h8, h9, -⟩ := h
  show (Cond.laysStatic C n d).holds args s none s [] = true
  exact Cond.laysStatic_of h1 h2 h3 h4 h5 h6 h7 h8 h9
/-- .. and what it holds: null or some reference -/
def vx_Zq (C n d : String) (A : Nat → Prop) (U : State) (H : Heap) : Prop := va_Zq C n d A U H ∧ vx_L C n d A U H
theorem vx_Zq.moved {C n d : String} {A : Nat → Prop} {u U : State} {H : Heap} (hvm : u.vm.Alike U.vm) (h : vx_Zq C n d A u H) : vx_Zq C n d A U H := ⟨va_Zq.moved hvm h.1, vx_L.moved hvm h.2⟩
theorem vx_Zq.kept {C n d : String} {A : Nat → Prop} {U : State} {H H1 : Heap} (h : vx_Zq C n d A U H) (hq : ∀ a : Nat, a < H.size → ¬ A a → H1[a]? = H[a]?) : vx_Zq C n d A U H1 := ⟨va_Zq.kept h.1 hq, vx_L.kept h.2 hq⟩
theorem vx_Zq.narrow {C n d : String} {A B : Nat → Prop} {U : State} {H : Heap} (h : vx_Zq C n d A U H) (hAB : ∀ q, B q → A q) : vx_Zq C n d B U H := ⟨va_Zq.narrow h.1 hAB, vx_L.narrow h.2 hAB⟩
theorem vx_Zqof {args : Array Value} {s : State} {C n d : String} {A : Nat → Prop} (hl : (Cond.laysStatic C n d).before args s = true) (hini : (Cond.initialized C).before args s = true) (h : (Cond.isRef (.static C n d)).before args s = true) (hA : ∀ a : Nat, a < s.heap.size → ¬ A a) : vx_Zq C n d A s s.heap := by
  refine ⟨va_Zqof hl hini h hA, ?_⟩
  obtain ⟨c, k, i, f, a, cell, h1, h2, h3, h4, h5, h6, h7, h8, h9⟩ := Cond.laysStatic_spec hl
  exact ⟨c, k, i, f, a, cell, h1, h2, h3, h4, h5, h6, h7, h8, h9, hA a (Array.getElem?_eq_some_iff.mp h5).1⟩
theorem vx_isRef {C n d : String} {v : Value} {A : Nat → Prop} {s : State} {args : Array Value} (h : va_Z C n d v A s s.heap) (hv : v.isRef = true) : (Cond.isRef (.static C n d)).before args s = true := by
  obtain ⟨cf, kf, fi, f, a, cell, h1, h2, h3, h4, h5, h6, h7, -⟩ := h
  have he : (Term.static C n d).eval args s none [] s = some v := by
    simp [Term.eval, State.fieldNamed?, h1, h2, h4, h5, h6, h7]
  simp only [Cond.before, Cond.holds, Cond.value, he]
  cases v <;> simp_all [Value.isRef]
theorem vx_isRefq {C n d : String} {A : Nat → Prop} {s : State} {args : Array Value} (h : va_Zq C n d A s s.heap) : (Cond.isRef (.static C n d)).before args s = true := by
  rcases h with h | ⟨t, h⟩
  · exact vx_isRef h rfl
  · exact vx_isRef h rfl
/-- the same frame, seen from here: as if the method were called anew in this heap -/
theorem vx_rebase {T : State} (X : Stand p l e R s m args below meth c T locs cells slots) {R' : Room} (hf : R'.frames ≤ R.frames) (hl : R'.locals ≤ R.locals) (hc : cells + R'.cells ≤ R.cells) (hs : slots + R'.slots ≤ R.slots) :
    Stand p l e R' ((T.setVm s.vm).setFrames (.invoking m args :: below)) m args below meth c T [] 0 0 := by
  have htop : (T.setVm s.vm).topJava?.isSome := X.here.top
  have hF : ((T.setVm s.vm).setFrames (.invoking m args :: below)).frames = .invoking m args :: below := State.frames_setFrames _ (State.cur_lt_of_top htop)
  obtain ⟨g₀, hg0⟩ := Option.isSome_iff_exists.mp htop
  obtain ⟨r, hr⟩ := State.topJava?_eq_some.mp hg0
  have hl9 : e.platform.stackLimits (T.setVm s.vm).me = e.platform.stackLimits s.me := X.limits
  have hb9 : (T.setVm s.vm).me.stackBytes = s.me.stackBytes := X.bytes
  refine ⟨X.admits, X.cas, X.clock, hF, ?_, X.hears, X.method, X.code, X.here, X.tail, X.warmed, ?_, ?_, ?_⟩
  · have h := X.room
    have hU : ((T.setVm s.vm).setFrames (.invoking m args :: below)).localsInUse = s.localsInUse := by
      rw [State.localsInUse_invoking hF (meth := meth) (c := c) X.method X.code, State.localsInUse_invoking X.frames X.method X.code]
    simp only [State.hasRoom, Bool.and_eq_true, decide_eq_true_eq] at h ⊢
    obtain ⟨⟨⟨⟨h1, h2, h3, h4, h5, h6⟩, h7⟩, h8⟩, h9⟩ := h
    rw [X.frames, List.length_cons] at h2 h3
    have q1 := X.heapSize
    have q2 := X.used
    simp only [hF, hU, List.length_cons, State.stackLimits_setFrames, State.stackBytes_setFrames, hl9, hb9]
    refine ⟨⟨⟨⟨by omega, by omega, by omega, by omega, by omega, h6⟩, ?_⟩, ?_⟩, X.book⟩
    · show T.heap.size + R'.cells ≤ e.platform.maxCells
      omega
    · show T.slotsUsed + R'.slots ≤ e.platform.maxSlots
      omega
  · rw [State.stackLimits_setFrames]; rfl
  · rw [State.stackBytes_setFrames]; rfl
  · refine ⟨?_, Nat.le_refl _, Nat.le_refl _, ?_, ?_, fun a c9 h9 => ⟨c9, h9, rfl, rfl, fun _ _ => rfl⟩⟩
    · obtain ⟨t, ht, -⟩ := State.frames_cons hr
      show T.setVm s.vm = { ((T.setVm s.vm).setFrames (.invoking m args :: below)).setFrames (T.setVm s.vm).frames with heap := T.heap, slotsUsed := T.slotsUsed }
      rw [State.setFrames_setFrames, State.setFrames_self ht]
      rfl
    · show T.slotsUsed = T.slotsUsed + ((T.heap.toList.drop T.heap.size).map (·.slots.size)).sum
      rw [List.drop_eq_nil_of_le (Nat.le_of_eq Array.length_toList)]
      rfl
    · show ((T.heap.toList.drop T.heap.size).map (·.slots.size)).sum ≤ 0
      rw [List.drop_eq_nil_of_le (Nat.le_of_eq Array.length_toList)]
      exact Nat.le_refl _
/-- 'throw new E()': new; dup; invokespecial; athrow -/
theorem vx_throw0 {cc : ByteArray} {pc : Nat} (hexec : p.tables.exec = Jvm.exec) (hb : c.code = cc) (hl : l.stackTraces = false) {own cls : String} {names : List String} {ik ic mc ms : Nat} {A : Nat → Prop}
    (hown : s.vm.findClass own = some m.cls) (hcls : Bundle.fit cls = true) (hnames : ∀ n ∈ names, Bundle.fit n = true)
    (hk : (Cond.classLink own ik cls).before args s = true) (hini : (Cond.initialized cls).before args s = true) (hat : ∀ w ∈ vx_at0 own ic cls names, w.before args s = true)
    (hgood : ∀ w ∈ Cond.classLink own ik cls :: Cond.initialized cls :: vx_at0 own ic cls names, vx_ot w = true)
    (hU : vx_Zq Bundle.tN "UNASSIGNED_STACK" Bundle.steD A s s.heap) (hN : vx_Zq Bundle.tN "SUPPRESSED_SENTINEL" Bundle.listD A s s.heap) (hS : va_S A s.heap H locs) (hsize : ls.size = c.maxLocals)
    (d0 : decode cc pc = .ok (.new ik, 3)) (d3 : decode cc (pc + 3) = .ok (.dup, 1)) (d4 : decode cc (pc + 4) = .ok (.invokespecial ic, 3)) (d7 : decode cc (pc + 7) = .ok (.athrow, 1))
    (hout : ∀ x ∈ c.exceptionTable.toList, covers x (pc + 7) = false)
    (hRframes : names.length + 3 < R.frames) (hRlocals : (rest.map fun v => v.category).sum + (13 * (names.length + 1) + 42) ≤ R.locals) (hRcells : cells + 1 ≤ R.cells) (hRslots : slots + 6 ≤ R.slots) (hlocks : meth.locks = false)
    (hx : ∀ t : State, s.vm.Alike t.vm → H.size ≤ t.heap.size → (∀ q : Nat, q < H.size → t.heap[q]? = H[q]?) → XC cls s t)
    (hf : ∀ z ∈ locs, free z.base) (hc : cells + 1 ≤ mc) (hs : slots + 6 ≤ ms) :
    W p l e R s m args below meth c H locs cells slots (vx_MQ below Qc XC args s mc ms free) (F0 m pc ls rest) := by
  intro T hT X
  have htr : e.platform.stackTraces = false := (show e.platform.stackTraces = l.stackTraces by rw [X.admits.platform]).trans hl
  have Y := vx_rebase X (R' := { frames := R.frames, locals := R.locals, cells := 1, slots := 6 }) (Nat.le_refl _) (Nat.le_refl _) hRcells hRslots
  obtain ⟨s', hA⟩ : ∃ z, z = (T.setVm s.vm).setFrames (.invoking m args :: below) := ⟨_, rfl⟩
  rw [← hA] at Y
  have hvm : s'.vm = s.vm := by rw [hA]; rfl
  have hhp : s'.heap = H := by rw [hA]; exact hT
  have hW0 : s.WarmedH s'.vm := by rw [hvm]; exact State.WarmedH.refl s
  have hat' : ∀ w ∈ vx_at0 own ic cls names, w.before args s' = true := fun w hw => vx_ot_at hW0 hvm.symm (hgood w (List.mem_cons_of_mem _ (List.mem_cons_of_mem _ hw))) (hat w hw)
  have hk' : (Cond.classLink own ik cls).before args s' = true := vx_ot_at hW0 hvm.symm (hgood _ List.mem_cons_self) hk
  have hini' : (Cond.initialized cls).before args s' = true := vx_ot_at hW0 hvm.symm (hgood _ (List.mem_cons_of_mem _ List.mem_cons_self)) hini
  have hU' : vx_Zq Bundle.tN "UNASSIGNED_STACK" Bundle.steD A s' s'.heap := by rw [hhp]; exact vx_Zq.moved hW0.alike (hU.kept hS.2.1)
  have hN' : vx_Zq Bundle.tN "SUPPRESSED_SENTINEL" Bundle.listD A s' s'.heap := by rw [hhp]; exact vx_Zq.moved hW0.alike (hN.kept hS.2.1)
  have h : ∀ w ∈ Bundle.ownAtoms0 own ic cls names, w.before args s' = true := vx_own hat' (vx_isRefq hU'.1) (vx_isRefq hN'.1) hU'.2.word hN'.2.word
  have hown' : s'.vm.findClass own = some m.cls := by rw [hvm]; exact hown
  have hins : (Cond.instantiable cls 6).before args s' = true := h _ (by simp [Bundle.ownAtoms0])
  obtain ⟨vm₁, cX, kX, hfX, hkX, -, -, X₁, st1⟩ := Y.newCold hexec (own := own) (C := cls) (index := ik) (n := 6) hown' hk' hins hini'
    (g := F0 m pc ls rest) rfl (by rw [hb]; exact d0) (Nat.le_refl _) (Nat.le_refl _)
  generalize hT1 : (T.setVm vm₁).pushCell { cls := cX, slots := kX.instanceTypes.map defaultValue, vm := .none } = T1 at X₁ st1
  have hcat : (Value.ref T.heap.size).category = 1 := rfl
  have hcellA : T1.heap[T.heap.size]? = some (freshCell cX kX) := by rw [← hT1]; exact State.heap_pushCell_size _ _
  have d3' : decode c.code (pc + 3) = .ok (.dup, 1) := by rw [hb]; exact d3
  obtain ⟨U, hsteps, hrun, hend, hW, hsame, ce, hce, hO⟩ := X₁.ctorThrow0 hexec htr (own := own) (cls := cls) (names := names) (ic := ic) hown' hcls hnames h (fun x hx => nomatch hx) hfX hkX hcellA (by rw [hhp, hT]; exact Nat.le_refl _)
    (g := { method := m, pc := pc + 4, locals := ls, stack := .ref T.heap.size :: .ref T.heap.size :: rest, locked := none }) rfl hsize rfl rfl (rest := rest) rfl
    (by rw [hb]; exact d4) (by rw [hb]; exact d7) hout hRframes (by simp only [List.map_cons, List.sum_cons, hcat]; omega) hlocks
  obtain ⟨f1, f2⟩ := vx_frame hsame
  rw [hhp] at f1 f2
  have hWs : s.WarmedH U.vm := State.WarmedH.trans hW0 hW
  have hcl : s.vm.findClass cls = some ce.cls := by
    have h9 := hO.cls
    rw [hvm] at h9
    exact h9
  have hall : s.sameButNew ({ U with vm := s.vm } : State) locs mc ms := by
    subst hA
    obtain ⟨e1, e2⟩ := hsame
    rw [State.setFrames_setFrames] at e1
    have h2 : (T.setVm s.vm).sameButNew ({ U with vm := s.vm } : State) [] (0 + 1) (0 + 6) := ⟨e1, e2⟩
    have h3 := X.same.trans h2
    rw [List.append_nil] at h3
    exact h3.mono hc hs
  refine ⟨U, ?_, .threw T.heap.size, hrun, hend, Or.inr ⟨T.heap.size, rfl, cls, ce, locs, hx U hWs.alike f1 (fun q hq => f2 q hq (fun z hz => nomatch hz)), hce, hO.vm, hcl, hWs, hall, hf⟩⟩
  refine st1 _ ?_
  show Steps p.tables e below (T1.setTop { method := m, pc := pc + 3, locals := ls, stack := .ref T.heap.size :: rest, locked := none }) _
  jvm_step X₁.here [X₁.here.top, hexec, d3', Value.category]
  exact hsteps
/-- 'throw new E("text")': new; dup; ldc; invokespecial; athrow -/
theorem vx_throwS {cc : ByteArray} {pc : Nat} (hexec : p.tables.exec = Jvm.exec) (hb : c.code = cc) (hl : l.stackTraces = false) {own cls text : String} {names : List String} {ik is ic mc ms sa : Nat} {A : Nat → Prop}
    (hown : s.vm.findClass own = some m.cls) (hcls : Bundle.fit cls = true) (hnames : ∀ n ∈ names, Bundle.fit n = true)
    (hk : (Cond.classLink own ik cls).before args s = true) (hini : (Cond.initialized cls).before args s = true) (hstr : vk_R own is text sa s) (hat : ∀ w ∈ vx_atS own ic cls names, w.before args s = true)
    (hgood : ∀ w ∈ Cond.classLink own ik cls :: Cond.initialized cls :: vx_atS own ic cls names, vx_ot w = true)
    (hU : vx_Zq Bundle.tN "UNASSIGNED_STACK" Bundle.steD A s s.heap) (hN : vx_Zq Bundle.tN "SUPPRESSED_SENTINEL" Bundle.listD A s s.heap) (hS : va_S A s.heap H locs) (hsize : ls.size = c.maxLocals)
    (d0 : decode cc pc = .ok (.new ik, 3)) (d3 : decode cc (pc + 3) = .ok (.dup, 1)) (d4 : decode cc (pc + 4) = .ok (.ldc is, 2)) (d6 : decode cc (pc + 6) = .ok (.invokespecial ic, 3)) (d9 : decode cc (pc + 9) = .ok (.athrow, 1))
    (hout : ∀ x ∈ c.exceptionTable.toList, covers x (pc + 9) = false)
    (hRframes : names.length + 3 < R.frames) (hRlocals : (rest.map fun v => v.category).sum + (13 * (names.length + 1) + 43) ≤ R.locals) (hRcells : cells + 1 ≤ R.cells) (hRslots : slots + 6 ≤ R.slots) (hlocks : meth.locks = false)
    (hx : ∀ t : State, s.vm.Alike t.vm → H.size ≤ t.heap.size → (∀ q : Nat, q < H.size → t.heap[q]? = H[q]?) → XC cls s t)
    (hf : ∀ z ∈ locs, free z.base) (hc : cells + 1 ≤ mc) (hs : slots + 6 ≤ ms) :
    W p l e R s m args below meth c H locs cells slots (vx_MQ below Qc XC args s mc ms free) (F0 m pc ls rest) := by
  intro T hT X
  have htr : e.platform.stackTraces = false := (show e.platform.stackTraces = l.stackTraces by rw [X.admits.platform]).trans hl
  have Y := vx_rebase X (R' := { frames := R.frames, locals := R.locals, cells := 1, slots := 6 }) (Nat.le_refl _) (Nat.le_refl _) hRcells hRslots
  obtain ⟨s', hA⟩ : ∃ z, z = (T.setVm s.vm).setFrames (.invoking m args :: below) := ⟨_, rfl⟩
  rw [← hA] at Y
  have hvm : s'.vm = s.vm := by rw [hA]; rfl
  have hhp : s'.heap = H := by rw [hA]; exact hT
  have hW0 : s.WarmedH s'.vm := by rw [hvm]; exact State.WarmedH.refl s
  have hat' : ∀ w ∈ vx_atS own ic cls names, w.before args s' = true := fun w hw => vx_ot_at hW0 hvm.symm (hgood w (List.mem_cons_of_mem _ (List.mem_cons_of_mem _ hw))) (hat w hw)
  have hk' : (Cond.classLink own ik cls).before args s' = true := vx_ot_at hW0 hvm.symm (hgood _ List.mem_cons_self) hk
  have hini' : (Cond.initialized cls).before args s' = true := vx_ot_at hW0 hvm.symm (hgood _ (List.mem_cons_of_mem _ List.mem_cons_self)) hini
  have hU' : vx_Zq Bundle.tN "UNASSIGNED_STACK" Bundle.steD A s' s'.heap := by rw [hhp]; exact vx_Zq.moved hW0.alike (hU.kept hS.2.1)
  have hN' : vx_Zq Bundle.tN "SUPPRESSED_SENTINEL" Bundle.listD A s' s'.heap := by rw [hhp]; exact vx_Zq.moved hW0.alike (hN.kept hS.2.1)
  have h : ∀ w ∈ Bundle.ownAtoms own ic cls names, w.before args s' = true := vx_own hat' (vx_isRefq hU'.1) (vx_isRefq hN'.1) hU'.2.word hN'.2.word
  have hown' : s'.vm.findClass own = some m.cls := by rw [hvm]; exact hown
  have hins : (Cond.instantiable cls 6).before args s' = true := h _ (by simp [Bundle.ownAtoms])
  obtain ⟨vm₁, cX, kX, hfX, hkX, -, -, X₁, st1⟩ := Y.newCold hexec (own := own) (C := cls) (index := ik) (n := 6) hown' hk' hins hini'
    (g := F0 m pc ls rest) rfl (by rw [hb]; exact d0) (Nat.le_refl _) (Nat.le_refl _)
  generalize hT1 : (T.setVm vm₁).pushCell { cls := cX, slots := kX.instanceTypes.map defaultValue, vm := .none } = T1 at X₁ st1
  have hcat : (Value.ref T.heap.size).category = 1 := rfl
  have hcellA : T1.heap[T.heap.size]? = some (freshCell cX kX) := by rw [← hT1]; exact State.heap_pushCell_size _ _
  have d3' : decode c.code (pc + 3) = .ok (.dup, 1) := by rw [hb]; exact d3
  have d4' : decode c.code (pc + 4) = .ok (.ldc is, 2) := by rw [hb]; exact d4
  have hstr' : vk_R own is text sa s' := vk_R.warm hW0 hstr
  obtain ⟨U, hsteps, hrun, hend, hW, hsame, ce, hce, hO⟩ := X₁.ctorThrowS hexec htr (own := own) (cls := cls) (names := names) (ic := ic) hown' hcls hnames h (fun x hx => nomatch hx) hfX hkX hcellA (by rw [hhp, hT]; exact Nat.le_refl _) (msg := .ref sa) rfl
    (g := { method := m, pc := pc + 6, locals := ls, stack := .ref sa :: .ref T.heap.size :: .ref T.heap.size :: rest, locked := none }) rfl hsize rfl rfl (rest := rest) rfl
    (by rw [hb]; exact d6) (by rw [hb]; exact d9) hout hRframes (by simp only [List.map_cons, List.sum_cons, hcat]; omega) hlocks
  obtain ⟨f1, f2⟩ := vx_frame hsame
  rw [hhp] at f1 f2
  have hWs : s.WarmedH U.vm := State.WarmedH.trans hW0 hW
  have hcl : s.vm.findClass cls = some ce.cls := by
    have h9 := hO.cls
    rw [hvm] at h9
    exact h9
  have hall : s.sameButNew ({ U with vm := s.vm } : State) locs mc ms := by
    subst hA
    obtain ⟨e1, e2⟩ := hsame
    rw [State.setFrames_setFrames] at e1
    have h2 : (T.setVm s.vm).sameButNew ({ U with vm := s.vm } : State) [] (0 + 1) (0 + 6) := ⟨e1, e2⟩
    have h3 := X.same.trans h2
    rw [List.append_nil] at h3
    exact h3.mono hc hs
  refine ⟨U, ?_, .threw T.heap.size, hrun, hend, Or.inr ⟨T.heap.size, rfl, cls, ce, locs, hx U hWs.alike f1 (fun q hq => f2 q hq (fun z hz => nomatch hz)), hce, hO.vm, hcl, hWs, hall, hf⟩⟩
  refine st1 _ ?_
  show Steps p.tables e below (T1.setTop { method := m, pc := pc + 3, locals := ls, stack := .ref T.heap.size :: rest, locked := none }) _
  jvm_step X₁.here [X₁.here.top, hexec, d3', Value.category]
  exact X₁.ldcString hexec (own := own) (text := text) (index := is) (a := sa) hown' hstr'.1 hstr'.2
    (g := { method := m, pc := pc + 4, locals := ls, stack := .ref T.heap.size :: .ref T.heap.size :: rest, locked := none }) rfl d4' _ hsteps
/-- 'throw new E("text")', the text by a wide index -/
theorem vx_throwSW {cc : ByteArray} {pc : Nat} (hexec : p.tables.exec = Jvm.exec) (hb : c.code = cc) (hl : l.stackTraces = false) {own cls text : String} {names : List String} {ik is ic mc ms sa : Nat} {A : Nat → Prop}
    (hown : s.vm.findClass own = some m.cls) (hcls : Bundle.fit cls = true) (hnames : ∀ n ∈ names, Bundle.fit n = true)
    (hk : (Cond.classLink own ik cls).before args s = true) (hini : (Cond.initialized cls).before args s = true) (hstr : vk_R own is text sa s) (hat : ∀ w ∈ vx_atS own ic cls names, w.before args s = true)
    (hgood : ∀ w ∈ Cond.classLink own ik cls :: Cond.initialized cls :: vx_atS own ic cls names, vx_ot w = true)
    (hU : vx_Zq Bundle.tN "UNASSIGNED_STACK" Bundle.steD A s s.heap) (hN : vx_Zq Bundle.tN "SUPPRESSED_SENTINEL" Bundle.listD A s s.heap) (hS : va_S A s.heap H locs) (hsize : ls.size = c.maxLocals)
    (d0 : decode cc pc = .ok (.new ik, 3)) (d3 : decode cc (pc + 3) = .ok (.dup, 1)) (d4 : decode cc (pc + 4) = .ok (.ldc_w is, 3)) (d7 : decode cc (pc + 7) = .ok (.invokespecial ic, 3)) (d10 : decode cc (pc + 10) = .ok (.athrow, 1))
    (hout : ∀ x ∈ c.exceptionTable.toList, covers x (pc + 10) = false)
    (hRframes : names.length + 3 < R.frames) (hRlocals : (rest.map fun v => v.category).sum + (13 * (names.length + 1) + 43) ≤ R.locals) (hRcells : cells + 1 ≤ R.cells) (hRslots : slots + 6 ≤ R.slots) (hlocks : meth.locks = false)
    (hx : ∀ t : State, s.vm.Alike t.vm → H.size ≤ t.heap.size → (∀ q : Nat, q < H.size → t.heap[q]? = H[q]?) → XC cls s t)
    (hf : ∀ z ∈ locs, free z.base) (hc : cells + 1 ≤ mc) (hs : slots + 6 ≤ ms) :
    W p l e R s m args below meth c H locs cells slots (vx_MQ below Qc XC args s mc ms free) (F0 m pc ls rest) := by
  intro T hT X
  have htr : e.platform.stackTraces = false := (show e.platform.stackTraces = l.stackTraces by rw [X.admits.platform]).trans hl
  have Y := vx_rebase X (R' := { frames := R.frames, locals := R.locals, cells := 1, slots := 6 }) (Nat.le_refl _) (Nat.le_refl _) hRcells hRslots
  obtain ⟨s', hA⟩ : ∃ z, z = (T.setVm s.vm).setFrames (.invoking m args :: below) := ⟨_, rfl⟩
  rw [← hA] at Y
  have hvm : s'.vm = s.vm := by rw [hA]; rfl
  have hhp : s'.heap = H := by rw [hA]; exact hT
  have hW0 : s.WarmedH s'.vm := by rw [hvm]; exact State.WarmedH.refl s
  have hat' : ∀ w ∈ vx_atS own ic cls names, w.before args s' = true := fun w hw => vx_ot_at hW0 hvm.symm (hgood w (List.mem_cons_of_mem _ (List.mem_cons_of_mem _ hw))) (hat w hw)
  have hk' : (Cond.classLink own ik cls).before args s' = true := vx_ot_at hW0 hvm.symm (hgood _ List.mem_cons_self) hk
  have hini' : (Cond.initialized cls).before args s' = true := vx_ot_at hW0 hvm.symm (hgood _ (List.mem_cons_of_mem _ List.mem_cons_self)) hini
  have hU' : vx_Zq Bundle.tN "UNASSIGNED_STACK" Bundle.steD A s' s'.heap := by rw [hhp]; exact vx_Zq.moved hW0.alike (hU.kept hS.2.1)
  have hN' : vx_Zq Bundle.tN "SUPPRESSED_SENTINEL" Bundle.listD A s' s'.heap := by rw [hhp]; exact vx_Zq.moved hW0.alike (hN.kept hS.2.1)
  have h : ∀ w ∈ Bundle.ownAtoms own ic cls names, w.before args s' = true := vx_own hat' (vx_isRefq hU'.1) (vx_isRefq hN'.1) hU'.2.word hN'.2.word
  have hown' : s'.vm.findClass own = some m.cls := by rw [hvm]; exact hown
  have hins : (Cond.instantiable cls 6).before args s' = true := h _ (by simp [Bundle.ownAtoms])
  obtain ⟨vm₁, cX, kX, hfX, hkX, -, -, X₁, st1⟩ := Y.newCold hexec (own := own) (C := cls) (index := ik) (n := 6) hown' hk' hins hini'
    (g := F0 m pc ls rest) rfl (by rw [hb]; exact d0) (Nat.le_refl _) (Nat.le_refl _)
  generalize hT1 : (T.setVm vm₁).pushCell { cls := cX, slots := kX.instanceTypes.map defaultValue, vm := .none } = T1 at X₁ st1
  have hcat : (Value.ref T.heap.size).category = 1 := rfl
  have hcellA : T1.heap[T.heap.size]? = some (freshCell cX kX) := by rw [← hT1]; exact State.heap_pushCell_size _ _
  have d3' : decode c.code (pc + 3) = .ok (.dup, 1) := by rw [hb]; exact d3
  have d4' : decode c.code (pc + 4) = .ok (.ldc_w is, 3) := by rw [hb]; exact d4
  have hstr' : vk_R own is text sa s' := vk_R.warm hW0 hstr
  obtain ⟨U, hsteps, hrun, hend, hW, hsame, ce, hce, hO⟩ := X₁.ctorThrowS hexec htr (own := own) (cls := cls) (names := names) (ic := ic) hown' hcls hnames h (fun x hx => nomatch hx) hfX hkX hcellA (by rw [hhp, hT]; exact Nat.le_refl _) (msg := .ref sa) rfl
    (g := { method := m, pc := pc + 7, locals := ls, stack := .ref sa :: .ref T.heap.size :: .ref T.heap.size :: rest, locked := none }) rfl hsize rfl rfl (rest := rest) rfl
    (by rw [hb]; exact d7) (by rw [hb]; exact d10) hout hRframes (by simp only [List.map_cons, List.sum_cons, hcat]; omega) hlocks
  obtain ⟨f1, f2⟩ := vx_frame hsame
  rw [hhp] at f1 f2
  have hWs : s.WarmedH U.vm := State.WarmedH.trans hW0 hW
  have hcl : s.vm.findClass cls = some ce.cls := by
    have h9 := hO.cls
    rw [hvm] at h9
    exact h9
  have hall : s.sameButNew ({ U with vm := s.vm } : State) locs mc ms := by
    subst hA
    obtain ⟨e1, e2⟩ := hsame
    rw [State.setFrames_setFrames] at e1
    have h2 : (T.setVm s.vm).sameButNew ({ U with vm := s.vm } : State) [] (0 + 1) (0 + 6) := ⟨e1, e2⟩
    have h3 := X.same.trans h2
    rw [List.append_nil] at h3
    exact h3.mono hc hs
  refine ⟨U, ?_, .threw T.heap.size, hrun, hend, Or.inr ⟨T.heap.size, rfl, cls, ce, locs, hx U hWs.alike f1 (fun q hq => f2 q hq (fun z hz => nomatch hz)), hce, hO.vm, hcl, hWs, hall, hf⟩⟩
  refine st1 _ ?_
  show Steps p.tables e below (T1.setTop { method := m, pc := pc + 3, locals := ls, stack := .ref T.heap.size :: rest, locked := none }) _
  jvm_step X₁.here [X₁.here.top, hexec, d3', Value.category]
  exact X₁.ldcStringW hexec (own := own) (text := text) (index := is) (a := sa) hown' hstr'.1 hstr'.2
    (g := { method := m, pc := pc + 4, locals := ls, stack := .ref T.heap.size :: .ref T.heap.size :: rest, locked := none }) rfl d4' _ hsteps
end Ends
section Bodies
variable {l : Launch}
theorem vx_ofW {y : MethodName} {ws ws' : List Cond} {rm : Room} {Pc : Array Value → State → Prop} {Qc : Array Value → State → Outcome → State → Prop} {XC : String → State → State → Prop} {mc ms : Nat} {free : Addr → Prop} {cc : ByteArray} {maxL : Nat} {ret : Option FieldType}
    (hy : plainName y.cls = true) (hw : ws = Cond.code y cc maxL ret :: ws')
    (body : ∀ p e s m args below meth c s₁, BodyLoose p l y (headSpec ws rm) cc maxL ret e s m args below meth c s₁ → c.maxLocals = maxL → (∀ x ∈ c.exceptionTable.toList, False) → Pc args s →
      W p l e (headSpec ws rm).room s m args below meth c s.heap [] 0 0 (vx_MQ below Qc XC args s mc ms free) (entryFrame m args maxL)) : vx_Met l y ws rm Pc Qc XC mc ms free := by
  refine MetFree.of_bodyS (code := cc) (maxLocals := maxL) (ret := ret) hy ?_ ?_
  · intro args s m h hn
    obtain ⟨meth, c, h1, h2, h3, h4, h5, h6, -, -⟩ := Cond.code_spec hn (atoms_spec (ws := ws) h _ (by rw [hw]; exact List.mem_cons_self))
    exact ⟨meth, c, h1, h2, h3, h4, h5, h6⟩
  · intro p e s m args below meth c s₁ B hml hP _
    have hh0 : s₁.heap = s.heap := by rw [B.state]; rfl
    have ht : ∀ x ∈ c.exceptionTable.toList, False := by
      obtain ⟨meth9, c9, h1, h2, -, -, -, -, h7, -⟩ := Cond.code_spec B.named (atoms_spec (ws := ws) B.pre _ (by rw [hw]; exact List.mem_cons_self))
      cases Option.some.inj (h1.symm.trans B.method)
      cases Option.some.inj (h2.symm.trans (Stand.of_body B).code)
      intro x hx
      rw [Array.isEmpty_iff.mp h7] at hx
      cases hx
    obtain ⟨t, a1, o, b1, b2, b3⟩ := body p e s m args below meth c s₁ B hml ht hP s₁ hh0 (Stand.of_body B)
    exact ⟨t, o, a1, b1, b2, b3⟩
/-- the table of a body with handlers -/
theorem vx_table {p : Program} {x y : MethodName} {S : Spec} {cc bytes : ByteArray} {maxL maxL' : Nat} {ret ret' : Option FieldType} {e : Env} {s s₁ : State} {m : MethodId} {args : Array Value} {below : List Frame} {meth : Method} {c : Code} {hh : List (Nat × Nat × Nat × Nat)}
    (B : BodyLoose p l y S cc maxL ret e s m args below meth c s₁) (h : (Cond.codeWith y bytes maxL' ret' hh).before args s = true) : c.exceptionTable.toList = tableOf hh := by
  obtain ⟨m9, meth9, c9, hn9, h1, h2, -, -, h6, -⟩ := Cond.codeWith_spec h
  cases Option.some.inj (hn9.symm.trans B.named)
  cases Option.some.inj (h1.symm.trans B.method)
  cases Option.some.inj (h2.symm.trans (Stand.of_body B).code)
  rw [← h6, table_eq]
end Bodies
end VXA
/-! ===== END ===== -/
/-! ===== BEGIN a static call of a method with an exception table ===== -/
section VXS
variable {p : Program} {l : Launch} {e : Env} {R : Room} {s : State} {m : MethodId} {args : Array Value} {below : List Frame} {meth : Method} {c : Code} {T : State} {H : Heap} {locs : List Loc} {cells slots : Nat}
abbrev vx_CSW (R : Room) (s : State) (args : Array Value) (own : String) (index : Nat) (y : MethodName) (bytes : ByteArray) (maxL : Nat) (ret : Option FieldType) (hh : List (Nat × Nat × Nat × Nat)) (ws : List Cond) (rm : Room) (mc ms n : Nat) : Prop :=
  (rm.cells = mc ∧ rm.slots = ms ∧ rm.frames + 1 ≤ R.frames ∧ 8 + (maxL + 11) + rm.locals ≤ R.locals ∧ (∀ w ∈ ws, ∀ (a' : Array Value) (U : State), s.WarmedH U.vm → w.before a' U = true) ∧ Cond.codeWith y bytes maxL ret hh ∈ ws) ∧
  (Cond.codeWith y bytes maxL ret hh).before args s = true ∧ (Cond.initialized y.cls).before args s = true ∧ (y.cls ≠ "java/lang/invoke/MethodHandle" ∧ y.cls ≠ "java/lang/invoke/VarHandle") ∧
  (∀ sig, parseMethodDescriptor y.desc = some sig → n = sig.parameters.length) ∧ (Cond.methodLink own index y).before args s = true ∧ (Cond.static y).before args s = true
theorem vx_cwSW {own : String} {index maxL mc ms : Nat} {y : MethodName} {bytes : ByteArray} {ret : Option FieldType} {hh : List (Nat × Nat × Nat × Nat)} {Ts ws ws' : List Cond} {rm : Room} (n : Nat) (ht : ∀ w ∈ Ts, w.before args s = true) (hT : GoodIn Ts (va_wsS own index y ws)) (hw : ws = Cond.codeWith y bytes maxL ret hh :: ws') (hrc : rm.cells = mc) (hrs : rm.slots = ms)
    (hd : y.cls ≠ "java/lang/invoke/MethodHandle" ∧ y.cls ≠ "java/lang/invoke/VarHandle" ∧ (parseMethodDescriptor y.desc).map (fun d => d.parameters.length) = some n) (hR : rm.frames + 1 ≤ R.frames ∧ 8 + (maxL + 11) + rm.locals ≤ R.locals) :
    vx_CSW R s args own index y bytes maxL ret hh ws rm mc ms n := by
  have ok : ∀ w ∈ va_wsS own index y ws, w.before args s = true := fun w h => ht w (hT w h).1
  have hG : GoodIn Ts ws := fun w h => hT w (by unfold va_wsS; exact List.mem_append_right _ h)
  have hc : Cond.codeWith y bytes maxL ret hh ∈ ws := by rw [hw]; exact List.mem_cons_self
  refine ⟨⟨hrc, hrs, hR.1, hR.2, pay_in ht hG, hc⟩, ht _ (hG _ hc).1, ok _ (by simp [va_wsS]), ⟨hd.1, hd.2.1⟩, fun sig h => ?_, ok _ (by simp [va_wsS]), ok _ (by simp [va_wsS])⟩
  have h2 := hd.2.2
  rw [h] at h2
  exact (Option.some.inj h2).symm
theorem vx_callSW (X : Stand p l e R s m args below meth c T locs cells slots) (hexec : p.tables.exec = Jvm.exec) {own : String} {index : Nat} {y : MethodName} {bytes : ByteArray} {maxL : Nat} {ret : Option FieldType} {hh : List (Nat × Nat × Nat × Nat)}
    (hown : s.vm.findClass own = some m.cls) (hlink : (Cond.methodLink own index y).before args s = true) (hstat : (Cond.static y).before args s = true) (hinit : (Cond.initialized y.cls).before args s = true)
    (hcode : (Cond.codeWith y bytes maxL ret hh).before args s = true) (hy : y.cls ≠ "java/lang/invoke/MethodHandle" ∧ y.cls ≠ "java/lang/invoke/VarHandle")
    {W9 : Nat} {Pre : Pt → Array Value → Prop} {Post : Pt → Array Value → Option Value → Pt → Prop} (hK : Back l R p e below s args y 3 W9 Pre Post)
    {g : JFrame} (hg : g.method = m) (hsize : g.locals.size = c.maxLocals) {argsL rest : List Value} (hlen : ∀ sig, parseMethodDescriptor y.desc = some sig → argsL.length = sig.parameters.length)
    (hstack : g.stack = argsL.reverse ++ rest) (hW : 2 * g.monitorRoom + (rest.map fun v => v.category).sum ≤ W9) (hdg : decode c.code g.pc = .ok (.invokestatic index, 3))
    (hpre : ∀ vm₁, s.WarmedH vm₁ → Pre ⟨T.setVm vm₁, locs, cells, slots⟩ argsL.toArray) :
    ∃ (v : Option Value) (vm₁ : Vm) (B : Pt), s.WarmedH vm₁ ∧ Stand p l e R s m args below meth c B.U B.locs B.cells B.slots ∧ Post ⟨T.setVm vm₁, locs, cells, slots⟩ argsL.toArray v B ∧
      ∀ target, Steps p.tables e below (B.U.setTop { g with pc := g.pc + 3, stack := v.toList ++ rest }) target → Steps p.tables e below (T.setTop g) target := by
  obtain ⟨mk, methM, cM, hnamed, hmethM, -, -, -, -, -, -, hsigM⟩ := Cond.codeWith_spec hcode
  have hstatic : methM.isStatic = true := Cond.static_spec hnamed hmethM hstat
  obtain ⟨kP, hkP, -⟩ := className_of_methodNamed hnamed
  have hinitP : kP.init = .initialized := Cond.initialized_spec (findClass_of_methodNamed hnamed) hkP hinit
  obtain ⟨vm₁, X₁, hstep₁⟩ := X.invokestatic hexec hown hlink hnamed hmethM hstatic hkP hinitP hy (g := g) hg (argsL := argsL) (rest := rest) (hlen _ hsigM) hstack hdg
  obtain ⟨v, B, X', hpost, hsteps⟩ := hK m meth c ⟨T.setVm vm₁, locs, cells, slots⟩ { g with stack := rest } (.invokestatic index) mk argsL.toArray X₁ hg hsize hdg hW (X₁.named hnamed) (hpre vm₁ X₁.warmed)
  exact ⟨v, vm₁, B, X₁.warmed, X', hpost, fun target h => hstep₁ _ fun acts => by rw [doInvoke_state]; exact hsteps.trans h⟩
theorem vx_runSW {y : MethodName} {bytes cc : ByteArray} {maxL nL mc ms n index : Nat} {ret : Option FieldType} {hh : List (Nat × Nat × Nat × Nat)} {ws : List Cond} {rm : Room} {Pc : Array Value → State → Prop} {Qc : Array Value → State → Outcome → State → Prop} {free : Addr → Prop} {Ts : List Cond} {own : String} {As rest : List Value} {g : JFrame}
    (S : CallFix p m c cc nL s args Ts own) (hM : Met l y ws rm Pc Qc mc ms free) (cw : vx_CSW R s args own index y bytes maxL ret hh ws rm mc ms n) (hp : PreS s H Pc As)
    (hg : g.method = m) (hn : As.length = n) (hsize : g.locals.size = nL) (hstack : g.stack = As.reverse ++ rest) (hW : 2 * g.monitorRoom + (rest.map fun v => v.category).sum ≤ 8) (hdg : decode cc g.pc = .ok (.invokestatic index, 3)) (hf : cells + mc ≤ R.cells ∧ slots + ms ≤ R.slots) :
    va_Run p l e R s m args below meth c H locs cells slots mc ms g rest (Qc As.toArray) (free) := by
  obtain ⟨⟨hrc, hrs, hfr, hlo, hws, hcw⟩, hcode, hini, hy, hlen, hl, hstt⟩ := cw
  have hK : Back l R p e below s args y 3 8 (PreOf R mc ms Pc) (PostOf Qc mc ms free) := va_backW (hh := hh) (bytes := bytes) (maxL := maxL) (ret := ret) hM hp.1 hrc hrs hfr hlo hws hcw (fun a' U hW => word_at hW (Or.inl (by first | rfl | simp [Cond.onTables, Cond.keeps, Cond.steady])) hini)
  obtain ⟨hx, hb, hml, ho, -⟩ := S
  intro T hT X
  obtain ⟨v, vm₁, ⟨U', l2, c2, s2⟩, hW₁, X', ⟨g', mk, t, L, e1, e2, hq, h1, hL, h2, h3⟩, st⟩ := vx_callSW X hx (hh := hh) (bytes := bytes) (maxL := maxL) (ret := ret) ho hl hstt hini hcode hy hK hg (hsize.trans hml.symm) (argsL := As) (rest := rest) (fun sig h => hn.trans (hlen sig h)) hstack hW (by rw [hb]; exact hdg)
    (fun vm₁ hW₁ => ⟨hf.1, hf.2, hp.2 (T.setVm vm₁) hT hW₁⟩)
  dsimp only [Pt.U, Pt.locs, Pt.cells, Pt.slots] at X' e1 e2 h1 h2 h3 st
  subst h1; subst h2; subst h3
  exact ⟨v, (T.setVm vm₁).calling g' mk As.toArray, t, U', L, hT, X', hL, e1, e2, hq, st⟩
/-- not caught here, past rows that name other classes: it goes on to the caller -/
theorem vx_outP {p : Program} {l : Launch} {e : Env} {R : Room} {s : State} {m : MethodId} {args : Array Value} {below : List Frame} {meth : Method} {c : Code} {H : Heap} {locs : List Loc} {cells slots : Nat} {free : Addr → Prop} {ls : Array Slot} {rest : List Value} {Qc : Array Value → State → Outcome → State → Prop} {XC : String → State → State → Prop}
    {pc : Nat} {own E : String} {ce : Cell} {q : Addr} {mc ms : Nat} (hown : s.vm.findClass own = some m.cls) (hlocks : meth.locks = false)
    (hpass : ∀ z ∈ c.exceptionTable.toList, covers z pc = false ∨ (z.catchType ≠ 0 ∧ ∃ nm : String, (Cond.classLink own z.catchType nm).before args s = true ∧ va_Nc E nm s)) (hcell : H[q]? = some ce) (hv : ce.vm = .none) (hcl : s.vm.findClass E = some ce.cls)
    (hx : ∀ t : State, t.heap = H → s.vm.Alike t.vm → XC E s t) (hf : ∀ z ∈ locs, free z.base) (hc : cells ≤ mc) (hs : slots ≤ ms) :
    vx_W p l e R s m args below meth c H locs cells slots (vx_MQ below Qc XC args s mc ms free) (F0 m pc ls rest) q := by
  intro T hT X
  have hpl : e.platform.magicAccessors = ({} : Platform).magicAccessors := by rw [X.admits.platform]
  obtain ⟨vm', hW', X', st⟩ := X.outThrough hlocks q (g := F0 m pc ls rest) rfl rfl rfl (cell := ce) (by rw [hT]; exact hcell) (by rw [hv]; rfl)
    (by obtain ⟨k9, h9, -⟩ := Vm.findClass_spec hcl; exact ⟨k9, h9⟩) (fun z hz => by
      rcases hpass z hz with h | ⟨hz0, nm, hl1, hn1⟩
      · exact Or.inl h
      · obtain ⟨c6, hc6, hcl6⟩ := Cond.classLink_spec hown hl1 e.platform hpl
        obtain ⟨a8, b8, h1, h2, h3⟩ := hn1
        cases Option.some.inj (h1.symm.trans hcl)
        cases Option.some.inj (h2.symm.trans hc6)
        exact Or.inr ⟨hz0, _, hcl6, h3⟩)
  obtain ⟨g₀, hfr⟩ := X'.frames_eq
  have hcell9 : ((T.setVm vm').setFrames (.throwing q :: below)).heap[q]? = some ce := by
    show T.heap[q]? = some ce
    rw [hT]; exact hcell
  have hend : Ended ((T.setVm vm').setFrames (.throwing q :: below)) below (.threw q) := State.frames_setFrames _ (State.cur_lt_of_frames hfr)
  refine ⟨(T.setVm vm').setFrames (.throwing q :: below), ?_, .threw q, X'.here.running, hend, Or.inr ⟨q, rfl, E, ce, locs, hx _ hT (X'.ends _).1.alike, hcell9, hv, hcl, (X'.ends _).1, (X'.ends _).2.mono hc hs, hf⟩⟩
  rw [X.pushThrowing_eq]
  exact st
/-- a thing of a world lies in the heap -/
theorem vx_lt {D : va_G} {cl : List vw_C} {ws : va_W} {H1 : Heap} (h : va_P D cl ws H1) {k : Nat} {q : Nat × va_E} (hk : ws[k]? = some q) : q.1 < H1.size := (h k q hk).lt
end VXS
/-! ===== END ===== -/
/-! ===== BEGIN methods with a table of their own: called by a name, returning or throwing ===== -/
section VXH
/-! vx_backW, vx_callVX, vx_callSX, vx_callVW, vx_runVW, vx_runVX, vx_runSX, vx_ofWH follow the same proofs as their sisters above (Free/Laws.lean, Shelf42/LK1.lean); vx_outP calls Shelf42/NT130.lean (outThrough). -/
section
variable {l : Launch} {R : Room} {p : Program} {e : Env} {below : List Frame} {s : State} {sargs : Array Value} {y : MethodName} {len W9 : Nat}
theorem vx_backW {ws : List Cond} {rm : Room} {Pc : Array Value → State → Prop} {Qc : Array Value → State → Outcome → State → Prop} {XC : String → State → State → Prop} {mc ms : Nat} {free : Addr → Prop} {bytes : ByteArray} {maxL : Nat} {ret : Option FieldType} {hh : List (Nat × Nat × Nat × Nat)}
    (hM : vx_Met l y ws rm Pc Qc XC mc ms free) (hblind : FrameBlind Pc) (hrc : rm.cells = mc) (hrs : rm.slots = ms)
    (hframes : rm.frames + 1 ≤ R.frames) (hlocals : W9 + (maxL + 11) + rm.locals ≤ R.locals)
    (hws : ∀ w ∈ ws, ∀ a' U, s.WarmedH U.vm → w.before a' U = true) (hcode : Cond.codeWith y bytes maxL ret hh ∈ ws) (hinit : ∀ a' U, s.WarmedH U.vm → (Cond.initialized y.cls).before a' U = true) :
    vx_Back l R p e below s sargs y len W9 (PreOf R mc ms Pc) (PostOf Qc mc ms free) (vx_Post XC mc ms free) := by
  intro m meth c A g ig mk a X hg hsize hdg hW hn hp
  have h1 : (headSpec ws rm).pre.before a A.U = true := atoms_intro fun w hw => hws w hw _ _ X.warmed
  have h2 : (Cond.codeWith y bytes maxL ret hh).before a A.U = true := hws _ hcode _ _ X.warmed
  have h3 : (Cond.initialized y.cls).before a A.U = true := hinit _ _ X.warmed
  have h4 : A.cells + (headSpec ws rm).room.cells ≤ R.cells := by rw [show (headSpec ws rm).room.cells = mc from hrc]; exact hp.1
  have h5 : A.slots + (headSpec ws rm).room.slots ≤ R.slots := by rw [show (headSpec ws rm).room.slots = ms from hrs]; exact hp.2.1
  have hPc : Pc a (A.U.calling g mk a) := hblind _ _ _ _ hp.2.2
  obtain ⟨U, Ls, c0, s0⟩ := A
  dsimp only [Pt.U, Pt.locs, Pt.cells, Pt.slots] at h1 h2 h3 h4 h5 X hn hPc ⊢
  obtain ⟨m9, methY, cY, hn9, hmY, hcY, -, hlY, -⟩ := Cond.codeWith_spec h2
  cases Option.some.inj (hn9.symm.trans hn)
  obtain ⟨kY, hkY, -⟩ := className_of_methodNamed hn
  have hinitY : kY.init = .initialized := Cond.initialized_spec (findClass_of_methodNamed hn) hkY h3
  have h : At U g.method c below := by rw [hg]; exact X.here
  have hlocals9 : W9 + (maxL + 11) + (headSpec ws rm).room.locals ≤ R.locals := hlocals
  have happ : (headSpec ws rm).appliesLoose y e.platform (U.calling g mk a) = true :=
    Spec.appliesLoose_calling (g := g) h hdg hn hkY hinitY
      (X.room_calling (g := g) (R' := (headSpec ws rm).room) hsize hmY hcY hframes (by rw [hlY]; omega) h4 h5) h1
  obtain ⟨mid, hmid⟩ := h.above
  have hfr : (U.setTop g).frames = (.java g :: mid) ++ below := by rw [State.frames_setTop' g h.top, hmid]; rfl
  obtain ⟨o, s₂, hsteps, -, hend, hq⟩ := Steps.callFree hM p X.admits X.cas X.clock (acts := []) hfr happ hPc trivial
  have hq' : vx_Q Qc XC mc ms free a (U.calling g mk a) o s₂ := hq
  rw [State.frames_setTop' g h.top] at hend
  obtain ⟨g₀, hg0⟩ := Option.isSome_iff_exists.mp h.top
  obtain ⟨r, hr⟩ := State.topJava?_eq_some.mp hg0
  have hr' : (({ U with heap := s₂.heap, slotsUsed := s₂.slotsUsed } : State).setVm s₂.vm).frames = .java g₀ :: r := hr
  rcases hq' with ⟨hqc, L, hfe, hL⟩ | ⟨q, rfl, E, ce, L, hx, hce, hcv, hcl, hW₂, hsm, hL⟩
  · obtain ⟨⟨v, rfl⟩, hW₂, e2, q2, q3, q4, q5, q6⟩ := id hfe
    have e3 : s₂ = ({ (U.calling g mk a).setFrames s₂.frames with heap := s₂.heap, slotsUsed := s₂.slotsUsed } : State).setVm s₂.vm := by
      have : s₂ = ({ s₂ with vm := (U.calling g mk a).vm } : State).setVm s₂.vm := rfl
      rw [e2] at this
      exact this
    obtain ⟨c₂, i₂, len₂, hc₂, hd₂, hf₂⟩ := hend
    have hW' : U.WarmedH s₂.vm := hW₂
    have hcc : c₂ = c := by
      have h1 : s₂.code? g.method = U.code? g.method := by
        rw [State.code?_eq, State.code?_eq, hW'.alike.method?]
      exact Option.some.inj (hc₂.symm.trans (h1.trans h.code))
    subst hcc
    have hlen : len₂ = len := by rw [hdg] at hd₂; cases hd₂; rfl
    subst hlen
    have hs₂ : s₂ = (({ U with heap := s₂.heap, slotsUsed := s₂.slotsUsed } : State).setVm s₂.vm).setTop { g with pc := g.pc + len₂, stack := v.toList ++ g.stack } := by
      refine e3.trans ?_
      rw [hf₂, State.calling_eq h.top, State.setFrames_setFrames, State.setTop_of_frames _ hr', hr]
      rfl
    have hsame : U.sameButNew ({ U with heap := s₂.heap, slotsUsed := s₂.slotsUsed } : State) L mc ms := by
      refine ⟨?_, q2, q3, q4, q5, q6⟩
      obtain ⟨t, ht, -⟩ := State.frames_cons hr
      show ({ U with heap := s₂.heap, slotsUsed := s₂.slotsUsed } : State) = { U.setFrames U.frames with heap := s₂.heap, slotsUsed := s₂.slotsUsed }
      rw [State.setFrames_self ht]
    subst hg
    refine Or.inl ⟨v, ⟨(({ U with heap := s₂.heap, slotsUsed := s₂.slotsUsed } : State).setVm s₂.vm), Ls ++ L, c0 + mc, s0 + ms⟩,
      ⟨X.admits, X.cas, X.clock, X.frames, X.room, X.hears, X.method, X.code, (X.here.setHeapUsed s₂.heap s₂.slotsUsed).setVm hW'.alike, X.tail, State.WarmedH.trans X.warmed hW', X.limits, X.bytes, X.same.trans (hsame.setVm s.vm)⟩,
      ⟨g, mk, s₂, L, rfl, rfl, hqc, rfl, hL, rfl, rfl⟩, ?_⟩
    show Steps p.tables e below _ ((({ U with heap := s₂.heap, slotsUsed := s₂.slotsUsed } : State).setVm s₂.vm).setTop { g with pc := g.pc + len₂, stack := v.toList ++ g.stack })
    rw [← hs₂]
    exact hsteps
  · obtain ⟨e2, q2, q3, q4, q5, q6⟩ := id hsm
    have e3 : s₂ = ({ (U.calling g mk a).setFrames s₂.frames with heap := s₂.heap, slotsUsed := s₂.slotsUsed } : State).setVm s₂.vm := by
      have : s₂ = ({ s₂ with vm := (U.calling g mk a).vm } : State).setVm s₂.vm := rfl
      rw [e2] at this
      exact this
    have hf₂ : s₂.frames = .throwing q :: .java g :: U.frames.tail := hend
    have hW' : U.WarmedH s₂.vm := hW₂
    have hs₂ : s₂ = ((({ U with heap := s₂.heap, slotsUsed := s₂.slotsUsed } : State).setVm s₂.vm).setTop g).pushFrame (.throwing q) := by
      refine e3.trans ?_
      rw [hf₂, State.calling_eq h.top, State.setFrames_setFrames, State.pushFrame, State.frames_setTop _ hr', State.setTop_of_frames _ hr', State.setFrames_setFrames, hr]
      rfl
    have hsame : U.sameButNew ({ U with heap := s₂.heap, slotsUsed := s₂.slotsUsed } : State) L mc ms := by
      refine ⟨?_, q2, q3, q4, q5, q6⟩
      obtain ⟨t, ht, -⟩ := State.frames_cons hr
      show ({ U with heap := s₂.heap, slotsUsed := s₂.slotsUsed } : State) = { U.setFrames U.frames with heap := s₂.heap, slotsUsed := s₂.slotsUsed }
      rw [State.setFrames_self ht]
    subst hg
    refine Or.inr ⟨q, ⟨(({ U with heap := s₂.heap, slotsUsed := s₂.slotsUsed } : State).setVm s₂.vm), Ls ++ L, c0 + mc, s0 + ms⟩,
      ⟨X.admits, X.cas, X.clock, X.frames, X.room, X.hears, X.method, X.code, (X.here.setHeapUsed s₂.heap s₂.slotsUsed).setVm hW'.alike, X.tail, State.WarmedH.trans X.warmed hW', X.limits, X.bytes, X.same.trans (hsame.setVm s.vm)⟩,
      ⟨g, mk, s₂, L, E, ce, rfl, rfl, hx, hce, hcv, hcl, rfl, hL, rfl, rfl⟩, ?_⟩
    show Steps p.tables e below _ (((({ U with heap := s₂.heap, slotsUsed := s₂.slotsUsed } : State).setVm s₂.vm).setTop g).pushFrame (.throwing q))
    rw [← hs₂]
    exact hsteps
end
variable {p : Program} {l : Launch} {e : Env} {R : Room} {s : State} {m : MethodId} {args : Array Value} {below : List Frame} {meth : Method} {c : Code} {T : State} {H : Heap} {locs : List Loc} {cells slots : Nat}
theorem vx_callVX (X : Stand p l e R s m args below meth c T locs cells slots) (hexec : p.tables.exec = Jvm.exec) {own C : String} {index : Nat} {y : MethodName} {bytes : ByteArray} {maxL : Nat} {ret : Option FieldType} {hh : List (Nat × Nat × Nat × Nat)}
    (hown : s.vm.findClass own = some m.cls) (hlink : (Cond.methodLink own index y).before args s = true) (hinst : (Cond.instanceMethod y).before args s = true) (hsel : (Cond.selects C y y).before args s = true)
    (hcode : (Cond.codeWith y bytes maxL ret hh).before args s = true) (hy : y.cls ≠ "java/lang/invoke/MethodHandle" ∧ y.cls ≠ "java/lang/invoke/VarHandle")
    {W9 : Nat} {Pre : Pt → Array Value → Prop} {Post : Pt → Array Value → Option Value → Pt → Prop} {PostX : Pt → Array Value → Addr → Pt → Prop} (hK : vx_Back l R p e below s args y 3 W9 Pre Post PostX)
    {b : Addr} {cellB : Cell} (hcell : T.heap[b]? = some cellB) (hobj : cellB.vm.isStatics = false) (hcls : s.vm.findClass C = some cellB.cls)
    {g : JFrame} (hg : g.method = m) (hsize : g.locals.size = c.maxLocals) {argsL rest : List Value} (hlen : ∀ sig, parseMethodDescriptor y.desc = some sig → argsL.length = sig.parameters.length)
    (hstack : g.stack = argsL.reverse ++ .ref b :: rest) (hW : 2 * g.monitorRoom + (rest.map fun v => v.category).sum ≤ W9) (hdg : decode c.code g.pc = .ok (.invokevirtual index, 3))
    (hpre : ∀ vm₁, s.WarmedH vm₁ → Pre ⟨T.setVm vm₁, locs, cells, slots⟩ (Value.ref b :: argsL).toArray) :
    (∃ (v : Option Value) (vm₁ : Vm) (B : Pt), s.WarmedH vm₁ ∧ Stand p l e R s m args below meth c B.U B.locs B.cells B.slots ∧ Post ⟨T.setVm vm₁, locs, cells, slots⟩ (Value.ref b :: argsL).toArray v B ∧
      ∀ target, Steps p.tables e below (B.U.setTop { g with pc := g.pc + 3, stack := v.toList ++ rest }) target → Steps p.tables e below (T.setTop g) target) ∨
    (∃ (q : Addr) (vm₁ : Vm) (B : Pt), s.WarmedH vm₁ ∧ Stand p l e R s m args below meth c B.U B.locs B.cells B.slots ∧ PostX ⟨T.setVm vm₁, locs, cells, slots⟩ (Value.ref b :: argsL).toArray q B ∧
      Steps p.tables e below (T.setTop g) ((B.U.setTop { g with stack := rest }).pushFrame (.throwing q))) := by
  obtain ⟨mk, methM, hnamed, hmethM, hstM, habM⟩ := Cond.instanceMethod_spec hinst
  obtain ⟨m8, methM', cM, hn8, hmethM', -, -, -, -, -, -, hsigM⟩ := Cond.codeWith_spec hcode
  cases Option.some.inj (hn8.symm.trans hnamed)
  cases hmethM.symm.trans hmethM'
  obtain ⟨c2, r2, m2, q1, q2, q3, q4, kP, hkP, hkPi⟩ := Cond.selects_spec hsel
  cases hcls.symm.trans q1
  cases (State.methodFound?_of_named hnamed hy).symm.trans q2
  cases hnamed.symm.trans q3
  have hselP : selectMethod e.platform s.vm cellB.cls mk = .method mk := by rw [Launch.admits_selectMethod X.admits]; exact q4
  obtain ⟨vm₁, X₁, hstep₁⟩ := X.invokevirtual hexec hown hlink hnamed hmethM hstM hkP hkPi hy (a := b) (cell := cellB) hcell
    (fun z h => by rw [h] at hobj; cases hobj) hselP hmethM habM hkP hkPi (g := g) hg (argsL := argsL) (rest := rest) (hlen _ hsigM) hstack hdg
  rcases hK m meth c ⟨T.setVm vm₁, locs, cells, slots⟩ { g with stack := rest } (.invokevirtual index) mk (Value.ref b :: argsL).toArray X₁ hg hsize hdg hW (X₁.named hnamed) (hpre vm₁ X₁.warmed) with ⟨v, B, X', hpost, hsteps⟩ | ⟨q, B, X', hpost, hsteps⟩
  · exact Or.inl ⟨v, vm₁, B, X₁.warmed, X', hpost, fun target h => hstep₁ _ fun acts => by rw [doInvoke_state]; exact hsteps.trans h⟩
  · exact Or.inr ⟨q, vm₁, B, X₁.warmed, X', hpost, hstep₁ _ fun acts => by rw [doInvoke_state]; exact hsteps⟩
theorem vx_callSX (X : Stand p l e R s m args below meth c T locs cells slots) (hexec : p.tables.exec = Jvm.exec) {own : String} {index : Nat} {y : MethodName} {bytes : ByteArray} {maxL : Nat} {ret : Option FieldType} {hh : List (Nat × Nat × Nat × Nat)}
    (hown : s.vm.findClass own = some m.cls) (hlink : (Cond.methodLink own index y).before args s = true) (hstat : (Cond.static y).before args s = true) (hinit : (Cond.initialized y.cls).before args s = true)
    (hcode : (Cond.codeWith y bytes maxL ret hh).before args s = true) (hy : y.cls ≠ "java/lang/invoke/MethodHandle" ∧ y.cls ≠ "java/lang/invoke/VarHandle")
    {W9 : Nat} {Pre : Pt → Array Value → Prop} {Post : Pt → Array Value → Option Value → Pt → Prop} {PostX : Pt → Array Value → Addr → Pt → Prop} (hK : vx_Back l R p e below s args y 3 W9 Pre Post PostX)
    {g : JFrame} (hg : g.method = m) (hsize : g.locals.size = c.maxLocals) {argsL rest : List Value} (hlen : ∀ sig, parseMethodDescriptor y.desc = some sig → argsL.length = sig.parameters.length)
    (hstack : g.stack = argsL.reverse ++ rest) (hW : 2 * g.monitorRoom + (rest.map fun v => v.category).sum ≤ W9) (hdg : decode c.code g.pc = .ok (.invokestatic index, 3))
    (hpre : ∀ vm₁, s.WarmedH vm₁ → Pre ⟨T.setVm vm₁, locs, cells, slots⟩ argsL.toArray) :
    (∃ (v : Option Value) (vm₁ : Vm) (B : Pt), s.WarmedH vm₁ ∧ Stand p l e R s m args below meth c B.U B.locs B.cells B.slots ∧ Post ⟨T.setVm vm₁, locs, cells, slots⟩ argsL.toArray v B ∧
      ∀ target, Steps p.tables e below (B.U.setTop { g with pc := g.pc + 3, stack := v.toList ++ rest }) target → Steps p.tables e below (T.setTop g) target) ∨
    (∃ (q : Addr) (vm₁ : Vm) (B : Pt), s.WarmedH vm₁ ∧ Stand p l e R s m args below meth c B.U B.locs B.cells B.slots ∧ PostX ⟨T.setVm vm₁, locs, cells, slots⟩ argsL.toArray q B ∧
      Steps p.tables e below (T.setTop g) ((B.U.setTop { g with stack := rest }).pushFrame (.throwing q))) := by
  obtain ⟨mk, methM, cM, hnamed, hmethM, -, -, -, -, -, -, hsigM⟩ := Cond.codeWith_spec hcode
  have hstatic : methM.isStatic = true := Cond.static_spec hnamed hmethM hstat
  obtain ⟨kP, hkP, -⟩ := className_of_methodNamed hnamed
  have hinitP : kP.init = .initialized := Cond.initialized_spec (findClass_of_methodNamed hnamed) hkP hinit
  obtain ⟨vm₁, X₁, hstep₁⟩ := X.invokestatic hexec hown hlink hnamed hmethM hstatic hkP hinitP hy (g := g) hg (argsL := argsL) (rest := rest) (hlen _ hsigM) hstack hdg
  rcases hK m meth c ⟨T.setVm vm₁, locs, cells, slots⟩ { g with stack := rest } (.invokestatic index) mk argsL.toArray X₁ hg hsize hdg hW (X₁.named hnamed) (hpre vm₁ X₁.warmed) with ⟨v, B, X', hpost, hsteps⟩ | ⟨q, B, X', hpost, hsteps⟩
  · exact Or.inl ⟨v, vm₁, B, X₁.warmed, X', hpost, fun target h => hstep₁ _ fun acts => by rw [doInvoke_state]; exact hsteps.trans h⟩
  · exact Or.inr ⟨q, vm₁, B, X₁.warmed, X', hpost, hstep₁ _ fun acts => by rw [doInvoke_state]; exact hsteps⟩
theorem vx_callVW (X : Stand p l e R s m args below meth c T locs cells slots) (hexec : p.tables.exec = Jvm.exec) {own C : String} {index : Nat} {y : MethodName} {bytes : ByteArray} {maxL : Nat} {ret : Option FieldType} {hh : List (Nat × Nat × Nat × Nat)}
    (hown : s.vm.findClass own = some m.cls) (hlink : (Cond.methodLink own index y).before args s = true) (hinst : (Cond.instanceMethod y).before args s = true) (hsel : (Cond.selects C y y).before args s = true)
    (hcode : (Cond.codeWith y bytes maxL ret hh).before args s = true) (hy : y.cls ≠ "java/lang/invoke/MethodHandle" ∧ y.cls ≠ "java/lang/invoke/VarHandle")
    {W9 : Nat} {Pre : Pt → Array Value → Prop} {Post : Pt → Array Value → Option Value → Pt → Prop} (hK : Back l R p e below s args y 3 W9 Pre Post)
    {b : Addr} {cellB : Cell} (hcell : T.heap[b]? = some cellB) (hobj : cellB.vm.isStatics = false) (hcls : s.vm.findClass C = some cellB.cls)
    {g : JFrame} (hg : g.method = m) (hsize : g.locals.size = c.maxLocals) {argsL rest : List Value} (hlen : ∀ sig, parseMethodDescriptor y.desc = some sig → argsL.length = sig.parameters.length)
    (hstack : g.stack = argsL.reverse ++ .ref b :: rest) (hW : 2 * g.monitorRoom + (rest.map fun v => v.category).sum ≤ W9) (hdg : decode c.code g.pc = .ok (.invokevirtual index, 3))
    (hpre : ∀ vm₁, s.WarmedH vm₁ → Pre ⟨T.setVm vm₁, locs, cells, slots⟩ (Value.ref b :: argsL).toArray) :
    ∃ (v : Option Value) (vm₁ : Vm) (B : Pt), s.WarmedH vm₁ ∧ Stand p l e R s m args below meth c B.U B.locs B.cells B.slots ∧ Post ⟨T.setVm vm₁, locs, cells, slots⟩ (Value.ref b :: argsL).toArray v B ∧
      ∀ target, Steps p.tables e below (B.U.setTop { g with pc := g.pc + 3, stack := v.toList ++ rest }) target → Steps p.tables e below (T.setTop g) target := by
  obtain ⟨mk, methM, hnamed, hmethM, hstM, habM⟩ := Cond.instanceMethod_spec hinst
  obtain ⟨m8, methM', cM, hn8, hmethM', -, -, -, -, -, -, hsigM⟩ := Cond.codeWith_spec hcode
  cases Option.some.inj (hn8.symm.trans hnamed)
  cases hmethM.symm.trans hmethM'
  obtain ⟨c2, r2, m2, q1, q2, q3, q4, kP, hkP, hkPi⟩ := Cond.selects_spec hsel
  cases hcls.symm.trans q1
  cases (State.methodFound?_of_named hnamed hy).symm.trans q2
  cases hnamed.symm.trans q3
  have hselP : selectMethod e.platform s.vm cellB.cls mk = .method mk := by rw [Launch.admits_selectMethod X.admits]; exact q4
  obtain ⟨vm₁, X₁, hstep₁⟩ := X.invokevirtual hexec hown hlink hnamed hmethM hstM hkP hkPi hy (a := b) (cell := cellB) hcell
    (fun z h => by rw [h] at hobj; cases hobj) hselP hmethM habM hkP hkPi (g := g) hg (argsL := argsL) (rest := rest) (hlen _ hsigM) hstack hdg
  obtain ⟨v, B, X', hpost, hsteps⟩ := hK m meth c ⟨T.setVm vm₁, locs, cells, slots⟩ { g with stack := rest } (.invokevirtual index) mk (Value.ref b :: argsL).toArray X₁ hg hsize hdg hW (X₁.named hnamed) (hpre vm₁ X₁.warmed)
  exact ⟨v, vm₁, B, X₁.warmed, X', hpost, fun target h => hstep₁ _ fun acts => by rw [doInvoke_state]; exact hsteps.trans h⟩
abbrev vx_CVW (R : Room) (s : State) (args : Array Value) (own C : String) (index : Nat) (y : MethodName) (bytes : ByteArray) (maxL : Nat) (ret : Option FieldType) (hh : List (Nat × Nat × Nat × Nat)) (ws : List Cond) (rm : Room) (mc ms n : Nat) : Prop :=
  (rm.cells = mc ∧ rm.slots = ms ∧ rm.frames + 1 ≤ R.frames ∧ 8 + (maxL + 11) + rm.locals ≤ R.locals ∧ (∀ w ∈ ws, ∀ (a' : Array Value) (U : State), s.WarmedH U.vm → w.before a' U = true) ∧ Cond.codeWith y bytes maxL ret hh ∈ ws) ∧
  (Cond.codeWith y bytes maxL ret hh).before args s = true ∧ (Cond.initialized y.cls).before args s = true ∧ (y.cls ≠ "java/lang/invoke/MethodHandle" ∧ y.cls ≠ "java/lang/invoke/VarHandle") ∧
  (∀ sig, parseMethodDescriptor y.desc = some sig → n = sig.parameters.length) ∧ (Cond.methodLink own index y).before args s = true ∧ (Cond.instanceMethod y).before args s = true ∧ (Cond.selects C y y).before args s = true
theorem vx_cwVW {own C : String} {index maxL mc ms : Nat} {y : MethodName} {bytes : ByteArray} {ret : Option FieldType} {hh : List (Nat × Nat × Nat × Nat)} {Ts ws ws' : List Cond} {rm : Room} (n : Nat) (ht : ∀ w ∈ Ts, w.before args s = true) (hT : GoodIn Ts (wsV own index C y ws)) (hw : ws = Cond.codeWith y bytes maxL ret hh :: ws') (hrc : rm.cells = mc) (hrs : rm.slots = ms)
    (hd : y.cls = C ∧ y.cls ≠ "java/lang/invoke/MethodHandle" ∧ y.cls ≠ "java/lang/invoke/VarHandle" ∧ (parseMethodDescriptor y.desc).map (fun d => d.parameters.length) = some n) (hR : rm.frames + 1 ≤ R.frames ∧ 8 + (maxL + 11) + rm.locals ≤ R.locals) :
    vx_CVW R s args own C index y bytes maxL ret hh ws rm mc ms n := by
  obtain ⟨hC, hd⟩ := hd
  subst hC
  have ok : ∀ w ∈ wsV own index y.cls y ws, w.before args s = true := fun w h => ht w (hT w h).1
  have hG : GoodIn Ts ws := fun w h => hT w (by unfold wsV; exact List.mem_append_right _ h)
  have hc : Cond.codeWith y bytes maxL ret hh ∈ ws := by rw [hw]; exact List.mem_cons_self
  refine ⟨⟨hrc, hrs, hR.1, hR.2, pay_in ht hG, hc⟩, ht _ (hG _ hc).1, ok _ (by simp [wsV]), ⟨hd.1, hd.2.1⟩, fun sig h => ?_, ok _ (by simp [wsV]), ok _ (by simp [wsV]), ok _ (by simp [wsV])⟩
  have h2 := hd.2.2
  rw [h] at h2
  exact (Option.some.inj h2).symm
theorem vx_runVW {y : MethodName} {bytes cc : ByteArray} {maxL nL mc ms n index : Nat} {ret : Option FieldType} {hh : List (Nat × Nat × Nat × Nat)} {ws : List Cond} {rm : Room} {Pc : Array Value → State → Prop} {Qc : Array Value → State → Outcome → State → Prop} {free : Addr → Prop} {Ts : List Cond} {own C : String} {b : Addr} {As rest : List Value} {g : JFrame}
    (S : CallFix p m c cc nL s args Ts own) (hM : Met l y ws rm Pc Qc mc ms free) (cw : vx_CVW R s args own C index y bytes maxL ret hh ws rm mc ms n) (hp : PreV s H C b Pc As)
    (hg : g.method = m) (hn : As.length = n) (hsize : g.locals.size = nL) (hstack : g.stack = As.reverse ++ .ref b :: rest) (hW : 2 * g.monitorRoom + (rest.map fun v => v.category).sum ≤ 8) (hdg : decode cc g.pc = .ok (.invokevirtual index, 3)) (hf : cells + mc ≤ R.cells ∧ slots + ms ≤ R.slots) :
    va_Run p l e R s m args below meth c H locs cells slots mc ms g rest (Qc (Value.ref b :: As).toArray) free := by
  obtain ⟨⟨hrc, hrs, hfr, hlo, hws, hcw⟩, hcode, hini, hy, hlen, hl, hin, hse⟩ := cw
  have hK : Back l R p e below s args y 3 8 (PreOf R mc ms Pc) (PostOf Qc mc ms free) := va_backW (hh := hh) (bytes := bytes) (maxL := maxL) (ret := ret) hM hp.1 hrc hrs hfr hlo hws hcw (fun a' U hW => word_at hW (Or.inl (by first | rfl | simp [Cond.onTables, Cond.keeps, Cond.steady])) hini)
  obtain ⟨hx, hb, hml, ho, -⟩ := S
  obtain ⟨-, ⟨cellB, hcB, hoB, hclB⟩, hPc⟩ := hp
  intro T hT X
  obtain ⟨v, vm₁, ⟨U', l2, c2, s2⟩, hW₁, X', ⟨g', mk, t, L, e1, e2, hq, h1, hL, h2, h3⟩, st⟩ := vx_callVW X hx (C := C) (hh := hh) (bytes := bytes) (maxL := maxL) (ret := ret) ho hl hin hse hcode hy hK (by rw [hT]; exact hcB) hoB hclB hg (hsize.trans hml.symm) (argsL := As) (rest := rest) (fun sig h => hn.trans (hlen sig h)) hstack hW (by rw [hb]; exact hdg)
    (fun vm₁ hW₁ => ⟨hf.1, hf.2, hPc (T.setVm vm₁) hT hW₁⟩)
  dsimp only [Pt.U, Pt.locs, Pt.cells, Pt.slots] at X' e1 e2 h1 h2 h3 st
  subst h1; subst h2; subst h3
  exact ⟨v, (T.setVm vm₁).calling g' mk (Value.ref b :: As).toArray, t, U', L, hT, X', hL, e1, e2, hq, st⟩
section
variable {y : MethodName} {bytes cc : ByteArray} {maxL nL mc ms n index : Nat} {ret : Option FieldType} {ws : List Cond} {rm : Room} {Pc : Array Value → State → Prop} {Qc : Array Value → State → Outcome → State → Prop} {XC : String → State → State → Prop} {free : Addr → Prop} {Ts : List Cond} {own C : String} {b : Addr} {As rest : List Value} {g : JFrame}
theorem vx_runVX {hh : List (Nat × Nat × Nat × Nat)} (S : CallFix p m c cc nL s args Ts own) (hM : vx_Met l y ws rm Pc Qc XC mc ms free) (cw : vx_CVW R s args own C index y bytes maxL ret hh ws rm mc ms n) (hp : PreV s H C b Pc As)
    (hg : g.method = m) (hn : As.length = n) (hsize : g.locals.size = nL) (hstack : g.stack = As.reverse ++ .ref b :: rest) (hW : 2 * g.monitorRoom + (rest.map fun v => v.category).sum ≤ 8) (hdg : decode cc g.pc = .ok (.invokevirtual index, 3)) (hf : cells + mc ≤ R.cells ∧ slots + ms ≤ R.slots) :
    vx_Run p l e R s m args below meth c H locs cells slots mc ms g rest (Qc (Value.ref b :: As).toArray) XC free := by
  obtain ⟨⟨hrc, hrs, hfr, hlo, hws, hcw⟩, hcode, hini, hy, hlen, hl, hin, hse⟩ := cw
  have hK : vx_Back l R p e below s args y 3 8 (PreOf R mc ms Pc) (PostOf Qc mc ms free) (vx_Post XC mc ms free) := vx_backW (hh := hh) (bytes := bytes) (maxL := maxL) (ret := ret) hM hp.1 hrc hrs hfr hlo hws hcw (fun a' U hW => word_at hW (Or.inl (by first | rfl | simp [Cond.onTables, Cond.keeps, Cond.steady])) hini)
  obtain ⟨hx, hb, hml, ho, -⟩ := S
  obtain ⟨-, ⟨cellB, hcB, hoB, hclB⟩, hPc⟩ := hp
  intro T hT X
  rcases vx_callVX X hx (C := C) (hh := hh) (bytes := bytes) (maxL := maxL) (ret := ret) ho hl hin hse hcode hy hK (by rw [hT]; exact hcB) hoB hclB hg (hsize.trans hml.symm) (argsL := As) (rest := rest) (fun sig h => hn.trans (hlen sig h)) hstack hW (by rw [hb]; exact hdg)
    (fun vm₁ hW₁ => ⟨hf.1, hf.2, hPc (T.setVm vm₁) hT hW₁⟩) with ⟨v, vm₁, ⟨U', l2, c2, s2⟩, hW₁, X', ⟨g', mk, t, L, e1, e2, hq, h1, hL, h2, h3⟩, st⟩ | ⟨q, vm₁, ⟨U', l2, c2, s2⟩, hW₁, X', ⟨g', mk, t, L, E, ce, e1, e2, hq, hce, hcv, hcl, h1, hL, h2, h3⟩, st⟩
  · dsimp only [Pt.U, Pt.locs, Pt.cells, Pt.slots] at X' e1 e2 h1 h2 h3 st
    subst h1; subst h2; subst h3
    exact Or.inl ⟨v, (T.setVm vm₁).calling g' mk (Value.ref b :: As).toArray, t, U', L, hT, X', hL, e1, e2, hq, st⟩
  · dsimp only [Pt.U, Pt.locs, Pt.cells, Pt.slots] at X' e1 e2 h1 h2 h3 st hcl
    subst h1; subst h2; subst h3
    exact Or.inr ⟨q, (T.setVm vm₁).calling g' mk (Value.ref b :: As).toArray, t, U', L, E, ce, hT, X', hL, e1, e2, hq, hce, hcv, vx_cls hW₁ hcl, st⟩
theorem vx_runSX {hh : List (Nat × Nat × Nat × Nat)} (S : CallFix p m c cc nL s args Ts own) (hM : vx_Met l y ws rm Pc Qc XC mc ms free) (cw : vx_CSW R s args own index y bytes maxL ret hh ws rm mc ms n) (hp : PreS s H Pc As)
    (hg : g.method = m) (hn : As.length = n) (hsize : g.locals.size = nL) (hstack : g.stack = As.reverse ++ rest) (hW : 2 * g.monitorRoom + (rest.map fun v => v.category).sum ≤ 8) (hdg : decode cc g.pc = .ok (.invokestatic index, 3)) (hf : cells + mc ≤ R.cells ∧ slots + ms ≤ R.slots) :
    vx_Run p l e R s m args below meth c H locs cells slots mc ms g rest (Qc As.toArray) XC free := by
  obtain ⟨⟨hrc, hrs, hfr, hlo, hws, hcw⟩, hcode, hini, hy, hlen, hl, hstt⟩ := cw
  have hK : vx_Back l R p e below s args y 3 8 (PreOf R mc ms Pc) (PostOf Qc mc ms free) (vx_Post XC mc ms free) := vx_backW (hh := hh) (bytes := bytes) (maxL := maxL) (ret := ret) hM hp.1 hrc hrs hfr hlo hws hcw (fun a' U hW => word_at hW (Or.inl (by first | rfl | simp [Cond.onTables, Cond.keeps, Cond.steady])) hini)
  obtain ⟨hx, hb, hml, ho, -⟩ := S
  intro T hT X
  rcases vx_callSX X hx (hh := hh) (bytes := bytes) (maxL := maxL) (ret := ret) ho hl hstt hini hcode hy hK hg (hsize.trans hml.symm) (argsL := As) (rest := rest) (fun sig h => hn.trans (hlen sig h)) hstack hW (by rw [hb]; exact hdg)
    (fun vm₁ hW₁ => ⟨hf.1, hf.2, hp.2 (T.setVm vm₁) hT hW₁⟩) with ⟨v, vm₁, ⟨U', l2, c2, s2⟩, hW₁, X', ⟨g', mk, t, L, e1, e2, hq, h1, hL, h2, h3⟩, st⟩ | ⟨q, vm₁, ⟨U', l2, c2, s2⟩, hW₁, X', ⟨g', mk, t, L, E, ce, e1, e2, hq, hce, hcv, hcl, h1, hL, h2, h3⟩, st⟩
  · dsimp only [Pt.U, Pt.locs, Pt.cells, Pt.slots] at X' e1 e2 h1 h2 h3 st
    subst h1; subst h2; subst h3
    exact Or.inl ⟨v, (T.setVm vm₁).calling g' mk As.toArray, t, U', L, hT, X', hL, e1, e2, hq, st⟩
  · dsimp only [Pt.U, Pt.locs, Pt.cells, Pt.slots] at X' e1 e2 h1 h2 h3 st hcl
    subst h1; subst h2; subst h3
    exact Or.inr ⟨q, (T.setVm vm₁).calling g' mk As.toArray, t, U', L, E, ce, hT, X', hL, e1, e2, hq, hce, hcv, vx_cls hW₁ hcl, st⟩
end
end VXH
theorem vx_ofWH {l : Launch} {y : MethodName} {ws ws' : List Cond} {rm : Room} {Pc : Array Value → State → Prop} {Qc : Array Value → State → Outcome → State → Prop} {XC : String → State → State → Prop} {mc ms : Nat} {free : Addr → Prop} {cc : ByteArray} {maxL : Nat} {ret : Option FieldType} {hh : List (Nat × Nat × Nat × Nat)}
    (hy : plainName y.cls = true) (hw : ws = Cond.codeWith y cc maxL ret hh :: ws')
    (body : ∀ p e s m args below meth c s₁, BodyLoose p l y (headSpec ws rm) cc maxL ret e s m args below meth c s₁ → c.maxLocals = maxL → Pc args s →
      W p l e (headSpec ws rm).room s m args below meth c s.heap [] 0 0 (vx_MQ below Qc XC args s mc ms free) (entryFrame m args maxL)) : vx_Met l y ws rm Pc Qc XC mc ms free := by
  refine MetFree.of_bodyS (code := cc) (maxLocals := maxL) (ret := ret) hy ?_ ?_
  · intro args s m h hn
    obtain ⟨m9, meth, c, hn9, h1, h2, h3, h4, -, h5, h6, -⟩ := Cond.codeWith_spec (atoms_spec (ws := ws) h _ (by rw [hw]; exact List.mem_cons_self))
    cases hn.symm.trans hn9
    exact ⟨meth, c, h1, h2, h3, h4, h5, h6⟩
  · intro p e s m args below meth c s₁ B hml hP _
    have hh0 : s₁.heap = s.heap := by rw [B.state]; rfl
    obtain ⟨t, a1, o, b1, b2, b3⟩ := body p e s m args below meth c s₁ B hml hP s₁ hh0 (Stand.of_body B)
    exact ⟨t, o, a1, b1, b2, b3⟩
/-! ===== END ===== -/

/-! ===== BEGIN printed: names, fields, word lists, decode rows ===== -/
/-! ===== BEGIN a private method of a nest mate that may throw (follows va_callVN, va_callSN, va_runVN, va_runSN) ===== -/
section
variable {p : Program} {l : Launch} {e : Env} {R : Room} {s : State} {m : MethodId} {args : Array Value} {below : List Frame} {meth : Method} {c : Code} {H : Heap} {locs : List Loc} {cells slots : Nat}
variable {T : State}
theorem vx_callVN (X : Stand p l e R s m args below meth c T locs cells slots) (hexec : p.tables.exec = Jvm.exec) {own C : String} {index : Nat} {host : String} {y : MethodName} {bytes : ByteArray} {maxL : Nat} {ret : Option FieldType}
    (hown : s.vm.findClass own = some m.cls) (hlink : (Cond.methodLinkNest own index y host).before args s = true) (hinst : (Cond.instanceMethod y).before args s = true) (hsel : (Cond.selects C y y).before args s = true)
    (hcode : (Cond.code y bytes maxL ret).before args s = true) (hy : y.cls ≠ "java/lang/invoke/MethodHandle" ∧ y.cls ≠ "java/lang/invoke/VarHandle")
    {W : Nat} {Pre : Pt → Array Value → Prop} {Post : Pt → Array Value → Option Value → Pt → Prop} {PostX : Pt → Array Value → Addr → Pt → Prop} (hK : vx_Back l R p e below s args y 3 W Pre Post PostX)
    {b : Addr} {cellB : Cell} (hcell : T.heap[b]? = some cellB) (hobj : cellB.vm.isStatics = false) (hcls : s.vm.findClass C = some cellB.cls)
    {g : JFrame} (hg : g.method = m) (hsize : g.locals.size = c.maxLocals) {argsL rest : List Value} (hlen : ∀ sig, parseMethodDescriptor y.desc = some sig → argsL.length = sig.parameters.length)
    (hstack : g.stack = argsL.reverse ++ .ref b :: rest) (hW : 2 * g.monitorRoom + (rest.map fun v => v.category).sum ≤ W) (hdg : decode c.code g.pc = .ok (.invokevirtual index, 3))
    (hpre : ∀ vm₁, s.WarmedH vm₁ → Pre ⟨T.setVm vm₁, locs, cells, slots⟩ (Value.ref b :: argsL).toArray) :
    (∃ (v : Option Value) (vm₁ : Vm) (B : Pt), s.WarmedH vm₁ ∧ Stand p l e R s m args below meth c B.U B.locs B.cells B.slots ∧ Post ⟨T.setVm vm₁, locs, cells, slots⟩ (Value.ref b :: argsL).toArray v B ∧
      ∀ target, Steps p.tables e below (B.U.setTop { g with pc := g.pc + 3, stack := v.toList ++ rest }) target → Steps p.tables e below (T.setTop g) target) ∨
    (∃ (q : Addr) (vm₁ : Vm) (B : Pt), s.WarmedH vm₁ ∧ Stand p l e R s m args below meth c B.U B.locs B.cells B.slots ∧ PostX ⟨T.setVm vm₁, locs, cells, slots⟩ (Value.ref b :: argsL).toArray q B ∧
      Steps p.tables e below (T.setTop g) ((B.U.setTop { g with stack := rest }).pushFrame (.throwing q))) := by
  obtain ⟨mk, methM, hnamed, hmethM, hstM, habM⟩ := Cond.instanceMethod_spec hinst
  obtain ⟨methM', cM, hmethM', -, -, -, -, -, -, hsigM⟩ := Cond.code_spec hnamed hcode
  cases hmethM.symm.trans hmethM'
  obtain ⟨c2, r2, m2, q1, q2, q3, q4, kP, hkP, hkPi⟩ := Cond.selects_spec hsel
  cases hcls.symm.trans q1
  cases (State.methodFound?_of_named hnamed hy).symm.trans q2
  cases hnamed.symm.trans q3
  have hselP : selectMethod e.platform s.vm cellB.cls mk = .method mk := by rw [Launch.admits_selectMethod X.admits]; exact q4
  obtain ⟨vm₁, X₁, hstep₁⟩ := X.invokevirtualNest hexec hown hlink hnamed hmethM hstM hkP hkPi hy (a := b) (cell := cellB) hcell
    (fun z h => by rw [h] at hobj; cases hobj) hselP hmethM habM hkP hkPi (g := g) hg (argsL := argsL) (rest := rest) (hlen _ hsigM) hstack hdg
  rcases hK m meth c ⟨T.setVm vm₁, locs, cells, slots⟩ { g with stack := rest } (.invokevirtual index) mk (Value.ref b :: argsL).toArray X₁ hg hsize hdg hW (X₁.named hnamed) (hpre vm₁ X₁.warmed) with ⟨v, B, X', hpost, hsteps⟩ | ⟨q, B, X', hpost, hsteps⟩
  · exact Or.inl ⟨v, vm₁, B, X₁.warmed, X', hpost, fun target h => hstep₁ _ fun acts => by rw [doInvoke_state]; exact hsteps.trans h⟩
  · exact Or.inr ⟨q, vm₁, B, X₁.warmed, X', hpost, hstep₁ _ fun acts => by rw [doInvoke_state]; exact hsteps⟩
theorem vx_callSN (X : Stand p l e R s m args below meth c T locs cells slots) (hexec : p.tables.exec = Jvm.exec) {own : String} {index : Nat} {host : String} {y : MethodName} {bytes : ByteArray} {maxL : Nat} {ret : Option FieldType}
    (hown : s.vm.findClass own = some m.cls) (hlink : (Cond.methodLinkNest own index y host).before args s = true) (hstat : (Cond.static y).before args s = true) (hinit : (Cond.initialized y.cls).before args s = true)
    (hcode : (Cond.code y bytes maxL ret).before args s = true) (hy : y.cls ≠ "java/lang/invoke/MethodHandle" ∧ y.cls ≠ "java/lang/invoke/VarHandle")
    {W : Nat} {Pre : Pt → Array Value → Prop} {Post : Pt → Array Value → Option Value → Pt → Prop} {PostX : Pt → Array Value → Addr → Pt → Prop} (hK : vx_Back l R p e below s args y 3 W Pre Post PostX)
    {g : JFrame} (hg : g.method = m) (hsize : g.locals.size = c.maxLocals) {argsL rest : List Value} (hlen : ∀ sig, parseMethodDescriptor y.desc = some sig → argsL.length = sig.parameters.length)
    (hstack : g.stack = argsL.reverse ++ rest) (hW : 2 * g.monitorRoom + (rest.map fun v => v.category).sum ≤ W) (hdg : decode c.code g.pc = .ok (.invokestatic index, 3))
    (hpre : ∀ vm₁, s.WarmedH vm₁ → Pre ⟨T.setVm vm₁, locs, cells, slots⟩ argsL.toArray) :
    (∃ (v : Option Value) (vm₁ : Vm) (B : Pt), s.WarmedH vm₁ ∧ Stand p l e R s m args below meth c B.U B.locs B.cells B.slots ∧ Post ⟨T.setVm vm₁, locs, cells, slots⟩ argsL.toArray v B ∧
      ∀ target, Steps p.tables e below (B.U.setTop { g with pc := g.pc + 3, stack := v.toList ++ rest }) target → Steps p.tables e below (T.setTop g) target) ∨
    (∃ (q : Addr) (vm₁ : Vm) (B : Pt), s.WarmedH vm₁ ∧ Stand p l e R s m args below meth c B.U B.locs B.cells B.slots ∧ PostX ⟨T.setVm vm₁, locs, cells, slots⟩ argsL.toArray q B ∧
      Steps p.tables e below (T.setTop g) ((B.U.setTop { g with stack := rest }).pushFrame (.throwing q))) := by
  obtain ⟨mk, hnamed⟩ := Cond.code_named hcode
  obtain ⟨methM, cM, hmethM, -, -, -, -, -, -, hsigM⟩ := Cond.code_spec hnamed hcode
  have hstatic : methM.isStatic = true := Cond.static_spec hnamed hmethM hstat
  obtain ⟨kP, hkP, -⟩ := className_of_methodNamed hnamed
  have hinitP : kP.init = .initialized := Cond.initialized_spec (findClass_of_methodNamed hnamed) hkP hinit
  obtain ⟨vm₁, X₁, hstep₁⟩ := X.invokestaticNest hexec hown hlink hnamed hmethM hstatic hkP hinitP hy (g := g) hg (argsL := argsL) (rest := rest) (hlen _ hsigM) hstack hdg
  rcases hK m meth c ⟨T.setVm vm₁, locs, cells, slots⟩ { g with stack := rest } (.invokestatic index) mk argsL.toArray X₁ hg hsize hdg hW (X₁.named hnamed) (hpre vm₁ X₁.warmed) with ⟨v, B, X', hpost, hsteps⟩ | ⟨q, B, X', hpost, hsteps⟩
  · exact Or.inl ⟨v, vm₁, B, X₁.warmed, X', hpost, fun target h => hstep₁ _ fun acts => by rw [doInvoke_state]; exact hsteps.trans h⟩
  · exact Or.inr ⟨q, vm₁, B, X₁.warmed, X', hpost, hstep₁ _ fun acts => by rw [doInvoke_state]; exact hsteps⟩
theorem vx_runVN {y : MethodName} {bytes cc : ByteArray} {maxL nL mc ms n index : Nat} {ret : Option FieldType} {ws : List Cond} {rm : Room} {Pc : Array Value → State → Prop} {Qc : Array Value → State → Outcome → State → Prop} {XC : String → State → State → Prop} {free : Addr → Prop} {Ts : List Cond} {own C host : String} {b : Addr} {As rest : List Value} {g : JFrame}
    (S : CallFix p m c cc nL s args Ts own) (hM : vx_Met l y ws rm Pc Qc XC mc ms free) (cw : va_CN R s args own index y host bytes maxL ret ws rm mc ms n ∧ (Cond.instanceMethod y).before args s = true ∧ (Cond.selects C y y).before args s = true) (hp : PreV s H C b Pc As)
    (hg : g.method = m) (hn : As.length = n) (hsize : g.locals.size = nL) (hstack : g.stack = As.reverse ++ .ref b :: rest) (hW : 2 * g.monitorRoom + (rest.map fun v => v.category).sum ≤ 8) (hdg : decode cc g.pc = .ok (.invokevirtual index, 3)) (hf : cells + mc ≤ R.cells ∧ slots + ms ≤ R.slots) :
    vx_Run p l e R s m args below meth c H locs cells slots mc ms g rest (Qc (Value.ref b :: As).toArray) XC free := by
  obtain ⟨⟨⟨hrc, hrs, hfr, hlo, hws, hcw⟩, hcode, hini, hy, hlen, hl⟩, hx1, hx2⟩ := cw
  have hK : vx_Back l R p e below s args y 3 8 (PreOf R mc ms Pc) (PostOf Qc mc ms free) (vx_Post XC mc ms free) := vx_back (bytes := bytes) (maxL := maxL) (ret := ret) hM hp.1 hrc hrs hfr hlo hws hcw (fun a' U hW => word_at hW (Or.inl (by first | rfl | simp [Cond.onTables, Cond.keeps, Cond.steady])) hini)
  obtain ⟨hx, hb, hml, ho, -⟩ := S
  obtain ⟨-, ⟨cellB, hcB, hoB, hclB⟩, hPc⟩ := hp
  intro T hT X
  rcases vx_callVN X hx (C := C) (bytes := bytes) (maxL := maxL) (ret := ret) ho hl hx1 hx2 hcode hy hK (by rw [hT]; exact hcB) hoB hclB hg (hsize.trans hml.symm) (argsL := As) (rest := rest) (fun sig h => hn.trans (hlen sig h)) hstack hW (by rw [hb]; exact hdg)
    (fun vm₁ hW₁ => ⟨hf.1, hf.2, hPc (T.setVm vm₁) hT hW₁⟩) with ⟨v, vm₁, ⟨U', l2, c2, s2⟩, hW₁, X', ⟨g', mk, t, L, e1, e2, hq, h1, hL, h2, h3⟩, st⟩ | ⟨q, vm₁, ⟨U', l2, c2, s2⟩, hW₁, X', ⟨g', mk, t, L, E, ce, e1, e2, hq, hce, hcv, hcl, h1, hL, h2, h3⟩, st⟩
  · dsimp only [Pt.U, Pt.locs, Pt.cells, Pt.slots] at X' e1 e2 h1 h2 h3 st
    subst h1; subst h2; subst h3
    exact Or.inl ⟨v, (T.setVm vm₁).calling g' mk (Value.ref b :: As).toArray, t, U', L, hT, X', hL, e1, e2, hq, st⟩
  · dsimp only [Pt.U, Pt.locs, Pt.cells, Pt.slots] at X' e1 e2 h1 h2 h3 st hcl
    subst h1; subst h2; subst h3
    exact Or.inr ⟨q, (T.setVm vm₁).calling g' mk (Value.ref b :: As).toArray, t, U', L, E, ce, hT, X', hL, e1, e2, hq, hce, hcv, vx_cls hW₁ hcl, st⟩
theorem vx_runSN {y : MethodName} {bytes cc : ByteArray} {maxL nL mc ms n index : Nat} {ret : Option FieldType} {ws : List Cond} {rm : Room} {Pc : Array Value → State → Prop} {Qc : Array Value → State → Outcome → State → Prop} {XC : String → State → State → Prop} {free : Addr → Prop} {Ts : List Cond} {own host : String} {As rest : List Value} {g : JFrame}
    (S : CallFix p m c cc nL s args Ts own) (hM : vx_Met l y ws rm Pc Qc XC mc ms free) (cw : va_CN R s args own index y host bytes maxL ret ws rm mc ms n ∧ (Cond.static y).before args s = true ∧ True) (hp : PreS s H Pc As)
    (hg : g.method = m) (hn : As.length = n) (hsize : g.locals.size = nL) (hstack : g.stack = As.reverse ++ rest) (hW : 2 * g.monitorRoom + (rest.map fun v => v.category).sum ≤ 8) (hdg : decode cc g.pc = .ok (.invokestatic index, 3)) (hf : cells + mc ≤ R.cells ∧ slots + ms ≤ R.slots) :
    vx_Run p l e R s m args below meth c H locs cells slots mc ms g rest (Qc As.toArray) XC free := by
  obtain ⟨⟨⟨hrc, hrs, hfr, hlo, hws, hcw⟩, hcode, hini, hy, hlen, hl⟩, hx1, hx2⟩ := cw
  have hK : vx_Back l R p e below s args y 3 8 (PreOf R mc ms Pc) (PostOf Qc mc ms free) (vx_Post XC mc ms free) := vx_back (bytes := bytes) (maxL := maxL) (ret := ret) hM hp.1 hrc hrs hfr hlo hws hcw (fun a' U hW => word_at hW (Or.inl (by first | rfl | simp [Cond.onTables, Cond.keeps, Cond.steady])) hini)
  obtain ⟨hx, hb, hml, ho, -⟩ := S
  have hPc := hp.2
  intro T hT X
  rcases vx_callSN X hx (bytes := bytes) (maxL := maxL) (ret := ret) ho hl hx1 hini hcode hy hK hg (hsize.trans hml.symm) (argsL := As) (rest := rest) (fun sig h => hn.trans (hlen sig h)) hstack hW (by rw [hb]; exact hdg)
    (fun vm₁ hW₁ => ⟨hf.1, hf.2, hPc (T.setVm vm₁) hT hW₁⟩) with ⟨v, vm₁, ⟨U', l2, c2, s2⟩, hW₁, X', ⟨g', mk, t, L, e1, e2, hq, h1, hL, h2, h3⟩, st⟩ | ⟨q, vm₁, ⟨U', l2, c2, s2⟩, hW₁, X', ⟨g', mk, t, L, E, ce, e1, e2, hq, hce, hcv, hcl, h1, hL, h2, h3⟩, st⟩
  · dsimp only [Pt.U, Pt.locs, Pt.cells, Pt.slots] at X' e1 e2 h1 h2 h3 st
    subst h1; subst h2; subst h3
    exact Or.inl ⟨v, (T.setVm vm₁).calling g' mk As.toArray, t, U', L, hT, X', hL, e1, e2, hq, st⟩
  · dsimp only [Pt.U, Pt.locs, Pt.cells, Pt.slots] at X' e1 e2 h1 h2 h3 st hcl
    subst h1; subst h2; subst h3
    exact Or.inr ⟨q, (T.setVm vm₁).calling g' mk As.toArray, t, U', L, E, ce, hT, X', hL, e1, e2, hq, hce, hcv, vx_cls hW₁ hcl, st⟩
end
/-! ===== END ===== -/
end
section
def RX0 : String := "Zfsmill$Cells"
def TX0 : u_T := fun k => match k with
  | 0 => ("Zfsmill$Cells", "used", "[Z", true)
  | 1 => ("Zfsmill$Cells", "spoilt", "[Z", true)
  | 2 => ("Zfsmill$Cells", "away", "[Z", true)
  | _ => ("Zfsmill$Cells", "outage", "[I", true)
def tyX0 : Nat → FieldType := fun k => match k with
  | 0 => .array .boolean
  | 1 => .array .boolean
  | 2 => .array .boolean
  | _ => .array .int
abbrev wsX00 : List Cond := u_ws RX0 TX0 4
theorem nmX0 : ∀ a, a < 4 → ∀ b, b < 4 → a ≠ b → (TX0 a).2.1 ≠ (TX0 b).2.1 := by decide +kernel
theorem tyX0_ok : ∀ k, k < 4 → parseFieldDescriptor (TX0 k).2.2.1 = some (tyX0 k) := by decide +kernel
abbrev cX0_init : ByteArray := prog_2_method_1_code
def yX0_init : MethodName := ⟨RX0, "<init>", "()V"⟩
abbrev cX0_hasOnline : ByteArray := prog_2_method_2_code
def yX0_hasOnline : MethodName := ⟨RX0, "hasOnline", "(II)Z"⟩
abbrev cX0_outageOf : ByteArray := prog_2_method_3_code
def yX0_outageOf : MethodName := ⟨RX0, "outageOf", "(II)I"⟩
abbrev cX0_takeOffline : ByteArray := prog_2_method_4_code
def yX0_takeOffline : MethodName := ⟨RX0, "takeOffline", "(III)V"⟩
abbrev cX0_bringOnline : ByteArray := prog_2_method_5_code
def yX0_bringOnline : MethodName := ⟨RX0, "bringOnline", "(II)V"⟩
abbrev cX0_isUsed : ByteArray := prog_2_method_6_code
def yX0_isUsed : MethodName := ⟨RX0, "isUsed", "(I)Z"⟩
abbrev cX0_use : ByteArray := prog_2_method_7_code
def yX0_use : MethodName := ⟨RX0, "use", "(I)V"⟩
abbrev cX0_freeAll : ByteArray := prog_2_method_8_code
def yX0_freeAll : MethodName := ⟨RX0, "freeAll", "()V"⟩
abbrev cX0_countFree : ByteArray := prog_2_method_9_code
def yX0_countFree : MethodName := ⟨RX0, "countFree", "(I)I"⟩
abbrev cX0_hasSpoilt : ByteArray := prog_2_method_10_code
def yX0_hasSpoilt : MethodName := ⟨RX0, "hasSpoilt", "(II)Z"⟩
abbrev cX0_isGood : ByteArray := prog_2_method_11_code
def yX0_isGood : MethodName := ⟨RX0, "isGood", "(II)Z"⟩
abbrev cX0_mark : ByteArray := prog_2_method_12_code
def yX0_mark : MethodName := ⟨RX0, "mark", "(IIZ)V"⟩
abbrev cX0_heal : ByteArray := prog_2_method_13_code
def yX0_heal : MethodName := ⟨RX0, "heal", "(II)I"⟩
abbrev cX0_fill : ByteArray := prog_2_method_14_code
def yX0_fill : MethodName := ⟨RX0, "fill", "(I)V"⟩
def RX1 : String := "Zfsmill$Choice"
def TX1 : u_T := fun k => match k with
  | 0 => ("Zfsmill$Choice", "room", "[I", true)
  | 1 => ("Zfsmill$Choice", "nextCell", "[I", true)
  | 2 => ("Zfsmill$Choice", "first", "[I", true)
  | _ => ("Zfsmill$Choice", "second", "[I", true)
def tyX1 : Nat → FieldType := fun k => match k with
  | 0 => .array .int
  | 1 => .array .int
  | 2 => .array .int
  | _ => .array .int
abbrev wsX10 : List Cond := u_ws RX1 TX1 4
theorem nmX1 : ∀ a, a < 4 → ∀ b, b < 4 → a ≠ b → (TX1 a).2.1 ≠ (TX1 b).2.1 := by decide +kernel
theorem tyX1_ok : ∀ k, k < 4 → parseFieldDescriptor (TX1 k).2.2.1 = some (tyX1 k) := by decide +kernel
abbrev cX1_init : ByteArray := prog_3_method_1_code
def yX1_init : MethodName := ⟨RX1, "<init>", "()V"⟩
abbrev cX1_begin : ByteArray := prog_3_method_2_code
def yX1_begin : MethodName := ⟨RX1, "begin", "(LZfsmill$Cells;)V"⟩
abbrev cX1_firstFor : ByteArray := prog_3_method_3_code
def yX1_firstFor : MethodName := ⟨RX1, "firstFor", "(I)I"⟩
abbrev cX1_secondFor : ByteArray := prog_3_method_4_code
def yX1_secondFor : MethodName := ⟨RX1, "secondFor", "(I)I"⟩
abbrev cX1_choose : ByteArray := prog_3_method_5_code
def yX1_choose : MethodName := ⟨RX1, "choose", "(LZfsmill$Cells;II)Z"⟩
abbrev cX1_takeBeside : ByteArray := prog_3_method_6_code
def yX1_takeBeside : MethodName := ⟨RX1, "takeBeside", "(LZfsmill$Cells;I)I"⟩
abbrev cX1_roomiestBeside : ByteArray := prog_3_method_7_code
def yX1_roomiestBeside : MethodName := ⟨RX1, "roomiestBeside", "(I)I"⟩
def RX2 : String := "Zfsmill$OpenGroup"
def TX2 : u_T := fun k => match k with
  | 0 => ("Zfsmill$OpenGroup", "change", "[I", true)
  | _ => ("Zfsmill$OpenGroup", "number", "I", false)
def tyX2 : Nat → FieldType := fun k => match k with
  | 0 => .array .int
  | _ => .int
abbrev wsX20 : List Cond := u_ws RX2 TX2 2
theorem nmX2 : ∀ a, a < 2 → ∀ b, b < 2 → a ≠ b → (TX2 a).2.1 ≠ (TX2 b).2.1 := by decide +kernel
theorem tyX2_ok : ∀ k, k < 2 → parseFieldDescriptor (TX2 k).2.2.1 = some (tyX2 k) := by decide +kernel
abbrev cX2_init : ByteArray := prog_4_method_1_code
def yX2_init : MethodName := ⟨RX2, "<init>", "()V"⟩
abbrev cX2_holds : ByteArray := prog_4_method_2_code
def yX2_holds : MethodName := ⟨RX2, "holds", "(I)Z"⟩
abbrev cX2_changeOf : ByteArray := prog_4_method_3_code
def yX2_changeOf : MethodName := ⟨RX2, "changeOf", "(I)I"⟩
abbrev cX2_change : ByteArray := prog_4_method_4_code
def yX2_change : MethodName := ⟨RX2, "change", "(II)V"⟩
abbrev cX2_changes : ByteArray := prog_4_method_5_code
def yX2_changes : MethodName := ⟨RX2, "changes", "(I)Z"⟩
abbrev cX2_count : ByteArray := prog_4_method_6_code
def yX2_count : MethodName := ⟨RX2, "count", "()I"⟩
abbrev cX2_dropChanges : ByteArray := prog_4_method_7_code
def yX2_dropChanges : MethodName := ⟨RX2, "dropChanges", "()V"⟩
abbrev cX2_close : ByteArray := prog_4_method_8_code
def yX2_close : MethodName := ⟨RX2, "close", "()V"⟩
def RX3 : String := "Zfsmill$Tree"
def TX3 : u_T := fun k => match k with
  | 0 => ("Zfsmill$Tree", "value", "[I", true)
  | 1 => ("Zfsmill$Tree", "first", "[I", true)
  | 2 => ("Zfsmill$Tree", "second", "[I", true)
  | 3 => ("Zfsmill$Tree", "checksum", "[I", true)
  | _ => ("Zfsmill$Tree", "birth", "[I", true)
def tyX3 : Nat → FieldType := fun k => match k with
  | 0 => .array .int
  | 1 => .array .int
  | 2 => .array .int
  | 3 => .array .int
  | _ => .array .int
abbrev wsX30 : List Cond := u_ws RX3 TX3 5
theorem nmX3 : ∀ a, a < 5 → ∀ b, b < 5 → a ≠ b → (TX3 a).2.1 ≠ (TX3 b).2.1 := by decide +kernel
theorem tyX3_ok : ∀ k, k < 5 → parseFieldDescriptor (TX3 k).2.2.1 = some (tyX3 k) := by decide +kernel
abbrev cX3_init : ByteArray := prog_5_method_1_code
def yX3_init : MethodName := ⟨RX3, "<init>", "()V"⟩
abbrev cX3_valueOf : ByteArray := prog_5_method_2_code
def yX3_valueOf : MethodName := ⟨RX3, "valueOf", "(I)I"⟩
abbrev cX3_keepValue : ByteArray := prog_5_method_3_code
def yX3_keepValue : MethodName := ⟨RX3, "keepValue", "(II)V"⟩
abbrev cX3_isMissing : ByteArray := prog_5_method_4_code
def yX3_isMissing : MethodName := ⟨RX3, "isMissing", "(I)Z"⟩
abbrev cX3_placeOf : ByteArray := prog_5_method_5_code
def yX3_placeOf : MethodName := ⟨RX3, "placeOf", "(II)I"⟩
abbrev cX3_countPlaces : ByteArray := prog_5_method_6_code
def yX3_countPlaces : MethodName := ⟨RX3, "countPlaces", "(I)I"⟩
abbrev cX3_checksumOf : ByteArray := prog_5_method_7_code
def yX3_checksumOf : MethodName := ⟨RX3, "checksumOf", "(I)I"⟩
abbrev cX3_birthOf : ByteArray := prog_5_method_8_code
def yX3_birthOf : MethodName := ⟨RX3, "birthOf", "(I)I"⟩
abbrev cX3_checksumOfNode : ByteArray := prog_5_method_9_code
def yX3_checksumOfNode : MethodName := ⟨RX3, "checksumOfNode", "(II)I"⟩
abbrev cX3_point : ByteArray := prog_5_method_10_code
def yX3_point : MethodName := ⟨RX3, "point", "(III)V"⟩
abbrev cX3_sign : ByteArray := prog_5_method_11_code
def yX3_sign : MethodName := ⟨RX3, "sign", "(III)V"⟩
abbrev cX3_drop : ByteArray := prog_5_method_12_code
def yX3_drop : MethodName := ⟨RX3, "drop", "(I)V"⟩
def RX4 : String := "Zfsmill"
def TX4 : u_T := fun k => match k with
  | 0 => ("Zfsmill", "cells", "LZfsmill$Cells;", true)
  | 1 => ("Zfsmill", "tree", "LZfsmill$Tree;", true)
  | 2 => ("Zfsmill", "open", "LZfsmill$OpenGroup;", true)
  | 3 => ("Zfsmill", "choice", "LZfsmill$Choice;", true)
  | 4 => ("Zfsmill", "copiesOfFile", "[I", true)
  | _ => ("Zfsmill", "healedSoFar", "I", false)
def tyX4 : Nat → FieldType := fun k => match k with
  | 0 => .object "Zfsmill$Cells"
  | 1 => .object "Zfsmill$Tree"
  | 2 => .object "Zfsmill$OpenGroup"
  | 3 => .object "Zfsmill$Choice"
  | 4 => .array .int
  | _ => .int
abbrev wsX40 : List Cond := u_ws RX4 TX4 6
theorem nmX4 : ∀ a, a < 6 → ∀ b, b < 6 → a ≠ b → (TX4 a).2.1 ≠ (TX4 b).2.1 := by decide +kernel
theorem tyX4_ok : ∀ k, k < 6 → parseFieldDescriptor (TX4 k).2.2.1 = some (tyX4 k) := by decide +kernel
abbrev cX4_init : ByteArray := prog_1_method_1_code
def yX4_init : MethodName := ⟨RX4, "<init>", "()V"⟩
abbrev cX4_write : ByteArray := prog_1_method_2_code
def yX4_write : MethodName := ⟨RX4, "write", "(III)I"⟩
abbrev cX4_punch : ByteArray := prog_1_method_3_code
def yX4_punch : MethodName := ⟨RX4, "punch", "(III)I"⟩
abbrev cX4_setCopies : ByteArray := prog_1_method_4_code
def yX4_setCopies : MethodName := ⟨RX4, "setCopies", "(II)I"⟩
abbrev cX4_read : ByteArray := prog_1_method_5_code
def yX4_read : MethodName := ⟨RX4, "read", "(II)I"⟩
abbrev cX4_nextData : ByteArray := prog_1_method_6_code
def yX4_nextData : MethodName := ⟨RX4, "nextData", "(II)I"⟩
abbrev cX4_nextHole : ByteArray := prog_1_method_7_code
def yX4_nextHole : MethodName := ⟨RX4, "nextHole", "(II)I"⟩
abbrev cX4_sync : ByteArray := prog_1_method_8_code
def yX4_sync : MethodName := ⟨RX4, "sync", "()I"⟩
abbrev cX4_abandon : ByteArray := prog_1_method_9_code
def yX4_abandon : MethodName := ⟨RX4, "abandon", "()I"⟩
abbrev cX4_group : ByteArray := prog_1_method_10_code
def yX4_group : MethodName := ⟨RX4, "group", "()I"⟩
abbrev cX4_buffered : ByteArray := prog_1_method_11_code
def yX4_buffered : MethodName := ⟨RX4, "buffered", "()I"⟩
abbrev cX4_offline : ByteArray := prog_1_method_12_code
def yX4_offline : MethodName := ⟨RX4, "offline", "(II)V"⟩
abbrev cX4_online : ByteArray := prog_1_method_13_code
def yX4_online : MethodName := ⟨RX4, "online", "(II)I"⟩
abbrev cX4_spoil : ByteArray := prog_1_method_14_code
def yX4_spoil : MethodName := ⟨RX4, "spoil", "(III)Z"⟩
abbrev cX4_isSpoilt : ByteArray := prog_1_method_15_code
def yX4_isSpoilt : MethodName := ⟨RX4, "isSpoilt", "(III)Z"⟩
abbrev cX4_isFree : ByteArray := prog_1_method_16_code
def yX4_isFree : MethodName := ⟨RX4, "isFree", "(II)Z"⟩
abbrev cX4_free : ByteArray := prog_1_method_17_code
def yX4_free : MethodName := ⟨RX4, "free", "(I)I"⟩
abbrev cX4_scrub : ByteArray := prog_1_method_18_code
def yX4_scrub : MethodName := ⟨RX4, "scrub", "()I"⟩
abbrev cX4_healed : ByteArray := prog_1_method_19_code
def yX4_healed : MethodName := ⟨RX4, "healed", "()I"⟩
abbrev cX4_lost : ByteArray := prog_1_method_20_code
def yX4_lost : MethodName := ⟨RX4, "lost", "()I"⟩
abbrev cX4_places : ByteArray := prog_1_method_21_code
def yX4_places : MethodName := ⟨RX4, "places", "(II)I"⟩
abbrev cX4_place : ByteArray := prog_1_method_22_code
def yX4_place : MethodName := ⟨RX4, "place", "(III)I"⟩
abbrev cX4_nodePlace : ByteArray := prog_1_method_23_code
def yX4_nodePlace : MethodName := ⟨RX4, "nodePlace", "(II)I"⟩
abbrev cX4_rootPlace : ByteArray := prog_1_method_24_code
def yX4_rootPlace : MethodName := ⟨RX4, "rootPlace", "(I)I"⟩
abbrev cX4_birth : ByteArray := prog_1_method_25_code
def yX4_birth : MethodName := ⟨RX4, "birth", "(II)I"⟩
abbrev cX4_checksum : ByteArray := prog_1_method_26_code
def yX4_checksum : MethodName := ⟨RX4, "checksum", "(I)I"⟩
abbrev cX4_rootChecksum : ByteArray := prog_1_method_27_code
def yX4_rootChecksum : MethodName := ⟨RX4, "rootChecksum", "()I"⟩
abbrev cX4_isFile : ByteArray := prog_1_method_28_code
def yX4_isFile : MethodName := ⟨RX4, "isFile", "(I)Z"⟩
abbrev cX4_isBlock : ByteArray := prog_1_method_29_code
def yX4_isBlock : MethodName := ⟨RX4, "isBlock", "(I)Z"⟩
abbrev cX4_isBlockOfFile : ByteArray := prog_1_method_30_code
def yX4_isBlockOfFile : MethodName := ⟨RX4, "isBlockOfFile", "(II)Z"⟩
abbrev cX4_isMirror : ByteArray := prog_1_method_31_code
def yX4_isMirror : MethodName := ⟨RX4, "isMirror", "(I)Z"⟩
abbrev cX4_isSideOfMirror : ByteArray := prog_1_method_32_code
def yX4_isSideOfMirror : MethodName := ⟨RX4, "isSideOfMirror", "(II)Z"⟩
abbrev cX4_isCell : ByteArray := prog_1_method_33_code
def yX4_isCell : MethodName := ⟨RX4, "isCell", "(I)Z"⟩
abbrev cX4_isPlaceNumber : ByteArray := prog_1_method_34_code
def yX4_isPlaceNumber : MethodName := ⟨RX4, "isPlaceNumber", "(I)Z"⟩
abbrev cX4_isCellOnSide : ByteArray := prog_1_method_35_code
def yX4_isCellOnSide : MethodName := ⟨RX4, "isCellOnSide", "(II)Z"⟩
abbrev cX4_isPointer : ByteArray := prog_1_method_36_code
def yX4_isPointer : MethodName := ⟨RX4, "isPointer", "(I)Z"⟩
abbrev cX4_isBlockPointer : ByteArray := prog_1_method_37_code
def yX4_isBlockPointer : MethodName := ⟨RX4, "isBlockPointer", "(I)Z"⟩
abbrev cX4_blockPointer : ByteArray := prog_1_method_38_code
def yX4_blockPointer : MethodName := ⟨RX4, "blockPointer", "(II)I"⟩
abbrev cX4_filePointer : ByteArray := prog_1_method_39_code
def yX4_filePointer : MethodName := ⟨RX4, "filePointer", "(I)I"⟩
abbrev cX4_placeNumber : ByteArray := prog_1_method_40_code
def yX4_placeNumber : MethodName := ⟨RX4, "placeNumber", "(II)I"⟩
abbrev cX4_mirrorOf : ByteArray := prog_1_method_41_code
def yX4_mirrorOf : MethodName := ⟨RX4, "mirrorOf", "(I)I"⟩
abbrev cX4_told : ByteArray := prog_1_method_42_code
def yX4_told : MethodName := ⟨RX4, "told", "(I)I"⟩
abbrev cX4_valueNow : ByteArray := prog_1_method_43_code
def yX4_valueNow : MethodName := ⟨RX4, "valueNow", "(II)I"⟩
abbrev cX4_hasData : ByteArray := prog_1_method_44_code
def yX4_hasData : MethodName := ⟨RX4, "hasData", "(I)Z"⟩
abbrev cX4_hasDataAnywhere : ByteArray := prog_1_method_45_code
def yX4_hasDataAnywhere : MethodName := ⟨RX4, "hasDataAnywhere", "()Z"⟩
abbrev cX4_canFetch : ByteArray := prog_1_method_46_code
def yX4_canFetch : MethodName := ⟨RX4, "canFetch", "(I)Z"⟩
abbrev cX4_isUnreadable : ByteArray := prog_1_method_47_code
def yX4_isUnreadable : MethodName := ⟨RX4, "isUnreadable", "(I)Z"⟩
abbrev cX4_healUpToGoodCell : ByteArray := prog_1_method_48_code
def yX4_healUpToGoodCell : MethodName := ⟨RX4, "healUpToGoodCell", "(I)I"⟩
abbrev cX4_healEveryCell : ByteArray := prog_1_method_49_code
def yX4_healEveryCell : MethodName := ⟨RX4, "healEveryCell", "(I)I"⟩
abbrev cX4_scrubFile : ByteArray := prog_1_method_50_code
def yX4_scrubFile : MethodName := ⟨RX4, "scrubFile", "(I)I"⟩
abbrev cX4_choosePlaces : ByteArray := prog_1_method_51_code
def yX4_choosePlaces : MethodName := ⟨RX4, "choosePlaces", "()Z"⟩
abbrev cX4_chooseForFile : ByteArray := prog_1_method_52_code
def yX4_chooseForFile : MethodName := ⟨RX4, "chooseForFile", "(I)Z"⟩
abbrev cX4_writeChanges : ByteArray := prog_1_method_53_code
def yX4_writeChanges : MethodName := ⟨RX4, "writeChanges", "()I"⟩
abbrev cX4_writeFile : ByteArray := prog_1_method_54_code
def yX4_writeFile : MethodName := ⟨RX4, "writeFile", "(I)I"⟩
abbrev cX4_repoint : ByteArray := prog_1_method_55_code
def yX4_repoint : MethodName := ⟨RX4, "repoint", "(II)I"⟩
abbrev cX4_freeWhatIsNotPointedTo : ByteArray := prog_1_method_56_code
def yX4_freeWhatIsNotPointedTo : MethodName := ⟨RX4, "freeWhatIsNotPointedTo", "()V"⟩
abbrev cX4_resilver : ByteArray := prog_1_method_57_code
def yX4_resilver : MethodName := ⟨RX4, "resilver", "(II)I"⟩
abbrev cX4_resilverFile : ByteArray := prog_1_method_58_code
def yX4_resilverFile : MethodName := ⟨RX4, "resilverFile", "(III)I"⟩
abbrev cX4_copyToSide : ByteArray := prog_1_method_59_code
def yX4_copyToSide : MethodName := ⟨RX4, "copyToSide", "(III)I"⟩
def RX5 : String := "ZfsmillModel"
def TX5 : u_T := fun k => match k with
  | _ => ("", "", "", false)
def tyX5 : Nat → FieldType := fun k => match k with
  | _ => .int
abbrev wsX50 : List Cond := u_ws RX5 TX5 0
theorem nmX5 : ∀ a, a < 0 → ∀ b, b < 0 → a ≠ b → (TX5 a).2.1 ≠ (TX5 b).2.1 := by decide +kernel
theorem tyX5_ok : ∀ k, k < 0 → parseFieldDescriptor (TX5 k).2.2.1 = some (tyX5 k) := by decide +kernel
def RJx145de : String := "java/io/Serializable"
def TJx145de : u_T := fun k => match k with
  | _ => ("", "", "", false)
def tyJx145de : Nat → FieldType := fun k => match k with
  | _ => .int
abbrev wsJx145de0 : List Cond := u_ws RJx145de TJx145de 0
theorem nmJx145de : ∀ a, a < 0 → ∀ b, b < 0 → a ≠ b → (TJx145de a).2.1 ≠ (TJx145de b).2.1 := by decide +kernel
theorem tyJx145de_ok : ∀ k, k < 0 → parseFieldDescriptor (TJx145de k).2.2.1 = some (tyJx145de k) := by decide +kernel
def RJ0 : String := "java/lang/String"
def TJ0 : u_T := fun k => match k with
  | _ => ("", "", "", false)
def tyJ0 : Nat → FieldType := fun k => match k with
  | _ => .int
abbrev wsJ00 : List Cond := u_ws RJ0 TJ0 0
theorem nmJ0 : ∀ a, a < 0 → ∀ b, b < 0 → a ≠ b → (TJ0 a).2.1 ≠ (TJ0 b).2.1 := by decide +kernel
theorem tyJ0_ok : ∀ k, k < 0 → parseFieldDescriptor (TJ0 k).2.2.1 = some (tyJ0 k) := by decide +kernel
def RJ7 : String := "java/util/Arrays"
def TJ7 : u_T := fun k => match k with
  | _ => ("", "", "", false)
def tyJ7 : Nat → FieldType := fun k => match k with
  | _ => .int
abbrev wsJ70 : List Cond := u_ws RJ7 TJ7 0
theorem nmJ7 : ∀ a, a < 0 → ∀ b, b < 0 → a ≠ b → (TJ7 a).2.1 ≠ (TJ7 b).2.1 := by decide +kernel
theorem tyJ7_ok : ∀ k, k < 0 → parseFieldDescriptor (TJ7 k).2.2.1 = some (tyJ7 k) := by decide +kernel
abbrev cJ7_fill_53178 : ByteArray := prog_15_method_103_code
def yJ7_fill_53178 : MethodName := ⟨RJ7, "fill", "([II)V"⟩
def RL : String := "ZfsmillLaw"
abbrev cL_writes : ByteArray := method_2_code
def yL_writes : MethodName := ⟨RL, "writes", "(LZfsmill;III)I"⟩
abbrev cL_punches : ByteArray := method_3_code
def yL_punches : MethodName := ⟨RL, "punches", "(LZfsmill;III)I"⟩
abbrev cL_doubles : ByteArray := method_4_code
def yL_doubles : MethodName := ⟨RL, "doubles", "(LZfsmill;II)I"⟩
abbrev cL_reads : ByteArray := method_5_code
def yL_reads : MethodName := ⟨RL, "reads", "(LZfsmill;II)I"⟩
abbrev cL_data : ByteArray := method_6_code
def yL_data : MethodName := ⟨RL, "data", "(LZfsmill;II)I"⟩
abbrev cL_hole : ByteArray := method_7_code
def yL_hole : MethodName := ⟨RL, "hole", "(LZfsmill;II)I"⟩
abbrev cL_syncs : ByteArray := method_8_code
def yL_syncs : MethodName := ⟨RL, "syncs", "(LZfsmill;)I"⟩
abbrev cL_leaves : ByteArray := method_9_code
def yL_leaves : MethodName := ⟨RL, "leaves", "(LZfsmill;II)I"⟩
abbrev cL_returns : ByteArray := method_10_code
def yL_returns : MethodName := ⟨RL, "returns", "(LZfsmill;II)I"⟩
abbrev cL_spoils : ByteArray := method_11_code
def yL_spoils : MethodName := ⟨RL, "spoils", "(LZfsmill;III)I"⟩
abbrev cL_spoilt : ByteArray := method_12_code
def yL_spoilt : MethodName := ⟨RL, "spoilt", "(LZfsmill;III)I"⟩
abbrev cL_isFree : ByteArray := method_13_code
def yL_isFree : MethodName := ⟨RL, "isFree", "(LZfsmill;II)I"⟩
abbrev cL_free : ByteArray := method_14_code
def yL_free : MethodName := ⟨RL, "free", "(LZfsmill;I)I"⟩
abbrev cL_places : ByteArray := method_15_code
def yL_places : MethodName := ⟨RL, "places", "(LZfsmill;II)I"⟩
abbrev cL_place : ByteArray := method_16_code
def yL_place : MethodName := ⟨RL, "place", "(LZfsmill;III)I"⟩
abbrev cL_nodePlace : ByteArray := method_17_code
def yL_nodePlace : MethodName := ⟨RL, "nodePlace", "(LZfsmill;II)I"⟩
abbrev cL_rootPlace : ByteArray := method_18_code
def yL_rootPlace : MethodName := ⟨RL, "rootPlace", "(LZfsmill;I)I"⟩
abbrev cL_birth : ByteArray := method_19_code
def yL_birth : MethodName := ⟨RL, "birth", "(LZfsmill;II)I"⟩
abbrev cL_sum : ByteArray := method_20_code
def yL_sum : MethodName := ⟨RL, "sum", "(LZfsmill;I)I"⟩
abbrev cL_drawn : ByteArray := method_21_code
def yL_drawn : MethodName := ⟨RL, "drawn", "([II)I"⟩
abbrev cL_refuses : ByteArray := method_22_code
def yL_refuses : MethodName := ⟨RL, "refuses", "(LZfsmill;I)Z"⟩
abbrev cL_act : ByteArray := method_23_code
def yL_act : MethodName := ⟨RL, "act", "(LZfsmill;I[I[I)I"⟩
abbrev cL_alike : ByteArray := method_24_code
def yL_alike : MethodName := ⟨RL, "alike", "(LZfsmill;LZfsmill;I)Z"⟩
abbrev cL_isOwn : ByteArray := method_25_code
def yL_isOwn : MethodName := ⟨RL, "isOwn", "(LZfsmill;[JI)Z"⟩
abbrev cL_holds : ByteArray := method_26_code
def yL_holds : MethodName := ⟨RL, "holds", "(LZfsmill;[I[I[J)Z"⟩
abbrev cL_isTrue : ByteArray := method_27_code
def yL_isTrue : MethodName := ⟨RL, "isTrue", "(LZfsmill;[I)Z"⟩
abbrev cL_law : ByteArray := code
def yL_law : MethodName := ⟨RL, "law", "([I)Z"⟩
abbrev cL_sides : ByteArray := method_29_code
def yL_sides : MethodName := ⟨RL, "sides", "(I)Z"⟩
theorem dJ7_fill_53178_0 : decode cJ7_fill_53178 0 = .ok (.iconst 0, 1) := by decide +kernel
theorem dJ7_fill_53178_1 : decode cJ7_fill_53178 1 = .ok (.istore_n 2, 1) := by decide +kernel
theorem dJ7_fill_53178_2 : decode cJ7_fill_53178 2 = .ok (.aload_n 0, 1) := by decide +kernel
theorem dJ7_fill_53178_3 : decode cJ7_fill_53178 3 = .ok (.arraylength, 1) := by decide +kernel
theorem dJ7_fill_53178_4 : decode cJ7_fill_53178 4 = .ok (.istore_n 3, 1) := by decide +kernel
theorem dJ7_fill_53178_5 : decode cJ7_fill_53178 5 = .ok (.iload_n 2, 1) := by decide +kernel
theorem dJ7_fill_53178_6 : decode cJ7_fill_53178 6 = .ok (.iload_n 3, 1) := by decide +kernel
theorem dJ7_fill_53178_7 : decode cJ7_fill_53178 7 = .ok (.if_icmp .ge 13, 3) := by decide +kernel
theorem dJ7_fill_53178_10 : decode cJ7_fill_53178 10 = .ok (.aload_n 0, 1) := by decide +kernel
theorem dJ7_fill_53178_11 : decode cJ7_fill_53178 11 = .ok (.iload_n 2, 1) := by decide +kernel
theorem dJ7_fill_53178_12 : decode cJ7_fill_53178 12 = .ok (.iload_n 1, 1) := by decide +kernel
theorem dJ7_fill_53178_13 : decode cJ7_fill_53178 13 = .ok (.iastore, 1) := by decide +kernel
theorem dJ7_fill_53178_14 : decode cJ7_fill_53178 14 = .ok (.iinc 2 1, 3) := by decide +kernel
theorem dJ7_fill_53178_17 : decode cJ7_fill_53178 17 = .ok (.goto (-12), 3) := by decide +kernel
theorem dJ7_fill_53178_20 : decode cJ7_fill_53178 20 = .ok (.return_, 1) := by decide +kernel
abbrev vwCl : List vw_C := [(RX0, TX0, 4), (RX1, TX1, 4), (RX2, TX2, 2), (RX3, TX3, 5), (RX4, TX4, 6)]
end
section
/-! ===== CORE: a world of a fixed shape; its memory is a function of a cell's number and a place ===== -/
abbrev Mem : Type := Nat → Nat → Int32
abbrev SV : Type := Int32 ⊕ Nat
/-- a cell's shape: an object of a class with its fields (some k: the cell k, none: an int), or an array (false: int, true: boolean, none: long, 64 places of the memory for each of its own, a bit each) -/
abbrev ShE : Type := (Nat × List (Option Nat)) ⊕ (Option Bool × Nat)
/-- launch, the classes' numbers, int[], boolean[] and long[], addresses, shape -/
abbrev ZG : Type := Launch × va_G × (ClassId × ClassId × ClassId) × (Nat → Nat) × List ShE
/-- a long out of its bits -/
def zbn (f : Nat → Int32) (i : Nat) : Nat → Nat
  | 0 => 0
  | n + 1 => zbn f i n + (if f (64 * i + n) = 0 then 0 else 2 ^ n)
def zbl (f : Nat → Int32) (i : Nat) : Int64 := Int64.ofBitVec (BitVec.ofNat 64 (zbn f i 64))
def zv (g : ZG) : SV → Value
  | .inl x => .int x
  | .inr k => .ref (g.2.2.2.1 k)
def zfv (g : ZG) (f : Nat → Int32) (j : Nat) : Option Nat → Value
  | some k => .ref (g.2.2.2.1 k)
  | none => .int (f j)
def zfl (g : ZG) (f : Nat → Int32) : Nat → List (Option Nat) → List Value
  | _, [] => []
  | j, o :: r => zfv g f j o :: zfl g f (j + 1) r
def zcl (g : ZG) (f : Nat → Int32) : ShE → va_E
  | .inl o => .inr (o.1, zfl g f 0 o.2)
  | .inr (some false, n) => .inl (g.2.2.1.1, n, .inl f)
  | .inr (some true, n) => .inl (g.2.2.1.2.1, n, .inl f)
  | .inr (none, n) => .inl (g.2.2.1.2.2, n, .inr (.inl (zbl f)))
def zwr (g : ZG) (M : Mem) : Nat → List ShE → va_W
  | _, [] => []
  | k, x :: r => (g.2.2.2.1 k, zcl g (M k) x) :: zwr g M (k + 1) r
def zws (g : ZG) (M : Mem) : va_W := zwr g M 0 g.2.2.2.2
def mset (M : Mem) (k : Nat) (f : Nat → Int32) : Mem := fun a => if a = k then f else M a
def mup (M : Mem) (k i : Nat) (v : Int32) : Mem := mset M k (upd (M k) i v)
theorem mset_eq (M : Mem) (k : Nat) (f : Nat → Int32) : mset M k f k = f := by simp [mset]
theorem mset_ne {M : Mem} {k a : Nat} {f : Nat → Int32} (h : a ≠ k) : mset M k f a = M a := by simp [mset, h]
theorem zwr_get (g : ZG) (M : Mem) (sh : List ShE) : ∀ (k i : Nat), (zwr g M k sh)[i]? = (sh[i]?).map (fun x => (g.2.2.2.1 (k + i), zcl g (M (k + i)) x)) := by
  induction sh with
  | nil => intro k i; simp [zwr]
  | cons x r ih =>
    intro k i
    cases i with
    | zero => simp [zwr]
    | succ i =>
      have e : k + 1 + i = k + (i + 1) := by omega
      simp [zwr, ih, e]
theorem zws_get (g : ZG) (M : Mem) (i : Nat) : (zws g M)[i]? = (g.2.2.2.2[i]?).map (fun x => (g.2.2.2.1 i, zcl g (M i) x)) := by
  unfold zws
  rw [zwr_get]
  simp only [Nat.zero_add]
theorem zws_at {g : ZG} {M : Mem} {k : Nat} {x : ShE} (h : g.2.2.2.2[k]? = some x) : (zws g M)[k]? = some (g.2.2.2.1 k, zcl g (M k) x) := by
  rw [zws_get, h]
  rfl
theorem zws_inv {g : ZG} {M : Mem} {k : Nat} {q : Nat × va_E} (h : (zws g M)[k]? = some q) : ∃ x, g.2.2.2.2[k]? = some x ∧ q = (g.2.2.2.1 k, zcl g (M k) x) := by
  rw [zws_get] at h
  cases hx : g.2.2.2.2[k]? with
  | none => rw [hx] at h; cases h
  | some x => rw [hx] at h; exact ⟨x, rfl, (Option.some.inj h).symm⟩
theorem zws_set {g : ZG} {M : Mem} {k : Nat} {x : ShE} {f : Nat → Int32} {e : va_E} (h : g.2.2.2.2[k]? = some x) (he : zcl g f x = e) : (zws g M).set k (g.2.2.2.1 k, e) = zws g (mset M k f) := by
  apply List.ext_getElem?
  intro i
  rw [List.getElem?_set, zws_get, zws_get]
  by_cases hi : k = i
  · subst hi
    have hl : k < (zws g M).length := (List.getElem?_eq_some_iff.mp (zws_at (M := M) h)).1
    rw [if_pos rfl, if_pos hl, h, mset_eq, ← he]
    rfl
  · rw [if_neg hi, mset_ne (fun q => hi q.symm)]
theorem zfl_get (g : ZG) (f : Nat → Int32) (fs : List (Option Nat)) : ∀ (j i : Nat), (zfl g f j fs)[i]? = (fs[i]?).map (zfv g f (j + i)) := by
  induction fs with
  | nil => intro j i; simp [zfl]
  | cons x r ih =>
    intro j i
    cases i with
    | zero => simp [zfl]
    | succ i =>
      have e : j + 1 + i = j + (i + 1) := by omega
      simp [zfl, ih, e]
theorem zfl_set {g : ZG} {f : Nat → Int32} {fs : List (Option Nat)} {k : Nat} (h : fs[k]? = some none) (v : Int32) : (zfl g f 0 fs).set k (.int v) = zfl g (upd f k v) 0 fs := by
  apply List.ext_getElem?
  intro i
  rw [List.getElem?_set, zfl_get, zfl_get]
  by_cases hi : k = i
  · subst hi
    have hl : k < (zfl g f 0 fs).length := by
      have h1 : (zfl g f 0 fs)[k]? = some (.int (f (0 + k))) := by rw [zfl_get, h]; rfl
      exact (List.getElem?_eq_some_iff.mp h1).1
    rw [if_pos rfl, if_pos hl, h]
    simp [zfv, upd]
  · rw [if_neg hi]
    cases hx : fs[i]? with
    | none => rfl
    | some o =>
      cases o with
      | some q => rfl
      | none =>
        have : ¬ i = k := fun q => hi q.symm
        simp [zfv, upd, this]
/-- the addresses that a method over this world may write -/
def zA (g : ZG) (sz : Nat) : Nat → Prop := fun q => (∃ (k : Nat) (x : ShE), g.2.2.2.2[k]? = some x ∧ q = g.2.2.2.1 k) ∨ sz ≤ q
theorem zD_any {g : ZG} {M N : Mem} {A : Nat → Prop} (h : va_D A (zws g M)) : va_D A (zws g N) := by
  refine ⟨fun i j p q hp hq e => ?_, fun k q hq => ?_⟩
  · obtain ⟨x, hx, rfl⟩ := zws_inv hp
    obtain ⟨y, hy, rfl⟩ := zws_inv hq
    exact h.1 i j _ _ (zws_at hx) (zws_at hy) e
  · obtain ⟨x, hx, rfl⟩ := zws_inv hq
    have h9 := h.2 k _ (zws_at (M := M) hx)
    exact h9
theorem zD_self {g : ZG} {M : Mem} {A : Nat → Prop} {sz : Nat} (h : va_D A (zws g M)) : va_D (zA g sz) (zws g M) := by
  refine ⟨h.1, fun k q hq => ?_⟩
  obtain ⟨x, hx, rfl⟩ := zws_inv hq
  exact Or.inl ⟨k, x, hx, rfl⟩
theorem zA_mono {g : ZG} {a b : Nat} (h : a ≤ b) : ∀ q, zA g b q → zA g a q := fun q hq => hq.elim Or.inl (fun h2 => Or.inr (Nat.le_trans h h2))
-- ===== what the tables say, beside the words of the list =====
def zTB : List Cond := lw_tbl.filter goodWord
theorem zTB_of {w : Cond} (h : w ∈ lw_tbl) (hg : goodWord w = true) : w ∈ zTB := List.mem_filter.mpr ⟨h, hg⟩
theorem zms {w : Cond} (i : Nat) (h : (k2_sels lw_privs)[i]? = some w) (hg : goodWord w = true) : w ∈ zTB := zTB_of (List.mem_append_left _ (List.mem_of_getElem? h)) hg
theorem zm1 {w : Cond} (i : Nat) (h : tables_1_1[i]? = some w) (hg : goodWord w = true) : w ∈ zTB := zTB_of (List.mem_append_right _ (List.mem_append_left _ (List.mem_of_getElem? h))) hg
theorem zm2 {w : Cond} (i : Nat) (h : tables_1_2[i]? = some w) (hg : goodWord w = true) : w ∈ zTB := zTB_of (List.mem_append_right _ (List.mem_append_right _ (List.mem_append_left _ (List.mem_of_getElem? h)))) hg
theorem zm3 {w : Cond} (i : Nat) (h : tables_1_3[i]? = some w) (hg : goodWord w = true) : w ∈ zTB := zTB_of (List.mem_append_right _ (List.mem_append_right _ (List.mem_append_right _ (List.mem_append_left _ (List.mem_of_getElem? h))))) hg
theorem zm4 {w : Cond} (i : Nat) (h : tables_1_4[i]? = some w) (hg : goodWord w = true) : w ∈ zTB := zTB_of (List.mem_append_right _ (List.mem_append_right _ (List.mem_append_right _ (List.mem_append_right _ (List.mem_of_getElem? h))))) hg
def zNW : List Cond := [.fieldLinkNest RX4 137 RX2 "number" "I" RX4, .methodLinkNest RX0 25 yX4_isSideOfMirror RX4, .methodLinkNest RX0 29 yX4_isPlaceNumber RX4, .methodLinkNest RX0 33 yX4_placeNumber RX4, .methodLinkNest RX0 40 yX4_isCellOnSide RX4, .methodLinkNest RX0 43 yX4_mirrorOf RX4,
  .methodLinkNest RX1 36 yX4_isPointer RX4, .methodLinkNest RX1 44 yX4_mirrorOf RX4, .methodLinkNest RX1 50 yX4_isMirror RX4, .methodLinkNest RX1 53 yX4_placeNumber RX4, .methodLinkNest RX1 60 yX4_isCell RX4, .methodLinkNest RX2 25 yX4_isBlockPointer RX4, .methodLinkNest RX2 29 yX4_blockPointer RX4, .methodLinkNest RX3 33 yX4_isBlockPointer RX4, .methodLinkNest RX3 41 yX4_isPointer RX4]
def zCW : List Cond := [.castable "java/lang/IllegalArgumentException" "java/lang/IllegalArgumentException", .castable "java/lang/IllegalStateException" "java/lang/IllegalStateException", .castable "java/util/NoSuchElementException" "java/util/NoSuchElementException",
  .declares (Bundle.initS "java/lang/RuntimeException"), .declares (Bundle.initS "java/lang/Exception"), .declares (Bundle.initS "java/lang/Throwable")]
def zST : List (Nat × String) := [(57, "file, block or value is out of range"), (77, "file, from or to is out of range"), (82, "file or copies is out of range"), (84, "file or block is out of range"), (101, "a pointer cannot be read"), (112, "all blocks from this one on are holes"), (123, "there is no free cell for some place"), (143, "mirror or side is out of range"), (148, "a side of the mirror is offline"), (154, "the side is online"), (165, "mirror, side or cell is out of range"), (173, "the side is offline, or the cell is free"), (182, "the side is offline"), (187, "mirror or cell is out of range"), (189, "mirror is out of range"), (226, "there is no such place"), (215, "file is out of range")]
theorem zTB_good : ∀ w ∈ zTB, w ∈ zTB ∧ ((w.onTables && w.keeps) = true ∨ ∃ ty, w = .arrayClass ty) := fun w hw => ⟨hw, good_of_word (List.mem_filter.mp hw).2⟩
def zNc (U : State) : Prop := va_Nc "java/lang/IllegalStateException" "java/lang/IllegalArgumentException" U ∧ va_Nc "java/util/NoSuchElementException" "java/lang/IllegalArgumentException" U
def zK (g : ZG) (U : State) : Prop := va_K g.2.1 vwCl [(g.2.2.1.1, .int), (g.2.2.1.2.1, .boolean), (g.2.2.1.2.2, .long)] U ∧ (∀ w ∈ zNW, va_Nw w U) ∧ (∀ w ∈ zCW, va_Nw w U) ∧ zNc U ∧ ∀ q ∈ zST, ∃ sa : Nat, vk_R RX4 q.1 q.2 sa U
def zE (A : Nat → Prop) (U : State) (H : Heap) : Prop := vx_Zq Bundle.tN "UNASSIGNED_STACK" Bundle.steD A U H ∧ vx_Zq Bundle.tN "SUPPRESSED_SENTINEL" Bundle.listD A U H
theorem zK.warm {g : ZG} {s U : State} (hW : s.WarmedH U.vm) (h : zK g s) : zK g U := by
  refine ⟨va_K.moved hW.alike h.1, ?_, ?_, ⟨va_Nc.moved hW.alike h.2.2.2.1.1, va_Nc.moved hW.alike h.2.2.2.1.2⟩, fun q hq => ?_⟩
  · have h2 := h.2.1
    unfold zNW at h2 ⊢
    simp only [List.forall_mem_cons, List.not_mem_nil, false_imp_iff, implies_true, and_true] at h2 ⊢
    obtain ⟨h0, h1, h2, h3, h4, h5, h6, h7, h8, h9, h10, h11, h12, h13, h14⟩ := h2
    exact ⟨h0.warmF hW, h1.warmM hW, h2.warmM hW, h3.warmM hW, h4.warmM hW, h5.warmM hW, h6.warmM hW, h7.warmM hW, h8.warmM hW, h9.warmM hW, h10.warmM hW, h11.warmM hW, h12.warmM hW, h13.warmM hW, h14.warmM hW⟩
  · have h2 := h.2.2.1
    unfold zCW at h2 ⊢
    simp only [List.forall_mem_cons, List.not_mem_nil, false_imp_iff, implies_true, and_true] at h2 ⊢
    exact ⟨h2.1.warmC hW, h2.2.1.warmC hW, h2.2.2.1.warmC hW, h2.2.2.2.1.warmD hW, h2.2.2.2.2.1.warmD hW, h2.2.2.2.2.2.warmD hW⟩
  · obtain ⟨sa, hs⟩ := h.2.2.2.2 q hq
    exact ⟨sa, vk_R.warm hW hs⟩
theorem zK.same {g : ZG} {s U : State} (hv : s.vm = U.vm) (h : zK g s) : zK g U := h.warm (by rw [← hv]; exact State.WarmedH.refl s)
theorem zE.warm {A : Nat → Prop} {s U : State} {H : Heap} (hW : s.WarmedH U.vm) (h : zE A s H) : zE A U H := ⟨vx_Zq.moved hW.alike h.1, vx_Zq.moved hW.alike h.2⟩
theorem zE.kept {A : Nat → Prop} {U : State} {H H1 : Heap} (h : zE A U H) (hq : ∀ a : Nat, a < H.size → ¬ A a → H1[a]? = H[a]?) : zE A U H1 := ⟨vx_Zq.kept h.1 hq, vx_Zq.kept h.2 hq⟩
theorem zE.narrow {A B : Nat → Prop} {U : State} {H : Heap} (h : zE A U H) (hAB : ∀ q, B q → A q) : zE B U H := ⟨vx_Zq.narrow h.1 hAB, vx_Zq.narrow h.2 hAB⟩
-- ===== contracts =====
/-- name, code, number of locals, type of the answer, frames, words of locals -/
abbrev MI : Type := MethodName × ByteArray × Nat × Option FieldType × Nat × Nat
def zwm (μ : MI) : List Cond := Cond.code μ.1 μ.2.1 μ.2.2.1 μ.2.2.2.1 :: zTB
abbrev ZR : Type := (Option Int32 ⊕ String) × Mem
def zPre (g : ZG) (M : Mem) (sz : Nat) (U : State) : Prop := U.heap.size = sz ∧ va_P g.2.1 vwCl (zws g M) U.heap ∧ va_D (fun _ => True) (zws g M) ∧ zK g U ∧ zE (zA g sz) U U.heap
def zQ (g : ZG) (A : Nat → Prop) (B : ZR) : Array Value → State → Outcome → State → Prop := fun _ st oc t => (∃ (r : Option Int32) (N : Mem), B = (.inl r, N) ∧ oc = .returned (r.map Value.int) ∧ va_P g.2.1 vwCl (zws g N) t.heap) ∧ va_F A st t
def zX (g : ZG) (A : Nat → Prop) (B : ZR) : String → State → State → Prop := fun E st t => (∃ N : Mem, B = (.inr E, N) ∧ va_P g.2.1 vwCl (zws g N) t.heap) ∧ va_F A st t
def zRm (μ : MI) (mc ms : Nat) : Room := { frames := μ.2.2.2.2.1, cells := mc, slots := ms, locals := μ.2.2.2.2.2 }
def Zc (g : ZG) (μ : MI) (mc ms : Nat) (args : List SV) (M : Mem) (B : ZR) : Prop :=
  ∀ sz : Nat, vx_Met g.1 μ.1 (zwm μ) (zRm μ mc ms) (va_Pc (args.map (zv g)) (zPre g M sz)) (zQ g (zA g sz) B) (zX g (zA g sz) B) mc ms (zA g sz)
def zL (g : ZG) (ls : Array Slot) (n : Nat) (L : List (Option SV)) : Prop := ls.size = n ∧ lv_wf ls ∧ L.length ≤ n ∧ ∀ (i : Nat) (v : SV), L[i]? = some (some v) → ls[i]? = some (.val (zv g v))
def zCx (g : ZG) (μ : MI) (p : Program) (s : State) (m : MethodId) (args : Array Value) (meth : Method) (c : Code) (sz : Nat) : Prop :=
  p.tables.exec = Jvm.exec ∧ c.code = μ.2.1 ∧ meth.sig.returnType = μ.2.2.2.1 ∧ c.maxLocals = μ.2.2.1 ∧ s.vm.findClass μ.1.cls = some m.cls ∧ (∀ w ∈ zTB, w.before args s = true) ∧ meth.locks = false ∧ (∀ x ∈ c.exceptionTable.toList, False) ∧ zK g s ∧ s.heap.size = sz ∧ zE (zA g sz) s s.heap ∧ Cond.code μ.1 μ.2.1 μ.2.2.1 μ.2.2.2.1 ∈ zTB
def Zg (g : ZG) (μ : MI) (mc ms ce sl : Nat) (B : ZR) (pc : Nat) (L : List (Option SV)) (S : List SV) (M : Mem) : Prop :=
  ∀ (p : Program) (e : Env) (s : State) (m : MethodId) (args : Array Value) (below : List Frame) (meth : Method) (c : Code) (H : Heap) (locs : List Loc) (ls : Array Slot) (sz : Nat),
    zCx g μ p s m args meth c sz → va_P g.2.1 vwCl (zws g M) H → va_D (zA g sz) (zws g M) → va_S (zA g sz) s.heap H locs → zL g ls μ.2.2.1 L →
    W p g.1 e (zRm μ mc ms) s m args below meth c H locs ce sl (vx_MQ below (zQ g (zA g sz) B) (zX g (zA g sz) B) args s mc ms (zA g sz)) (F0 m pc ls (S.map (zv g)))
theorem zcat (g : ZG) (v : SV) : (zv g v).category = 1 := by cases v <;> rfl
theorem zlg (g : ZG) (args : List SV) : lg_sl (args.map (zv g)) = args.map (fun v => Slot.val (zv g v)) := by
  induction args with
  | nil => rfl
  | cons v r ih =>
    have h : ¬ (zv g v).category = 2 := by rw [zcat]; decide
    have e : lg_sl ((v :: r).map (zv g)) = (if (zv g v).category = 2 then [Slot.val (zv g v), .second] else [.val (zv g v)]) ++ lg_sl (r.map (zv g)) := by simp [lg_sl]
    rw [e, if_neg h, ih]
    rfl
theorem zL_entry (g : ZG) (args : List SV) {n : Nat} (h : args.length ≤ n) : zL g ((lg_sl (args.map (zv g)) ++ List.replicate (n - (lg_sl (args.map (zv g))).length) Slot.unset).toArray) n (args.map some ++ List.replicate (n - args.length) none) := by
  have hlen : (lg_sl (args.map (zv g))).length = args.length := by rw [zlg]; simp
  have hl := lv_entry (args.map (zv g)) (n := n) (by rw [hlen]; exact h)
  refine ⟨hl.1, hl.2.1, by simp; omega, fun i v hv => ?_⟩
  by_cases hi : i < args.length
  · rw [List.getElem?_append_left (by simpa using hi), List.getElem?_map] at hv
    rw [zlg]
    simp only [List.getElem?_toArray]
    rw [List.getElem?_append_left (by simpa using hi), List.getElem?_map]
    cases hx : args[i]? with
    | none => rw [hx] at hv; cases hv
    | some w =>
      rw [hx] at hv
      have : w = v := Option.some.inj (Option.some.inj hv)
      rw [this]
      rfl
  · rw [List.getElem?_append_right (by simpa using hi)] at hv
    rw [List.getElem?_replicate] at hv
    split at hv
    · cases hv
    · cases hv
def zas (g : ZG) : Nat → List (Option SV) → List (Nat × Value)
  | _, [] => []
  | i, some v :: r => (i, zv g v) :: zas g (i + 1) r
  | i, none :: r => zas g (i + 1) r
theorem zas_mem (g : ZG) (L : List (Option SV)) : ∀ (k : Nat) (q : Nat × Value), q ∈ zas g k L ↔ ∃ (i : Nat) (v : SV), L[i]? = some (some v) ∧ q = (k + i, zv g v) := by
  induction L with
  | nil => intro k q; simp [zas]
  | cons o r ih =>
    intro k q
    cases o with
    | none =>
      rw [show zas g k (none :: r) = zas g (k + 1) r from rfl, ih]
      constructor
      · rintro ⟨i, v, h1, h2⟩
        exact ⟨i + 1, v, by simpa using h1, by rw [h2]; congr 1; omega⟩
      · rintro ⟨i, v, h1, h2⟩
        cases i with
        | zero => simp at h1
        | succ i => exact ⟨i, v, by simpa using h1, by rw [h2]; congr 1; omega⟩
    | some w =>
      rw [show zas g k (some w :: r) = (k, zv g w) :: zas g (k + 1) r from rfl, List.mem_cons, ih]
      constructor
      · rintro (h | ⟨i, v, h1, h2⟩)
        · exact ⟨0, w, by simp, by rw [h]; rfl⟩
        · exact ⟨i + 1, v, by simpa using h1, by rw [h2]; congr 1; omega⟩
      · rintro ⟨i, v, h1, h2⟩
        cases i with
        | zero =>
          left
          have : w = v := by simpa using h1
          rw [h2, this]; rfl
        | succ i => exact Or.inr ⟨i, v, by simpa using h1, by rw [h2]; congr 1; omega⟩
theorem zL_has {g : ZG} {ls : Array Slot} {n : Nat} {L : List (Option SV)} (h : zL g ls n L) : lv_has ls n (zas g 0 L) := by
  refine ⟨h.1, h.2.1, fun q hq => ?_⟩
  obtain ⟨i, v, h1, h2⟩ := (zas_mem g L 0 q).mp hq
  rw [h2]
  have := h.2.2.2 i v h1
  simpa using this
theorem zL_put {g : ZG} {ls : Array Slot} {n i : Nat} {L : List (Option SV)} {v : SV} (hn : L.length ≤ n) (h : lv_has ls n ((i, zv g v) :: (zas g 0 L).filter (fun q => !(q.1 == i) && !(q.1 + 1 == i && q.2.category == 2)))) : zL g ls n (L.set i (some v)) := by
  refine ⟨h.1, h.2.1, by simpa using hn, fun j w hj => ?_⟩
  rw [List.getElem?_set] at hj
  by_cases e : i = j
  · subst e
    rw [if_pos rfl] at hj
    split at hj
    · have : v = w := Option.some.inj (Option.some.inj hj)
      rw [← this]
      exact h.2.2 (i, zv g v) List.mem_cons_self
    · cases hj
  · rw [if_neg e] at hj
    refine h.2.2 (j, zv g w) (List.mem_cons_of_mem _ (List.mem_filter.mpr ⟨(zas_mem g L 0 _).mpr ⟨j, w, hj, by simp⟩, ?_⟩))
    have e2 : ¬ j = i := fun q => e q.symm
    simp [e2, zcat]
theorem zL_mem {g : ZG} {L : List (Option SV)} {i : Nat} {v : SV} (h : L[i]? = some (some v)) : ∃ k : Nat, (zas g 0 L)[k]? = some (i, zv g v) := List.getElem?_of_mem ((zas_mem g L 0 _).mpr ⟨i, v, h, by simp⟩)
end
section
/-! ===== RULES: an instruction, a rule ===== -/
section ZGR
variable {g : ZG} {μ : MI} {mc ms ce sl : Nat} {B : ZR} {pc : Nat} {L : List (Option SV)} {S : List SV} {M : Mem}
theorem zg_iconst {n : Int} {v : Int32} (d : decode μ.2.1 pc = .ok (.iconst n, 1)) (hv : Int32.ofInt n = v) (h : Zg g μ mc ms ce sl B (pc + 1) L (.inl v :: S) M) : Zg g μ mc ms ce sl B pc L S M :=
  fun p e s m args below meth c H locs ls sz C hP hD hS hL => lv_iconst C.1 C.2.1 d hv (h p e s m args below meth c H locs ls sz C hP hD hS hL)
theorem zg_bipush {n : Int} {v : Int32} (d : decode μ.2.1 pc = .ok (.bipush n, 2)) (hv : (Int8.ofInt n).toInt32 = v) (h : Zg g μ mc ms ce sl B (pc + 2) L (.inl v :: S) M) : Zg g μ mc ms ce sl B pc L S M :=
  fun p e s m args below meth c H locs ls sz C hP hD hS hL => lv_bipush C.1 C.2.1 d hv (h p e s m args below meth c H locs ls sz C hP hD hS hL)
theorem zg_sipush {n : Int} {v : Int32} (d : decode μ.2.1 pc = .ok (.sipush n, 3)) (hv : (Int16.ofInt n).toInt32 = v) (h : Zg g μ mc ms ce sl B (pc + 3) L (.inl v :: S) M) : Zg g μ mc ms ce sl B pc L S M :=
  fun p e s m args below meth c H locs ls sz C hP hD hS hL => lv_sipush C.1 C.2.1 d hv (h p e s m args below meth c H locs ls sz C hP hD hS hL)
theorem zg_ldc {i : Nat} {v : Int32} (d : decode μ.2.1 pc = .ok (.ldc i, 2)) (hv : Cond.constant μ.1.cls i v ∈ zTB) (h : Zg g μ mc ms ce sl B (pc + 2) L (.inl v :: S) M) : Zg g μ mc ms ce sl B pc L S M :=
  fun p e s m args below meth c H locs ls sz C hP hD hS hL => lv_ldc C.1 C.2.1 C.2.2.2.2.1 (C.2.2.2.2.2.1 _ hv) d (h p e s m args below meth c H locs ls sz C hP hD hS hL)
theorem zg_ldcw {i : Nat} {v : Int32} (d : decode μ.2.1 pc = .ok (.ldc_w i, 3)) (hv : Cond.constant μ.1.cls i v ∈ zTB) (h : Zg g μ mc ms ce sl B (pc + 3) L (.inl v :: S) M) : Zg g μ mc ms ce sl B pc L S M :=
  fun p e s m args below meth c H locs ls sz C hP hD hS hL => lv_ldcw C.1 C.2.1 C.2.2.2.2.1 (C.2.2.2.2.2.1 _ hv) d (h p e s m args below meth c H locs ls sz C hP hD hS hL)
theorem zg_iload_n {k : Fin 4} {x : Int32} (d : decode μ.2.1 pc = .ok (.iload_n k, 1)) (hl : L[(k : Nat)]? = some (some (.inl x))) (h : Zg g μ mc ms ce sl B (pc + 1) L (.inl x :: S) M) : Zg g μ mc ms ce sl B pc L S M :=
  fun p e s m args below meth c H locs ls sz C hP hD hS hL => lv_iload_n C.1 C.2.1 d rfl (hL.2.2.2 _ _ hl) (h p e s m args below meth c H locs ls sz C hP hD hS hL)
theorem zg_iload {k : Nat} {x : Int32} (d : decode μ.2.1 pc = .ok (.iload k, 2)) (hl : L[k]? = some (some (.inl x))) (h : Zg g μ mc ms ce sl B (pc + 2) L (.inl x :: S) M) : Zg g μ mc ms ce sl B pc L S M :=
  fun p e s m args below meth c H locs ls sz C hP hD hS hL => lv_iload C.1 C.2.1 d (hL.2.2.2 _ _ hl) (h p e s m args below meth c H locs ls sz C hP hD hS hL)
theorem zg_aload_n {k : Fin 4} {x : Nat} (d : decode μ.2.1 pc = .ok (.aload_n k, 1)) (hl : L[(k : Nat)]? = some (some (.inr x))) (h : Zg g μ mc ms ce sl B (pc + 1) L (.inr x :: S) M) : Zg g μ mc ms ce sl B pc L S M :=
  fun p e s m args below meth c H locs ls sz C hP hD hS hL => lv_aload_n C.1 C.2.1 d rfl (hL.2.2.2 _ _ hl) (h p e s m args below meth c H locs ls sz C hP hD hS hL)
theorem zg_aload {k : Nat} {x : Nat} (d : decode μ.2.1 pc = .ok (.aload k, 2)) (hl : L[k]? = some (some (.inr x))) (h : Zg g μ mc ms ce sl B (pc + 2) L (.inr x :: S) M) : Zg g μ mc ms ce sl B pc L S M :=
  fun p e s m args below meth c H locs ls sz C hP hD hS hL => lv_aload C.1 C.2.1 d (hL.2.2.2 _ _ hl) (h p e s m args below meth c H locs ls sz C hP hD hS hL)
theorem zg_istore_n {k : Fin 4} {x : Int32} (d : decode μ.2.1 pc = .ok (.istore_n k, 1)) (hk : (k : Nat) < μ.2.2.1) (h : Zg g μ mc ms ce sl B (pc + 1) (L.set (k : Nat) (some (.inl x))) S M) : Zg g μ mc ms ce sl B pc L (.inl x :: S) M :=
  fun p e s m args below meth c H locs ls sz C hP hD hS hL => lv_istore_n C.1 C.2.1 d rfl (zL_has hL) hk rfl (fun ls' hl' => h p e s m args below meth c H locs ls' sz C hP hD hS (zL_put (v := .inl x) hL.2.2.1 hl'))
theorem zg_istore {k : Nat} {x : Int32} (d : decode μ.2.1 pc = .ok (.istore k, 2)) (hk : k < μ.2.2.1) (h : Zg g μ mc ms ce sl B (pc + 2) (L.set k (some (.inl x))) S M) : Zg g μ mc ms ce sl B pc L (.inl x :: S) M :=
  fun p e s m args below meth c H locs ls sz C hP hD hS hL => lv_istore C.1 C.2.1 d (zL_has hL) hk rfl (fun ls' hl' => h p e s m args below meth c H locs ls' sz C hP hD hS (zL_put (v := .inl x) hL.2.2.1 hl'))
theorem zg_iinc {k : Nat} {n : Int} {x v : Int32} (d : decode μ.2.1 pc = .ok (.iinc k n, 3)) (hl : L[k]? = some (some (.inl x))) (hk : k < μ.2.2.1) (hv : x + Int32.ofInt n = v) (h : Zg g μ mc ms ce sl B (pc + 3) (L.set k (some (.inl v))) S M) : Zg g μ mc ms ce sl B pc L S M := by
  intro p e s m args below meth c H locs ls sz C hP hD hS hL
  obtain ⟨j, hj⟩ := zL_mem (g := g) hl
  exact lv_iinc C.1 C.2.1 d (zL_has hL) hj hv hk rfl (fun ls' hl' => h p e s m args below meth c H locs ls' sz C hP hD hS (zL_put (v := .inl v) hL.2.2.1 hl'))
theorem zg_iadd {x y : Int32} (d : decode μ.2.1 pc = .ok (.iadd, 1)) (h : Zg g μ mc ms ce sl B (pc + 1) L (.inl (x + y) :: S) M) : Zg g μ mc ms ce sl B pc L (.inl y :: .inl x :: S) M :=
  fun p e s m args below meth c H locs ls sz C hP hD hS hL => lv_iadd C.1 C.2.1 d (h p e s m args below meth c H locs ls sz C hP hD hS hL)
theorem zg_isub {x y : Int32} (d : decode μ.2.1 pc = .ok (.isub, 1)) (h : Zg g μ mc ms ce sl B (pc + 1) L (.inl (x - y) :: S) M) : Zg g μ mc ms ce sl B pc L (.inl y :: .inl x :: S) M :=
  fun p e s m args below meth c H locs ls sz C hP hD hS hL => lv_isub C.1 C.2.1 d (h p e s m args below meth c H locs ls sz C hP hD hS hL)
theorem zg_imul {x y : Int32} (d : decode μ.2.1 pc = .ok (.imul, 1)) (h : Zg g μ mc ms ce sl B (pc + 1) L (.inl (x * y) :: S) M) : Zg g μ mc ms ce sl B pc L (.inl y :: .inl x :: S) M :=
  fun p e s m args below meth c H locs ls sz C hP hD hS hL => lv_imul C.1 C.2.1 d (h p e s m args below meth c H locs ls sz C hP hD hS hL)
theorem zg_idiv {x y : Int32} (d : decode μ.2.1 pc = .ok (.idiv, 1)) (hy : ¬ y = 0) (h : Zg g μ mc ms ce sl B (pc + 1) L (.inl (x / y) :: S) M) : Zg g μ mc ms ce sl B pc L (.inl y :: .inl x :: S) M :=
  fun p e s m args below meth c H locs ls sz C hP hD hS hL => lv_idiv C.1 C.2.1 d hy (h p e s m args below meth c H locs ls sz C hP hD hS hL)
theorem zg_irem {x y : Int32} (d : decode μ.2.1 pc = .ok (.irem, 1)) (hy : ¬ y = 0) (h : Zg g μ mc ms ce sl B (pc + 1) L (.inl (x - x / y * y) :: S) M) : Zg g μ mc ms ce sl B pc L (.inl y :: .inl x :: S) M :=
  fun p e s m args below meth c H locs ls sz C hP hD hS hL => lv_irem C.1 C.2.1 d hy (h p e s m args below meth c H locs ls sz C hP hD hS hL)
theorem zg_dup {v : SV} (d : decode μ.2.1 pc = .ok (.dup, 1)) (h : Zg g μ mc ms ce sl B (pc + 1) L (v :: v :: S) M) : Zg g μ mc ms ce sl B pc L (v :: S) M :=
  fun p e s m args below meth c H locs ls sz C hP hD hS hL => lv_dup C.1 C.2.1 d (zcat g v) (h p e s m args below meth c H locs ls sz C hP hD hS hL)
theorem zg_dup2 {v w : SV} (d : decode μ.2.1 pc = .ok (.dup2, 1)) (h : Zg g μ mc ms ce sl B (pc + 1) L (v :: w :: v :: w :: S) M) : Zg g μ mc ms ce sl B pc L (v :: w :: S) M :=
  fun p e s m args below meth c H locs ls sz C hP hD hS hL => lv_dup2_11 C.1 C.2.1 d (zcat g v) (zcat g w) (h p e s m args below meth c H locs ls sz C hP hD hS hL)
theorem zg_goto {off : Int} {tgt : Nat} (d : decode μ.2.1 pc = .ok (.goto off, 3)) (ht : (pc : Int) + off = (tgt : Int)) (h : Zg g μ mc ms ce sl B tgt L S M) : Zg g μ mc ms ce sl B pc L S M :=
  fun p e s m args below meth c H locs ls sz C hP hD hS hL => lv_goto C.1 C.2.1 d ht (h p e s m args below meth c H locs ls sz C hP hD hS hL)
/-- what a condition says of one number (against 0), of two -/
def zc1 : Jvm.ClassFile.Cond → Int32 → Prop
  | .eq, x => x = 0
  | .ne, x => ¬ x = 0
  | .lt, x => x < 0
  | .ge, x => 0 ≤ x
  | .gt, x => 0 < x
  | .le, x => x ≤ 0
def zc2 : Jvm.ClassFile.Cond → Int32 → Int32 → Prop
  | .eq, x, y => x = y
  | .ne, x, y => ¬ x = y
  | .lt, x, y => x < y
  | .ge, x, y => y ≤ x
  | .gt, x, y => y < x
  | .le, x, y => x ≤ y
theorem zg_if {cd : Jvm.ClassFile.Cond} {off : Int} {tgt : Nat} {x : Int32} (d : decode μ.2.1 pc = .ok (.ifCond cd off, 3)) (ht : (pc : Int) + off = (tgt : Int)) (h1 : zc1 cd x → Zg g μ mc ms ce sl B tgt L S M) (h2 : ¬ zc1 cd x → Zg g μ mc ms ce sl B (pc + 3) L S M) : Zg g μ mc ms ce sl B pc L (.inl x :: S) M := by
  intro p e s m args below meth c H locs ls sz C hP hD hS hL
  have k1 := fun q => h1 q p e s m args below meth c H locs ls sz C hP hD hS hL
  have k2 := fun q => h2 q p e s m args below meth c H locs ls sz C hP hD hS hL
  cases cd
  · exact lv_if_eq C.1 C.2.1 d ht k1 k2
  · exact lv_if_ne C.1 C.2.1 d ht k1 (fun q => k2 (fun z => z q))
  · exact lv_if_lt C.1 C.2.1 d ht k1 k2
  · exact lv_if_ge C.1 C.2.1 d ht k1 k2
  · exact lv_if_gt C.1 C.2.1 d ht k1 k2
  · exact lv_if_le C.1 C.2.1 d ht k1 k2
theorem zg_icmp {cd : Jvm.ClassFile.Cond} {off : Int} {tgt : Nat} {x y : Int32} (d : decode μ.2.1 pc = .ok (.if_icmp cd off, 3)) (ht : (pc : Int) + off = (tgt : Int)) (h1 : zc2 cd x y → Zg g μ mc ms ce sl B tgt L S M) (h2 : ¬ zc2 cd x y → Zg g μ mc ms ce sl B (pc + 3) L S M) : Zg g μ mc ms ce sl B pc L (.inl y :: .inl x :: S) M := by
  intro p e s m args below meth c H locs ls sz C hP hD hS hL
  have k1 := fun q => h1 q p e s m args below meth c H locs ls sz C hP hD hS hL
  have k2 := fun q => h2 q p e s m args below meth c H locs ls sz C hP hD hS hL
  cases cd
  · exact lv_icmp_eq C.1 C.2.1 d ht k1 k2
  · exact lv_icmp_ne C.1 C.2.1 d ht k1 (fun q => k2 (fun z => z q))
  · exact lv_icmp_lt C.1 C.2.1 d ht k1 k2
  · exact lv_icmp_ge C.1 C.2.1 d ht k1 k2
  · exact lv_icmp_gt C.1 C.2.1 d ht k1 k2
  · exact lv_icmp_le C.1 C.2.1 d ht k1 k2
-- fields
def zfg (own : String) (idx ci j : Nat) : Prop := ∃ (C : String) (T : u_T) (N : Nat) (host : String), vwCl[ci]? = some (C, T, N) ∧ (∀ w ∈ u_ws C T N, w ∈ zTB) ∧ j < N ∧ (Cond.fieldLink own idx (T j).1 (T j).2.1 (T j).2.2.1 ∈ zTB ∨ Cond.fieldLinkNest own idx (T j).1 (T j).2.1 (T j).2.2.1 host ∈ zNW)
def zfp (own : String) (idx ci j : Nat) : Prop := ∃ (C : String) (T : u_T) (N : Nat) (ty : Nat → FieldType), vwCl[ci]? = some (C, T, N) ∧ (∀ w ∈ u_ws C T N, w ∈ zTB) ∧ j < N ∧ Cond.fieldLink own idx (T j).1 (T j).2.1 (T j).2.2.1 ∈ zTB ∧ (∀ k, k < N → parseFieldDescriptor (T k).2.2.1 = some (ty k)) ∧ (∀ a, a < N → ∀ b, b < N → a ≠ b → (T a).2.1 ≠ (T b).2.1) ∧ (T j).2.2.2 = false ∧ parseFieldDescriptor (T j).2.2.1 = some .int
theorem zg_getf {idx ci j k : Nat} {fs : List (Option Nat)} {o : Option Nat} (d : decode μ.2.1 pc = .ok (.getfield idx, 3)) (hf : zfg μ.1.cls idx ci j) (hk : g.2.2.2.2[k]? = some (.inl (ci, fs))) (hj : fs[j]? = some o) {v : SV} (hv : (match o with | some q => Sum.inr q | none => .inl (M k j)) = v) (h : Zg g μ mc ms ce sl B (pc + 3) L (v :: S) M) : Zg g μ mc ms ce sl B pc L (.inr k :: S) M := by
  intro p e s m args below meth c H locs ls sz C hP hD hS hL
  obtain ⟨Cn, T, N, host, h1, h2, h3, h4⟩ := hf
  have hg : (zfl g (M k) 0 fs)[j]? = some (zv g v) := by
    rw [zfl_get, hj, ← hv]
    cases o with
    | some q => rfl
    | none => simp [zfv, zv]
  have hh := h p e s m args below meth c H locs ls sz C hP hD hS hL
  rcases h4 with h4 | h4
  · exact va_get C.1 C.2.1 C.2.2.2.2.2.1 h2 C.2.2.2.2.1 C.2.2.2.2.2.2.2.2.1.1 hP k (zws_at hk) h1 j h3 (C.2.2.2.2.2.1 _ h4) (fun _ q => q) hg d hh
  · exact va_getN C.1 C.2.1 C.2.2.2.2.2.1 h2 C.2.2.2.2.1 C.2.2.2.2.2.2.2.2.1.1 hP k (zws_at hk) h1 j h3 (va_Nw.use rfl (C.2.2.2.2.2.2.2.2.1.2.1 _ h4)) (fun _ q => q) hg d hh
theorem zg_putf {idx ci j k : Nat} {fs : List (Option Nat)} {x : Int32} (d : decode μ.2.1 pc = .ok (.putfield idx, 3)) (hf : zfp μ.1.cls idx ci j) (hk : g.2.2.2.2[k]? = some (.inl (ci, fs))) (hj : fs[j]? = some none) (h : Zg g μ mc ms ce sl B (pc + 3) L S (mup M k j x)) : Zg g μ mc ms ce sl B pc L (.inl x :: .inr k :: S) M := by
  intro p e s m args below meth c H locs ls sz C hP hD hS hL
  obtain ⟨Cn, T, N, ty, h1, h2, h3, h4, h5, h6, h7, h8⟩ := hf
  have hlen : j < (zfl g (M k) 0 fs).length := by
    have q : (zfl g (M k) 0 fs)[j]? = some (.int (M k (0 + j))) := by rw [zfl_get, hj]; rfl
    exact (List.getElem?_eq_some_iff.mp q).1
  refine va_put C.1 C.2.1 C.2.2.2.2.2.1 h2 ty h5 h6 C.2.2.2.2.1 C.2.2.2.2.2.2.2.2.1.1 hP hD hS k (zws_at hk) h1 j h3 (C.2.2.2.2.2.1 _ h4) (fun _ q => q) h7 (v := .int x) h8 rfl rfl hlen d (fun H1 locs1 hP1 hD1 hS1 => ?_)
  have he : (zws g M).set k (g.2.2.2.1 k, .inr (ci, (zfl g (M k) 0 fs).set j (.int x))) = zws g (mup M k j x) := zws_set hk (by rw [zfl_set hj]; rfl)
  rw [he] at hP1 hD1
  exact h p e s m args below meth c H1 locs1 ls sz C hP1 hD1 hS1 hL
-- arrays
theorem zg_iald {k n : Nat} {i : Int32} (d : decode μ.2.1 pc = .ok (.iaload, 1)) (hk : g.2.2.2.2[k]? = some (.inr (false, n))) (hi : vp_in i n) (h : Zg g μ mc ms ce sl B (pc + 1) L (.inl (M k i.toNatClampNeg) :: S) M) : Zg g μ mc ms ce sl B pc L (.inl i :: .inr k :: S) M :=
  fun p e s m args below meth c H locs ls sz C hP hD hS hL => va_iald C.1 C.2.1 C.2.2.2.2.2.2.2.2.1.1 hP k 0 (zws_at hk) rfl hi d (h p e s m args below meth c H locs ls sz C hP hD hS hL)
theorem zg_zald {k n : Nat} {i : Int32} (d : decode μ.2.1 pc = .ok (.baload, 1)) (hk : g.2.2.2.2[k]? = some (.inr (true, n))) (hi : vp_in i n) (h : Zg g μ mc ms ce sl B (pc + 1) L (.inl (M k i.toNatClampNeg) :: S) M) : Zg g μ mc ms ce sl B pc L (.inl i :: .inr k :: S) M :=
  fun p e s m args below meth c H locs ls sz C hP hD hS hL => va_zald C.1 C.2.1 C.2.2.2.2.2.2.2.2.1.1 hP k 1 (zws_at hk) rfl hi d (h p e s m args below meth c H locs ls sz C hP hD hS hL)
theorem zg_iast {k n : Nat} {i x : Int32} (d : decode μ.2.1 pc = .ok (.iastore, 1)) (hk : g.2.2.2.2[k]? = some (.inr (false, n))) (hi : vp_in i n) (h : Zg g μ mc ms ce sl B (pc + 1) L S (mup M k i.toNatClampNeg x)) : Zg g μ mc ms ce sl B pc L (.inl x :: .inl i :: .inr k :: S) M := by
  intro p e s m args below meth c H locs ls sz C hP hD hS hL
  refine va_iast C.1 C.2.1 C.2.2.2.2.2.2.2.2.1.1 hP hD hS k 0 (zws_at hk) rfl hi d (fun H1 locs1 hP1 hD1 hS1 => ?_)
  have he : (zws g M).set k (g.2.2.2.1 k, .inl (g.2.2.1.1, n, .inl (upd (M k) i.toNatClampNeg x))) = zws g (mup M k i.toNatClampNeg x) := zws_set hk rfl
  have hP2 : va_P g.2.1 vwCl ((zws g M).set k (g.2.2.2.1 k, .inl (g.2.2.1.1, n, .inl (upd (M k) i.toNatClampNeg x)))) H1 := hP1
  have hD2 : va_D (zA g sz) ((zws g M).set k (g.2.2.2.1 k, .inl (g.2.2.1.1, n, .inl (upd (M k) i.toNatClampNeg x)))) := hD1
  rw [he] at hP2 hD2
  exact h p e s m args below meth c H1 locs1 ls sz C hP2 hD2 hS1 hL
theorem zg_zast {k n : Nat} {i x : Int32} (d : decode μ.2.1 pc = .ok (.bastore, 1)) (hk : g.2.2.2.2[k]? = some (.inr (true, n))) (hi : vp_in i n) {v : Int32} (hv : vp_nar .boolean x = v) (h : Zg g μ mc ms ce sl B (pc + 1) L S (mup M k i.toNatClampNeg v)) : Zg g μ mc ms ce sl B pc L (.inl x :: .inl i :: .inr k :: S) M := by
  subst hv
  intro p e s m args below meth c H locs ls sz C hP hD hS hL
  refine va_zast C.1 C.2.1 C.2.2.2.2.2.2.2.2.1.1 hP hD hS k 1 (zws_at hk) rfl hi d (fun H1 locs1 hP1 hD1 hS1 => ?_)
  have he : (zws g M).set k (g.2.2.2.1 k, .inl (g.2.2.1.2.1, n, .inl (upd (M k) i.toNatClampNeg (vp_nar .boolean x)))) = zws g (mup M k i.toNatClampNeg (vp_nar .boolean x)) := zws_set hk rfl
  have hP2 : va_P g.2.1 vwCl ((zws g M).set k (g.2.2.2.1 k, .inl (g.2.2.1.2.1, n, .inl (upd (M k) i.toNatClampNeg (vp_nar .boolean x))))) H1 := hP1
  have hD2 : va_D (zA g sz) ((zws g M).set k (g.2.2.2.1 k, .inl (g.2.2.1.2.1, n, .inl (upd (M k) i.toNatClampNeg (vp_nar .boolean x))))) := hD1
  rw [he] at hP2 hD2
  exact h p e s m args below meth c H1 locs1 ls sz C hP2 hD2 hS1 hL
theorem zg_alen {k n : Nat} {b : Bool} {v : Int32} (d : decode μ.2.1 pc = .ok (.arraylength, 1)) (hk : g.2.2.2.2[k]? = some (.inr ((b : Bool), n))) (hv : Int32.ofNat n = v) (h : Zg g μ mc ms ce sl B (pc + 1) L (.inl v :: S) M) : Zg g μ mc ms ce sl B pc L (.inr k :: S) M := by
  intro p e s m args below meth c H locs ls sz C hP hD hS hL
  have hh := h p e s m args below meth c H locs ls sz C hP hD hS hL
  cases b with
  | false => exact va_alen C.1 C.2.1 C.2.2.2.2.2.2.2.2.1.1 hP k 0 (zws_at hk) (ty := .int) rfl hv d hh
  | true => exact va_alen C.1 C.2.1 C.2.2.2.2.2.2.2.2.1.1 hP k 1 (zws_at hk) (ty := .boolean) rfl hv d hh
-- the end of a method
theorem zg_iret {v : Int32} {ty : FieldType} (d : decode μ.2.1 pc = .ok (.ireturn, 1)) (hr : μ.2.2.2.1 = some ty) (hn : narrow ty (.int v) = .int v) (hc : ce ≤ mc ∧ sl ≤ ms) (hB : B = (.inl (some v), M)) : Zg g μ mc ms ce sl B pc L [.inl v] M := by
  intro p e s m args below meth c H locs ls sz C hP hD hS hL
  refine W.widen (k := mc) (n := ms) hc.1 hc.2 (vx_ret ?_)
  exact W.zret (v := v) C.1 C.2.1 (C.2.2.1.trans hr) hn (fun t ht hW => ⟨⟨some v, M, hB, rfl, by rw [ht]; exact hP⟩, hS.F ht⟩) hS.2.2 d C.2.2.2.2.2.2.1
theorem zg_vret (d : decode μ.2.1 pc = .ok (.return_, 1)) (hr : μ.2.2.2.1 = none) (hc : ce ≤ mc ∧ sl ≤ ms) (hB : B = (.inl none, M)) : Zg g μ mc ms ce sl B pc L [] M := by
  intro p e s m args below meth c H locs ls sz C hP hD hS hL
  refine W.widen (k := mc) (n := ms) hc.1 hc.2 (vx_ret ?_)
  exact W.vret C.1 C.2.1 (C.2.2.1.trans hr) (fun t ht hW => ⟨⟨none, M, hB, rfl, by rw [ht]; exact hP⟩, hS.F ht⟩) hS.2.2 d C.2.2.2.2.2.2.1
/-- from the entry -/
theorem Zc.of {args : List SV} (hy : plainName μ.1.cls = true) (hin : Cond.code μ.1 μ.2.1 μ.2.2.1 μ.2.2.2.1 ∈ zTB) (hn : args.length ≤ μ.2.2.1) (hL : args.map some ++ List.replicate (μ.2.2.1 - args.length) none = L) (h : Zg g μ mc ms 0 0 B 0 L [] M) : Zc g μ mc ms args M B := by
  subst hL
  intro sz
  refine vx_ofW (cc := μ.2.1) (maxL := μ.2.2.1) (ret := μ.2.2.2.1) hy rfl ?_
  intro p e s m args' below meth c s₁ Bd hml ht hv
  obtain ⟨rfl, hsz, hP, hD, hK, hE⟩ := hv
  have hts := atoms_spec (ws := zwm μ) Bd.pre
  have hl := zL_entry g args (n := μ.2.2.1) hn
  rw [lg_entry_eq]
  generalize (lg_sl (args.map (zv g)) ++ List.replicate (μ.2.2.1 - (lg_sl (args.map (zv g))).length) Slot.unset).toArray = ls at hl ⊢
  exact h p e s m _ below meth c s.heap [] ls sz ⟨Bd.exec, Bd.bytes, Bd.returns, hml, findClass_of_methodNamed Bd.named, fun w hw => hts w (List.mem_cons_of_mem _ hw), Bd.notSynchronized, ht, hK, hsz, hE, hin⟩ hP (zD_self hD) va_S.rf hl
end ZGR
end
section
/-! ===== A THROW OF NoSuchElementException: its constructor of a text passes on by the entry 13 (the kit's vx_throwS knows the entry 7 alone); the walks follow vx_throwS and the library's ctorThrowS, with this chain of constructors ===== -/
def zN_X : String := "java/util/NoSuchElementException"
def zN_by : ByteArray := ⟨#[0x2a, 0x2b, 0xb7, 0x00, 0x0d, 0xb1]⟩
theorem zN_0 : decode zN_by 0 = .ok (.aload_n 0, 1) := by decide +kernel
theorem zN_1 : decode zN_by 1 = .ok (.aload_n 1, 1) := by decide +kernel
theorem zN_2 : decode zN_by 2 = .ok (.invokespecial 13, 3) := by decide +kernel
theorem zN_5 : decode zN_by 5 = .ok (.return_, 1) := by decide +kernel
/-- the words of this throw, those of its chain of constructors among them -/
def zN_at : List Cond := Bundle.throwableAtoms ++ Bundle.throwableSAtoms ++ Bundle.passSAtoms zN_X "java/lang/RuntimeException" 13 zN_by ++ Bundle.chainSAtoms "java/lang/RuntimeException" ["java/lang/Exception"] ++
  [.methodLink RX4 114 (Bundle.initS zN_X), .instantiable zN_X 6, .castable zN_X zN_X, .selects zN_X Bundle.tFill0 Bundle.tFill0, .selects zN_X Bundle.tFill Bundle.tFill,
   .lays zN_X Bundle.tN "cause" "Ljava/lang/Throwable;", .lays zN_X Bundle.tN "stackTrace" Bundle.steD, .lays zN_X Bundle.tN "suppressedExceptions" Bundle.listD, .lays zN_X Bundle.tN "detailMessage" "Ljava/lang/String;",
   .isRef (.static Bundle.tN "UNASSIGNED_STACK" Bundle.steD), .isRef (.static Bundle.tN "SUPPRESSED_SENTINEL" Bundle.listD),
   .fieldLink Bundle.tN 198 Bundle.tN "backtrace" "Ljava/lang/Object;", .lays Bundle.tN Bundle.tN "backtrace" "Ljava/lang/Object;", .lays zN_X Bundle.tN "backtrace" "Ljava/lang/Object;"]
section ZNT
variable {p : Program} {l : Launch} {e : Env} {R : Room} {s : State} {m₀ : MethodId} {args : Array Value} {below : List Frame} {meth : Method} {c : Code} {W : State} {locs : List Loc} {cells slots : Nat}
set_option maxHeartbeats 4000000 in
theorem zN_ctor (X : Stand p l e R s m₀ args below meth c W locs cells slots) (hexec : p.tables.exec = Jvm.exec) (htr : e.platform.stackTraces = false)
    (hown : s.vm.findClass RX4 = some m₀.cls) (h : ∀ a ∈ zN_at, a.before args s = true) (hlocs : ∀ x ∈ locs, ∀ cell, s.heap[x.base]? = some cell → cell.vm.isStatics = false)
    {a : Addr} {cX : ClassId} {kX : Class} (hfoundX : s.vm.findClass zN_X = some cX) (hkX : s.vm.classes[cX]? = some kX) (hcell : W.heap[a]? = some (freshCell cX kX)) (hnew : s.heap.size ≤ a)
    {msg : Value} (hmsg : msg.isRef = true)
    {g : JFrame} (hg : g.method = m₀) (hsize : g.locals.size = c.maxLocals) (hlocked : g.locked = none) (hentered : g.entered = []) {rest : List Value} (hstack : g.stack = msg :: .ref a :: .ref a :: rest)
    (hd6 : decode c.code g.pc = .ok (.invokespecial 114, 3)) (hd9 : decode c.code (g.pc + 3) = .ok (.athrow, 1)) (hout : ∀ x ∈ c.exceptionTable.toList, covers x (g.pc + 3) = false)
    (hRframes : 5 < R.frames) (hRlocals : 2 * g.monitorRoom + ((Value.ref a :: rest).map fun v => v.category).sum + 81 ≤ R.locals) (hlocks : meth.locks = false) :
    ∃ U : State, Steps p.tables e below (W.setTop g) U ∧ U.status = .running ∧ Ended U below (.threw a) ∧ s.WarmedH U.vm ∧ s.sameButNew ({ U with vm := s.vm } : State) locs cells slots ∧
      ∃ ce, U.heap[a]? = some ce ∧ s.vm.findClass zN_X = some ce.cls ∧ ce.vm = .none := by
  have howns : e.platform.frameOwnsMonitors = true := by rw [X.admits.platform]
  have hfin : e.platform.finalization = false := by rw [X.admits.platform]
  have hpl : e.platform.magicAccessors = ({} : Platform).magicAccessors := by rw [X.admits.platform]
  have a' : ∀ x, x ∈ zN_at → x.holds args s none s [] = true := fun x hx => h x hx
  obtain ⟨T, Z0, L, -, Y⟩ := ThrowableC.of_atoms (args := args) howns hfin hpl (fun x hx => h x (by simp [zN_at, hx]))
  obtain ⟨Z, M, LZ, LM, hnZ⟩ := Init0T.ofS_atoms (args := args) hpl L Y (fun x hx => h x (by simp [zN_at, hx]))
  obtain ⟨P1, L1, hP1m, hP1s⟩ := PassC.ofS_atoms (args := args) (s := s) hpl (X := zN_X) (Y := "java/lang/RuntimeException") (by decide) (by decide) zN_0 zN_1 zN_2 zN_5 (fun x hx => h x (by simp [zN_at, hx]))
  obtain ⟨P2, Ps, hlen, L2, hL2, hP2m, hsup, hpass⟩ := Bundle.chainS (args := args) hpl hnZ ["java/lang/Exception"] "java/lang/RuntimeException" (by decide) (by decide) (fun x hx => h x (by simp [zN_at, hx]))
  have hlink1 := Option.some.inj (hP1s.symm.trans hP2m)
  have hL : ∀ P, P ∈ P2 :: Ps → P.LinksS e.platform s := fun P hP => by
    rcases List.mem_cons.mp hP with rfl | hP
    · exact L2
    · exact hL2 P hP
  have hfound : s.vm.findClass zN_X = some P1.m.cls := findClass_of_methodNamed hP1m
  cases Option.some.inj (hfoundX.symm.trans hfound)
  obtain ⟨c1, kX', hc1, hk, hord, -, -, hn6⟩ := Cond.instantiable_spec (a' (.instantiable zN_X 6) (by simp [zN_at]))
  cases Option.some.inj (hc1.symm.trans hfound)
  cases Option.some.inj (hkX.symm.trans hk)
  have hsel0 : selectMethod e.platform s.vm P1.m.cls T.fill0 = .method T.fill0 := by
    obtain ⟨c2, r2, m2, q1, q2, q3, q4, -⟩ := Cond.selects_spec (a' (.selects zN_X Bundle.tFill0 Bundle.tFill0) (by simp [zN_at]))
    cases Option.some.inj (q1.symm.trans hfound)
    cases Option.some.inj (q2.symm.trans (State.methodFound?_of_named Y.fill0 (by decide)))
    cases Option.some.inj (q3.symm.trans Y.fill0)
    rw [Launch.admits_selectMethod X.admits]; exact q4
  have hselF : selectMethod e.platform s.vm P1.m.cls T.fill = .method T.fill := by
    obtain ⟨c2, r2, m2, q1, q2, q3, q4, -⟩ := Cond.selects_spec (a' (.selects zN_X Bundle.tFill Bundle.tFill) (by simp [zN_at]))
    cases Option.some.inj (q1.symm.trans hfound)
    cases Option.some.inj (q2.symm.trans (State.methodFound?_of_named Y.fill (by decide)))
    cases Option.some.inj (q3.symm.trans Y.fill)
    rw [Launch.admits_selectMethod X.admits]; exact q4
  obtain ⟨cellS0, hcS0, hiss⟩ := Y.statics
  obtain ⟨u0, hu0⟩ := Cond.staticRefV Y.unassigned L.unassignedStatic L.statics hcS0 hiss (a' (.isRef (.static Bundle.tN "UNASSIGNED_STACK" Bundle.steD)) (by simp [zN_at]))
  obtain ⟨sen, hsen⟩ := Cond.staticRefV Y.sentinel L.sentinelStatic L.statics hcS0 hiss (a' (.isRef (.static Bundle.tN "SUPPRESSED_SENTINEL" Bundle.listD)) (by simp [zN_at]))
  obtain ⟨ci198, i198, fB, hk198, hg198, ha198, hsB, -, hnB, htB, hffB⟩ := Cond.ownField (t := .object "java/lang/Object") Y.found L.cls (by decide +kernel) (a' (.fieldLink Bundle.tN 198 Bundle.tN "backtrace" "Ljava/lang/Object;") (by simp [zN_at])) (a' (.lays Bundle.tN Bundle.tN "backtrace" "Ljava/lang/Object;") (by simp [zN_at])) e.platform hpl
  obtain ⟨cellS, hcS', heS, -, hkeep⟩ := X.same.2.2.2.2.2 T.aS cellS0 hcS0
  have hcellS : W.heap[T.aS]? = some cellS := hcS'
  have hout' : ∀ i, (⟨T.aS, i⟩ : Loc) ∉ locs := fun i hmem => by
    have := hlocs _ hmem cellS0 hcS0
    rw [hiss] at this; cases this
  have hknownS : cellS.vm ≠ .unknown := by
    rw [heS]; intro hu
    rw [show cellS0.vm = .unknown from hu] at hiss
    cases hiss
  have hneS : T.aS ≠ a := Nat.ne_of_lt (Nat.lt_of_lt_of_le (Array.getElem?_eq_some_iff.mp hcS0).1 hnew)
  obtain ⟨iM, hffM⟩ := Y.msg
  obtain ⟨tyC, dC, hdC, hdnC⟩ := Cond.laysAt hfound hk Y.cause (a' (.lays zN_X Bundle.tN "cause" "Ljava/lang/Throwable;") (by simp [zN_at]))
  obtain ⟨tyS, dS, hdS, hdnS⟩ := Cond.laysAt hfound hk Y.stack (a' (.lays zN_X Bundle.tN "stackTrace" Bundle.steD) (by simp [zN_at]))
  obtain ⟨tyP, dP, hdP, hdnP⟩ := Cond.laysAt hfound hk Y.supp (a' (.lays zN_X Bundle.tN "suppressedExceptions" Bundle.listD) (by simp [zN_at]))
  obtain ⟨tyM, dM, hdM, hdnM⟩ := Cond.laysAt hfound hk hffM (a' (.lays zN_X Bundle.tN "detailMessage" "Ljava/lang/String;") (by simp [zN_at]))
  obtain ⟨tyB, dB, hdB, hdnB⟩ := Cond.laysAt hfound hk hffB (a' (.lays zN_X Bundle.tN "backtrace" "Ljava/lang/Object;") (by simp [zN_at]))
  have bC := Cond.laysApart hdB hdC hdnB hdnC (by rw [hnB, Y.causeName]; decide)
  have bS := Cond.laysApart hdB hdS hdnB hdnS (by rw [hnB, Y.stackName]; decide)
  have bP := Cond.laysApart hdB hdP hdnB hdnP (by rw [hnB, Y.suppName]; decide)
  have hskip : SkipFacts T e.platform s (fun u => u) u0 ((preparedCellV T.toThrowableT (freshCell P1.m.cls kX) a u0 sen).withEntry W.cur) :=
    ⟨{ ci198 := ci198, i198 := i198, fBack := fB }, ⟨hk198, hg198, ha198, hsB⟩, by
      have := fresh_default (c := P1.m.cls) tyB
      rw [htB] at this
      simpa [preparedCellV, Cell.setSlot, Cell.withEntry, Array.getElem?_setIfInBounds, bC, bS, bP, bC.symm, bS.symm, bP.symm, defaultValue] using this, fun _ _ => rfl⟩
  obtain ⟨tm, methC, cdC, kC, vm₁, hnC, -, -, -, -, -, -, -, hW₁, st1⟩ := Steps.initColdS (tb := p.tables) (e := e) (below := below) (s := s) (U := W) X.here hexec X.warmed hpl hown (t := Bundle.initS zN_X) rfl rfl ⟨by decide, by decide⟩
    (a' (.methodLink RX4 114 (Bundle.initS zN_X)) (by simp [zN_at])) (h (.instanceMethod (Bundle.initS zN_X)) (by simp [zN_at, Bundle.passSAtoms])) (bytes := zN_by) (maxL := 2) (h (.code (Bundle.initS zN_X) zN_by 2 none) (by simp [zN_at, Bundle.passSAtoms]))
    (f := g) hg (a := a) (msg := msg) (rest := .ref a :: rest) hstack hd6
  cases Option.some.inj (hnC.symm.trans hP1m)
  have X₁ := X.noted hW₁
  obtain ⟨vm₂, X₂, st2⟩ := X₁.ctorMessageOffV hexec (g := { g with stack := .ref a :: rest }) hg hsize T L Z LZ M LM (P1 :: P2 :: Ps)
    (fun P hP => by rcases List.mem_cons.mp hP with rfl | hP; exact L1; exact hL P hP) ⟨hlink1, hsup, hpass⟩ (u0 := u0) (sen := sen) (self := a) hmsg (cell := freshCell P1.m.cls kX) (cellS := cellS)
    hcell (fun _ => by simp) (by simp) rfl rfl hsel0 hselF hcellS hneS hknownS (by rw [hkeep _ (hout' _)]; exact hu0) (by rw [hkeep _ (hout' _)]; exact hsen)
    (Takes.of_laid hk hord tyC (by rw [Y.causeType]; rfl)) (Takes.of_laid hk hord tyS (by rw [Y.stackType]; exact fits_refV_array _ u0)) (Takes.of_laid hk hord tyP (by rw [Y.suppType]; exact fits_refV_object _ sen))
    (Takes.of_laid hk hord tyM (by rw [Y.msgType]; exact fits_refV_object _ ⟨msg, hmsg⟩)) Y.objLocals hskip htr [] hd6
    (by simp only [List.length_cons, hlen, List.length_nil]; omega) (by simp only [List.length_cons, hlen, List.length_nil]; exact hRlocals)
  obtain ⟨hwalk, hrun, hended, hWU, hsame⟩ := X₂.athrowLeaves hexec (g := { g with stack := .ref a :: rest, pc := g.pc + 3 }) hg hlocked hentered hout (a := a) (rest := rest) rfl hd9
  obtain ⟨c3, c4, hc3, hc4, hasg⟩ := Cond.castable_spec (a' (.castable zN_X zN_X) (by simp [zN_at]))
  cases Option.some.inj (hc3.symm.trans hfound)
  cases Option.some.inj (hc4.symm.trans hfound)
  have hlt : a < ((W.setVm vm₁).setVm vm₂).heap.size := (Array.getElem?_eq_some_iff.mp hcell).1
  have hU := heapAt_setCell_self (s := (W.setVm vm₁).setVm vm₂) (plainBareV T.toThrowableT (freshCell P1.m.cls kX) a u0 sen msg) hlt
  refine ⟨_, st1 _ (fun acts => ?_), hrun, hended, hWU, hsame.weaken (fun y hy hlt' => ?_) (Nat.le_refl _) (Nat.le_refl _), _, hU, ?_⟩
  · rw [doInvoke_state]
    exact st2 _ hwalk
  · rcases List.mem_append.mp hy with h1 | h1
    · exact h1
    · exfalso
      have hb : y.base = a := by
        simp only [List.mem_cons, List.not_mem_nil, or_false] at h1
        rcases h1 with rfl | rfl | rfl | rfl | rfl <;> rfl
      rw [hb] at hlt'
      exact Nat.not_lt.mpr hnew hlt'
  · exact ⟨hfound, rfl⟩
end ZNT
section ZNE
variable {p : Program} {l : Launch} {e : Env} {R : Room} {s : State} {m : MethodId} {args : Array Value} {below : List Frame} {meth : Method} {c : Code} {H : Heap} {locs : List Loc} {cells slots : Nat} {Q : State → Prop}
variable {mc ms : Nat} {free : Addr → Prop} {A0 A1 : Nat → Prop} {H0 : Heap} {a : Array Value} {ls : Array Slot} {st0 rest : List Value}
variable {Qc : Array Value → State → Outcome → State → Prop} {XC : String → State → State → Prop}
set_option maxHeartbeats 4000000 in
theorem zN_throw {cc : ByteArray} {pc : Nat} (hexec : p.tables.exec = Jvm.exec) (hb : c.code = cc) (hl : l.stackTraces = false) {text : String} {is mc ms sa : Nat} {A : Nat → Prop}
    (hown : s.vm.findClass RX4 = some m.cls)
    (hk : (Cond.classLink RX4 110 zN_X).before args s = true) (hini : (Cond.initialized zN_X).before args s = true) (hstr : vk_R RX4 is text sa s) (hat : ∀ w ∈ zN_at.filter vx_no, w.before args s = true)
    (hgood : ∀ w ∈ Cond.classLink RX4 110 zN_X :: Cond.initialized zN_X :: zN_at.filter vx_no, vx_ot w = true)
    (hU : vx_Zq Bundle.tN "UNASSIGNED_STACK" Bundle.steD A s s.heap) (hN : vx_Zq Bundle.tN "SUPPRESSED_SENTINEL" Bundle.listD A s s.heap) (hS : va_S A s.heap H locs) (hsize : ls.size = c.maxLocals)
    (d0 : decode cc pc = .ok (.new 110, 3)) (d3 : decode cc (pc + 3) = .ok (.dup, 1)) (d4 : decode cc (pc + 4) = .ok (.ldc is, 2)) (d6 : decode cc (pc + 6) = .ok (.invokespecial 114, 3)) (d9 : decode cc (pc + 9) = .ok (.athrow, 1))
    (hout : ∀ x ∈ c.exceptionTable.toList, covers x (pc + 9) = false)
    (hRframes : 5 < R.frames) (hRlocals : (rest.map fun v => v.category).sum + 82 ≤ R.locals) (hRcells : cells + 1 ≤ R.cells) (hRslots : slots + 6 ≤ R.slots) (hlocks : meth.locks = false)
    (hx : ∀ t : State, s.vm.Alike t.vm → H.size ≤ t.heap.size → (∀ q : Nat, q < H.size → t.heap[q]? = H[q]?) → XC zN_X s t)
    (hf : ∀ z ∈ locs, free z.base) (hc : cells + 1 ≤ mc) (hs : slots + 6 ≤ ms) :
    W p l e R s m args below meth c H locs cells slots (vx_MQ below Qc XC args s mc ms free) (F0 m pc ls rest) := by
  intro T hT X
  have htr : e.platform.stackTraces = false := (show e.platform.stackTraces = l.stackTraces by rw [X.admits.platform]).trans hl
  have Y := vx_rebase X (R' := { frames := R.frames, locals := R.locals, cells := 1, slots := 6 }) (Nat.le_refl _) (Nat.le_refl _) hRcells hRslots
  obtain ⟨s', hA⟩ : ∃ z, z = (T.setVm s.vm).setFrames (.invoking m args :: below) := ⟨_, rfl⟩
  rw [← hA] at Y
  have hvm : s'.vm = s.vm := by rw [hA]; rfl
  have hhp : s'.heap = H := by rw [hA]; exact hT
  have hW0 : s.WarmedH s'.vm := by rw [hvm]; exact State.WarmedH.refl s
  have hat' : ∀ w ∈ zN_at.filter vx_no, w.before args s' = true := fun w hw => vx_ot_at hW0 hvm.symm (hgood w (List.mem_cons_of_mem _ (List.mem_cons_of_mem _ hw))) (hat w hw)
  have hk' : (Cond.classLink RX4 110 zN_X).before args s' = true := vx_ot_at hW0 hvm.symm (hgood _ List.mem_cons_self) hk
  have hini' : (Cond.initialized zN_X).before args s' = true := vx_ot_at hW0 hvm.symm (hgood _ (List.mem_cons_of_mem _ List.mem_cons_self)) hini
  have hU' : vx_Zq Bundle.tN "UNASSIGNED_STACK" Bundle.steD A s' s'.heap := by rw [hhp]; exact vx_Zq.moved hW0.alike (hU.kept hS.2.1)
  have hN' : vx_Zq Bundle.tN "SUPPRESSED_SENTINEL" Bundle.listD A s' s'.heap := by rw [hhp]; exact vx_Zq.moved hW0.alike (hN.kept hS.2.1)
  have h : ∀ w ∈ zN_at, w.before args s' = true := vx_own hat' (vx_isRefq hU'.1) (vx_isRefq hN'.1) hU'.2.word hN'.2.word
  have hown' : s'.vm.findClass RX4 = some m.cls := by rw [hvm]; exact hown
  have hins : (Cond.instantiable zN_X 6).before args s' = true := h _ (by simp [zN_at])
  obtain ⟨vm₁, cX, kX, hfX, hkX, -, -, X₁, st1⟩ := Y.newCold hexec (own := RX4) (C := zN_X) (index := 110) (n := 6) hown' hk' hins hini'
    (g := F0 m pc ls rest) rfl (by rw [hb]; exact d0) (Nat.le_refl _) (Nat.le_refl _)
  generalize hT1 : (T.setVm vm₁).pushCell { cls := cX, slots := kX.instanceTypes.map defaultValue, vm := .none } = T1 at X₁ st1
  have hcat : (Value.ref T.heap.size).category = 1 := rfl
  have hcellA : T1.heap[T.heap.size]? = some (freshCell cX kX) := by rw [← hT1]; exact State.heap_pushCell_size _ _
  have d3' : decode c.code (pc + 3) = .ok (.dup, 1) := by rw [hb]; exact d3
  have d4' : decode c.code (pc + 4) = .ok (.ldc is, 2) := by rw [hb]; exact d4
  have hstr' : vk_R RX4 is text sa s' := vk_R.warm hW0 hstr
  obtain ⟨U, hsteps, hrun, hend, hW, hsame, ce, hce, hO⟩ := zN_ctor X₁ hexec htr hown' h (fun x hx => nomatch hx) hfX hkX hcellA (by rw [hhp, hT]; exact Nat.le_refl _) (msg := .ref sa) rfl
    (g := { method := m, pc := pc + 6, locals := ls, stack := .ref sa :: .ref T.heap.size :: .ref T.heap.size :: rest, locked := none }) rfl hsize rfl rfl (rest := rest) rfl
    (by rw [hb]; exact d6) (by rw [hb]; exact d9) hout hRframes (by simp only [List.map_cons, List.sum_cons, hcat]; omega) hlocks
  obtain ⟨f1, f2⟩ := vx_frame hsame
  rw [hhp] at f1 f2
  have hWs : s.WarmedH U.vm := State.WarmedH.trans hW0 hW
  have hcl : s.vm.findClass zN_X = some ce.cls := by
    have h9 := hO.1
    rw [hvm] at h9
    exact h9
  have hall : s.sameButNew ({ U with vm := s.vm } : State) locs mc ms := by
    subst hA
    obtain ⟨e1, e2⟩ := hsame
    rw [State.setFrames_setFrames] at e1
    have h2 : (T.setVm s.vm).sameButNew ({ U with vm := s.vm } : State) [] (0 + 1) (0 + 6) := ⟨e1, e2⟩
    have h3 := X.same.trans h2
    rw [List.append_nil] at h3
    exact h3.mono hc hs
  refine ⟨U, ?_, .threw T.heap.size, hrun, hend, Or.inr ⟨T.heap.size, rfl, zN_X, ce, locs, hx U hWs.alike f1 (fun q hq => f2 q hq (fun z hz => nomatch hz)), hce, hO.2, hcl, hWs, hall, hf⟩⟩
  refine st1 _ ?_
  show Steps p.tables e below (T1.setTop { method := m, pc := pc + 3, locals := ls, stack := .ref T.heap.size :: rest, locked := none }) _
  jvm_step X₁.here [X₁.here.top, hexec, d3', Value.category]
  exact X₁.ldcString hexec (own := RX4) (text := text) (index := is) (a := sa) hown' hstr'.1 hstr'.2
    (g := { method := m, pc := pc + 4, locals := ls, stack := .ref T.heap.size :: .ref T.heap.size :: rest, locked := none }) rfl d4' _ hsteps
end ZNE
end
section
/-! ===== CALLS AND THROWS ===== -/
def zin (μ : MI) (n : Nat) : Prop := Cond.code μ.1 μ.2.1 μ.2.2.1 μ.2.2.2.1 ∈ zTB ∧ Cond.initialized μ.1.cls ∈ zTB ∧ (μ.1.cls ≠ "java/lang/invoke/MethodHandle" ∧ μ.1.cls ≠ "java/lang/invoke/VarHandle") ∧ (parseMethodDescriptor μ.1.desc).map (fun d => d.parameters.length) = some n
def zfit (μ ν : MI) : Prop := ν.2.2.2.2.1 + 1 ≤ μ.2.2.2.2.1 ∧ 8 + (ν.2.2.1 + 11) + ν.2.2.2.2.2 ≤ μ.2.2.2.2.2
theorem zsum (g : ZG) (S : List SV) : ((S.map (zv g)).map fun v => v.category).sum = S.length := by
  induction S with
  | nil => rfl
  | cons v r ih => simp only [List.map_cons, List.sum_cons, zcat, List.length_cons] at ih ⊢; omega
theorem zrev (g : ZG) (As S : List SV) : (As.reverse ++ S).map (zv g) = (As.map (zv g)).reverse ++ S.map (zv g) := by simp
section ZGC
variable {g : ZG} {μ ν : MI} {mc ms ce sl mc' ms' : Nat} {B B' : ZR} {pc : Nat} {L : List (Option SV)} {S S0 As : List SV} {M : Mem}
theorem zg_pre {s : State} {H : Heap} {locs : List Loc} {sz : Nat} (hK : zK g s) (hsz : s.heap.size = sz) (hE : zE (zA g sz) s s.heap) (hP : va_P g.2.1 vwCl (zws g M) H) (hD : va_D (zA g sz) (zws g M)) (hS : va_S (zA g sz) s.heap H locs) (av : List Value) :
    FrameBlind (va_Pc av (zPre g M H.size)) ∧ ∀ U : State, U.heap = H → s.WarmedH U.vm → va_Pc av (zPre g M H.size) av.toArray U := by
  refine ⟨fun a U gf mk q => ⟨q.1, q.2.1, q.2.2.1, q.2.2.2.1, zK.same (s := U) (U := U.calling gf mk a) rfl q.2.2.2.2.1, zE.warm (s := U) (U := U.calling gf mk a) (State.WarmedH.refl U) q.2.2.2.2.2⟩, fun U hU hW => ⟨rfl, by rw [hU], by rw [hU]; exact hP, ⟨hD.1, fun _ _ _ => trivial⟩, zK.warm hW hK, ?_⟩⟩
  have h1 : zE (zA g sz) s H := hE.kept hS.2.1
  have h2 : zE (zA g H.size) s H := h1.narrow (zA_mono (by rw [← hsz]; exact hS.1))
  rw [hU]
  exact zE.warm hW h2
theorem zg_after {p : Program} {e : Env} {s : State} {m : MethodId} {args : Array Value} {below : List Frame} {meth : Method} {c : Code} {H : Heap} {locs : List Loc} {ls : Array Slot} {sz : Nat} {st0 : List Value} {a : Array Value}
    (C : zCx g μ p s m args meth c sz) (hD : va_D (zA g sz) (zws g M)) (hS : va_S (zA g sz) s.heap H locs) (hL : zL g ls μ.2.2.1 L)
    (hr : vx_Run p g.1 e (zRm μ mc ms) s m args below meth c H locs ce sl mc' ms' (F0 m pc ls st0) (S.map (zv g)) (zQ g (zA g H.size) B' a) (zX g (zA g H.size) B') (zA g H.size))
    (hc : ce + mc' ≤ mc ∧ sl + ms' ≤ ms) (kx : ∀ (E : String) (N : Mem), B' = (.inr E, N) → B = (.inr E, N))
    (kk : ∀ (r : Option Int32) (N : Mem), B' = (.inl r, N) → Zg g μ mc ms (ce + mc') (sl + ms') B (pc + 3) L (r.toList.map Sum.inl ++ S) N) :
    W p g.1 e (zRm μ mc ms) s m args below meth c H locs ce sl (vx_MQ below (zQ g (zA g sz) B) (zX g (zA g sz) B) args s mc ms (zA g sz)) (F0 m pc ls st0) := by
  intro T hT X
  have hA : ∀ q, zA g H.size q → zA g sz q := zA_mono (by rw [← C.2.2.2.2.2.2.2.2.2.1]; exact hS.1)
  rcases hr T hT X with ⟨v, st₀, t, T', L', h0, X', hL', e1, e2, ⟨⟨r, N, hB, hv, hP1⟩, hF⟩, st⟩ | ⟨q, st₀, t, T', L', E, ce', h0, X', hL', e1, e2, ⟨⟨N, hB, hP1⟩, hF⟩, hce, hcv, hcl, st⟩
  · cases hv
    obtain ⟨k1, k2, k3⟩ := vx_keep h0 e1 hS (fun q _ h => hA q h) hA hL' hF
    have hP2 : va_P g.2.1 vwCl (zws g N) T'.heap := by rw [e1]; exact hP1
    obtain ⟨t2, a1, b1⟩ := kk r N hB p e s m args below meth c T'.heap (locs ++ L') ls sz C hP2 (zD_any hD) k3 hL T' rfl X'
    refine ⟨t2, st t2 ?_, b1⟩
    cases r <;> exact a1
  · obtain ⟨k1, k2, k3⟩ := vx_keep h0 e1 hS (fun q _ h => hA q h) hA hL' hF
    have hP2 : va_P g.2.1 vwCl (zws g N) T'.heap := by rw [e1]; exact hP1
    have ho : vx_W p g.1 e (zRm μ mc ms) s m args below meth c T'.heap (locs ++ L') (ce + mc') (sl + ms') (vx_MQ below (zQ g (zA g sz) B) (zX g (zA g sz) B) args s mc ms (zA g sz)) (F0 m pc ls (S.map (zv g))) q :=
      vx_out (ce := ce') (E := E) (fun x hx => (C.2.2.2.2.2.2.2.1 x hx).elim) C.2.2.2.2.2.2.1 (by rw [e1]; exact hce) hcv hcl (fun t' ht' _ => ⟨⟨N, kx E N hB, by rw [ht']; exact hP2⟩, va_S.F k3 ht'⟩) k3.2.2 hc.1 hc.2
    obtain ⟨t2, a1, b1⟩ := ho T' rfl X'
    exact ⟨t2, st.trans a1, b1⟩
theorem zg_fix {p : Program} {s : State} {m : MethodId} {args : Array Value} {meth : Method} {c : Code} {sz : Nat} (C : zCx g μ p s m args meth c sz) : CallFix p m c μ.2.1 μ.2.2.1 s args zTB μ.1.cls := ⟨C.1, C.2.1, C.2.2.2.1, C.2.2.2.2.1, C.2.2.2.2.2.1⟩
theorem zg_pay {p : Program} {s : State} {m : MethodId} {args : Array Value} {meth : Method} {c : Code} {sz n : Nat} (C : zCx g μ p s m args meth c sz) (hi : zin ν n) : ∀ w ∈ zwm ν, ∀ (a' : Array Value) (U : State), s.WarmedH U.vm → w.before a' U = true :=
  pay_in C.2.2.2.2.2.1 (fun w hw => (List.mem_cons.mp hw).elim (fun e => by rw [e]; exact zTB_good _ hi.1) (fun h => zTB_good w h))
theorem zg_lenOf {n : Nat} {y : MethodName} (h : (parseMethodDescriptor y.desc).map (fun d => d.parameters.length) = some n) : ∀ sig, parseMethodDescriptor y.desc = some sig → n = sig.parameters.length := by
  intro sig hs
  rw [hs] at h
  exact (Option.some.inj h).symm
theorem zg_callB {p : Program} {s : State} {m : MethodId} {args : Array Value} {meth : Method} {c : Code} {sz n idx : Nat} (C : zCx g μ p s m args meth c sz) (hi : zin ν n) (hf : zfit μ ν) (hl : Cond.methodLink μ.1.cls idx ν.1 ∈ zTB) :
    CallB (zRm μ mc ms) s args μ.1.cls idx ν.1 ν.2.1 ν.2.2.1 ν.2.2.2.1 (zwm ν) (zRm ν mc' ms') mc' ms' n :=
  ⟨rfl, rfl, hf.1, hf.2, zg_pay C hi, List.mem_cons_self, C.2.2.2.2.2.1 _ hi.1, C.2.2.2.2.2.1 _ hi.2.1, hi.2.2.1, zg_lenOf hi.2.2.2, C.2.2.2.2.2.1 _ hl⟩
theorem zg_callN {p : Program} {s : State} {m : MethodId} {args : Array Value} {meth : Method} {c : Code} {sz n idx : Nat} {host : String} (C : zCx g μ p s m args meth c sz) (hi : zin ν n) (hf : zfit μ ν) (hl : Cond.methodLinkNest μ.1.cls idx ν.1 host ∈ zNW) :
    va_CN (zRm μ mc ms) s args μ.1.cls idx ν.1 host ν.2.1 ν.2.2.1 ν.2.2.2.1 (zwm ν) (zRm ν mc' ms') mc' ms' n :=
  ⟨⟨rfl, rfl, hf.1, hf.2, zg_pay C hi, List.mem_cons_self⟩, C.2.2.2.2.2.1 _ hi.1, C.2.2.2.2.2.1 _ hi.2.1, hi.2.2.1, zg_lenOf hi.2.2.2, va_Nw.use rfl (C.2.2.2.2.2.2.2.2.1.2.1 _ hl)⟩
theorem zg_callS {n idx : Nat} (d : decode μ.2.1 pc = .ok (.invokestatic idx, 3)) (hm : Zc g ν mc' ms' As M B') (hl : Cond.methodLink μ.1.cls idx ν.1 ∈ zTB) (hs : Cond.static ν.1 ∈ zTB) (hi : zin ν n) (hn : As.length = n) (hf : zfit μ ν) (hc : ce + mc' ≤ mc ∧ sl + ms' ≤ ms) (hS0 : As.reverse ++ S = S0) (hw : S.length ≤ 8)
    (kx : ∀ (E : String) (N : Mem), B' = (.inr E, N) → B = (.inr E, N)) (kk : ∀ (r : Option Int32) (N : Mem), B' = (.inl r, N) → Zg g μ mc ms (ce + mc') (sl + ms') B (pc + 3) L (r.toList.map Sum.inl ++ S) N) : Zg g μ mc ms ce sl B pc L S0 M := by
  subst hS0
  intro p e s m args below meth c H locs ls sz C hP hD hS hL
  have hq := zg_pre C.2.2.2.2.2.2.2.2.1 C.2.2.2.2.2.2.2.2.2.1 C.2.2.2.2.2.2.2.2.2.2.1 hP hD hS (As.map (zv g))
  exact zg_after C hD hS hL (vx_runS (As := As.map (zv g)) (rest := S.map (zv g)) (zg_fix C) (hm H.size) ⟨zg_callB C hi hf hl, C.2.2.2.2.2.1 _ hs⟩ hq rfl (by simpa using hn) hL.1 (zrev g As S) (by rw [zsum]; show 2 * 0 + _ ≤ 8; omega) d hc) hc kx kk
theorem zg_callSN {n idx : Nat} {host : String} (d : decode μ.2.1 pc = .ok (.invokestatic idx, 3)) (hm : Zc g ν mc' ms' As M B') (hl : Cond.methodLinkNest μ.1.cls idx ν.1 host ∈ zNW) (hs : Cond.static ν.1 ∈ zTB) (hi : zin ν n) (hn : As.length = n) (hf : zfit μ ν) (hc : ce + mc' ≤ mc ∧ sl + ms' ≤ ms) (hS0 : As.reverse ++ S = S0) (hw : S.length ≤ 8)
    (kx : ∀ (E : String) (N : Mem), B' = (.inr E, N) → B = (.inr E, N)) (kk : ∀ (r : Option Int32) (N : Mem), B' = (.inl r, N) → Zg g μ mc ms (ce + mc') (sl + ms') B (pc + 3) L (r.toList.map Sum.inl ++ S) N) : Zg g μ mc ms ce sl B pc L S0 M := by
  subst hS0
  intro p e s m args below meth c H locs ls sz C hP hD hS hL
  have hq := zg_pre C.2.2.2.2.2.2.2.2.1 C.2.2.2.2.2.2.2.2.2.1 C.2.2.2.2.2.2.2.2.2.2.1 hP hD hS (As.map (zv g))
  exact zg_after C hD hS hL (vx_runSN (As := As.map (zv g)) (rest := S.map (zv g)) (zg_fix C) (hm H.size) ⟨zg_callN C hi hf hl, C.2.2.2.2.2.1 _ hs, trivial⟩ hq rfl (by simpa using hn) hL.1 (zrev g As S) (by rw [zsum]; show 2 * 0 + _ ≤ 8; omega) d hc) hc kx kk
theorem zg_callV {n idx k ci : Nat} {fs : List (Option Nat)} {q : vw_C} (d : decode μ.2.1 pc = .ok (.invokevirtual idx, 3)) (hm : Zc g ν mc' ms' (.inr k :: As) M B') (hl : Cond.methodLink μ.1.cls idx ν.1 ∈ zTB) (hs : Cond.instanceMethod ν.1 ∈ zTB) (hse : Cond.selects q.1 ν.1 ν.1 ∈ zTB) (hk : g.2.2.2.2[k]? = some (.inl (ci, fs))) (hq0 : vwCl[ci]? = some q) (hi : zin ν n) (hn : As.length = n) (hf : zfit μ ν) (hc : ce + mc' ≤ mc ∧ sl + ms' ≤ ms) (hS0 : As.reverse ++ .inr k :: S = S0) (hw : S.length ≤ 8)
    (kx : ∀ (E : String) (N : Mem), B' = (.inr E, N) → B = (.inr E, N)) (kk : ∀ (r : Option Int32) (N : Mem), B' = (.inl r, N) → Zg g μ mc ms (ce + mc') (sl + ms') B (pc + 3) L (r.toList.map Sum.inl ++ S) N) : Zg g μ mc ms ce sl B pc L S0 M := by
  subst hS0
  intro p e s m args below meth c H locs ls sz C hP hD hS hL
  have hq := zg_pre C.2.2.2.2.2.2.2.2.1 C.2.2.2.2.2.2.2.2.2.1 C.2.2.2.2.2.2.2.2.2.2.1 hP hD hS ((.inr k :: As).map (zv g))
  exact zg_after C hD hS hL (vx_runV (C := q.1) (b := g.2.2.2.1 k) (As := As.map (zv g)) (rest := S.map (zv g)) (zg_fix C) (hm H.size) ⟨zg_callB C hi hf hl, C.2.2.2.2.2.1 _ hs, C.2.2.2.2.2.1 _ hse⟩ ⟨hq.1, va_recv C.2.2.2.2.2.2.2.2.1.1 hP hq0 (zws_at hk), hq.2⟩ rfl (by simpa using hn) hL.1 (by rw [zrev]; rfl) (by rw [zsum]; show 2 * 0 + _ ≤ 8; omega) d hc) hc kx kk
/-- what a throw of a class needs of the tables -/
def zth (own : String) (ik ic : Nat) (cls : String) (names : List String) : Prop := Bundle.fit cls = true ∧ (∀ n ∈ names, Bundle.fit n = true) ∧ Cond.classLink own ik cls ∈ zTB ∧ Cond.initialized cls ∈ zTB ∧ (∀ w ∈ (vx_atS own ic cls names).filter goodWord, w ∈ zTB) ∧ (∀ w ∈ (vx_atS own ic cls names).filter (fun w => !goodWord w), w ∈ zCW) ∧ (∀ w ∈ Cond.classLink own ik cls :: Cond.initialized cls :: vx_atS own ic cls names, vx_ot w = true)
theorem zCW_use {args : Array Value} {s : State} (h : ∀ w ∈ zCW, va_Nw w s) : ∀ w ∈ zCW, w.before args s = true := by
  unfold zCW at h ⊢
  simp only [List.forall_mem_cons, List.not_mem_nil, false_imp_iff, implies_true, and_true] at h ⊢
  exact ⟨va_Nw.use rfl h.1, va_Nw.use rfl h.2.1, va_Nw.use rfl h.2.2.1, va_Nw.use rfl h.2.2.2.1, va_Nw.use rfl h.2.2.2.2.1, va_Nw.use rfl h.2.2.2.2.2⟩
theorem zg_throw {ik is ic : Nat} {cls text : String} {names : List String} (hl : g.1.stackTraces = false) (h : zth RX4 ik ic cls names) (ho : μ.1.cls = RX4) (hst : (is, text) ∈ zST)
    (d0 : decode μ.2.1 pc = .ok (.new ik, 3)) (d3 : decode μ.2.1 (pc + 3) = .ok (.dup, 1)) (d4 : decode μ.2.1 (pc + 4) = .ok (.ldc is, 2)) (d6 : decode μ.2.1 (pc + 6) = .ok (.invokespecial ic, 3)) (d9 : decode μ.2.1 (pc + 9) = .ok (.athrow, 1))
    (hR : names.length + 3 < μ.2.2.2.2.1) (hRl : S.length + (13 * (names.length + 1) + 43) ≤ μ.2.2.2.2.2) (hc : ce + 1 ≤ mc) (hs : sl + 6 ≤ ms) (hB : B = (.inr cls, M)) : Zg g μ mc ms ce sl B pc L S M := by
  intro p e s m args below meth c H locs ls sz C hP hD hS hL
  obtain ⟨h1, h2, h3, h4, h5, h6, h7⟩ := h
  obtain ⟨sa, hsa⟩ := C.2.2.2.2.2.2.2.2.1.2.2.2.2 _ hst
  have hat := vx_hat (fun w hw => C.2.2.2.2.2.1 _ (h5 w hw)) h6 (zCW_use (args := args) C.2.2.2.2.2.2.2.2.1.2.2.1)
  have hE := C.2.2.2.2.2.2.2.2.2.2.1
  have hsz := C.2.2.2.2.2.2.2.2.2.1
  exact vx_throwS (sa := sa) C.1 C.2.1 hl (by rw [← ho]; exact C.2.2.2.2.1) h1 h2 (C.2.2.2.2.2.1 _ h3) (C.2.2.2.2.2.1 _ h4) hsa hat h7 hE.1 hE.2 hS (by rw [hL.1]; exact C.2.2.2.1.symm) d0 d3 d4 d6 d9 (fun x hx => (C.2.2.2.2.2.2.2.1 x hx).elim) hR (by rw [zsum]; exact hRl) hc hs C.2.2.2.2.2.2.1
    (fun t _ hz hk => ⟨⟨M, hB, hP.kept (fun k q hq => hk q.1 (hP k q hq).lt)⟩, Nat.le_trans hS.1 hz, fun q q1 q2 => by rw [hk q (Nat.lt_of_lt_of_le q1 hS.1)]; exact hS.2.1 q q1 q2⟩) hS.2.2 hc hs
theorem zN_good : ∀ w ∈ (zN_at.filter vx_no).filter goodWord, w ∈ zTB := fun w hw => zTB_of ((by decide +kernel : ∀ w ∈ (zN_at.filter vx_no).filter goodWord, w ∈ lw_tbl) w hw) (List.mem_filter.mp hw).2
theorem zN_rest : ∀ w ∈ (zN_at.filter vx_no).filter (fun w => !goodWord w), w ∈ zCW := by decide +kernel
theorem zN_ot : ∀ w ∈ Cond.classLink RX4 110 zN_X :: Cond.initialized zN_X :: zN_at.filter vx_no, vx_ot w = true := by decide +kernel
theorem zN_w1 : Cond.classLink RX4 110 zN_X ∈ zTB := zm2 124 (by decide +kernel) rfl
theorem zN_w2 : Cond.initialized zN_X ∈ zTB := zm1 12 (by decide +kernel) rfl
/-- the same of NoSuchElementException, whose constructor passes on by the entry 13 -/
theorem zg_throwN {is : Nat} {text : String} (hl : g.1.stackTraces = false) (ho : μ.1.cls = RX4) (hst : (is, text) ∈ zST)
    (d0 : decode μ.2.1 pc = .ok (.new 110, 3)) (d3 : decode μ.2.1 (pc + 3) = .ok (.dup, 1)) (d4 : decode μ.2.1 (pc + 4) = .ok (.ldc is, 2)) (d6 : decode μ.2.1 (pc + 6) = .ok (.invokespecial 114, 3)) (d9 : decode μ.2.1 (pc + 9) = .ok (.athrow, 1))
    (hR : 5 < μ.2.2.2.2.1) (hRl : S.length + 82 ≤ μ.2.2.2.2.2) (hc : ce + 1 ≤ mc) (hs : sl + 6 ≤ ms) (hB : B = (.inr "java/util/NoSuchElementException", M)) : Zg g μ mc ms ce sl B pc L S M := by
  intro p e s m args below meth c H locs ls sz C hP hD hS hL
  obtain ⟨sa, hsa⟩ := C.2.2.2.2.2.2.2.2.1.2.2.2.2 _ hst
  have hat := vx_hat (L := zN_at.filter vx_no) (fun w hw => C.2.2.2.2.2.1 _ (zN_good w hw)) zN_rest (zCW_use (args := args) C.2.2.2.2.2.2.2.2.1.2.2.1)
  have hE := C.2.2.2.2.2.2.2.2.2.2.1
  exact zN_throw (sa := sa) C.1 C.2.1 hl (by rw [← ho]; exact C.2.2.2.2.1) (C.2.2.2.2.2.1 _ zN_w1) (C.2.2.2.2.2.1 _ zN_w2) hsa hat zN_ot hE.1 hE.2 hS (by rw [hL.1]; exact C.2.2.2.1.symm) d0 d3 d4 d6 d9 (fun x hx => (C.2.2.2.2.2.2.2.1 x hx).elim) hR (by rw [zsum]; exact hRl) hc hs C.2.2.2.2.2.2.1
    (fun t _ hz hk => ⟨⟨M, hB, hP.kept (fun k q hq => hk q.1 (hP k q hq).lt)⟩, Nat.le_trans hS.1 hz, fun q q1 q2 => by rw [hk q (Nat.lt_of_lt_of_le q1 hS.1)]; exact hS.2.1 q q1 q2⟩) hS.2.2 hc hs
end ZGC
end
section
/-! ===== TREES: the answer of a method as a term that the walk peels ===== -/
def zlet {α β : Type} (a : α) (k : α → β) : β := k a
def bI (b : Bool) : Int32 := if b then 1 else 0
theorem bI_t : bI true = 1 := rfl
theorem bI_f : bI false = 0 := rfl
theorem bI_0 (b : Bool) : bI b = 0 ↔ b = false := by cases b <;> simp [bI]
theorem bI_nar (b : Bool) : narrow .boolean (.int (bI b)) = .int (bI b) := by cases b <;> rfl
theorem bI_vp (b : Bool) : vp_nar .boolean (bI b) = bI b := by cases b <;> rfl
/-- the wraps: what a method's term says of its answer and the memory -/
def wI (M : Mem) (v : Int32) : ZR := (.inl (some v), M)
def wB (M : Mem) (b : Bool) : ZR := (.inl (some (bI b)), M)
def wV (N : Mem) : ZR := (.inl none, N)
def wIM (q : Int32 × Mem) : ZR := (.inl (some q.1), q.2)
def wBM (q : Bool × Mem) : ZR := (.inl (some (bI q.1)), q.2)
/-- of methods that may throw -/
def xI (M : Mem) : Int32 ⊕ String → ZR := Sum.elim (fun v => (.inl (some v), M)) (fun E => (.inr E, M))
def xB (M : Mem) : Bool ⊕ String → ZR := Sum.elim (fun v => (.inl (some (bI v)), M)) (fun E => (.inr E, M))
def xV (q : (Unit ⊕ String) × Mem) : ZR := Sum.elim (fun _ => (.inl none, q.2)) (fun E => (.inr E, q.2)) q.1
def xIM (q : (Int32 ⊕ String) × Mem) : ZR := Sum.elim (fun v => (.inl (some v), q.2)) (fun E => (.inr E, q.2)) q.1
def xBM (q : (Bool ⊕ String) × Mem) : ZR := Sum.elim (fun v => (.inl (some (bI v)), q.2)) (fun E => (.inr E, q.2)) q.1
def zlkS (own : String) (idx : Nat) (ν : MI) (n : Nat) : Prop := Cond.methodLink own idx ν.1 ∈ zTB ∧ Cond.static ν.1 ∈ zTB ∧ zin ν n
def zlkN (own : String) (idx : Nat) (ν : MI) (n : Nat) : Prop := (∃ host : String, Cond.methodLinkNest own idx ν.1 host ∈ zNW) ∧ Cond.static ν.1 ∈ zTB ∧ zin ν n
def zlkV (own : String) (idx : Nat) (ν : MI) (n ci : Nat) : Prop := ∃ q : vw_C, vwCl[ci]? = some q ∧ Cond.methodLink own idx ν.1 ∈ zTB ∧ Cond.instanceMethod ν.1 ∈ zTB ∧ Cond.selects q.1 ν.1 ν.1 ∈ zTB ∧ zin ν n
section ZT
variable {g : ZG} {μ ν : MI} {mc ms ce sl : Nat} {pc : Nat} {L : List (Option SV)} {S S0 As : List SV} {M N0 : Mem} {α β : Type} {K : α → ZR}
theorem zg_st {B : ZR} {pc' : Nat} {L' : List (Option SV)} {S' : List SV} {M' : Mem} (hp : pc' = pc) (hL : L' = L) (hS : S' = S) (hM : M' = M) (h : Zg g μ mc ms ce sl B pc' L' S' M') : Zg g μ mc ms ce sl B pc L S M := by
  subst hp hL hS hM; exact h
theorem zg_ifz {cd : Jvm.ClassFile.Cond} {off : Int} {tgt : Nat} {x : Int32} {c : Prop} [Decidable c] {A₁ A₂ : α} (d : decode μ.2.1 pc = .ok (.ifCond cd off, 3)) (ht : (pc : Int) + off = (tgt : Int)) (hc : c = zc1 cd x) (h1 : c → Zg g μ mc ms ce sl (zlet A₁ K) tgt L S M) (h2 : ¬ c → Zg g μ mc ms ce sl (zlet A₂ K) (pc + 3) L S M) : Zg g μ mc ms ce sl (zlet (if c then A₁ else A₂) K) pc L (.inl x :: S) M := by
  subst hc
  exact zg_if d ht (fun q => by rw [if_pos q]; exact h1 q) (fun q => by rw [if_neg q]; exact h2 q)
theorem zg_icmpz {cd : Jvm.ClassFile.Cond} {off : Int} {tgt : Nat} {x y : Int32} {c : Prop} [Decidable c] {A₁ A₂ : α} (d : decode μ.2.1 pc = .ok (.if_icmp cd off, 3)) (ht : (pc : Int) + off = (tgt : Int)) (hc : c = zc2 cd x y) (h1 : c → Zg g μ mc ms ce sl (zlet A₁ K) tgt L S M) (h2 : ¬ c → Zg g μ mc ms ce sl (zlet A₂ K) (pc + 3) L S M) : Zg g μ mc ms ce sl (zlet (if c then A₁ else A₂) K) pc L (.inl y :: .inl x :: S) M := by
  subst hc
  exact zg_icmp d ht (fun q => by rw [if_pos q]; exact h1 q) (fun q => by rw [if_neg q]; exact h2 q)
/-- the branch on a boolean: taken where it is false (eq), true (ne) -/
theorem zg_ifbe {off : Int} {tgt : Nat} {b : Bool} {A₁ A₂ : α} (d : decode μ.2.1 pc = .ok (.ifCond .eq off, 3)) (ht : (pc : Int) + off = (tgt : Int)) (h1 : b = true → Zg g μ mc ms ce sl (zlet A₁ K) (pc + 3) L S M) (h2 : b = false → Zg g μ mc ms ce sl (zlet A₂ K) tgt L S M) : Zg g μ mc ms ce sl (zlet (if b then A₁ else A₂) K) pc L (.inl (bI b) :: S) M := by
  cases b with
  | true => exact zg_if d ht (fun q => absurd (show (1 : Int32) = 0 from q) (by decide)) (fun _ => h1 rfl)
  | false => exact zg_if d ht (fun _ => h2 rfl) (fun q => absurd (show (0 : Int32) = 0 from rfl) q)
theorem zg_ifbn {off : Int} {tgt : Nat} {b : Bool} {A₁ A₂ : α} (d : decode μ.2.1 pc = .ok (.ifCond .ne off, 3)) (ht : (pc : Int) + off = (tgt : Int)) (h1 : b = true → Zg g μ mc ms ce sl (zlet A₁ K) tgt L S M) (h2 : b = false → Zg g μ mc ms ce sl (zlet A₂ K) (pc + 3) L S M) : Zg g μ mc ms ce sl (zlet (if b then A₁ else A₂) K) pc L (.inl (bI b) :: S) M := by
  cases b with
  | true => exact zg_if d ht (fun _ => h1 rfl) (fun q => absurd (fun z : (1 : Int32) = 0 => absurd z (by decide)) q)
  | false => exact zg_if d ht (fun q => absurd (show (0 : Int32) = 0 from rfl) q) (fun _ => h2 rfl)
theorem zg_jt {B : ZR} {cd : Jvm.ClassFile.Cond} {off : Int} {tgt : Nat} {x : Int32} (d : decode μ.2.1 pc = .ok (.ifCond cd off, 3)) (ht : (pc : Int) + off = (tgt : Int)) (hc : zc1 cd x) (h : Zg g μ mc ms ce sl B tgt L S M) : Zg g μ mc ms ce sl B pc L (.inl x :: S) M := zg_if d ht (fun _ => h) (fun q => absurd hc q)
theorem zg_jf {B : ZR} {cd : Jvm.ClassFile.Cond} {off : Int} {tgt : Nat} {x : Int32} (d : decode μ.2.1 pc = .ok (.ifCond cd off, 3)) (ht : (pc : Int) + off = (tgt : Int)) (hc : ¬ zc1 cd x) (h : Zg g μ mc ms ce sl B (pc + 3) L S M) : Zg g μ mc ms ce sl B pc L (.inl x :: S) M := zg_if d ht (fun q => absurd q hc) (fun _ => h)
theorem zg_jt2 {B : ZR} {cd : Jvm.ClassFile.Cond} {off : Int} {tgt : Nat} {x y : Int32} (d : decode μ.2.1 pc = .ok (.if_icmp cd off, 3)) (ht : (pc : Int) + off = (tgt : Int)) (hc : zc2 cd x y) (h : Zg g μ mc ms ce sl B tgt L S M) : Zg g μ mc ms ce sl B pc L (.inl y :: .inl x :: S) M := zg_icmp d ht (fun _ => h) (fun q => absurd hc q)
theorem zg_jf2 {B : ZR} {cd : Jvm.ClassFile.Cond} {off : Int} {tgt : Nat} {x y : Int32} (d : decode μ.2.1 pc = .ok (.if_icmp cd off, 3)) (ht : (pc : Int) + off = (tgt : Int)) (hc : ¬ zc2 cd x y) (h : Zg g μ mc ms ce sl B (pc + 3) L S M) : Zg g μ mc ms ce sl B pc L (.inl y :: .inl x :: S) M := zg_icmp d ht (fun q => absurd q hc) (fun _ => h)
/-- a join: the tree gives what differs, then one road -/
theorem zg_join {tree : β} {k : β → α} {pc' : Nat} {Lf : β → List (Option SV)} {Sf : β → List SV} {Mf : β → Mem} (J : ∀ j : β, Zg g μ mc ms ce sl (zlet (k j) K) pc' (Lf j) (Sf j) (Mf j))
    (h : (∀ j : β, Zg g μ mc ms ce sl (zlet j (fun j => zlet (k j) K)) pc' (Lf j) (Sf j) (Mf j)) → Zg g μ mc ms ce sl (zlet tree (fun j => zlet (k j) K)) pc L S M) : Zg g μ mc ms ce sl (zlet (zlet tree k) K) pc L S M := h J
theorem zg_asc {B : β} {k : β → α} (h : Zg g μ mc ms ce sl (zlet B (fun j => zlet (k j) K)) pc L S M) : Zg g μ mc ms ce sl (zlet (zlet B k) K) pc L S M := h
-- calls of methods that don't throw: what they answer
theorem zg_cS {B : ZR} {n idx : Nat} {r : Option Int32} (d : decode μ.2.1 pc = .ok (.invokestatic idx, 3)) (hk : zlkS μ.1.cls idx ν n) (hm : Zc g ν 0 0 As M (.inl r, N0)) (hn : As.length = n) (hf : zfit μ ν) (hc : ce ≤ mc ∧ sl ≤ ms) (hS0 : As.reverse ++ S = S0) (hw : S.length ≤ 8) (h : Zg g μ mc ms ce sl B (pc + 3) L (r.toList.map Sum.inl ++ S) N0) : Zg g μ mc ms ce sl B pc L S0 M :=
  zg_callS d hm hk.1 hk.2.1 hk.2.2 hn hf hc hS0 hw (fun E N q => by cases q) (fun r' N q => by cases q; exact h)
theorem zg_cN {B : ZR} {n idx : Nat} {r : Option Int32} (d : decode μ.2.1 pc = .ok (.invokestatic idx, 3)) (hk : zlkN μ.1.cls idx ν n) (hm : Zc g ν 0 0 As M (.inl r, N0)) (hn : As.length = n) (hf : zfit μ ν) (hc : ce ≤ mc ∧ sl ≤ ms) (hS0 : As.reverse ++ S = S0) (hw : S.length ≤ 8) (h : Zg g μ mc ms ce sl B (pc + 3) L (r.toList.map Sum.inl ++ S) N0) : Zg g μ mc ms ce sl B pc L S0 M := by
  obtain ⟨⟨host, h1⟩, h2, h3⟩ := hk
  exact zg_callSN d hm h1 h2 h3 hn hf hc hS0 hw (fun E N q => by cases q) (fun r' N q => by cases q; exact h)
theorem zg_cV {B : ZR} {n idx k ci : Nat} {fs : List (Option Nat)} {r : Option Int32} (d : decode μ.2.1 pc = .ok (.invokevirtual idx, 3)) (hk : zlkV μ.1.cls idx ν n ci) (hm : Zc g ν 0 0 (.inr k :: As) M (.inl r, N0)) (hcell : g.2.2.2.2[k]? = some (.inl (ci, fs))) (hn : As.length = n) (hf : zfit μ ν) (hc : ce ≤ mc ∧ sl ≤ ms) (hS0 : As.reverse ++ .inr k :: S = S0) (hw : S.length ≤ 8) (h : Zg g μ mc ms ce sl B (pc + 3) L (r.toList.map Sum.inl ++ S) N0) : Zg g μ mc ms ce sl B pc L S0 M := by
  obtain ⟨q, h0, h1, h2, h3, h4⟩ := hk
  exact zg_callV d hm h1 h2 h3 hcell h0 h4 hn hf hc hS0 hw (fun E N q => by cases q) (fun r' N q => by cases q; exact h)
-- the same, the answer and the memory behind it by a name
theorem zg_cVIM {F : Int32 × Mem} {f : Int32 × Mem → α} {n idx k ci : Nat} {fs : List (Option Nat)} (d : decode μ.2.1 pc = .ok (.invokevirtual idx, 3)) (hk : zlkV μ.1.cls idx ν n ci) (hm : Zc g ν 0 0 (.inr k :: As) M (wIM F)) (hcell : g.2.2.2.2[k]? = some (.inl (ci, fs))) (hn : As.length = n) (hf : zfit μ ν) (hc : ce ≤ mc ∧ sl ≤ ms) (hS0 : As.reverse ++ .inr k :: S = S0) (hw : S.length ≤ 8) (h : ∀ q : Int32 × Mem, q = F → Zg g μ mc ms ce sl (zlet (f q) K) (pc + 3) L (.inl q.1 :: S) q.2) : Zg g μ mc ms ce sl (zlet (zlet F f) K) pc L S0 M :=
  zg_cV d hk (r := some F.1) (N0 := F.2) hm hcell hn hf hc hS0 hw (h F rfl)
theorem zg_cVBM {F : Bool × Mem} {f : Bool × Mem → α} {n idx k ci : Nat} {fs : List (Option Nat)} (d : decode μ.2.1 pc = .ok (.invokevirtual idx, 3)) (hk : zlkV μ.1.cls idx ν n ci) (hm : Zc g ν 0 0 (.inr k :: As) M (wBM F)) (hcell : g.2.2.2.2[k]? = some (.inl (ci, fs))) (hn : As.length = n) (hf : zfit μ ν) (hc : ce ≤ mc ∧ sl ≤ ms) (hS0 : As.reverse ++ .inr k :: S = S0) (hw : S.length ≤ 8) (h : ∀ q : Bool × Mem, q = F → Zg g μ mc ms ce sl (zlet (f q) K) (pc + 3) L (.inl (bI q.1) :: S) q.2) : Zg g μ mc ms ce sl (zlet (zlet F f) K) pc L S0 M :=
  zg_cV d hk (r := some (bI F.1)) (N0 := F.2) hm hcell hn hf hc hS0 hw (h F rfl)
theorem zg_cVV {F : Mem} {f : Mem → α} {n idx k ci : Nat} {fs : List (Option Nat)} (d : decode μ.2.1 pc = .ok (.invokevirtual idx, 3)) (hk : zlkV μ.1.cls idx ν n ci) (hm : Zc g ν 0 0 (.inr k :: As) M (wV F)) (hcell : g.2.2.2.2[k]? = some (.inl (ci, fs))) (hn : As.length = n) (hf : zfit μ ν) (hc : ce ≤ mc ∧ sl ≤ ms) (hS0 : As.reverse ++ .inr k :: S = S0) (hw : S.length ≤ 8) (h : ∀ N : Mem, N = F → Zg g μ mc ms ce sl (zlet (f N) K) (pc + 3) L S N) : Zg g μ mc ms ce sl (zlet (zlet F f) K) pc L S0 M :=
  zg_cV d hk (r := none) (N0 := F) hm hcell hn hf hc hS0 hw (h F rfl)
theorem zg_cSV {F : Mem} {f : Mem → α} {n idx : Nat} (d : decode μ.2.1 pc = .ok (.invokestatic idx, 3)) (hk : zlkS μ.1.cls idx ν n) (hm : Zc g ν 0 0 As M (wV F)) (hn : As.length = n) (hf : zfit μ ν) (hc : ce ≤ mc ∧ sl ≤ ms) (hS0 : As.reverse ++ S = S0) (hw : S.length ≤ 8) (h : ∀ N : Mem, N = F → Zg g μ mc ms ce sl (zlet (f N) K) (pc + 3) L S N) : Zg g μ mc ms ce sl (zlet (zlet F f) K) pc L S0 M :=
  zg_cS d hk (r := none) (N0 := F) hm hn hf hc hS0 hw (h F rfl)
/-- a static call that may throw, and its answer is handed on at once -/
theorem zg_cSX {F : Int32 ⊕ String} {n idx : Nat} (d : decode μ.2.1 pc = .ok (.invokestatic idx, 3)) (dr : decode μ.2.1 (pc + 3) = .ok (.ireturn, 1)) (hr : μ.2.2.2.1 = some .int) (hk : zlkS μ.1.cls idx ν n) (hm : Zc g ν 1 6 As M (xI M F)) (hn : As.length = n) (hf : zfit μ ν) (hS0 : As.reverse = S0) : Zg g μ 1 6 0 0 (xI M F) pc L S0 M := by
  refine zg_callS d hm hk.1 hk.2.1 hk.2.2 hn hf ⟨Nat.le_refl _, Nat.le_refl _⟩ (S := []) (by rw [List.append_nil]; exact hS0) (Nat.zero_le _) (fun E N q => q) (fun r N q => ?_)
  cases F with
  | inl v =>
    cases q
    exact zg_iret dr hr rfl ⟨Nat.le_refl _, Nat.le_refl _⟩ rfl
  | inr E => cases q
end ZT
-- numbers
theorem z_up {C v : Int32} {n : Nat} (h : ¬ C ≤ v) (hn : (C.toInt - v.toInt).toNat < n + 1) : (C.toInt - (v + 1).toInt).toNat < n := by
  rw [Int32.le_iff_toInt_le] at h
  have h1 := Int32.toInt_lt C
  have h2 := Int32.le_toInt v
  have e : (v + 1).toInt = v.toInt + 1 := by
    rw [Int32.toInt_add, Int32.toInt_one, Int.bmod_eq_of_le] <;> omega
  omega
theorem z_upe {C v : Int32} {n : Nat} (h : ¬ C < v) (hC : C.toInt < 2 ^ 30) (hn : (C.toInt + 1 - v.toInt).toNat < n + 1) : (C.toInt + 1 - (v + 1).toInt).toNat < n := by
  rw [Int32.lt_iff_toInt_lt] at h
  have h2 := Int32.le_toInt v
  have e : (v + 1).toInt = v.toInt + 1 := by
    rw [Int32.toInt_add, Int32.toInt_one, Int.bmod_eq_of_le] <;> omega
  omega
theorem z_dn {C v : Int32} {n : Nat} (h : ¬ v < C) (hC : -(2 ^ 30) < C.toInt) (hn : (v.toInt + 1 - C.toInt).toNat < n + 1) : ((v + (-1)).toInt + 1 - C.toInt).toNat < n := by
  rw [Int32.lt_iff_toInt_lt] at h
  have h2 := Int32.toInt_lt v
  have e : (v + (-1)).toInt = v.toInt - 1 := by
    rw [Int32.toInt_add, show (-1 : Int32).toInt = -1 from rfl, Int.bmod_eq_of_le] <;> omega
  omega
section ZT2
variable {g : ZG} {μ ν : MI} {mc ms ce sl : Nat} {pc : Nat} {L : List (Option SV)} {S S0 As : List SV} {M N0 : Mem}
theorem zg_cS1 {B : ZR} {n idx : Nat} {v : Int32} (d : decode μ.2.1 pc = .ok (.invokestatic idx, 3)) (hk : zlkS μ.1.cls idx ν n) (hm : Zc g ν 0 0 As M (.inl (some v), N0)) (hn : As.length = n) (hf : zfit μ ν) (hc : ce ≤ mc ∧ sl ≤ ms) (hS0 : As.reverse ++ S = S0) (hw : S.length ≤ 8) (h : Zg g μ mc ms ce sl B (pc + 3) L (.inl v :: S) N0) : Zg g μ mc ms ce sl B pc L S0 M := zg_cS d hk hm hn hf hc hS0 hw h
theorem zg_cN1 {B : ZR} {n idx : Nat} {v : Int32} (d : decode μ.2.1 pc = .ok (.invokestatic idx, 3)) (hk : zlkN μ.1.cls idx ν n) (hm : Zc g ν 0 0 As M (.inl (some v), N0)) (hn : As.length = n) (hf : zfit μ ν) (hc : ce ≤ mc ∧ sl ≤ ms) (hS0 : As.reverse ++ S = S0) (hw : S.length ≤ 8) (h : Zg g μ mc ms ce sl B (pc + 3) L (.inl v :: S) N0) : Zg g μ mc ms ce sl B pc L S0 M := zg_cN d hk hm hn hf hc hS0 hw h
theorem zg_cV1 {B : ZR} {n idx k ci : Nat} {fs : List (Option Nat)} {v : Int32} (d : decode μ.2.1 pc = .ok (.invokevirtual idx, 3)) (hk : zlkV μ.1.cls idx ν n ci) (hm : Zc g ν 0 0 (.inr k :: As) M (.inl (some v), N0)) (hcell : g.2.2.2.2[k]? = some (.inl (ci, fs))) (hn : As.length = n) (hf : zfit μ ν) (hc : ce ≤ mc ∧ sl ≤ ms) (hS0 : As.reverse ++ .inr k :: S = S0) (hw : S.length ≤ 8) (h : Zg g μ mc ms ce sl B (pc + 3) L (.inl v :: S) N0) : Zg g μ mc ms ce sl B pc L S0 M := zg_cV d hk hm hcell hn hf hc hS0 hw h
/-- fewer locals known -/
def zle : List (Option SV) → List (Option SV) → Prop
  | [], [] => True
  | none :: r, _ :: s => zle r s
  | some v :: r, some w :: s => v = w ∧ zle r s
  | _, _ => False
theorem zle_at : ∀ (L' L : List (Option SV)), zle L' L → L'.length = L.length ∧ ∀ (i : Nat) (v : SV), L'[i]? = some (some v) → L[i]? = some (some v)
  | [], [], _ => ⟨rfl, fun i v h => by simp at h⟩
  | none :: r, _ :: s, h => by
    obtain ⟨h1, h2⟩ := zle_at r s h
    refine ⟨by simp [h1], fun i v hi => ?_⟩
    cases i with
    | zero => simp at hi
    | succ i => simpa using h2 i v (by simpa using hi)
  | some v :: r, some w :: s, h => by
    obtain ⟨h1, h2⟩ := zle_at r s h.2
    refine ⟨by simp [h1], fun i u hi => ?_⟩
    cases i with
    | zero =>
      have e : v = u := by simpa using hi
      simp [← e, h.1]
    | succ i => simpa using h2 i u (by simpa using hi)
  | some _ :: _, none :: _, h => h.elim
  | some _ :: _, [], h => h.elim
  | none :: _, [], h => h.elim
  | [], _ :: _, h => h.elim
theorem zg_drop {B : ZR} {L' : List (Option SV)} (hl : zle L' L) (h : Zg g μ mc ms ce sl B pc L' S M) : Zg g μ mc ms ce sl B pc L S M := by
  obtain ⟨h1, h2⟩ := zle_at L' L hl
  exact fun p e s m args below meth c H locs ls sz C hP hD hS hL => h p e s m args below meth c H locs ls sz C hP hD hS ⟨hL.1, hL.2.1, by rw [h1]; exact hL.2.2.1, fun i v hi => hL.2.2.2 i v (h2 i v hi)⟩
end ZT2
-- the two worlds
abbrev ZQ : Type := Launch × va_G × (ClassId × ClassId × ClassId) × (Nat → Nat)
abbrev shX : List ShE := [.inl (4, [some 1, some 2, some 3, some 4, some 5, none]), .inl (0, [some 6, some 7, some 8, some 9]), .inl (3, [some 10, some 11, some 12, some 13, some 14]), .inl (2, [some 15, none]), .inl (1, [some 16, some 17, some 18, some 19]),
  .inr (false, 4), .inr (true, 120), .inr (true, 240), .inr (true, 6), .inr (false, 6), .inr (false, 48), .inr (false, 53), .inr (false, 53), .inr (false, 53), .inr (false, 53), .inr (false, 48), .inr (false, 3), .inr (false, 3), .inr (false, 53), .inr (false, 53)]
abbrev zgX (q : ZQ) : ZG := (q.1, q.2.1, q.2.2.1, q.2.2.2, shX)
section ZT3
variable {g : ZG} {μ : MI} {mc ms ce sl : Nat} {pc : Nat} {L : List (Option SV)} {S : List SV} {M : Mem} {B : ZR}
/-- the branch on a boolean that is known already -/
theorem zg_kbeqt {off : Int} {tgt : Nat} {b : Bool} (d : decode μ.2.1 pc = .ok (.ifCond .eq off, 3)) (ht : (pc : Int) + off = (tgt : Int)) (hb : b = true) (h : Zg g μ mc ms ce sl B (pc + 3) L S M) : Zg g μ mc ms ce sl B pc L (.inl (bI b) :: S) M := by
  subst hb; exact zg_jf d ht (show ¬ ((1 : Int32) = 0) by decide) h
theorem zg_kbeqf {off : Int} {tgt : Nat} {b : Bool} (d : decode μ.2.1 pc = .ok (.ifCond .eq off, 3)) (ht : (pc : Int) + off = (tgt : Int)) (hb : b = false) (h : Zg g μ mc ms ce sl B tgt L S M) : Zg g μ mc ms ce sl B pc L (.inl (bI b) :: S) M := by
  subst hb; exact zg_jt d ht (show (0 : Int32) = 0 from rfl) h
theorem zg_kbnet {off : Int} {tgt : Nat} {b : Bool} (d : decode μ.2.1 pc = .ok (.ifCond .ne off, 3)) (ht : (pc : Int) + off = (tgt : Int)) (hb : b = true) (h : Zg g μ mc ms ce sl B tgt L S M) : Zg g μ mc ms ce sl B pc L (.inl (bI b) :: S) M := by
  subst hb; exact zg_jt d ht (show ¬ ((1 : Int32) = 0) by decide) h
theorem zg_kbnef {off : Int} {tgt : Nat} {b : Bool} (d : decode μ.2.1 pc = .ok (.ifCond .ne off, 3)) (ht : (pc : Int) + off = (tgt : Int)) (hb : b = false) (h : Zg g μ mc ms ce sl B (pc + 3) L S M) : Zg g μ mc ms ce sl B pc L (.inl (bI b) :: S) M := by
  subst hb; exact zg_jf d ht (show ¬ (¬ ((0 : Int32) = 0)) by decide) h
end ZT3
end
